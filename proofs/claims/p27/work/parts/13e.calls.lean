theorem dX8_best_0 : decode cX8_best 0 = .ok (.iload_n 1, 1) := kqo_1b kbl_X8_best (pc := 0) rfl
theorem dX8_best_1 : decode cX8_best 1 = .ok (.iconst 0, 1) := kqo_03 kbl_X8_best (pc := 1) rfl
theorem dX8_best_2 : decode cX8_best 2 = .ok (.iconst 3, 1) := kqo_06 kbl_X8_best (pc := 2) rfl
theorem dX8_best_3 : decode cX8_best 3 = .ok (.invokestatic 128, 3) := kqo_b8 (x1 := 0) (x2 := 128) kbl_X8_best (pc := 3) rfl rfl
theorem dX8_best_6 : decode cX8_best 6 = .ok (.ifCond .ne 6, 3) := kqo_9a (x1 := 0) (x2 := 6) kbl_X8_best (pc := 6) rfl rfl
theorem dX8_best_9 : decode cX8_best 9 = .ok (.bipush (-2), 2) := kqo_10 (x1 := 254) kbl_X8_best (pc := 9) rfl rfl
theorem dX8_best_11 : decode cX8_best 11 = .ok (.ireturn, 1) := kqo_ac kbl_X8_best (pc := 11) rfl
theorem dX8_best_12 : decode cX8_best 12 = .ok (.aload_n 0, 1) := kqo_2a kbl_X8_best (pc := 12) rfl
theorem dX8_best_13 : decode cX8_best 13 = .ok (.getfield 28, 3) := kqo_b4 (x1 := 0) (x2 := 28) kbl_X8_best (pc := 13) rfl rfl
theorem dX8_best_16 : decode cX8_best 16 = .ok (.getfield 106, 3) := kqo_b4 (x1 := 0) (x2 := 106) kbl_X8_best (pc := 16) rfl rfl
theorem dX8_best_19 : decode cX8_best 19 = .ok (.ifCond .ne 6, 3) := kqo_9a (x1 := 0) (x2 := 6) kbl_X8_best (pc := 19) rfl rfl
theorem dX8_best_22 : decode cX8_best 22 = .ok (.bipush (-3), 2) := kqo_10 (x1 := 253) kbl_X8_best (pc := 22) rfl rfl
theorem dX8_best_24 : decode cX8_best 24 = .ok (.ireturn, 1) := kqo_ac kbl_X8_best (pc := 24) rfl
theorem dX8_best_25 : decode cX8_best 25 = .ok (.iload_n 1, 1) := kqo_1b kbl_X8_best (pc := 25) rfl
theorem dX8_best_26 : decode cX8_best 26 = .ok (.tableswitch 50 0 2 #[26, 34, 42], 26) := by decide +kernel
theorem dX8_best_52 : decode cX8_best 52 = .ok (.aload_n 0, 1) := kqo_2a kbl_X8_best (pc := 52) rfl
theorem dX8_best_53 : decode cX8_best 53 = .ok (.getfield 56, 3) := kqo_b4 (x1 := 0) (x2 := 56) kbl_X8_best (pc := 53) rfl rfl
theorem dX8_best_56 : decode cX8_best 56 = .ok (.invokevirtual 247, 3) := kqo_b6 (x1 := 0) (x2 := 247) kbl_X8_best (pc := 56) rfl rfl
theorem dX8_best_59 : decode cX8_best 59 = .ok (.ireturn, 1) := kqo_ac kbl_X8_best (pc := 59) rfl
theorem dX8_best_60 : decode cX8_best 60 = .ok (.aload_n 0, 1) := kqo_2a kbl_X8_best (pc := 60) rfl
theorem dX8_best_61 : decode cX8_best 61 = .ok (.getfield 56, 3) := kqo_b4 (x1 := 0) (x2 := 56) kbl_X8_best (pc := 61) rfl rfl
theorem dX8_best_64 : decode cX8_best 64 = .ok (.getfield 187, 3) := kqo_b4 (x1 := 0) (x2 := 187) kbl_X8_best (pc := 64) rfl rfl
theorem dX8_best_67 : decode cX8_best 67 = .ok (.ireturn, 1) := kqo_ac kbl_X8_best (pc := 67) rfl
theorem dX8_best_68 : decode cX8_best 68 = .ok (.aload_n 0, 1) := kqo_2a kbl_X8_best (pc := 68) rfl
theorem dX8_best_69 : decode cX8_best 69 = .ok (.getfield 56, 3) := kqo_b4 (x1 := 0) (x2 := 56) kbl_X8_best (pc := 69) rfl rfl
theorem dX8_best_72 : decode cX8_best 72 = .ok (.getfield 251, 3) := kqo_b4 (x1 := 0) (x2 := 251) kbl_X8_best (pc := 72) rfl rfl
theorem dX8_best_75 : decode cX8_best 75 = .ok (.ireturn, 1) := kqo_ac kbl_X8_best (pc := 75) rfl
theorem dX8_best_76 : decode cX8_best 76 = .ok (.aload_n 0, 1) := kqo_2a kbl_X8_best (pc := 76) rfl
theorem dX8_best_77 : decode cX8_best 77 = .ok (.getfield 56, 3) := kqo_b4 (x1 := 0) (x2 := 56) kbl_X8_best (pc := 77) rfl rfl
theorem dX8_best_80 : decode cX8_best 80 = .ok (.aload_n 0, 1) := kqo_2a kbl_X8_best (pc := 80) rfl
theorem dX8_best_81 : decode cX8_best 81 = .ok (.getfield 28, 3) := kqo_b4 (x1 := 0) (x2 := 28) kbl_X8_best (pc := 81) rfl rfl
theorem dX8_best_84 : decode cX8_best 84 = .ok (.invokevirtual 254, 3) := kqo_b6 (x1 := 0) (x2 := 254) kbl_X8_best (pc := 84) rfl rfl
theorem dX8_best_87 : decode cX8_best 87 = .ok (.ireturn, 1) := kqo_ac kbl_X8_best (pc := 87) rfl
set_option maxRecDepth 20000 in
theorem ggX8_best_X4_advance : GoodIn wsX8_best wsX4_advance := goodIn_4 _ (List.forall_mem_cons.mpr ⟨List.mem_cons_of_mem _ (List.mem_append_left _ (List.mem_append_left _ (List.mem_append_left _ (List.mem_append_left _ (List.mem_of_getElem? (i := 22) rfl))))), List.forall_mem_append.mpr ⟨List.forall_mem_append.mpr ⟨List.forall_mem_cons.mpr ⟨List.mem_cons_of_mem _ (List.mem_append_left _ (List.mem_append_left _ (List.mem_append_left _ (List.mem_append_left _ (List.mem_of_getElem? (i := 23) rfl))))), List.forall_mem_cons.mpr ⟨List.mem_cons_of_mem _ (List.mem_append_left _ (List.mem_append_left _ (List.mem_append_left _ (List.mem_append_right _ (List.mem_of_getElem? (i := 0) rfl))))), List.forall_mem_cons.mpr ⟨List.mem_cons_of_mem _ (List.mem_append_left _ (List.mem_append_left _ (List.mem_append_left _ (List.mem_append_right _ (List.mem_of_getElem? (i := 1) rfl))))), List.forall_mem_cons.mpr ⟨List.mem_cons_of_mem _ (List.mem_append_left _ (List.mem_append_left _ (List.mem_append_left _ (List.mem_append_right _ (List.mem_of_getElem? (i := 2) rfl))))), List.forall_mem_cons.mpr ⟨List.mem_cons_of_mem _ (List.mem_append_left _ (List.mem_append_left _ (List.mem_append_left _ (List.mem_append_right _ (List.mem_of_getElem? (i := 3) rfl))))), List.forall_mem_cons.mpr ⟨List.mem_cons_of_mem _ (List.mem_append_left _ (List.mem_append_left _ (List.mem_append_left _ (List.mem_append_right _ (List.mem_of_getElem? (i := 4) rfl))))), List.forall_mem_cons.mpr ⟨List.mem_cons_of_mem _ (List.mem_append_left _ (List.mem_append_left _ (List.mem_append_left _ (List.mem_append_right _ (List.mem_of_getElem? (i := 5) rfl))))), List.forall_mem_cons.mpr ⟨List.mem_cons_of_mem _ (List.mem_append_left _ (List.mem_append_left _ (List.mem_append_left _ (List.mem_append_right _ (List.mem_of_getElem? (i := 6) rfl))))), List.forall_mem_cons.mpr ⟨List.mem_cons_of_mem _ (List.mem_append_left _ (List.mem_append_left _ (List.mem_append_left _ (List.mem_append_right _ (List.mem_of_getElem? (i := 7) rfl))))), List.forall_mem_cons.mpr ⟨List.mem_cons_of_mem _ (List.mem_append_left _ (List.mem_append_left _ (List.mem_append_left _ (List.mem_append_right _ (List.mem_of_getElem? (i := 8) rfl))))), List.forall_mem_cons.mpr ⟨List.mem_cons_of_mem _ (List.mem_append_left _ (List.mem_append_left _ (List.mem_append_left _ (List.mem_append_right _ (List.mem_of_getElem? (i := 9) rfl))))), List.forall_mem_cons.mpr ⟨List.mem_cons_of_mem _ (List.mem_append_left _ (List.mem_append_left _ (List.mem_append_left _ (List.mem_append_right _ (List.mem_of_getElem? (i := 10) rfl))))), List.forall_mem_cons.mpr ⟨List.mem_cons_of_mem _ (List.mem_append_left _ (List.mem_append_left _ (List.mem_append_left _ (List.mem_append_right _ (List.mem_of_getElem? (i := 11) rfl))))), List.forall_mem_cons.mpr ⟨List.mem_cons_of_mem _ (List.mem_append_left _ (List.mem_append_left _ (List.mem_append_left _ (List.mem_append_right _ (List.mem_of_getElem? (i := 12) rfl))))), List.forall_mem_cons.mpr ⟨List.mem_cons_of_mem _ (List.mem_append_left _ (List.mem_append_left _ (List.mem_append_left _ (List.mem_append_left _ (List.mem_of_getElem? (i := 6) rfl))))), List.forall_mem_cons.mpr ⟨List.mem_cons_of_mem _ (List.mem_append_left _ (List.mem_append_left _ (List.mem_append_left _ (List.mem_append_left _ (List.mem_of_getElem? (i := 7) rfl))))), List.forall_mem_cons.mpr ⟨List.mem_cons_of_mem _ (List.mem_append_left _ (List.mem_append_left _ (List.mem_append_left _ (List.mem_append_left _ (List.mem_of_getElem? (i := 8) rfl))))), List.forall_mem_cons.mpr ⟨List.mem_cons_of_mem _ (List.mem_append_left _ (List.mem_append_left _ (List.mem_append_left _ (List.mem_append_right _ (List.mem_of_getElem? (i := 13) rfl))))), List.forall_mem_cons.mpr ⟨List.mem_cons_of_mem _ (List.mem_append_left _ (List.mem_append_left _ (List.mem_append_left _ (List.mem_append_right _ (List.mem_of_getElem? (i := 14) rfl))))), fun _ h9 => absurd h9 List.not_mem_nil⟩⟩⟩⟩⟩⟩⟩⟩⟩⟩⟩⟩⟩⟩⟩⟩⟩⟩⟩, fun w h9 => List.mem_cons_of_mem _ (List.mem_append_right _ (h9))⟩, fun w h9 => List.mem_cons_of_mem _ (List.mem_append_left _ (List.mem_append_right _ (h9)))⟩⟩) (by decide +kernel)
set_option maxRecDepth 20000 in
theorem gX8_best_X4_advance : GoodIn wsX8_best (wsV RX8 254 RX4 yX4_advance wsX4_advance) := goodIn_app (goodIn_4 _ (List.forall_mem_cons.mpr ⟨List.mem_cons_of_mem _ (List.mem_append_left _ (List.mem_append_left _ (List.mem_append_left _ (List.mem_append_left _ (List.mem_of_getElem? (i := 19) rfl))))), List.forall_mem_cons.mpr ⟨List.mem_cons_of_mem _ (List.mem_append_left _ (List.mem_append_left _ (List.mem_append_left _ (List.mem_append_left _ (List.mem_of_getElem? (i := 20) rfl))))), List.forall_mem_cons.mpr ⟨List.mem_cons_of_mem _ (List.mem_append_left _ (List.mem_append_left _ (List.mem_append_left _ (List.mem_append_left _ (List.mem_of_getElem? (i := 21) rfl))))), List.forall_mem_cons.mpr ⟨List.mem_cons_of_mem _ (List.mem_append_left _ (List.mem_append_left _ (List.mem_append_left _ (List.mem_append_left _ (List.mem_of_getElem? (i := 12) rfl))))), fun _ h9 => absurd h9 List.not_mem_nil⟩⟩⟩⟩) (by decide +kernel)) ggX8_best_X4_advance
set_option maxRecDepth 20000 in
theorem ggX8_best_X4_changes : GoodIn wsX8_best wsX4_changes := goodIn_4 _ (List.forall_mem_cons.mpr ⟨List.mem_cons_of_mem _ (List.mem_append_left _ (List.mem_append_left _ (List.mem_append_left _ (List.mem_append_left _ (List.mem_of_getElem? (i := 13) rfl))))), List.forall_mem_append.mpr ⟨List.forall_mem_cons.mpr ⟨List.mem_cons_of_mem _ (List.mem_append_left _ (List.mem_append_left _ (List.mem_append_left _ (List.mem_append_left _ (List.mem_of_getElem? (i := 14) rfl))))), List.forall_mem_cons.mpr ⟨List.mem_cons_of_mem _ (List.mem_append_left _ (List.mem_append_left _ (List.mem_append_left _ (List.mem_append_left _ (List.mem_of_getElem? (i := 15) rfl))))), List.forall_mem_cons.mpr ⟨List.mem_cons_of_mem _ (List.mem_append_left _ (List.mem_append_left _ (List.mem_append_left _ (List.mem_append_left _ (List.mem_of_getElem? (i := 16) rfl))))), List.forall_mem_cons.mpr ⟨List.mem_cons_of_mem _ (List.mem_append_left _ (List.mem_append_left _ (List.mem_append_left _ (List.mem_append_left _ (List.mem_of_getElem? (i := 17) rfl))))), List.forall_mem_cons.mpr ⟨List.mem_cons_of_mem _ (List.mem_append_left _ (List.mem_append_left _ (List.mem_append_left _ (List.mem_append_left _ (List.mem_of_getElem? (i := 18) rfl))))), fun _ h9 => absurd h9 List.not_mem_nil⟩⟩⟩⟩⟩, fun w h9 => List.mem_cons_of_mem _ (List.mem_append_right _ (h9))⟩⟩) (by decide +kernel)
set_option maxRecDepth 20000 in
theorem gX8_best_X4_changes : GoodIn wsX8_best (wsV RX8 247 RX4 yX4_changes wsX4_changes) := goodIn_app (goodIn_4 _ (List.forall_mem_cons.mpr ⟨List.mem_cons_of_mem _ (List.mem_append_left _ (List.mem_append_left _ (List.mem_append_left _ (List.mem_append_left _ (List.mem_of_getElem? (i := 9) rfl))))), List.forall_mem_cons.mpr ⟨List.mem_cons_of_mem _ (List.mem_append_left _ (List.mem_append_left _ (List.mem_append_left _ (List.mem_append_left _ (List.mem_of_getElem? (i := 10) rfl))))), List.forall_mem_cons.mpr ⟨List.mem_cons_of_mem _ (List.mem_append_left _ (List.mem_append_left _ (List.mem_append_left _ (List.mem_append_left _ (List.mem_of_getElem? (i := 11) rfl))))), List.forall_mem_cons.mpr ⟨List.mem_cons_of_mem _ (List.mem_append_left _ (List.mem_append_left _ (List.mem_append_left _ (List.mem_append_left _ (List.mem_of_getElem? (i := 12) rfl))))), fun _ h9 => absurd h9 List.not_mem_nil⟩⟩⟩⟩) (by decide +kernel)) ggX8_best_X4_changes
set_option maxRecDepth 20000 in
theorem ggX8_best_X8_isWithin : GoodIn wsX8_best wsX8_isWithin := goodIn_4 _ (List.forall_mem_cons.mpr ⟨List.mem_cons_of_mem _ (List.mem_append_left _ (List.mem_append_left _ (List.mem_append_left _ (List.mem_append_left _ (List.mem_of_getElem? (i := 8) rfl))))), fun _ h9 => absurd h9 List.not_mem_nil⟩) (by decide +kernel)
set_option maxRecDepth 20000 in
theorem gX8_best_X8_isWithin : GoodIn wsX8_best (va_wsS RX8 128 yX8_isWithin wsX8_isWithin) := goodIn_app (goodIn_4 _ (List.forall_mem_cons.mpr ⟨List.mem_cons_of_mem _ (List.mem_append_left _ (List.mem_append_left _ (List.mem_append_left _ (List.mem_append_left _ (List.mem_of_getElem? (i := 5) rfl))))), List.forall_mem_cons.mpr ⟨List.mem_cons_of_mem _ (List.mem_append_left _ (List.mem_append_left _ (List.mem_append_left _ (List.mem_append_left _ (List.mem_of_getElem? (i := 6) rfl))))), List.forall_mem_cons.mpr ⟨List.mem_cons_of_mem _ (List.mem_append_left _ (List.mem_append_left _ (List.mem_append_left _ (List.mem_append_left _ (List.mem_of_getElem? (i := 7) rfl))))), fun _ h9 => absurd h9 List.not_mem_nil⟩⟩⟩) (by decide +kernel)) ggX8_best_X8_isWithin
set_option maxRecDepth 20000 in
theorem mw_X8_best_0 : (.fieldLink RX8 28 "FontRuns" "fontRow" "LFontRuns$FontRow;" : Cond) ∈ wsX8_best := List.mem_cons_of_mem _ (List.mem_append_left _ (List.mem_append_left _ (List.mem_append_left _ (List.mem_append_left _ (List.mem_of_getElem? (i := 0) rfl)))))
set_option maxRecDepth 20000 in
theorem mw_X8_best_1 : (.fieldLink RX8 106 "FontRuns$FontRow" "count" "I" : Cond) ∈ wsX8_best := List.mem_cons_of_mem _ (List.mem_append_left _ (List.mem_append_left _ (List.mem_append_left _ (List.mem_append_left _ (List.mem_of_getElem? (i := 1) rfl)))))
set_option maxRecDepth 20000 in
theorem mw_X8_best_2 : (.fieldLink RX8 56 "FontRuns" "setting" "LFontRuns$Setting;" : Cond) ∈ wsX8_best := List.mem_cons_of_mem _ (List.mem_append_left _ (List.mem_append_left _ (List.mem_append_left _ (List.mem_append_left _ (List.mem_of_getElem? (i := 2) rfl)))))
set_option maxRecDepth 20000 in
theorem mw_X8_best_3 : (.fieldLink RX8 187 "FontRuns$Setting" "runs" "I" : Cond) ∈ wsX8_best := List.mem_cons_of_mem _ (List.mem_append_left _ (List.mem_append_left _ (List.mem_append_left _ (List.mem_append_left _ (List.mem_of_getElem? (i := 3) rfl)))))
set_option maxRecDepth 20000 in
theorem mw_X8_best_4 : (.fieldLink RX8 251 "FontRuns$Setting" "boxes" "I" : Cond) ∈ wsX8_best := List.mem_cons_of_mem _ (List.mem_append_left _ (List.mem_append_left _ (List.mem_append_left _ (List.mem_append_left _ (List.mem_of_getElem? (i := 4) rfl)))))
theorem ax_X8_best_0 {e0 e1 e2 e3 e4 e5 : Nat × va_E} : ([] : List Nat).map (fun i => ([e0, e1, e2, e3, e4, e5] : va_W)[i]?) = ([] : va_W).map some := rfl
theorem ax_X8_best_1 {e0 e1 e2 e3 e4 e5 : Nat × va_E} : ([1] : List Nat).map (fun i => ([e0, e1, e2, e3, e4, e5] : va_W)[i]?) = ([e1] : va_W).map some := rfl
theorem ax_X8_best_2 {e0 e1 e2 e3 e4 e5 : Nat × va_E} : ([1, 2, 3, 4, 5] : List Nat).map (fun i => ([e0, e1, e2, e3, e4, e5] : va_W)[i]?) = ([e1, e2, e3, e4, e5] : va_W).map some := rfl
set_option maxHeartbeats 4000000 in
set_option maxRecDepth 100000 in
theorem c_X8_best (l : Launch) (D : va_G) (sz : Nat) (w : Int) (h0 : Nat) (sh : Nat) (rd : Nat) (fr : Nat) (wr : Nat) (pf : Nat) (rc : Nat) (se : Nat) (rs : Nat) (sw : Nat) (sp : Nat) (ss : Nat) (ew : Int) (wc : Int64) (tr : Int) (lf : Int) (g1 : Nat) (g2 : Nat) (g3 : Nat) (g4 : Nat) (g5 : Nat) (cn : Int) (bo : Int) (ru : Int) (g6 : Nat) (g7 : Nat) (cg4 : ClassId) (f4 : Nat → Int32) (k1 : Nat) (k2 : Nat) (k3 : Nat) (fn : Int) (ck1 : ClassId) (fk : Nat → Int32) (ck2 : ClassId) (fb : Nat → Int32) (q0 : rg w) (q1 : 0 ≤ cn ∧ cn ≤ 24) (q2 : 0 ≤ bo ∧ bo ≤ 24) (q3 : 0 ≤ ru ∧ ru ≤ cn) (q4 : 0 ≤ fn ∧ fn ≤ 4) : Met l yX8_best wsX8_best ({ frames := 4, cells := 0, slots := 0, locals := 87 }) (kPre [.ref h0, .int (zI w)] D [(h0, .inr (8, [.ref sh, .ref rd, .ref fr, .ref wr, .ref pf, .ref rc, .ref se, .ref rs, .ref sw, .ref sp, .ref ss, .int (zI ew), .long wc, .int (zI tr), .int (zI lf)])), (se, .inr (4, [.ref g1, .ref g2, .ref g3, .ref g4, .ref g5, .int (zI cn), .int (zI bo), .int (zI ru), .ref g6, .ref g7])), (g4, .inl (cg4, 24, .inl f4)), (fr, .inr (0, [.ref k1, .ref k2, .ref k3, .int (zI fn)])), (k1, .inl (ck1, 4, .inl fk)), (k2, .inl (ck2, 4, .inl fb))] [(cg4, .int), (ck1, .int), (ck2, .int)] sz) (QcP (fun rz => True)) 0 0 (fun _ => False) := by
  refine Met.ofW (cc := cX8_best) (maxL := 2) (ret := (some .int)) (by decide) rfl ?_
  intro p e s m args below meth c s₁ B hml hv
  obtain ⟨rfl, hsz, hP, hK, hD0, hN⟩ := hv
  have hx := B.exec
  have hb := B.bytes
  have hr := B.returns
  have hts := atoms_spec (ws := wsX8_best) B.pre
  have hown : s.vm.findClass RX8 = some m.cls := findClass_of_methodNamed B.named
  have hlocks := B.notSynchronized
  subst hsz
  have hD := hD0
  have hP : va_P D vwCl [(h0, .inr (8, [.ref sh, .ref rd, .ref fr, .ref wr, .ref pf, .ref rc, .ref se, .ref rs, .ref sw, .ref sp, .ref ss, .int (zI ew), .long wc, .int (zI tr), .int (zI lf)])), (se, .inr (4, [.ref g1, .ref g2, .ref g3, .ref g4, .ref g5, .int (zI cn), .int (zI bo), .int (zI ru), .ref g6, .ref g7])), (g4, .inl (cg4, 24, .inl f4)), (fr, .inr (0, [.ref k1, .ref k2, .ref k3, .int (zI fn)])), (k1, .inl (ck1, 4, .inl fk)), (k2, .inl (ck2, 4, .inl fb))] s.heap := hP
  have hl := lv_entry ([.ref h0, .int (zI w)]) (n := 2) (Nat.le_of_ble_eq_true rfl)
  rw [lg_entry_eq]
  generalize (lg_sl ([.ref h0, .int (zI w)]) ++ List.replicate (2 - (lg_sl ([.ref h0, .int (zI w)])).length) Slot.unset).toArray = ls at hl ⊢
  have hl : lv_has ls 2 [(0, .ref h0), (1, .int (zI w))] := hl
  refine lv_iload_n hx hb dX8_best_0 rfl (lv_at hl 1 rfl) ?_
  refine lv_iconst (v := zI 0) hx hb dX8_best_1 rfl ?_
  refine lv_iconst (v := zI 3) hx hb dX8_best_2 rfl ?_
  refine k_callR (va_runS (As := [.int (zI w), .int (zI 0), .int (zI 3)]) (rest := []) ⟨hx, hb, hml, hown, hts⟩ (c_X8_isWithin l D s.heap.size (v := w) (a := 0) (b := 3) q0 (by omega) (by omega)) (va_cwS 3 hts gX8_best_X8_isWithin rfl rfl rfl (by decide +kernel) ⟨Nat.le_of_ble_eq_true rfl, Nat.le_of_ble_eq_true rfl⟩) (kPreS hP (kD0 hD) hK hN [] [] ax_X8_best_0 rfl (by decide +kernel)) rfl rfl hl.1 rfl (lv_room (Nat.le_of_ble_eq_true rfl)) dX8_best_3 ⟨Nat.le_of_ble_eq_true rfl, Nat.le_of_ble_eq_true rfl⟩) ?_
  refine lv_if_ne (tgt := 12) hx hb dX8_best_6 (by decide) (fun c_1 => ?_) (fun c_1 => ?_)
  · have c_1 : 0 ≤ w ∧ w ≤ 3 := b01t c_1
    refine lv_aload_n hx hb dX8_best_12 rfl (lv_at hl 0 rfl) ?_
    refine va_get (D := D) (ci := 8) (v := .ref fr) (C := RX8) (T := TX8) (N := 15) hx hb hts (fun _ h9 => List.mem_cons_of_mem _ (List.mem_append_left _ (List.mem_append_left _ (List.mem_append_right _ h9)))) hown hK hP 0 rfl rfl 2 (by decide) (hts (.fieldLink RX8 28 "FontRuns" "fontRow" "LFontRuns$FontRow;") mw_X8_best_0) (fun _ h9 => h9) rfl dX8_best_13 ?_
    refine va_get (D := D) (ci := 0) (v := .int (zI fn)) (C := RX0) (T := TX0) (N := 4) hx hb hts (fun _ h9 => List.mem_cons_of_mem _ (List.mem_append_left _ (List.mem_append_right _ h9))) hown hK hP 3 rfl rfl 3 (by decide) (hts (.fieldLink RX8 106 "FontRuns$FontRow" "count" "I") mw_X8_best_1) (fun _ h9 => h9) rfl dX8_best_16 ?_
    refine kz_if_ne (tgt := 25) hx hb dX8_best_19 (by decide) (by omega) (fun c_2 => ?_) (fun c_2 => ?_)
    · refine lv_iload_n hx hb dX8_best_25 rfl (lv_at hl 1 rfl) ?_
      rcases (show w = 0 ∨ w = 1 ∨ w = 2 ∨ (¬ w = 0 ∧ ¬ w = 1 ∧ ¬ w = 2) from by omega) with c_3 | c_3 | c_3 | c_3
      · refine kz_tabIn (tgt := 52) (off := 26) hx hb dX8_best_26 0 (by omega) (by decide) (by decide) (by decide) (by decide) (by decide) ?_
        refine lv_aload_n hx hb dX8_best_52 rfl (lv_at hl 0 rfl) ?_
        refine va_get (D := D) (ci := 8) (v := .ref se) (C := RX8) (T := TX8) (N := 15) hx hb hts (fun _ h9 => List.mem_cons_of_mem _ (List.mem_append_left _ (List.mem_append_left _ (List.mem_append_right _ h9)))) hown hK hP 0 rfl rfl 6 (by decide) (hts (.fieldLink RX8 56 "FontRuns" "setting" "LFontRuns$Setting;") mw_X8_best_2) (fun _ h9 => h9) rfl dX8_best_53 ?_
        refine k_callP (va_runV (As := []) (rest := []) ⟨hx, hb, hml, hown, hts⟩ (c_X4_changes l D s.heap.size (h0 := se) (g1 := g1) (g2 := g2) (g3 := g3) (g4 := g4) (g5 := g5) (cn := cn) (bo := bo) (ru := ru) (g6 := g6) (g7 := g7) q1 q2 q3) (cwV 0 hts gX8_best_X4_changes rfl rfl rfl (by decide +kernel) ⟨Nat.le_of_ble_eq_true rfl, Nat.le_of_ble_eq_true rfl⟩) (kPreV hP (kD0 hD) hK hN [1] [] ax_X8_best_1 rfl (by decide +kernel) 1 4 rfl rfl) rfl rfl hl.1 rfl (lv_room (Nat.le_of_ble_eq_true rfl)) dX8_best_56 ⟨Nat.le_of_ble_eq_true rfl, Nat.le_of_ble_eq_true rfl⟩) (fun z_4 rz_4 h_5 => ?_)
        exact W.iret (v := (zI z_4)) hx hb hr (fun t ht hW => QcP_of (by omega) trivial ht) (fun _ h9 => by cases h9) dX8_best_59
      · refine kz_tabIn (tgt := 60) (off := 34) hx hb dX8_best_26 1 (by omega) (by decide) (by decide) (by decide) (by decide) (by decide) ?_
        refine lv_aload_n hx hb dX8_best_60 rfl (lv_at hl 0 rfl) ?_
        refine va_get (D := D) (ci := 8) (v := .ref se) (C := RX8) (T := TX8) (N := 15) hx hb hts (fun _ h9 => List.mem_cons_of_mem _ (List.mem_append_left _ (List.mem_append_left _ (List.mem_append_right _ h9)))) hown hK hP 0 rfl rfl 6 (by decide) (hts (.fieldLink RX8 56 "FontRuns" "setting" "LFontRuns$Setting;") mw_X8_best_2) (fun _ h9 => h9) rfl dX8_best_61 ?_
        refine va_get (D := D) (ci := 4) (v := .int (zI ru)) (C := RX4) (T := TX4) (N := 10) hx hb hts (fun _ h9 => List.mem_cons_of_mem _ (List.mem_append_right _ h9)) hown hK hP 1 rfl rfl 7 (by decide) (hts (.fieldLink RX8 187 "FontRuns$Setting" "runs" "I") mw_X8_best_3) (fun _ h9 => h9) rfl dX8_best_64 ?_
        exact W.iret (v := (zI ru)) hx hb hr (fun t ht hW => QcP_of (by omega) trivial ht) (fun _ h9 => by cases h9) dX8_best_67
      · refine kz_tabIn (tgt := 68) (off := 42) hx hb dX8_best_26 2 (by omega) (by decide) (by decide) (by decide) (by decide) (by decide) ?_
        refine lv_aload_n hx hb dX8_best_68 rfl (lv_at hl 0 rfl) ?_
        refine va_get (D := D) (ci := 8) (v := .ref se) (C := RX8) (T := TX8) (N := 15) hx hb hts (fun _ h9 => List.mem_cons_of_mem _ (List.mem_append_left _ (List.mem_append_left _ (List.mem_append_right _ h9)))) hown hK hP 0 rfl rfl 6 (by decide) (hts (.fieldLink RX8 56 "FontRuns" "setting" "LFontRuns$Setting;") mw_X8_best_2) (fun _ h9 => h9) rfl dX8_best_69 ?_
        refine va_get (D := D) (ci := 4) (v := .int (zI bo)) (C := RX4) (T := TX4) (N := 10) hx hb hts (fun _ h9 => List.mem_cons_of_mem _ (List.mem_append_right _ h9)) hown hK hP 1 rfl rfl 6 (by decide) (hts (.fieldLink RX8 251 "FontRuns$Setting" "boxes" "I") mw_X8_best_4) (fun _ h9 => h9) rfl dX8_best_72 ?_
        exact W.iret (v := (zI bo)) hx hb hr (fun t ht hW => QcP_of (by omega) trivial ht) (fun _ h9 => by cases h9) dX8_best_75
      · refine kz_tabOut (tgt := 76) hx hb dX8_best_26 (by omega) (by omega) (by decide) ?_
        refine lv_aload_n hx hb dX8_best_76 rfl (lv_at hl 0 rfl) ?_
        refine va_get (D := D) (ci := 8) (v := .ref se) (C := RX8) (T := TX8) (N := 15) hx hb hts (fun _ h9 => List.mem_cons_of_mem _ (List.mem_append_left _ (List.mem_append_left _ (List.mem_append_right _ h9)))) hown hK hP 0 rfl rfl 6 (by decide) (hts (.fieldLink RX8 56 "FontRuns" "setting" "LFontRuns$Setting;") mw_X8_best_2) (fun _ h9 => h9) rfl dX8_best_77 ?_
        refine lv_aload_n hx hb dX8_best_80 rfl (lv_at hl 0 rfl) ?_
        refine va_get (D := D) (ci := 8) (v := .ref fr) (C := RX8) (T := TX8) (N := 15) hx hb hts (fun _ h9 => List.mem_cons_of_mem _ (List.mem_append_left _ (List.mem_append_left _ (List.mem_append_right _ h9)))) hown hK hP 0 rfl rfl 2 (by decide) (hts (.fieldLink RX8 28 "FontRuns" "fontRow" "LFontRuns$FontRow;") mw_X8_best_0) (fun _ h9 => h9) rfl dX8_best_81 ?_
        refine k_callP (va_runV (As := [.ref fr]) (rest := []) ⟨hx, hb, hml, hown, hts⟩ (c_X4_advance l D s.heap.size (fr := fr) (h0 := se) (g1 := g1) (g2 := g2) (g3 := g3) (g4 := g4) (g5 := g5) (cn := cn) (bo := bo) (ru := ru) (g6 := g6) (g7 := g7) (cg4 := cg4) (f4 := f4) (k1 := k1) (k2 := k2) (k3 := k3) (n := fn) (ck1 := ck1) (fk := fk) (ck2 := ck2) (fb := fb) q1 q2 q3 q4) (cwV 1 hts gX8_best_X4_advance rfl rfl rfl (by decide +kernel) ⟨Nat.le_of_ble_eq_true rfl, Nat.le_of_ble_eq_true rfl⟩) (kPreV hP (kD0 hD) hK hN [1, 2, 3, 4, 5] [0, 1, 2] ax_X8_best_2 rfl (by decide +kernel) 1 4 rfl rfl) rfl rfl hl.1 rfl (lv_room (Nat.le_of_ble_eq_true rfl)) dX8_best_84 ⟨Nat.le_of_ble_eq_true rfl, Nat.le_of_ble_eq_true rfl⟩) (fun z_6 rz_6 h_7 => ?_)
        exact W.iret (v := (zI z_6)) hx hb hr (fun t ht hW => QcP_of (by omega) trivial ht) (fun _ h9 => by cases h9) dX8_best_87
    · refine lv_bipush (v := zI (-3)) hx hb dX8_best_22 (by decide) ?_
      exact W.iret (v := (zI (-3))) hx hb hr (fun t ht hW => QcP_of (by omega) trivial ht) (fun _ h9 => by cases h9) dX8_best_24
  · have c_1 : ¬ (0 ≤ w ∧ w ≤ 3) := b01f c_1
    refine lv_bipush (v := zI (-2)) hx hb dX8_best_9 (by decide) ?_
    exact W.iret (v := (zI (-2))) hx hb hr (fun t ht hW => QcP_of (by omega) trivial ht) (fun _ h9 => by cases h9) dX8_best_11
theorem dX8_without_0 : decode cX8_without 0 = .ok (.aload_n 0, 1) := kqo_2a kbl_X8_without (pc := 0) rfl
theorem dX8_without_1 : decode cX8_without 1 = .ok (.getfield 28, 3) := kqo_b4 (x1 := 0) (x2 := 28) kbl_X8_without (pc := 1) rfl rfl
theorem dX8_without_4 : decode cX8_without 4 = .ok (.iload_n 1, 1) := kqo_1b kbl_X8_without (pc := 4) rfl
theorem dX8_without_5 : decode cX8_without 5 = .ok (.invokevirtual 109, 3) := kqo_b6 (x1 := 0) (x2 := 109) kbl_X8_without (pc := 5) rfl rfl
theorem dX8_without_8 : decode cX8_without 8 = .ok (.ifCond .ne 5, 3) := kqo_9a (x1 := 0) (x2 := 5) kbl_X8_without (pc := 8) rfl rfl
theorem dX8_without_11 : decode cX8_without 11 = .ok (.iconst (-1), 1) := kqo_02 kbl_X8_without (pc := 11) rfl
theorem dX8_without_12 : decode cX8_without 12 = .ok (.ireturn, 1) := kqo_ac kbl_X8_without (pc := 12) rfl
theorem dX8_without_13 : decode cX8_without 13 = .ok (.aload_n 0, 1) := kqo_2a kbl_X8_without (pc := 13) rfl
theorem dX8_without_14 : decode cX8_without 14 = .ok (.getfield 28, 3) := kqo_b4 (x1 := 0) (x2 := 28) kbl_X8_without (pc := 14) rfl rfl
theorem dX8_without_17 : decode cX8_without 17 = .ok (.getfield 106, 3) := kqo_b4 (x1 := 0) (x2 := 106) kbl_X8_without (pc := 17) rfl rfl
theorem dX8_without_20 : decode cX8_without 20 = .ok (.iconst 1, 1) := kqo_04 kbl_X8_without (pc := 20) rfl
theorem dX8_without_21 : decode cX8_without 21 = .ok (.if_icmp .ne 6, 3) := kqo_a0 (x1 := 0) (x2 := 6) kbl_X8_without (pc := 21) rfl rfl
theorem dX8_without_24 : decode cX8_without 24 = .ok (.bipush (-9), 2) := kqo_10 (x1 := 247) kbl_X8_without (pc := 24) rfl rfl
theorem dX8_without_26 : decode cX8_without 26 = .ok (.ireturn, 1) := kqo_ac kbl_X8_without (pc := 26) rfl
theorem dX8_without_27 : decode cX8_without 27 = .ok (.aload_n 0, 1) := kqo_2a kbl_X8_without (pc := 27) rfl
theorem dX8_without_28 : decode cX8_without 28 = .ok (.getfield 73, 3) := kqo_b4 (x1 := 0) (x2 := 73) kbl_X8_without (pc := 28) rfl rfl
theorem dX8_without_31 : decode cX8_without 31 = .ok (.aload_n 0, 1) := kqo_2a kbl_X8_without (pc := 31) rfl
theorem dX8_without_32 : decode cX8_without 32 = .ok (.getfield 35, 3) := kqo_b4 (x1 := 0) (x2 := 35) kbl_X8_without (pc := 32) rfl rfl
theorem dX8_without_35 : decode cX8_without 35 = .ok (.aload_n 0, 1) := kqo_2a kbl_X8_without (pc := 35) rfl
theorem dX8_without_36 : decode cX8_without 36 = .ok (.getfield 28, 3) := kqo_b4 (x1 := 0) (x2 := 28) kbl_X8_without (pc := 36) rfl rfl
theorem dX8_without_39 : decode cX8_without 39 = .ok (.aload_n 0, 1) := kqo_2a kbl_X8_without (pc := 39) rfl
theorem dX8_without_40 : decode cX8_without 40 = .ok (.getfield 42, 3) := kqo_b4 (x1 := 0) (x2 := 42) kbl_X8_without (pc := 40) rfl rfl
theorem dX8_without_43 : decode cX8_without 43 = .ok (.aload_n 0, 1) := kqo_2a kbl_X8_without (pc := 43) rfl
theorem dX8_without_44 : decode cX8_without 44 = .ok (.getfield 28, 3) := kqo_b4 (x1 := 0) (x2 := 28) kbl_X8_without (pc := 44) rfl rfl
theorem dX8_without_47 : decode cX8_without 47 = .ok (.invokevirtual 227, 3) := kqo_b6 (x1 := 0) (x2 := 227) kbl_X8_without (pc := 47) rfl rfl
theorem dX8_without_50 : decode cX8_without 50 = .ok (.iconst 1, 1) := kqo_04 kbl_X8_without (pc := 50) rfl
theorem dX8_without_51 : decode cX8_without 51 = .ok (.iload_n 1, 1) := kqo_1b kbl_X8_without (pc := 51) rfl
theorem dX8_without_52 : decode cX8_without 52 = .ok (.ishl, 1) := kqo_78 kbl_X8_without (pc := 52) rfl
theorem dX8_without_53 : decode cX8_without 53 = .ok (.iconst (-1), 1) := kqo_02 kbl_X8_without (pc := 53) rfl
theorem dX8_without_54 : decode cX8_without 54 = .ok (.ixor, 1) := kqo_82 kbl_X8_without (pc := 54) rfl
theorem dX8_without_55 : decode cX8_without 55 = .ok (.iand, 1) := kqo_7e kbl_X8_without (pc := 55) rfl
theorem dX8_without_56 : decode cX8_without 56 = .ok (.invokevirtual 231, 3) := kqo_b6 (x1 := 0) (x2 := 231) kbl_X8_without (pc := 56) rfl rfl
theorem dX8_without_59 : decode cX8_without 59 = .ok (.aload_n 0, 1) := kqo_2a kbl_X8_without (pc := 59) rfl
theorem dX8_without_60 : decode cX8_without 60 = .ok (.getfield 73, 3) := kqo_b4 (x1 := 0) (x2 := 73) kbl_X8_without (pc := 60) rfl rfl
theorem dX8_without_63 : decode cX8_without 63 = .ok (.invokevirtual 247, 3) := kqo_b6 (x1 := 0) (x2 := 247) kbl_X8_without (pc := 63) rfl rfl
theorem dX8_without_66 : decode cX8_without 66 = .ok (.ireturn, 1) := kqo_ac kbl_X8_without (pc := 66) rfl
set_option maxRecDepth 20000 in
theorem ggX8_without_X0_all : GoodIn wsX8_without wsX0_all := goodIn_4 _ (List.forall_mem_cons.mpr ⟨List.mem_cons_of_mem _ (List.mem_append_left _ (List.mem_append_left _ (List.mem_append_left _ (List.mem_append_left _ (List.mem_append_left _ (List.mem_append_left _ (List.mem_of_getElem? (i := 17) rfl))))))), List.forall_mem_append.mpr ⟨List.forall_mem_cons.mpr ⟨List.mem_cons_of_mem _ (List.mem_append_left _ (List.mem_append_left _ (List.mem_append_left _ (List.mem_append_left _ (List.mem_append_left _ (List.mem_append_left _ (List.mem_of_getElem? (i := 10) rfl))))))), fun _ h9 => absurd h9 List.not_mem_nil⟩, fun w h9 => List.mem_cons_of_mem _ (List.mem_append_left _ (List.mem_append_left _ (List.mem_append_left _ (List.mem_append_right _ (h9)))))⟩⟩) (by decide +kernel)
set_option maxRecDepth 20000 in
theorem gX8_without_X0_all : GoodIn wsX8_without (wsV RX8 227 RX0 yX0_all wsX0_all) := goodIn_app (goodIn_4 _ (List.forall_mem_cons.mpr ⟨List.mem_cons_of_mem _ (List.mem_append_left _ (List.mem_append_left _ (List.mem_append_left _ (List.mem_append_left _ (List.mem_append_left _ (List.mem_append_left _ (List.mem_of_getElem? (i := 14) rfl))))))), List.forall_mem_cons.mpr ⟨List.mem_cons_of_mem _ (List.mem_append_left _ (List.mem_append_left _ (List.mem_append_left _ (List.mem_append_left _ (List.mem_append_left _ (List.mem_append_left _ (List.mem_of_getElem? (i := 15) rfl))))))), List.forall_mem_cons.mpr ⟨List.mem_cons_of_mem _ (List.mem_append_left _ (List.mem_append_left _ (List.mem_append_left _ (List.mem_append_left _ (List.mem_append_left _ (List.mem_append_left _ (List.mem_of_getElem? (i := 16) rfl))))))), List.forall_mem_cons.mpr ⟨List.mem_cons_of_mem _ (List.mem_append_left _ (List.mem_append_left _ (List.mem_append_left _ (List.mem_append_left _ (List.mem_append_left _ (List.mem_append_left _ (List.mem_of_getElem? (i := 8) rfl))))))), fun _ h9 => absurd h9 List.not_mem_nil⟩⟩⟩⟩) (by decide +kernel)) ggX8_without_X0_all
set_option maxRecDepth 20000 in
theorem ggX8_without_X0_isFont : GoodIn wsX8_without wsX0_isFont := goodIn_4 _ (List.forall_mem_cons.mpr ⟨List.mem_cons_of_mem _ (List.mem_append_left _ (List.mem_append_left _ (List.mem_append_left _ (List.mem_append_left _ (List.mem_append_left _ (List.mem_append_left _ (List.mem_of_getElem? (i := 9) rfl))))))), List.forall_mem_append.mpr ⟨List.forall_mem_cons.mpr ⟨List.mem_cons_of_mem _ (List.mem_append_left _ (List.mem_append_left _ (List.mem_append_left _ (List.mem_append_left _ (List.mem_append_left _ (List.mem_append_left _ (List.mem_of_getElem? (i := 10) rfl))))))), List.forall_mem_cons.mpr ⟨List.mem_cons_of_mem _ (List.mem_append_left _ (List.mem_append_left _ (List.mem_append_left _ (List.mem_append_left _ (List.mem_append_left _ (List.mem_append_left _ (List.mem_of_getElem? (i := 11) rfl))))))), List.forall_mem_cons.mpr ⟨List.mem_cons_of_mem _ (List.mem_append_left _ (List.mem_append_left _ (List.mem_append_left _ (List.mem_append_left _ (List.mem_append_left _ (List.mem_append_left _ (List.mem_of_getElem? (i := 12) rfl))))))), List.forall_mem_cons.mpr ⟨List.mem_cons_of_mem _ (List.mem_append_left _ (List.mem_append_left _ (List.mem_append_left _ (List.mem_append_left _ (List.mem_append_left _ (List.mem_append_left _ (List.mem_of_getElem? (i := 13) rfl))))))), fun _ h9 => absurd h9 List.not_mem_nil⟩⟩⟩⟩, fun w h9 => List.mem_cons_of_mem _ (List.mem_append_left _ (List.mem_append_left _ (List.mem_append_left _ (List.mem_append_right _ (h9)))))⟩⟩) (by decide +kernel)
set_option maxRecDepth 20000 in
theorem gX8_without_X0_isFont : GoodIn wsX8_without (wsV RX8 109 RX0 yX0_isFont wsX0_isFont) := goodIn_app (goodIn_4 _ (List.forall_mem_cons.mpr ⟨List.mem_cons_of_mem _ (List.mem_append_left _ (List.mem_append_left _ (List.mem_append_left _ (List.mem_append_left _ (List.mem_append_left _ (List.mem_append_left _ (List.mem_of_getElem? (i := 5) rfl))))))), List.forall_mem_cons.mpr ⟨List.mem_cons_of_mem _ (List.mem_append_left _ (List.mem_append_left _ (List.mem_append_left _ (List.mem_append_left _ (List.mem_append_left _ (List.mem_append_left _ (List.mem_of_getElem? (i := 6) rfl))))))), List.forall_mem_cons.mpr ⟨List.mem_cons_of_mem _ (List.mem_append_left _ (List.mem_append_left _ (List.mem_append_left _ (List.mem_append_left _ (List.mem_append_left _ (List.mem_append_left _ (List.mem_of_getElem? (i := 7) rfl))))))), List.forall_mem_cons.mpr ⟨List.mem_cons_of_mem _ (List.mem_append_left _ (List.mem_append_left _ (List.mem_append_left _ (List.mem_append_left _ (List.mem_append_left _ (List.mem_append_left _ (List.mem_of_getElem? (i := 8) rfl))))))), fun _ h9 => absurd h9 List.not_mem_nil⟩⟩⟩⟩) (by decide +kernel)) ggX8_without_X0_isFont
set_option maxRecDepth 20000 in
theorem ggX8_without_X4_changes : GoodIn wsX8_without wsX4_changes := goodIn_4 _ (List.forall_mem_cons.mpr ⟨List.mem_cons_of_mem _ (List.mem_append_left _ (List.mem_append_left _ (List.mem_append_left _ (List.mem_append_left _ (List.mem_append_left _ (List.mem_append_right _ (List.mem_append_right _ (List.mem_append_left _ (List.mem_of_getElem? (i := 21) rfl))))))))), List.forall_mem_append.mpr ⟨List.forall_mem_cons.mpr ⟨List.mem_cons_of_mem _ (List.mem_append_left _ (List.mem_append_left _ (List.mem_append_left _ (List.mem_append_left _ (List.mem_append_left _ (List.mem_append_right _ (List.mem_append_right _ (List.mem_append_left _ (List.mem_of_getElem? (i := 9) rfl))))))))), List.forall_mem_cons.mpr ⟨List.mem_cons_of_mem _ (List.mem_append_left _ (List.mem_append_left _ (List.mem_append_left _ (List.mem_append_left _ (List.mem_append_left _ (List.mem_append_right _ (List.mem_append_right _ (List.mem_append_left _ (List.mem_of_getElem? (i := 22) rfl))))))))), List.forall_mem_cons.mpr ⟨List.mem_cons_of_mem _ (List.mem_append_left _ (List.mem_append_left _ (List.mem_append_left _ (List.mem_append_left _ (List.mem_append_left _ (List.mem_append_right _ (List.mem_append_right _ (List.mem_append_left _ (List.mem_of_getElem? (i := 23) rfl))))))))), List.forall_mem_cons.mpr ⟨List.mem_cons_of_mem _ (List.mem_append_left _ (List.mem_append_left _ (List.mem_append_left _ (List.mem_append_left _ (List.mem_append_left _ (List.mem_append_right _ (List.mem_append_right _ (List.mem_append_left _ (List.mem_of_getElem? (i := 3) rfl))))))))), List.forall_mem_cons.mpr ⟨List.mem_cons_of_mem _ (List.mem_append_left _ (List.mem_append_left _ (List.mem_append_left _ (List.mem_append_left _ (List.mem_append_left _ (List.mem_append_right _ (List.mem_append_right _ (List.mem_append_right _ (List.mem_of_getElem? (i := 0) rfl))))))))), fun _ h9 => absurd h9 List.not_mem_nil⟩⟩⟩⟩⟩, fun w h9 => List.mem_cons_of_mem _ (List.mem_append_left _ (List.mem_append_left _ (List.mem_append_right _ (h9))))⟩⟩) (by decide +kernel)
set_option maxRecDepth 20000 in
theorem gX8_without_X4_changes : GoodIn wsX8_without (wsV RX8 247 RX4 yX4_changes wsX4_changes) := goodIn_app (goodIn_4 _ (List.forall_mem_cons.mpr ⟨List.mem_cons_of_mem _ (List.mem_append_left _ (List.mem_append_left _ (List.mem_append_left _ (List.mem_append_left _ (List.mem_append_left _ (List.mem_append_right _ (List.mem_append_right _ (List.mem_append_left _ (List.mem_of_getElem? (i := 18) rfl))))))))), List.forall_mem_cons.mpr ⟨List.mem_cons_of_mem _ (List.mem_append_left _ (List.mem_append_left _ (List.mem_append_left _ (List.mem_append_left _ (List.mem_append_left _ (List.mem_append_right _ (List.mem_append_right _ (List.mem_append_left _ (List.mem_of_getElem? (i := 19) rfl))))))))), List.forall_mem_cons.mpr ⟨List.mem_cons_of_mem _ (List.mem_append_left _ (List.mem_append_left _ (List.mem_append_left _ (List.mem_append_left _ (List.mem_append_left _ (List.mem_append_right _ (List.mem_append_right _ (List.mem_append_left _ (List.mem_of_getElem? (i := 20) rfl))))))))), List.forall_mem_cons.mpr ⟨List.mem_cons_of_mem _ (List.mem_append_left _ (List.mem_append_left _ (List.mem_append_left _ (List.mem_append_left _ (List.mem_append_left _ (List.mem_append_left _ (List.mem_of_getElem? (i := 21) rfl))))))), fun _ h9 => absurd h9 List.not_mem_nil⟩⟩⟩⟩) (by decide +kernel)) ggX8_without_X4_changes
set_option maxRecDepth 20000 in
theorem ggX8_without_X4_make : GoodIn wsX8_without wsX4_make := goodIn_4 _ (List.forall_mem_cons.mpr ⟨List.mem_cons_of_mem _ (List.mem_append_left _ (List.mem_append_left _ (List.mem_append_left _ (List.mem_append_left _ (List.mem_append_left _ (List.mem_append_left _ (List.mem_of_getElem? (i := 22) rfl))))))), List.forall_mem_append.mpr ⟨List.forall_mem_append.mpr ⟨List.forall_mem_append.mpr ⟨List.forall_mem_append.mpr ⟨List.forall_mem_append.mpr ⟨List.forall_mem_cons.mpr ⟨List.mem_cons_of_mem _ (List.mem_append_left _ (List.mem_append_left _ (List.mem_append_left _ (List.mem_append_left _ (List.mem_append_left _ (List.mem_append_left _ (List.mem_of_getElem? (i := 23) rfl))))))), List.forall_mem_cons.mpr ⟨List.mem_cons_of_mem _ (List.mem_append_left _ (List.mem_append_left _ (List.mem_append_left _ (List.mem_append_left _ (List.mem_append_left _ (List.mem_append_right _ (List.mem_append_left _ (List.mem_of_getElem? (i := 0) rfl)))))))), List.forall_mem_cons.mpr ⟨List.mem_cons_of_mem _ (List.mem_append_left _ (List.mem_append_left _ (List.mem_append_left _ (List.mem_append_left _ (List.mem_append_left _ (List.mem_append_right _ (List.mem_append_left _ (List.mem_of_getElem? (i := 1) rfl)))))))), List.forall_mem_cons.mpr ⟨List.mem_cons_of_mem _ (List.mem_append_left _ (List.mem_append_left _ (List.mem_append_left _ (List.mem_append_left _ (List.mem_append_left _ (List.mem_append_left _ (List.mem_of_getElem? (i := 21) rfl))))))), List.forall_mem_cons.mpr ⟨List.mem_cons_of_mem _ (List.mem_append_left _ (List.mem_append_left _ (List.mem_append_left _ (List.mem_append_left _ (List.mem_append_left _ (List.mem_append_right _ (List.mem_append_left _ (List.mem_of_getElem? (i := 2) rfl)))))))), List.forall_mem_cons.mpr ⟨List.mem_cons_of_mem _ (List.mem_append_left _ (List.mem_append_left _ (List.mem_append_left _ (List.mem_append_left _ (List.mem_append_left _ (List.mem_append_right _ (List.mem_append_left _ (List.mem_of_getElem? (i := 3) rfl)))))))), List.forall_mem_cons.mpr ⟨List.mem_cons_of_mem _ (List.mem_append_left _ (List.mem_append_left _ (List.mem_append_left _ (List.mem_append_left _ (List.mem_append_left _ (List.mem_append_right _ (List.mem_append_left _ (List.mem_of_getElem? (i := 4) rfl)))))))), List.forall_mem_cons.mpr ⟨List.mem_cons_of_mem _ (List.mem_append_left _ (List.mem_append_left _ (List.mem_append_left _ (List.mem_append_left _ (List.mem_append_left _ (List.mem_append_right _ (List.mem_append_left _ (List.mem_of_getElem? (i := 5) rfl)))))))), List.forall_mem_cons.mpr ⟨List.mem_cons_of_mem _ (List.mem_append_left _ (List.mem_append_left _ (List.mem_append_left _ (List.mem_append_left _ (List.mem_append_left _ (List.mem_append_right _ (List.mem_append_left _ (List.mem_of_getElem? (i := 6) rfl)))))))), List.forall_mem_cons.mpr ⟨List.mem_cons_of_mem _ (List.mem_append_left _ (List.mem_append_left _ (List.mem_append_left _ (List.mem_append_left _ (List.mem_append_left _ (List.mem_append_right _ (List.mem_append_left _ (List.mem_of_getElem? (i := 7) rfl)))))))), List.forall_mem_cons.mpr ⟨List.mem_cons_of_mem _ (List.mem_append_left _ (List.mem_append_left _ (List.mem_append_left _ (List.mem_append_left _ (List.mem_append_left _ (List.mem_append_right _ (List.mem_append_left _ (List.mem_of_getElem? (i := 8) rfl)))))))), List.forall_mem_cons.mpr ⟨List.mem_cons_of_mem _ (List.mem_append_left _ (List.mem_append_left _ (List.mem_append_left _ (List.mem_append_left _ (List.mem_append_left _ (List.mem_append_right _ (List.mem_append_left _ (List.mem_of_getElem? (i := 9) rfl)))))))), List.forall_mem_cons.mpr ⟨List.mem_cons_of_mem _ (List.mem_append_left _ (List.mem_append_left _ (List.mem_append_left _ (List.mem_append_left _ (List.mem_append_left _ (List.mem_append_right _ (List.mem_append_left _ (List.mem_of_getElem? (i := 10) rfl)))))))), List.forall_mem_cons.mpr ⟨List.mem_cons_of_mem _ (List.mem_append_left _ (List.mem_append_left _ (List.mem_append_left _ (List.mem_append_left _ (List.mem_append_left _ (List.mem_append_right _ (List.mem_append_left _ (List.mem_of_getElem? (i := 11) rfl)))))))), List.forall_mem_cons.mpr ⟨List.mem_cons_of_mem _ (List.mem_append_left _ (List.mem_append_left _ (List.mem_append_left _ (List.mem_append_left _ (List.mem_append_left _ (List.mem_append_right _ (List.mem_append_left _ (List.mem_of_getElem? (i := 12) rfl)))))))), List.forall_mem_cons.mpr ⟨List.mem_cons_of_mem _ (List.mem_append_left _ (List.mem_append_left _ (List.mem_append_left _ (List.mem_append_left _ (List.mem_append_left _ (List.mem_append_right _ (List.mem_append_left _ (List.mem_of_getElem? (i := 13) rfl)))))))), List.forall_mem_cons.mpr ⟨List.mem_cons_of_mem _ (List.mem_append_left _ (List.mem_append_left _ (List.mem_append_left _ (List.mem_append_left _ (List.mem_append_left _ (List.mem_append_right _ (List.mem_append_left _ (List.mem_of_getElem? (i := 14) rfl)))))))), List.forall_mem_cons.mpr ⟨List.mem_cons_of_mem _ (List.mem_append_left _ (List.mem_append_left _ (List.mem_append_left _ (List.mem_append_left _ (List.mem_append_left _ (List.mem_append_right _ (List.mem_append_left _ (List.mem_of_getElem? (i := 15) rfl)))))))), List.forall_mem_cons.mpr ⟨List.mem_cons_of_mem _ (List.mem_append_left _ (List.mem_append_left _ (List.mem_append_left _ (List.mem_append_left _ (List.mem_append_left _ (List.mem_append_right _ (List.mem_append_left _ (List.mem_of_getElem? (i := 16) rfl)))))))), List.forall_mem_cons.mpr ⟨List.mem_cons_of_mem _ (List.mem_append_left _ (List.mem_append_left _ (List.mem_append_left _ (List.mem_append_left _ (List.mem_append_left _ (List.mem_append_right _ (List.mem_append_left _ (List.mem_of_getElem? (i := 17) rfl)))))))), List.forall_mem_cons.mpr ⟨List.mem_cons_of_mem _ (List.mem_append_left _ (List.mem_append_left _ (List.mem_append_left _ (List.mem_append_left _ (List.mem_append_left _ (List.mem_append_left _ (List.mem_of_getElem? (i := 8) rfl))))))), List.forall_mem_cons.mpr ⟨List.mem_cons_of_mem _ (List.mem_append_left _ (List.mem_append_left _ (List.mem_append_left _ (List.mem_append_left _ (List.mem_append_left _ (List.mem_append_right _ (List.mem_append_left _ (List.mem_of_getElem? (i := 18) rfl)))))))), List.forall_mem_cons.mpr ⟨List.mem_cons_of_mem _ (List.mem_append_left _ (List.mem_append_left _ (List.mem_append_left _ (List.mem_append_left _ (List.mem_append_left _ (List.mem_append_left _ (List.mem_of_getElem? (i := 10) rfl))))))), List.forall_mem_cons.mpr ⟨List.mem_cons_of_mem _ (List.mem_append_left _ (List.mem_append_left _ (List.mem_append_left _ (List.mem_append_left _ (List.mem_append_left _ (List.mem_append_right _ (List.mem_append_left _ (List.mem_of_getElem? (i := 19) rfl)))))))), fun _ h9 => absurd h9 List.not_mem_nil⟩⟩⟩⟩⟩⟩⟩⟩⟩⟩⟩⟩⟩⟩⟩⟩⟩⟩⟩⟩⟩⟩⟩⟩, List.forall_mem_cons.mpr ⟨List.mem_cons_of_mem _ (List.mem_append_left _ (List.mem_append_left _ (List.mem_append_left _ (List.mem_append_left _ (List.mem_append_left _ (List.mem_append_right _ (List.mem_append_left _ (List.mem_of_getElem? (i := 20) rfl)))))))), List.forall_mem_cons.mpr ⟨List.mem_cons_of_mem _ (List.mem_append_left _ (List.mem_append_left _ (List.mem_append_left _ (List.mem_append_left _ (List.mem_append_left _ (List.mem_append_right _ (List.mem_append_left _ (List.mem_of_getElem? (i := 21) rfl)))))))), List.forall_mem_cons.mpr ⟨List.mem_cons_of_mem _ (List.mem_append_left _ (List.mem_append_left _ (List.mem_append_left _ (List.mem_append_left _ (List.mem_append_left _ (List.mem_append_right _ (List.mem_append_left _ (List.mem_of_getElem? (i := 22) rfl)))))))), List.forall_mem_cons.mpr ⟨List.mem_cons_of_mem _ (List.mem_append_left _ (List.mem_append_left _ (List.mem_append_left _ (List.mem_append_left _ (List.mem_append_left _ (List.mem_append_right _ (List.mem_append_left _ (List.mem_of_getElem? (i := 23) rfl)))))))), List.forall_mem_cons.mpr ⟨List.mem_cons_of_mem _ (List.mem_append_left _ (List.mem_append_left _ (List.mem_append_left _ (List.mem_append_left _ (List.mem_append_left _ (List.mem_append_right _ (List.mem_append_right _ (List.mem_append_left _ (List.mem_of_getElem? (i := 0) rfl))))))))), List.forall_mem_cons.mpr ⟨List.mem_cons_of_mem _ (List.mem_append_left _ (List.mem_append_left _ (List.mem_append_left _ (List.mem_append_left _ (List.mem_append_left _ (List.mem_append_right _ (List.mem_append_right _ (List.mem_append_left _ (List.mem_of_getElem? (i := 1) rfl))))))))), List.forall_mem_cons.mpr ⟨List.mem_cons_of_mem _ (List.mem_append_left _ (List.mem_append_left _ (List.mem_append_left _ (List.mem_append_left _ (List.mem_append_left _ (List.mem_append_right _ (List.mem_append_right _ (List.mem_append_left _ (List.mem_of_getElem? (i := 2) rfl))))))))), List.forall_mem_cons.mpr ⟨List.mem_cons_of_mem _ (List.mem_append_left _ (List.mem_append_left _ (List.mem_append_left _ (List.mem_append_left _ (List.mem_append_left _ (List.mem_append_right _ (List.mem_append_right _ (List.mem_append_left _ (List.mem_of_getElem? (i := 3) rfl))))))))), List.forall_mem_cons.mpr ⟨List.mem_cons_of_mem _ (List.mem_append_left _ (List.mem_append_left _ (List.mem_append_left _ (List.mem_append_left _ (List.mem_append_left _ (List.mem_append_right _ (List.mem_append_right _ (List.mem_append_left _ (List.mem_of_getElem? (i := 4) rfl))))))))), List.forall_mem_cons.mpr ⟨List.mem_cons_of_mem _ (List.mem_append_left _ (List.mem_append_left _ (List.mem_append_left _ (List.mem_append_left _ (List.mem_append_left _ (List.mem_append_right _ (List.mem_append_right _ (List.mem_append_left _ (List.mem_of_getElem? (i := 5) rfl))))))))), List.forall_mem_cons.mpr ⟨List.mem_cons_of_mem _ (List.mem_append_left _ (List.mem_append_left _ (List.mem_append_left _ (List.mem_append_left _ (List.mem_append_left _ (List.mem_append_right _ (List.mem_append_right _ (List.mem_append_left _ (List.mem_of_getElem? (i := 6) rfl))))))))), List.forall_mem_cons.mpr ⟨List.mem_cons_of_mem _ (List.mem_append_left _ (List.mem_append_left _ (List.mem_append_left _ (List.mem_append_left _ (List.mem_append_left _ (List.mem_append_right _ (List.mem_append_right _ (List.mem_append_left _ (List.mem_of_getElem? (i := 7) rfl))))))))), List.forall_mem_cons.mpr ⟨List.mem_cons_of_mem _ (List.mem_append_left _ (List.mem_append_left _ (List.mem_append_left _ (List.mem_append_left _ (List.mem_append_left _ (List.mem_append_right _ (List.mem_append_right _ (List.mem_append_left _ (List.mem_of_getElem? (i := 8) rfl))))))))), List.forall_mem_cons.mpr ⟨List.mem_cons_of_mem _ (List.mem_append_left _ (List.mem_append_left _ (List.mem_append_left _ (List.mem_append_left _ (List.mem_append_left _ (List.mem_append_right _ (List.mem_append_right _ (List.mem_append_left _ (List.mem_of_getElem? (i := 9) rfl))))))))), List.forall_mem_cons.mpr ⟨List.mem_cons_of_mem _ (List.mem_append_left _ (List.mem_append_left _ (List.mem_append_left _ (List.mem_append_left _ (List.mem_append_left _ (List.mem_append_right _ (List.mem_append_right _ (List.mem_append_left _ (List.mem_of_getElem? (i := 10) rfl))))))))), List.forall_mem_cons.mpr ⟨List.mem_cons_of_mem _ (List.mem_append_left _ (List.mem_append_left _ (List.mem_append_left _ (List.mem_append_left _ (List.mem_append_left _ (List.mem_append_right _ (List.mem_append_right _ (List.mem_append_left _ (List.mem_of_getElem? (i := 11) rfl))))))))), List.forall_mem_cons.mpr ⟨List.mem_cons_of_mem _ (List.mem_append_left _ (List.mem_append_left _ (List.mem_append_left _ (List.mem_append_left _ (List.mem_append_left _ (List.mem_append_right _ (List.mem_append_right _ (List.mem_append_left _ (List.mem_of_getElem? (i := 12) rfl))))))))), List.forall_mem_cons.mpr ⟨List.mem_cons_of_mem _ (List.mem_append_left _ (List.mem_append_left _ (List.mem_append_left _ (List.mem_append_left _ (List.mem_append_left _ (List.mem_append_right _ (List.mem_append_right _ (List.mem_append_left _ (List.mem_of_getElem? (i := 13) rfl))))))))), List.forall_mem_cons.mpr ⟨List.mem_cons_of_mem _ (List.mem_append_left _ (List.mem_append_left _ (List.mem_append_left _ (List.mem_append_left _ (List.mem_append_left _ (List.mem_append_right _ (List.mem_append_right _ (List.mem_append_left _ (List.mem_of_getElem? (i := 14) rfl))))))))), List.forall_mem_cons.mpr ⟨List.mem_cons_of_mem _ (List.mem_append_left _ (List.mem_append_left _ (List.mem_append_left _ (List.mem_append_left _ (List.mem_append_left _ (List.mem_append_right _ (List.mem_append_right _ (List.mem_append_left _ (List.mem_of_getElem? (i := 15) rfl))))))))), List.forall_mem_cons.mpr ⟨List.mem_cons_of_mem _ (List.mem_append_left _ (List.mem_append_left _ (List.mem_append_left _ (List.mem_append_left _ (List.mem_append_left _ (List.mem_append_right _ (List.mem_append_right _ (List.mem_append_left _ (List.mem_of_getElem? (i := 16) rfl))))))))), List.forall_mem_cons.mpr ⟨List.mem_cons_of_mem _ (List.mem_append_left _ (List.mem_append_left _ (List.mem_append_left _ (List.mem_append_left _ (List.mem_append_left _ (List.mem_append_right _ (List.mem_append_right _ (List.mem_append_left _ (List.mem_of_getElem? (i := 17) rfl))))))))), fun _ h9 => absurd h9 List.not_mem_nil⟩⟩⟩⟩⟩⟩⟩⟩⟩⟩⟩⟩⟩⟩⟩⟩⟩⟩⟩⟩⟩⟩⟩, fun w h9 => List.mem_cons_of_mem _ (List.mem_append_left _ (List.mem_append_left _ (List.mem_append_right _ (h9))))⟩, fun w h9 => List.mem_cons_of_mem _ (List.mem_append_left _ (List.mem_append_right _ (h9)))⟩, fun w h9 => List.mem_cons_of_mem _ (List.mem_append_left _ (List.mem_append_left _ (List.mem_append_left _ (List.mem_append_right _ (h9)))))⟩, fun w h9 => List.mem_cons_of_mem _ (List.mem_append_right _ (h9))⟩⟩) (by decide +kernel)
set_option maxRecDepth 20000 in
theorem gX8_without_X4_make : GoodIn wsX8_without (wsV RX8 231 RX4 yX4_make wsX4_make) := goodIn_app (goodIn_4 _ (List.forall_mem_cons.mpr ⟨List.mem_cons_of_mem _ (List.mem_append_left _ (List.mem_append_left _ (List.mem_append_left _ (List.mem_append_left _ (List.mem_append_left _ (List.mem_append_left _ (List.mem_of_getElem? (i := 18) rfl))))))), List.forall_mem_cons.mpr ⟨List.mem_cons_of_mem _ (List.mem_append_left _ (List.mem_append_left _ (List.mem_append_left _ (List.mem_append_left _ (List.mem_append_left _ (List.mem_append_left _ (List.mem_of_getElem? (i := 19) rfl))))))), List.forall_mem_cons.mpr ⟨List.mem_cons_of_mem _ (List.mem_append_left _ (List.mem_append_left _ (List.mem_append_left _ (List.mem_append_left _ (List.mem_append_left _ (List.mem_append_left _ (List.mem_of_getElem? (i := 20) rfl))))))), List.forall_mem_cons.mpr ⟨List.mem_cons_of_mem _ (List.mem_append_left _ (List.mem_append_left _ (List.mem_append_left _ (List.mem_append_left _ (List.mem_append_left _ (List.mem_append_left _ (List.mem_of_getElem? (i := 21) rfl))))))), fun _ h9 => absurd h9 List.not_mem_nil⟩⟩⟩⟩) (by decide +kernel)) ggX8_without_X4_make
set_option maxRecDepth 20000 in
theorem mw_X8_without_0 : (.fieldLink RX8 28 "FontRuns" "fontRow" "LFontRuns$FontRow;" : Cond) ∈ wsX8_without := List.mem_cons_of_mem _ (List.mem_append_left _ (List.mem_append_left _ (List.mem_append_left _ (List.mem_append_left _ (List.mem_append_left _ (List.mem_append_left _ (List.mem_of_getElem? (i := 0) rfl)))))))
set_option maxRecDepth 20000 in
theorem mw_X8_without_1 : (.fieldLink RX8 106 "FontRuns$FontRow" "count" "I" : Cond) ∈ wsX8_without := List.mem_cons_of_mem _ (List.mem_append_left _ (List.mem_append_left _ (List.mem_append_left _ (List.mem_append_left _ (List.mem_append_left _ (List.mem_append_left _ (List.mem_of_getElem? (i := 1) rfl)))))))
set_option maxRecDepth 20000 in
theorem mw_X8_without_2 : (.fieldLink RX8 73 "FontRuns" "supposedSetting" "LFontRuns$Setting;" : Cond) ∈ wsX8_without := List.mem_cons_of_mem _ (List.mem_append_left _ (List.mem_append_left _ (List.mem_append_left _ (List.mem_append_left _ (List.mem_append_left _ (List.mem_append_left _ (List.mem_of_getElem? (i := 2) rfl)))))))
set_option maxRecDepth 20000 in
theorem mw_X8_without_3 : (.fieldLink RX8 35 "FontRuns" "writing" "LFontRuns$Writing;" : Cond) ∈ wsX8_without := List.mem_cons_of_mem _ (List.mem_append_left _ (List.mem_append_left _ (List.mem_append_left _ (List.mem_append_left _ (List.mem_append_left _ (List.mem_append_left _ (List.mem_of_getElem? (i := 3) rfl)))))))
set_option maxRecDepth 20000 in
theorem mw_X8_without_4 : (.fieldLink RX8 42 "FontRuns" "preference" "LFontRuns$Preference;" : Cond) ∈ wsX8_without := List.mem_cons_of_mem _ (List.mem_append_left _ (List.mem_append_left _ (List.mem_append_left _ (List.mem_append_left _ (List.mem_append_left _ (List.mem_append_left _ (List.mem_of_getElem? (i := 4) rfl)))))))
theorem ax_X8_without_0 {e0 e1 e2 e3 e4 e5 e6 e7 e8 e9 e10 e11 e12 e13 e14 : Nat × va_E} {k : va_W} : ([11] : List Nat).map (fun i => (([e0, e1, e2, e3, e4, e5, e6, e7, e8, e9, e10, e11, e12, e13, e14] : va_W) ++ k)[i]?) = ([e11] : va_W).map some := rfl
theorem ax_X8_without_1 {e0 e1 e2 e3 e4 e5 e6 e7 e8 e9 e10 e11 e12 e13 e14 : Nat × va_E} : ([1, 2, 3, 4, 5, 6, 7, 8, 9, 10, 11, 12, 13, 14] : List Nat).map (fun i => ([e0, e1, e2, e3, e4, e5, e6, e7, e8, e9, e10, e11, e12, e13, e14] : va_W)[i]?) = ([e1, e2, e3, e4, e5, e6, e7, e8, e9, e10, e11, e12, e13, e14] : va_W).map some := rfl
theorem ax_X8_without_2 {e0 e1 e2 e3 e4 e5 e6 e7 e8 e9 e10 e11 e12 e13 e14 : Nat × va_E} : ([0] : List Nat).map (fun i => ([e0, e1, e2, e3, e4, e5, e6, e7, e8, e9, e10, e11, e12, e13, e14] : va_W)[i]?) = ([e0] : va_W).map some := rfl
theorem ax_X8_without_3 {D : va_G} {cl : List vw_C} {H : Heap} {e0 f0 f1 f2 f3 f4 f5 f6 f7 f8 f9 f10 f11 f12 f13 : Nat × va_E} {k : va_W} (h : va_P D cl ((([e0] : va_W) ++ ([f0, f1, f2, f3, f4, f5, f6, f7, f8, f9, f10, f11, f12, f13] : va_W)) ++ k) H) : va_P D cl (([e0, f0, f1, f2, f3, f4, f5, f6, f7, f8, f9, f10, f11, f12, f13] : va_W) ++ k) H := h
theorem ax_X8_without_4 {A : Nat → Prop} {e0 f0 f1 f2 f3 f4 f5 f6 f7 f8 f9 f10 f11 f12 f13 : Nat × va_E} {k : va_W} (h : va_D A ((([e0] : va_W) ++ ([f0, f1, f2, f3, f4, f5, f6, f7, f8, f9, f10, f11, f12, f13] : va_W)) ++ k)) : va_D A (([e0, f0, f1, f2, f3, f4, f5, f6, f7, f8, f9, f10, f11, f12, f13] : va_W) ++ k) := h
theorem ax_X8_without_5 {e0 e1 e2 e3 e4 e5 e6 e7 e8 e9 e10 e11 e12 e13 e14 : Nat × va_E} {k : va_W} : ([1] : List Nat).map (fun i => (([e0, e1, e2, e3, e4, e5, e6, e7, e8, e9, e10, e11, e12, e13, e14] : va_W) ++ k)[i]?) = ([e1] : va_W).map some := rfl
theorem ax_X8_without_6 {e0 e1 e2 e3 e4 e5 e6 e7 e8 e9 e10 e11 e12 e13 e14 : Nat × va_E} : ([0, 1, 2, 3, 4, 5, 6, 7, 8, 9, 10, 11, 12, 13, 14] : List Nat).map (fun i => ([e0, e1, e2, e3, e4, e5, e6, e7, e8, e9, e10, e11, e12, e13, e14] : va_W)[i]?) = ([e0, e1, e2, e3, e4, e5, e6, e7, e8, e9, e10, e11, e12, e13, e14] : va_W).map some := rfl
set_option maxHeartbeats 4000000 in
set_option maxRecDepth 100000 in
theorem c_X8_without (l : Launch) (D : va_G) (sz : Nat) (f : Int) (h0 : Nat) (sh : Nat) (rd : Nat) (fr : Nat) (wr : Nat) (pf : Nat) (rc : Nat) (se : Nat) (rs : Nat) (sw : Nat) (sp : Nat) (ss : Nat) (ew : Int) (wc : Int64) (tr : Int) (lf : Int) (sg1 : Nat) (sg2 : Nat) (sg3 : Nat) (sg4 : Nat) (sg5 : Nat) (scn : Int) (sbo : Int) (sru : Int) (sg6 : Nat) (sg7 : Nat) (scg1 : ClassId) (sf1 : Nat → Int32) (scg2 : ClassId) (sf2 : Nat → Int32) (scg3 : ClassId) (sf3 : Nat → Int32) (scg4 : ClassId) (sf4 : Nat → Int32) (scg5 : ClassId) (sf5 : Nat → Int32) (scg6 : ClassId) (sf6 : Nat → Int32) (scg7 : ClassId) (sfo : Nat → Option Nat) (o3 : Nat) (w1 : Nat) (wn : Int) (cw1 : ClassId) (fw : Nat → Int32) (k1 : Nat) (k2 : Nat) (k3 : Nat) (fn : Int) (ck3 : ClassId) (fh : Nat → Int32) (p1 : Nat) (pn : Int) (cp1 : ClassId) (fp : Nat → Int32) (pr : Nat → Nat) (gp : Nat → Nat → Int32) (cy : ClassId) (q0 : rg f) (q1 : 0 ≤ scn ∧ scn ≤ 24) (q2 : 0 ≤ sbo ∧ sbo ≤ 24) (q3 : 0 ≤ sru ∧ sru ≤ scn) (q4 : kOut sfo pr o3 24) (q5 : o3 + 24 ≤ 56) (q6 : 0 ≤ wn ∧ wn ≤ 24) (q7 : 0 ≤ fn ∧ fn ≤ 4) (q8 : 0 ≤ pn ∧ pn ≤ 4) (q9 : kPr fp) : Met l yX8_without wsX8_without ({ frames := 3, cells := 0, slots := 0, locals := 75 }) (kPre [.ref h0, .int (zI f)] D (([(h0, .inr (8, [.ref sh, .ref rd, .ref fr, .ref wr, .ref pf, .ref rc, .ref se, .ref rs, .ref sw, .ref sp, .ref ss, .int (zI ew), .long wc, .int (zI tr), .int (zI lf)])), (ss, .inr (4, [.ref sg1, .ref sg2, .ref sg3, .ref sg4, .ref sg5, .int (zI scn), .int (zI sbo), .int (zI sru), .ref sg6, .ref sg7])), (sg1, .inl (scg1, 24, .inl sf1)), (sg2, .inl (scg2, 24, .inl sf2)), (sg3, .inl (scg3, 24, .inl sf3)), (sg4, .inl (scg4, 24, .inl sf4)), (sg5, .inl (scg5, 24, .inl sf5)), (sg6, .inl (scg6, 24, .inl sf6)), (sg7, .inl (scg7, 24, .inr (.inr (.inr (.inr (sfo)))))), (wr, .inr (7, [.ref w1, .int (zI wn)])), (w1, .inl (cw1, 24, .inl fw)), (fr, .inr (0, [.ref k1, .ref k2, .ref k3, .int (zI fn)])), (k3, .inl (ck3, 4, .inl fh)), (pf, .inr (1, [.ref p1, .int (zI pn)])), (p1, .inl (cp1, 4, .inl fp))] : va_W) ++ kRows pr gp cy) [(scg1, .int), (scg2, .int), (scg3, .int), (scg4, .int), (scg5, .int), (scg6, .int), (scg7, .array .int), (cw1, .int), (ck3, .int), (cp1, .int), (cy, .int)] sz) (kQS (fun rz t => ∃ (u_scn : Int) (u_sbo : Int) (u_sru : Int) (u_sf1 : Nat → Int32) (u_sf2 : Nat → Int32) (u_sf3 : Nat → Int32) (u_sf4 : Nat → Int32) (u_sf5 : Nat → Int32) (u_sf6 : Nat → Int32) (u_gp : Nat → Nat → Int32), (0 ≤ u_scn ∧ u_scn ≤ 24) ∧ (0 ≤ u_sbo ∧ u_sbo ≤ 24) ∧ (0 ≤ u_sru ∧ u_sru ≤ u_scn) ∧ va_P D vwCl (([(h0, .inr (8, [.ref sh, .ref rd, .ref fr, .ref wr, .ref pf, .ref rc, .ref se, .ref rs, .ref sw, .ref sp, .ref ss, .int (zI ew), .long wc, .int (zI tr), .int (zI lf)])), (ss, .inr (4, [.ref sg1, .ref sg2, .ref sg3, .ref sg4, .ref sg5, .int (zI u_scn), .int (zI u_sbo), .int (zI u_sru), .ref sg6, .ref sg7])), (sg1, .inl (scg1, 24, .inl u_sf1)), (sg2, .inl (scg2, 24, .inl u_sf2)), (sg3, .inl (scg3, 24, .inl u_sf3)), (sg4, .inl (scg4, 24, .inl u_sf4)), (sg5, .inl (scg5, 24, .inl u_sf5)), (sg6, .inl (scg6, 24, .inl u_sf6)), (sg7, .inl (scg7, 24, .inr (.inr (.inr (.inr (sfo)))))), (wr, .inr (7, [.ref w1, .int (zI wn)])), (w1, .inl (cw1, 24, .inl fw)), (fr, .inr (0, [.ref k1, .ref k2, .ref k3, .int (zI fn)])), (k3, .inl (ck3, 4, .inl fh)), (pf, .inr (1, [.ref p1, .int (zI pn)])), (p1, .inl (cp1, 4, .inl fp))] : va_W) ++ kRows pr u_gp cy) t.heap ∧ va_D (va_A (([(h0, .inr (8, [.ref sh, .ref rd, .ref fr, .ref wr, .ref pf, .ref rc, .ref se, .ref rs, .ref sw, .ref sp, .ref ss, .int (zI ew), .long wc, .int (zI tr), .int (zI lf)])), (ss, .inr (4, [.ref sg1, .ref sg2, .ref sg3, .ref sg4, .ref sg5, .int (zI scn), .int (zI sbo), .int (zI sru), .ref sg6, .ref sg7])), (sg1, .inl (scg1, 24, .inl sf1)), (sg2, .inl (scg2, 24, .inl sf2)), (sg3, .inl (scg3, 24, .inl sf3)), (sg4, .inl (scg4, 24, .inl sf4)), (sg5, .inl (scg5, 24, .inl sf5)), (sg6, .inl (scg6, 24, .inl sf6)), (sg7, .inl (scg7, 24, .inr (.inr (.inr (.inr (sfo)))))), (wr, .inr (7, [.ref w1, .int (zI wn)])), (w1, .inl (cw1, 24, .inl fw)), (fr, .inr (0, [.ref k1, .ref k2, .ref k3, .int (zI fn)])), (k3, .inl (ck3, 4, .inl fh)), (pf, .inr (1, [.ref p1, .int (zI pn)])), (p1, .inl (cp1, 4, .inl fp))] : va_W) ++ kRows pr gp cy) sz) (([(h0, .inr (8, [.ref sh, .ref rd, .ref fr, .ref wr, .ref pf, .ref rc, .ref se, .ref rs, .ref sw, .ref sp, .ref ss, .int (zI ew), .long wc, .int (zI tr), .int (zI lf)])), (ss, .inr (4, [.ref sg1, .ref sg2, .ref sg3, .ref sg4, .ref sg5, .int (zI u_scn), .int (zI u_sbo), .int (zI u_sru), .ref sg6, .ref sg7])), (sg1, .inl (scg1, 24, .inl u_sf1)), (sg2, .inl (scg2, 24, .inl u_sf2)), (sg3, .inl (scg3, 24, .inl u_sf3)), (sg4, .inl (scg4, 24, .inl u_sf4)), (sg5, .inl (scg5, 24, .inl u_sf5)), (sg6, .inl (scg6, 24, .inl u_sf6)), (sg7, .inl (scg7, 24, .inr (.inr (.inr (.inr (sfo)))))), (wr, .inr (7, [.ref w1, .int (zI wn)])), (w1, .inl (cw1, 24, .inl fw)), (fr, .inr (0, [.ref k1, .ref k2, .ref k3, .int (zI fn)])), (k3, .inl (ck3, 4, .inl fh)), (pf, .inr (1, [.ref p1, .int (zI pn)])), (p1, .inl (cp1, 4, .inl fp))] : va_W) ++ kRows pr u_gp cy)) (va_A (([(h0, .inr (8, [.ref sh, .ref rd, .ref fr, .ref wr, .ref pf, .ref rc, .ref se, .ref rs, .ref sw, .ref sp, .ref ss, .int (zI ew), .long wc, .int (zI tr), .int (zI lf)])), (ss, .inr (4, [.ref sg1, .ref sg2, .ref sg3, .ref sg4, .ref sg5, .int (zI scn), .int (zI sbo), .int (zI sru), .ref sg6, .ref sg7])), (sg1, .inl (scg1, 24, .inl sf1)), (sg2, .inl (scg2, 24, .inl sf2)), (sg3, .inl (scg3, 24, .inl sf3)), (sg4, .inl (scg4, 24, .inl sf4)), (sg5, .inl (scg5, 24, .inl sf5)), (sg6, .inl (scg6, 24, .inl sf6)), (sg7, .inl (scg7, 24, .inr (.inr (.inr (.inr (sfo)))))), (wr, .inr (7, [.ref w1, .int (zI wn)])), (w1, .inl (cw1, 24, .inl fw)), (fr, .inr (0, [.ref k1, .ref k2, .ref k3, .int (zI fn)])), (k3, .inl (ck3, 4, .inl fh)), (pf, .inr (1, [.ref p1, .int (zI pn)])), (p1, .inl (cp1, 4, .inl fp))] : va_W) ++ kRows pr gp cy) sz)) 0 0 (va_A (([(h0, .inr (8, [.ref sh, .ref rd, .ref fr, .ref wr, .ref pf, .ref rc, .ref se, .ref rs, .ref sw, .ref sp, .ref ss, .int (zI ew), .long wc, .int (zI tr), .int (zI lf)])), (ss, .inr (4, [.ref sg1, .ref sg2, .ref sg3, .ref sg4, .ref sg5, .int (zI scn), .int (zI sbo), .int (zI sru), .ref sg6, .ref sg7])), (sg1, .inl (scg1, 24, .inl sf1)), (sg2, .inl (scg2, 24, .inl sf2)), (sg3, .inl (scg3, 24, .inl sf3)), (sg4, .inl (scg4, 24, .inl sf4)), (sg5, .inl (scg5, 24, .inl sf5)), (sg6, .inl (scg6, 24, .inl sf6)), (sg7, .inl (scg7, 24, .inr (.inr (.inr (.inr (sfo)))))), (wr, .inr (7, [.ref w1, .int (zI wn)])), (w1, .inl (cw1, 24, .inl fw)), (fr, .inr (0, [.ref k1, .ref k2, .ref k3, .int (zI fn)])), (k3, .inl (ck3, 4, .inl fh)), (pf, .inr (1, [.ref p1, .int (zI pn)])), (p1, .inl (cp1, 4, .inl fp))] : va_W) ++ kRows pr gp cy) sz) := by
  refine Met.ofW (cc := cX8_without) (maxL := 2) (ret := (some .int)) (by decide) rfl ?_
  intro p e s m args below meth c s₁ B hml hv
  obtain ⟨rfl, hsz, hP, hK, hD0, hN⟩ := hv
  have hx := B.exec
  have hb := B.bytes
  have hr := B.returns
  have hts := atoms_spec (ws := wsX8_without) B.pre
  have hown : s.vm.findClass RX8 = some m.cls := findClass_of_methodNamed B.named
  have hlocks := B.notSynchronized
  subst hsz
  have hD := hD0.self (sz := s.heap.size)
  generalize hAe : va_A (([(h0, .inr (8, [.ref sh, .ref rd, .ref fr, .ref wr, .ref pf, .ref rc, .ref se, .ref rs, .ref sw, .ref sp, .ref ss, .int (zI ew), .long wc, .int (zI tr), .int (zI lf)])), (ss, .inr (4, [.ref sg1, .ref sg2, .ref sg3, .ref sg4, .ref sg5, .int (zI scn), .int (zI sbo), .int (zI sru), .ref sg6, .ref sg7])), (sg1, .inl (scg1, 24, .inl sf1)), (sg2, .inl (scg2, 24, .inl sf2)), (sg3, .inl (scg3, 24, .inl sf3)), (sg4, .inl (scg4, 24, .inl sf4)), (sg5, .inl (scg5, 24, .inl sf5)), (sg6, .inl (scg6, 24, .inl sf6)), (sg7, .inl (scg7, 24, .inr (.inr (.inr (.inr (sfo)))))), (wr, .inr (7, [.ref w1, .int (zI wn)])), (w1, .inl (cw1, 24, .inl fw)), (fr, .inr (0, [.ref k1, .ref k2, .ref k3, .int (zI fn)])), (k3, .inl (ck3, 4, .inl fh)), (pf, .inr (1, [.ref p1, .int (zI pn)])), (p1, .inl (cp1, 4, .inl fp))] : va_W) ++ kRows pr gp cy) s.heap.size = A at hD ⊢
  have hA : ∀ q : Nat, s.heap.size ≤ q → A q := fun q h => by rw [← hAe]; exact Or.inr h
  have hS : va_S A s.heap s.heap [] := va_S.rf
  have hP : va_P D vwCl (([(h0, .inr (8, [.ref sh, .ref rd, .ref fr, .ref wr, .ref pf, .ref rc, .ref se, .ref rs, .ref sw, .ref sp, .ref ss, .int (zI ew), .long wc, .int (zI tr), .int (zI lf)])), (ss, .inr (4, [.ref sg1, .ref sg2, .ref sg3, .ref sg4, .ref sg5, .int (zI scn), .int (zI sbo), .int (zI sru), .ref sg6, .ref sg7])), (sg1, .inl (scg1, 24, .inl sf1)), (sg2, .inl (scg2, 24, .inl sf2)), (sg3, .inl (scg3, 24, .inl sf3)), (sg4, .inl (scg4, 24, .inl sf4)), (sg5, .inl (scg5, 24, .inl sf5)), (sg6, .inl (scg6, 24, .inl sf6)), (sg7, .inl (scg7, 24, .inr (.inr (.inr (.inr (sfo)))))), (wr, .inr (7, [.ref w1, .int (zI wn)])), (w1, .inl (cw1, 24, .inl fw)), (fr, .inr (0, [.ref k1, .ref k2, .ref k3, .int (zI fn)])), (k3, .inl (ck3, 4, .inl fh)), (pf, .inr (1, [.ref p1, .int (zI pn)])), (p1, .inl (cp1, 4, .inl fp))] : va_W) ++ kRows pr gp cy) s.heap := hP
  have hl := lv_entry ([.ref h0, .int (zI f)]) (n := 2) (Nat.le_of_ble_eq_true rfl)
  rw [lg_entry_eq]
  generalize (lg_sl ([.ref h0, .int (zI f)]) ++ List.replicate (2 - (lg_sl ([.ref h0, .int (zI f)])).length) Slot.unset).toArray = ls at hl ⊢
  have hl : lv_has ls 2 [(0, .ref h0), (1, .int (zI f))] := hl
  refine lv_aload_n hx hb dX8_without_0 rfl (lv_at hl 0 rfl) ?_
  refine va_get (D := D) (ci := 8) (v := .ref fr) (C := RX8) (T := TX8) (N := 15) hx hb hts (fun _ h9 => List.mem_cons_of_mem _ (List.mem_append_left _ (List.mem_append_left _ (List.mem_append_left _ (List.mem_append_left _ (List.mem_append_right _ h9)))))) hown hK hP 0 rfl rfl 2 (by decide) (hts (.fieldLink RX8 28 "FontRuns" "fontRow" "LFontRuns$FontRow;") mw_X8_without_0) (fun _ h9 => h9) rfl dX8_without_1 ?_
  refine lv_iload_n hx hb dX8_without_4 rfl (lv_at hl 1 rfl) ?_
  refine k_callR (va_runV (As := [.int (zI f)]) (rest := []) ⟨hx, hb, hml, hown, hts⟩ (c_X0_isFont l D s.heap.size (f := f) (h0 := fr) (k1 := k1) (k2 := k2) (k3 := k3) (n := fn) q0 q7) (cwV 1 hts gX8_without_X0_isFont rfl rfl rfl (by decide +kernel) ⟨Nat.le_of_ble_eq_true rfl, Nat.le_of_ble_eq_true rfl⟩) (kPreV hP (kD0 hD) hK hN [11] [] ax_X8_without_0 rfl (by decide +kernel) 11 0 rfl rfl) rfl rfl hl.1 rfl (lv_room (Nat.le_of_ble_eq_true rfl)) dX8_without_5 ⟨Nat.le_of_ble_eq_true rfl, Nat.le_of_ble_eq_true rfl⟩) ?_
  refine lv_if_ne (tgt := 13) hx hb dX8_without_8 (by decide) (fun c_1 => ?_) (fun c_1 => ?_)
  · have c_1 : 0 ≤ f ∧ f ≤ fn - 1 := b01t c_1
    refine lv_aload_n hx hb dX8_without_13 rfl (lv_at hl 0 rfl) ?_
    refine va_get (D := D) (ci := 8) (v := .ref fr) (C := RX8) (T := TX8) (N := 15) hx hb hts (fun _ h9 => List.mem_cons_of_mem _ (List.mem_append_left _ (List.mem_append_left _ (List.mem_append_left _ (List.mem_append_left _ (List.mem_append_right _ h9)))))) hown hK hP 0 rfl rfl 2 (by decide) (hts (.fieldLink RX8 28 "FontRuns" "fontRow" "LFontRuns$FontRow;") mw_X8_without_0) (fun _ h9 => h9) rfl dX8_without_14 ?_
    refine va_get (D := D) (ci := 0) (v := .int (zI fn)) (C := RX0) (T := TX0) (N := 4) hx hb hts (fun _ h9 => List.mem_cons_of_mem _ (List.mem_append_left _ (List.mem_append_left _ (List.mem_append_left _ (List.mem_append_right _ h9))))) hown hK hP 11 rfl rfl 3 (by decide) (hts (.fieldLink RX8 106 "FontRuns$FontRow" "count" "I") mw_X8_without_1) (fun _ h9 => h9) rfl dX8_without_17 ?_
    refine lv_iconst (v := zI 1) hx hb dX8_without_20 rfl ?_
    refine kz_icmp_ne (tgt := 27) hx hb dX8_without_21 (by decide) (by omega) (by omega) (fun c_2 => ?_) (fun c_2 => ?_)
    · refine lv_aload_n hx hb dX8_without_27 rfl (lv_at hl 0 rfl) ?_
      refine va_get (D := D) (ci := 8) (v := .ref ss) (C := RX8) (T := TX8) (N := 15) hx hb hts (fun _ h9 => List.mem_cons_of_mem _ (List.mem_append_left _ (List.mem_append_left _ (List.mem_append_left _ (List.mem_append_left _ (List.mem_append_right _ h9)))))) hown hK hP 0 rfl rfl 10 (by decide) (hts (.fieldLink RX8 73 "FontRuns" "supposedSetting" "LFontRuns$Setting;") mw_X8_without_2) (fun _ h9 => h9) rfl dX8_without_28 ?_
      refine lv_aload_n hx hb dX8_without_31 rfl (lv_at hl 0 rfl) ?_
      refine va_get (D := D) (ci := 8) (v := .ref wr) (C := RX8) (T := TX8) (N := 15) hx hb hts (fun _ h9 => List.mem_cons_of_mem _ (List.mem_append_left _ (List.mem_append_left _ (List.mem_append_left _ (List.mem_append_left _ (List.mem_append_right _ h9)))))) hown hK hP 0 rfl rfl 3 (by decide) (hts (.fieldLink RX8 35 "FontRuns" "writing" "LFontRuns$Writing;") mw_X8_without_3) (fun _ h9 => h9) rfl dX8_without_32 ?_
      refine lv_aload_n hx hb dX8_without_35 rfl (lv_at hl 0 rfl) ?_
      refine va_get (D := D) (ci := 8) (v := .ref fr) (C := RX8) (T := TX8) (N := 15) hx hb hts (fun _ h9 => List.mem_cons_of_mem _ (List.mem_append_left _ (List.mem_append_left _ (List.mem_append_left _ (List.mem_append_left _ (List.mem_append_right _ h9)))))) hown hK hP 0 rfl rfl 2 (by decide) (hts (.fieldLink RX8 28 "FontRuns" "fontRow" "LFontRuns$FontRow;") mw_X8_without_0) (fun _ h9 => h9) rfl dX8_without_36 ?_
      refine lv_aload_n hx hb dX8_without_39 rfl (lv_at hl 0 rfl) ?_
      refine va_get (D := D) (ci := 8) (v := .ref pf) (C := RX8) (T := TX8) (N := 15) hx hb hts (fun _ h9 => List.mem_cons_of_mem _ (List.mem_append_left _ (List.mem_append_left _ (List.mem_append_left _ (List.mem_append_left _ (List.mem_append_right _ h9)))))) hown hK hP 0 rfl rfl 4 (by decide) (hts (.fieldLink RX8 42 "FontRuns" "preference" "LFontRuns$Preference;") mw_X8_without_4) (fun _ h9 => h9) rfl dX8_without_40 ?_
      refine lv_aload_n hx hb dX8_without_43 rfl (lv_at hl 0 rfl) ?_
      refine va_get (D := D) (ci := 8) (v := .ref fr) (C := RX8) (T := TX8) (N := 15) hx hb hts (fun _ h9 => List.mem_cons_of_mem _ (List.mem_append_left _ (List.mem_append_left _ (List.mem_append_left _ (List.mem_append_left _ (List.mem_append_right _ h9)))))) hown hK hP 0 rfl rfl 2 (by decide) (hts (.fieldLink RX8 28 "FontRuns" "fontRow" "LFontRuns$FontRow;") mw_X8_without_0) (fun _ h9 => h9) rfl dX8_without_44 ?_
      refine k_callP (va_runV (As := []) (rest := [.ref pf, .ref fr, .ref wr, .ref ss]) ⟨hx, hb, hml, hown, hts⟩ (c_X0_all l D s.heap.size (h0 := fr) (k1 := k1) (k2 := k2) (k3 := k3) (n := fn) q7) (cwV 0 hts gX8_without_X0_all rfl rfl rfl (by decide +kernel) ⟨Nat.le_of_ble_eq_true rfl, Nat.le_of_ble_eq_true rfl⟩) (kPreV hP (kD0 hD) hK hN [11] [] ax_X8_without_0 rfl (by decide +kernel) 11 0 rfl rfl) rfl rfl hl.1 rfl (lv_room (Nat.le_of_ble_eq_true rfl)) dX8_without_47 ⟨Nat.le_of_ble_eq_true rfl, Nat.le_of_ble_eq_true rfl⟩) (fun z_3 rz_3 h_4 => ?_)
      refine lv_iconst (v := zI 1) hx hb dX8_without_50 rfl ?_
      refine lv_iload_n hx hb dX8_without_51 rfl (lv_at hl 1 rfl) ?_
      refine lv_ishl hx hb dX8_without_52 ?_
      refine kz_any (fun z_5 rz_5 ez_5 => ?_)
      refine lv_iconst (v := zI (-1)) hx hb dX8_without_53 rfl ?_
      refine lv_ixor hx hb dX8_without_54 ?_
      refine kz_any (fun z_6 rz_6 ez_6 => ?_)
      refine lv_iand hx hb dX8_without_55 ?_
      refine kz_any (fun z_7 rz_7 ez_7 => ?_)
      have hFc := va_freeP (cx := [(ss, .inr (4, [.ref sg1, .ref sg2, .ref sg3, .ref sg4, .ref sg5, .int (zI scn), .int (zI sbo), .int (zI sru), .ref sg6, .ref sg7])), (sg1, .inl (scg1, 24, .inl sf1)), (sg2, .inl (scg2, 24, .inl sf2)), (sg3, .inl (scg3, 24, .inl sf3)), (sg4, .inl (scg4, 24, .inl sf4)), (sg5, .inl (scg5, 24, .inl sf5)), (sg6, .inl (scg6, 24, .inl sf6)), (sg7, .inl (scg7, 24, .inr (.inr (.inr (.inr (sfo)))))), (wr, .inr (7, [.ref w1, .int (zI wn)])), (w1, .inl (cw1, 24, .inl fw)), (fr, .inr (0, [.ref k1, .ref k2, .ref k3, .int (zI fn)])), (k3, .inl (ck3, 4, .inl fh)), (pf, .inr (1, [.ref p1, .int (zI pn)])), (p1, .inl (cp1, 4, .inl fp))]) hD hS hA [1, 2, 3, 4, 5, 6, 7, 8, 9, 10, 11, 12, 13, 14] ax_X8_without_1
      refine va_callv (va_runV (As := [.ref wr, .ref fr, .ref pf, .int (zI z_7)]) (rest := []) ⟨hx, hb, hml, hown, hts⟩ (c_X4_make l D s.heap.size (wr := wr) (fr := fr) (pf := pf) (al := z_7) (h0 := ss) (g1 := sg1) (g2 := sg2) (g3 := sg3) (g4 := sg4) (g5 := sg5) (cn := scn) (bo := sbo) (ru := sru) (g6 := sg6) (g7 := sg7) (cg1 := scg1) (f1 := sf1) (cg2 := scg2) (f2 := sf2) (cg3 := scg3) (f3 := sf3) (cg4 := scg4) (f4 := sf4) (cg5 := scg5) (f5 := sf5) (cg6 := scg6) (f6 := sf6) (cg7 := scg7) (fo := sfo) (o := o3) (w1 := w1) (wn := wn) (cw1 := cw1) (fw := fw) (k1 := k1) (k2 := k2) (k3 := k3) (n := fn) (ck3 := ck3) (fh := fh) (p1 := p1) (pn := pn) (cp1 := cp1) (fp := fp) (pr := pr) (gp := gp) (cy := cy) (by omega) q6 q7 q8 q9 q4 q5) (cwV 4 hts gX8_without_X4_make rfl rfl rfl (by decide +kernel) ⟨Nat.le_of_ble_eq_true rfl, Nat.le_of_ble_eq_true rfl⟩) (kPreVP hP (kD0 hD) hK hN [1, 2, 3, 4, 5, 6, 7, 8, 9, 10, 11, 12, 13, 14] [0, 1, 2, 3, 4, 5, 6, 7, 8, 9, 10] ax_X8_without_1 rfl (by decide +kernel) 1 4 rfl rfl) rfl rfl hl.1 rfl (lv_room (Nat.le_of_ble_eq_true rfl)) dX8_without_56 ⟨Nat.le_of_ble_eq_true rfl, Nat.le_of_ble_eq_true rfl⟩) hS (fun q _ h => hFc q h) hFc (fun u t H1 locs ht hvm hw hB hz1 hk1 hS => ?_)
      refine Exists.elim hB (fun uc_8 hB1 => Exists.elim hB1 (fun ub_9 hB2 => Exists.elim hB2 (fun ur_10 hB3 => Exists.elim hB3 (fun v1_11 hB4 => Exists.elim hB4 (fun v2_12 hB5 => Exists.elim hB5 (fun v3_13 hB6 => Exists.elim hB6 (fun v4_14 hB7 => Exists.elim hB7 (fun v5_15 hB8 => Exists.elim hB8 (fun v6_16 hB9 => Exists.elim hB9 (fun ug_17 hB10 => ?_))))))))))
      have h_18 := hB10.1
      have h_19 := hB10.2.1
      have h_20 := hB10.2.2.1
      have hP1 := hB10.2.2.2.1
      have hD1 := hB10.2.2.2.2
      clear hB hB1 hB2 hB3 hB4 hB5 hB6 hB7 hB8 hB9 hB10
      rw [ht] at hP1
      obtain ⟨hP, hD⟩ := va_joinP (X := [(h0, .inr (8, [.ref sh, .ref rd, .ref fr, .ref wr, .ref pf, .ref rc, .ref se, .ref rs, .ref sw, .ref sp, .ref ss, .int (zI ew), .long wc, .int (zI tr), .int (zI lf)])), (ss, .inr (4, [.ref sg1, .ref sg2, .ref sg3, .ref sg4, .ref sg5, .int (zI scn), .int (zI sbo), .int (zI sru), .ref sg6, .ref sg7])), (sg1, .inl (scg1, 24, .inl sf1)), (sg2, .inl (scg2, 24, .inl sf2)), (sg3, .inl (scg3, 24, .inl sf3)), (sg4, .inl (scg4, 24, .inl sf4)), (sg5, .inl (scg5, 24, .inl sf5)), (sg6, .inl (scg6, 24, .inl sf6)), (sg7, .inl (scg7, 24, .inr (.inr (.inr (.inr (sfo)))))), (wr, .inr (7, [.ref w1, .int (zI wn)])), (w1, .inl (cw1, 24, .inl fw)), (fr, .inr (0, [.ref k1, .ref k2, .ref k3, .int (zI fn)])), (k3, .inl (ck3, 4, .inl fh)), (pf, .inr (1, [.ref p1, .int (zI pn)])), (p1, .inl (cp1, 4, .inl fp))]) (wr := [(h0, .inr (8, [.ref sh, .ref rd, .ref fr, .ref wr, .ref pf, .ref rc, .ref se, .ref rs, .ref sw, .ref sp, .ref ss, .int (zI ew), .long wc, .int (zI tr), .int (zI lf)]))]) (rx := [(ss, .inr (4, [.ref sg1, .ref sg2, .ref sg3, .ref sg4, .ref sg5, .int (zI uc_8), .int (zI ub_9), .int (zI ur_10), .ref sg6, .ref sg7])), (sg1, .inl (scg1, 24, .inl v1_11)), (sg2, .inl (scg2, 24, .inl v2_12)), (sg3, .inl (scg3, 24, .inl v3_13)), (sg4, .inl (scg4, 24, .inl v4_14)), (sg5, .inl (scg5, 24, .inl v5_15)), (sg6, .inl (scg6, 24, .inl v6_16)), (sg7, .inl (scg7, 24, .inr (.inr (.inr (.inr (sfo)))))), (wr, .inr (7, [.ref w1, .int (zI wn)])), (w1, .inl (cw1, 24, .inl fw)), (fr, .inr (0, [.ref k1, .ref k2, .ref k3, .int (zI fn)])), (k3, .inl (ck3, 4, .inl fh)), (pf, .inr (1, [.ref p1, .int (zI pn)])), (p1, .inl (cp1, 4, .inl fp))]) hP hD [1, 2, 3, 4, 5, 6, 7, 8, 9, 10, 11, 12, 13, 14] [0] ax_X8_without_1 ax_X8_without_2 (by decide +kernel) (by decide +kernel) hk1 hFc hP1 hD1
      have hP := ax_X8_without_3 hP
      have hD := ax_X8_without_4 hD
      generalize H1 = H at hP hS ⊢
      have hP : va_P D vwCl (([(h0, .inr (8, [.ref sh, .ref rd, .ref fr, .ref wr, .ref pf, .ref rc, .ref se, .ref rs, .ref sw, .ref sp, .ref ss, .int (zI ew), .long wc, .int (zI tr), .int (zI lf)])), (ss, .inr (4, [.ref sg1, .ref sg2, .ref sg3, .ref sg4, .ref sg5, .int (zI uc_8), .int (zI ub_9), .int (zI ur_10), .ref sg6, .ref sg7])), (sg1, .inl (scg1, 24, .inl v1_11)), (sg2, .inl (scg2, 24, .inl v2_12)), (sg3, .inl (scg3, 24, .inl v3_13)), (sg4, .inl (scg4, 24, .inl v4_14)), (sg5, .inl (scg5, 24, .inl v5_15)), (sg6, .inl (scg6, 24, .inl v6_16)), (sg7, .inl (scg7, 24, .inr (.inr (.inr (.inr (sfo)))))), (wr, .inr (7, [.ref w1, .int (zI wn)])), (w1, .inl (cw1, 24, .inl fw)), (fr, .inr (0, [.ref k1, .ref k2, .ref k3, .int (zI fn)])), (k3, .inl (ck3, 4, .inl fh)), (pf, .inr (1, [.ref p1, .int (zI pn)])), (p1, .inl (cp1, 4, .inl fp))] : va_W) ++ kRows pr ug_17 cy) H := hP
      have hD : va_D A (([(h0, .inr (8, [.ref sh, .ref rd, .ref fr, .ref wr, .ref pf, .ref rc, .ref se, .ref rs, .ref sw, .ref sp, .ref ss, .int (zI ew), .long wc, .int (zI tr), .int (zI lf)])), (ss, .inr (4, [.ref sg1, .ref sg2, .ref sg3, .ref sg4, .ref sg5, .int (zI uc_8), .int (zI ub_9), .int (zI ur_10), .ref sg6, .ref sg7])), (sg1, .inl (scg1, 24, .inl v1_11)), (sg2, .inl (scg2, 24, .inl v2_12)), (sg3, .inl (scg3, 24, .inl v3_13)), (sg4, .inl (scg4, 24, .inl v4_14)), (sg5, .inl (scg5, 24, .inl v5_15)), (sg6, .inl (scg6, 24, .inl v6_16)), (sg7, .inl (scg7, 24, .inr (.inr (.inr (.inr (sfo)))))), (wr, .inr (7, [.ref w1, .int (zI wn)])), (w1, .inl (cw1, 24, .inl fw)), (fr, .inr (0, [.ref k1, .ref k2, .ref k3, .int (zI fn)])), (k3, .inl (ck3, 4, .inl fh)), (pf, .inr (1, [.ref p1, .int (zI pn)])), (p1, .inl (cp1, 4, .inl fp))] : va_W) ++ kRows pr ug_17 cy) := hD
      refine lv_aload_n hx hb dX8_without_59 rfl (lv_at hl 0 rfl) ?_
      refine va_get (D := D) (ci := 8) (v := .ref ss) (C := RX8) (T := TX8) (N := 15) hx hb hts (fun _ h9 => List.mem_cons_of_mem _ (List.mem_append_left _ (List.mem_append_left _ (List.mem_append_left _ (List.mem_append_left _ (List.mem_append_right _ h9)))))) hown hK hP 0 rfl rfl 10 (by decide) (hts (.fieldLink RX8 73 "FontRuns" "supposedSetting" "LFontRuns$Setting;") mw_X8_without_2) (fun _ h9 => h9) rfl dX8_without_60 ?_
      refine k_callP (va_runV (As := []) (rest := []) ⟨hx, hb, hml, hown, hts⟩ (c_X4_changes l D H.size (h0 := ss) (g1 := sg1) (g2 := sg2) (g3 := sg3) (g4 := sg4) (g5 := sg5) (cn := uc_8) (bo := ub_9) (ru := ur_10) (g6 := sg6) (g7 := sg7) h_18 h_19 h_20) (cwV 0 hts gX8_without_X4_changes rfl rfl rfl (by decide +kernel) ⟨Nat.le_of_ble_eq_true rfl, Nat.le_of_ble_eq_true rfl⟩) (kPreV hP (kD0 hD) hK hN [1] [] ax_X8_without_5 rfl (by decide +kernel) 1 4 rfl rfl) rfl rfl hl.1 rfl (lv_room (Nat.le_of_ble_eq_true rfl)) dX8_without_63 ⟨Nat.le_of_ble_eq_true rfl, Nat.le_of_ble_eq_true rfl⟩) (fun z_21 rz_21 h_22 => ?_)
      have hP9 : va_P D vwCl (([(h0, .inr (8, [.ref sh, .ref rd, .ref fr, .ref wr, .ref pf, .ref rc, .ref se, .ref rs, .ref sw, .ref sp, .ref ss, .int (zI ew), .long wc, .int (zI tr), .int (zI lf)])), (ss, .inr (4, [.ref sg1, .ref sg2, .ref sg3, .ref sg4, .ref sg5, .int (zI uc_8), .int (zI ub_9), .int (zI ur_10), .ref sg6, .ref sg7])), (sg1, .inl (scg1, 24, .inl v1_11)), (sg2, .inl (scg2, 24, .inl v2_12)), (sg3, .inl (scg3, 24, .inl v3_13)), (sg4, .inl (scg4, 24, .inl v4_14)), (sg5, .inl (scg5, 24, .inl v5_15)), (sg6, .inl (scg6, 24, .inl v6_16)), (sg7, .inl (scg7, 24, .inr (.inr (.inr (.inr (sfo)))))), (wr, .inr (7, [.ref w1, .int (zI wn)])), (w1, .inl (cw1, 24, .inl fw)), (fr, .inr (0, [.ref k1, .ref k2, .ref k3, .int (zI fn)])), (k3, .inl (ck3, 4, .inl fh)), (pf, .inr (1, [.ref p1, .int (zI pn)])), (p1, .inl (cp1, 4, .inl fp))] : va_W) ++ kRows pr ug_17 cy) H := hP.part [0, 1, 2, 3, 4, 5, 6, 7, 8, 9, 10, 11, 12, 13, 14] ax_X8_without_6
      have hD9 : va_D A (([(h0, .inr (8, [.ref sh, .ref rd, .ref fr, .ref wr, .ref pf, .ref rc, .ref se, .ref rs, .ref sw, .ref sp, .ref ss, .int (zI ew), .long wc, .int (zI tr), .int (zI lf)])), (ss, .inr (4, [.ref sg1, .ref sg2, .ref sg3, .ref sg4, .ref sg5, .int (zI uc_8), .int (zI ub_9), .int (zI ur_10), .ref sg6, .ref sg7])), (sg1, .inl (scg1, 24, .inl v1_11)), (sg2, .inl (scg2, 24, .inl v2_12)), (sg3, .inl (scg3, 24, .inl v3_13)), (sg4, .inl (scg4, 24, .inl v4_14)), (sg5, .inl (scg5, 24, .inl v5_15)), (sg6, .inl (scg6, 24, .inl v6_16)), (sg7, .inl (scg7, 24, .inr (.inr (.inr (.inr (sfo)))))), (wr, .inr (7, [.ref w1, .int (zI wn)])), (w1, .inl (cw1, 24, .inl fw)), (fr, .inr (0, [.ref k1, .ref k2, .ref k3, .int (zI fn)])), (k3, .inl (ck3, 4, .inl fh)), (pf, .inr (1, [.ref p1, .int (zI pn)])), (p1, .inl (cp1, 4, .inl fp))] : va_W) ++ kRows pr ug_17 cy) := hD.part [0, 1, 2, 3, 4, 5, 6, 7, 8, 9, 10, 11, 12, 13, 14] (by decide +kernel) ax_X8_without_6
      exact W.iret (v := (zI z_21)) hx hb hr (fun t ht hW => kQS_of (by omega) ⟨uc_8, ub_9, ur_10, v1_11, v2_12, v3_13, v4_14, v5_15, v6_16, ug_17, h_18, h_19, h_20, by rw [ht]; exact hP9, hD9⟩ (hS.F ht)) hS.2.2 dX8_without_66
    · refine lv_bipush (v := zI (-9)) hx hb dX8_without_24 (by decide) ?_
      have hP9 : va_P D vwCl (([(h0, .inr (8, [.ref sh, .ref rd, .ref fr, .ref wr, .ref pf, .ref rc, .ref se, .ref rs, .ref sw, .ref sp, .ref ss, .int (zI ew), .long wc, .int (zI tr), .int (zI lf)])), (ss, .inr (4, [.ref sg1, .ref sg2, .ref sg3, .ref sg4, .ref sg5, .int (zI scn), .int (zI sbo), .int (zI sru), .ref sg6, .ref sg7])), (sg1, .inl (scg1, 24, .inl sf1)), (sg2, .inl (scg2, 24, .inl sf2)), (sg3, .inl (scg3, 24, .inl sf3)), (sg4, .inl (scg4, 24, .inl sf4)), (sg5, .inl (scg5, 24, .inl sf5)), (sg6, .inl (scg6, 24, .inl sf6)), (sg7, .inl (scg7, 24, .inr (.inr (.inr (.inr (sfo)))))), (wr, .inr (7, [.ref w1, .int (zI wn)])), (w1, .inl (cw1, 24, .inl fw)), (fr, .inr (0, [.ref k1, .ref k2, .ref k3, .int (zI fn)])), (k3, .inl (ck3, 4, .inl fh)), (pf, .inr (1, [.ref p1, .int (zI pn)])), (p1, .inl (cp1, 4, .inl fp))] : va_W) ++ kRows pr gp cy) s.heap := hP.part [0, 1, 2, 3, 4, 5, 6, 7, 8, 9, 10, 11, 12, 13, 14] ax_X8_without_6
      have hD9 : va_D A (([(h0, .inr (8, [.ref sh, .ref rd, .ref fr, .ref wr, .ref pf, .ref rc, .ref se, .ref rs, .ref sw, .ref sp, .ref ss, .int (zI ew), .long wc, .int (zI tr), .int (zI lf)])), (ss, .inr (4, [.ref sg1, .ref sg2, .ref sg3, .ref sg4, .ref sg5, .int (zI scn), .int (zI sbo), .int (zI sru), .ref sg6, .ref sg7])), (sg1, .inl (scg1, 24, .inl sf1)), (sg2, .inl (scg2, 24, .inl sf2)), (sg3, .inl (scg3, 24, .inl sf3)), (sg4, .inl (scg4, 24, .inl sf4)), (sg5, .inl (scg5, 24, .inl sf5)), (sg6, .inl (scg6, 24, .inl sf6)), (sg7, .inl (scg7, 24, .inr (.inr (.inr (.inr (sfo)))))), (wr, .inr (7, [.ref w1, .int (zI wn)])), (w1, .inl (cw1, 24, .inl fw)), (fr, .inr (0, [.ref k1, .ref k2, .ref k3, .int (zI fn)])), (k3, .inl (ck3, 4, .inl fh)), (pf, .inr (1, [.ref p1, .int (zI pn)])), (p1, .inl (cp1, 4, .inl fp))] : va_W) ++ kRows pr gp cy) := hD.part [0, 1, 2, 3, 4, 5, 6, 7, 8, 9, 10, 11, 12, 13, 14] (by decide +kernel) ax_X8_without_6
      exact W.iret (v := (zI (-9))) hx hb hr (fun t ht hW => kQS_of (by omega) ⟨scn, sbo, sru, sf1, sf2, sf3, sf4, sf5, sf6, gp, q1, q2, q3, by rw [ht]; exact hP9, hD9⟩ (hS.F ht)) hS.2.2 dX8_without_26
  · have c_1 : ¬ (0 ≤ f ∧ f ≤ fn - 1) := b01f c_1
    refine lv_iconst (v := zI (-1)) hx hb dX8_without_11 rfl ?_
    have hP9 : va_P D vwCl (([(h0, .inr (8, [.ref sh, .ref rd, .ref fr, .ref wr, .ref pf, .ref rc, .ref se, .ref rs, .ref sw, .ref sp, .ref ss, .int (zI ew), .long wc, .int (zI tr), .int (zI lf)])), (ss, .inr (4, [.ref sg1, .ref sg2, .ref sg3, .ref sg4, .ref sg5, .int (zI scn), .int (zI sbo), .int (zI sru), .ref sg6, .ref sg7])), (sg1, .inl (scg1, 24, .inl sf1)), (sg2, .inl (scg2, 24, .inl sf2)), (sg3, .inl (scg3, 24, .inl sf3)), (sg4, .inl (scg4, 24, .inl sf4)), (sg5, .inl (scg5, 24, .inl sf5)), (sg6, .inl (scg6, 24, .inl sf6)), (sg7, .inl (scg7, 24, .inr (.inr (.inr (.inr (sfo)))))), (wr, .inr (7, [.ref w1, .int (zI wn)])), (w1, .inl (cw1, 24, .inl fw)), (fr, .inr (0, [.ref k1, .ref k2, .ref k3, .int (zI fn)])), (k3, .inl (ck3, 4, .inl fh)), (pf, .inr (1, [.ref p1, .int (zI pn)])), (p1, .inl (cp1, 4, .inl fp))] : va_W) ++ kRows pr gp cy) s.heap := hP.part [0, 1, 2, 3, 4, 5, 6, 7, 8, 9, 10, 11, 12, 13, 14] ax_X8_without_6
    have hD9 : va_D A (([(h0, .inr (8, [.ref sh, .ref rd, .ref fr, .ref wr, .ref pf, .ref rc, .ref se, .ref rs, .ref sw, .ref sp, .ref ss, .int (zI ew), .long wc, .int (zI tr), .int (zI lf)])), (ss, .inr (4, [.ref sg1, .ref sg2, .ref sg3, .ref sg4, .ref sg5, .int (zI scn), .int (zI sbo), .int (zI sru), .ref sg6, .ref sg7])), (sg1, .inl (scg1, 24, .inl sf1)), (sg2, .inl (scg2, 24, .inl sf2)), (sg3, .inl (scg3, 24, .inl sf3)), (sg4, .inl (scg4, 24, .inl sf4)), (sg5, .inl (scg5, 24, .inl sf5)), (sg6, .inl (scg6, 24, .inl sf6)), (sg7, .inl (scg7, 24, .inr (.inr (.inr (.inr (sfo)))))), (wr, .inr (7, [.ref w1, .int (zI wn)])), (w1, .inl (cw1, 24, .inl fw)), (fr, .inr (0, [.ref k1, .ref k2, .ref k3, .int (zI fn)])), (k3, .inl (ck3, 4, .inl fh)), (pf, .inr (1, [.ref p1, .int (zI pn)])), (p1, .inl (cp1, 4, .inl fp))] : va_W) ++ kRows pr gp cy) := hD.part [0, 1, 2, 3, 4, 5, 6, 7, 8, 9, 10, 11, 12, 13, 14] (by decide +kernel) ax_X8_without_6
    exact W.iret (v := (zI (-1))) hx hb hr (fun t ht hW => kQS_of (by omega) ⟨scn, sbo, sru, sf1, sf2, sf3, sf4, sf5, sf6, gp, q1, q2, q3, by rw [ht]; exact hP9, hD9⟩ (hS.F ht)) hS.2.2 dX8_without_12
theorem dX8_enough_0 : decode cX8_enough 0 = .ok (.iload_n 1, 1) := kqo_1b kbl_X8_enough (pc := 0) rfl
theorem dX8_enough_1 : decode cX8_enough 1 = .ok (.iconst 0, 1) := kqo_03 kbl_X8_enough (pc := 1) rfl
theorem dX8_enough_2 : decode cX8_enough 2 = .ok (.iconst 1, 1) := kqo_04 kbl_X8_enough (pc := 2) rfl
theorem dX8_enough_3 : decode cX8_enough 3 = .ok (.invokestatic 128, 3) := kqo_b8 (x1 := 0) (x2 := 128) kbl_X8_enough (pc := 3) rfl rfl
theorem dX8_enough_6 : decode cX8_enough 6 = .ok (.ifCond .ne 6, 3) := kqo_9a (x1 := 0) (x2 := 6) kbl_X8_enough (pc := 6) rfl rfl
theorem dX8_enough_9 : decode cX8_enough 9 = .ok (.bipush (-2), 2) := kqo_10 (x1 := 254) kbl_X8_enough (pc := 9) rfl rfl
theorem dX8_enough_11 : decode cX8_enough 11 = .ok (.ireturn, 1) := kqo_ac kbl_X8_enough (pc := 11) rfl
theorem dX8_enough_12 : decode cX8_enough 12 = .ok (.aload_n 0, 1) := kqo_2a kbl_X8_enough (pc := 12) rfl
theorem dX8_enough_13 : decode cX8_enough 13 = .ok (.getfield 28, 3) := kqo_b4 (x1 := 0) (x2 := 28) kbl_X8_enough (pc := 13) rfl rfl
theorem dX8_enough_16 : decode cX8_enough 16 = .ok (.getfield 106, 3) := kqo_b4 (x1 := 0) (x2 := 106) kbl_X8_enough (pc := 16) rfl rfl
theorem dX8_enough_19 : decode cX8_enough 19 = .ok (.ifCond .ne 6, 3) := kqo_9a (x1 := 0) (x2 := 6) kbl_X8_enough (pc := 19) rfl rfl
theorem dX8_enough_22 : decode cX8_enough 22 = .ok (.bipush (-3), 2) := kqo_10 (x1 := 253) kbl_X8_enough (pc := 22) rfl rfl
theorem dX8_enough_24 : decode cX8_enough 24 = .ok (.ireturn, 1) := kqo_ac kbl_X8_enough (pc := 24) rfl
theorem dX8_enough_25 : decode cX8_enough 25 = .ok (.aload_n 0, 1) := kqo_2a kbl_X8_enough (pc := 25) rfl
theorem dX8_enough_26 : decode cX8_enough 26 = .ok (.invokevirtual 258, 3) := kqo_b6 (x1 := 1) (x2 := 2) kbl_X8_enough (pc := 26) rfl rfl
theorem dX8_enough_29 : decode cX8_enough 29 = .ok (.istore_n 2, 1) := kqo_3d kbl_X8_enough (pc := 29) rfl
theorem dX8_enough_30 : decode cX8_enough 30 = .ok (.iload_n 1, 1) := kqo_1b kbl_X8_enough (pc := 30) rfl
theorem dX8_enough_31 : decode cX8_enough 31 = .ok (.ifCond .ne 10, 3) := kqo_9a (x1 := 0) (x2 := 10) kbl_X8_enough (pc := 31) rfl rfl
theorem dX8_enough_34 : decode cX8_enough 34 = .ok (.iload_n 2, 1) := kqo_1c kbl_X8_enough (pc := 34) rfl
theorem dX8_enough_35 : decode cX8_enough 35 = .ok (.invokestatic 261, 3) := kqo_b8 (x1 := 1) (x2 := 5) kbl_X8_enough (pc := 35) rfl rfl
theorem dX8_enough_38 : decode cX8_enough 38 = .ok (.goto 4, 3) := kqo_a7 (x1 := 0) (x2 := 4) kbl_X8_enough (pc := 38) rfl rfl
theorem dX8_enough_41 : decode cX8_enough 41 = .ok (.iload_n 2, 1) := kqo_1c kbl_X8_enough (pc := 41) rfl
theorem dX8_enough_42 : decode cX8_enough 42 = .ok (.ireturn, 1) := kqo_ac kbl_X8_enough (pc := 42) rfl
set_option maxRecDepth 20000 in
theorem ggX8_enough_J6_bitCount_0f7a4 : GoodIn wsX8_enough wsJ6_bitCount_0f7a4 := goodIn_4 _ (List.forall_mem_cons.mpr ⟨List.mem_cons_of_mem _ (List.mem_append_left _ (List.mem_append_left _ (List.mem_append_left _ (List.mem_append_right _ (List.mem_of_getElem? (i := 3) rfl))))), List.forall_mem_cons.mpr ⟨List.mem_cons_of_mem _ (List.mem_append_left _ (List.mem_append_left _ (List.mem_append_left _ (List.mem_append_right _ (List.mem_of_getElem? (i := 4) rfl))))), List.forall_mem_cons.mpr ⟨List.mem_cons_of_mem _ (List.mem_append_left _ (List.mem_append_left _ (List.mem_append_left _ (List.mem_append_right _ (List.mem_of_getElem? (i := 5) rfl))))), List.forall_mem_cons.mpr ⟨List.mem_cons_of_mem _ (List.mem_append_left _ (List.mem_append_left _ (List.mem_append_left _ (List.mem_append_right _ (List.mem_of_getElem? (i := 6) rfl))))), fun _ h9 => absurd h9 List.not_mem_nil⟩⟩⟩⟩) (by decide +kernel)
set_option maxRecDepth 20000 in
theorem gX8_enough_J6_bitCount_0f7a4 : GoodIn wsX8_enough (va_wsS RX8 261 yJ6_bitCount_0f7a4 wsJ6_bitCount_0f7a4) := goodIn_app (goodIn_4 _ (List.forall_mem_cons.mpr ⟨List.mem_cons_of_mem _ (List.mem_append_left _ (List.mem_append_left _ (List.mem_append_left _ (List.mem_append_right _ (List.mem_of_getElem? (i := 0) rfl))))), List.forall_mem_cons.mpr ⟨List.mem_cons_of_mem _ (List.mem_append_left _ (List.mem_append_left _ (List.mem_append_left _ (List.mem_append_right _ (List.mem_of_getElem? (i := 1) rfl))))), List.forall_mem_cons.mpr ⟨List.mem_cons_of_mem _ (List.mem_append_left _ (List.mem_append_left _ (List.mem_append_left _ (List.mem_append_right _ (List.mem_of_getElem? (i := 2) rfl))))), fun _ h9 => absurd h9 List.not_mem_nil⟩⟩⟩) (by decide +kernel)) ggX8_enough_J6_bitCount_0f7a4
set_option maxRecDepth 20000 in
theorem ggX8_enough_X8_isWithin : GoodIn wsX8_enough wsX8_isWithin := goodIn_4 _ (List.forall_mem_cons.mpr ⟨List.mem_cons_of_mem _ (List.mem_append_left _ (List.mem_append_left _ (List.mem_append_left _ (List.mem_append_left _ (List.mem_of_getElem? (i := 5) rfl))))), fun _ h9 => absurd h9 List.not_mem_nil⟩) (by decide +kernel)
set_option maxRecDepth 20000 in
theorem gX8_enough_X8_isWithin : GoodIn wsX8_enough (va_wsS RX8 128 yX8_isWithin wsX8_isWithin) := goodIn_app (goodIn_4 _ (List.forall_mem_cons.mpr ⟨List.mem_cons_of_mem _ (List.mem_append_left _ (List.mem_append_left _ (List.mem_append_left _ (List.mem_append_left _ (List.mem_of_getElem? (i := 2) rfl))))), List.forall_mem_cons.mpr ⟨List.mem_cons_of_mem _ (List.mem_append_left _ (List.mem_append_left _ (List.mem_append_left _ (List.mem_append_left _ (List.mem_of_getElem? (i := 3) rfl))))), List.forall_mem_cons.mpr ⟨List.mem_cons_of_mem _ (List.mem_append_left _ (List.mem_append_left _ (List.mem_append_left _ (List.mem_append_left _ (List.mem_of_getElem? (i := 4) rfl))))), fun _ h9 => absurd h9 List.not_mem_nil⟩⟩⟩) (by decide +kernel)) ggX8_enough_X8_isWithin
set_option maxRecDepth 20000 in
theorem ggX8_enough_X8_leastEnough : GoodIn wsX8_enough wsX8_leastEnough := goodIn_4 _ (List.forall_mem_cons.mpr ⟨List.mem_cons_of_mem _ (List.mem_append_left _ (List.mem_append_left _ (List.mem_append_left _ (List.mem_append_left _ (List.mem_of_getElem? (i := 9) rfl))))), List.forall_mem_append.mpr ⟨List.forall_mem_append.mpr ⟨List.forall_mem_append.mpr ⟨List.forall_mem_cons.mpr ⟨List.mem_cons_of_mem _ (List.mem_append_left _ (List.mem_append_left _ (List.mem_append_left _ (List.mem_append_left _ (List.mem_of_getElem? (i := 0) rfl))))), List.forall_mem_cons.mpr ⟨List.mem_cons_of_mem _ (List.mem_append_left _ (List.mem_append_left _ (List.mem_append_left _ (List.mem_append_left _ (List.mem_of_getElem? (i := 10) rfl))))), List.forall_mem_cons.mpr ⟨List.mem_cons_of_mem _ (List.mem_append_left _ (List.mem_append_left _ (List.mem_append_left _ (List.mem_append_left _ (List.mem_of_getElem? (i := 11) rfl))))), List.forall_mem_cons.mpr ⟨List.mem_cons_of_mem _ (List.mem_append_left _ (List.mem_append_left _ (List.mem_append_left _ (List.mem_append_left _ (List.mem_of_getElem? (i := 12) rfl))))), List.forall_mem_cons.mpr ⟨List.mem_cons_of_mem _ (List.mem_append_left _ (List.mem_append_left _ (List.mem_append_left _ (List.mem_append_left _ (List.mem_of_getElem? (i := 13) rfl))))), List.forall_mem_cons.mpr ⟨List.mem_cons_of_mem _ (List.mem_append_left _ (List.mem_append_left _ (List.mem_append_left _ (List.mem_append_left _ (List.mem_of_getElem? (i := 14) rfl))))), List.forall_mem_cons.mpr ⟨List.mem_cons_of_mem _ (List.mem_append_left _ (List.mem_append_left _ (List.mem_append_left _ (List.mem_append_left _ (List.mem_of_getElem? (i := 15) rfl))))), List.forall_mem_cons.mpr ⟨List.mem_cons_of_mem _ (List.mem_append_left _ (List.mem_append_left _ (List.mem_append_left _ (List.mem_append_left _ (List.mem_of_getElem? (i := 16) rfl))))), List.forall_mem_cons.mpr ⟨List.mem_cons_of_mem _ (List.mem_append_left _ (List.mem_append_left _ (List.mem_append_left _ (List.mem_append_left _ (List.mem_of_getElem? (i := 17) rfl))))), List.forall_mem_cons.mpr ⟨List.mem_cons_of_mem _ (List.mem_append_left _ (List.mem_append_left _ (List.mem_append_left _ (List.mem_append_left _ (List.mem_of_getElem? (i := 18) rfl))))), List.forall_mem_cons.mpr ⟨List.mem_cons_of_mem _ (List.mem_append_left _ (List.mem_append_left _ (List.mem_append_left _ (List.mem_append_left _ (List.mem_of_getElem? (i := 19) rfl))))), List.forall_mem_cons.mpr ⟨List.mem_cons_of_mem _ (List.mem_append_left _ (List.mem_append_left _ (List.mem_append_left _ (List.mem_append_left _ (List.mem_of_getElem? (i := 20) rfl))))), List.forall_mem_cons.mpr ⟨List.mem_cons_of_mem _ (List.mem_append_left _ (List.mem_append_left _ (List.mem_append_left _ (List.mem_append_left _ (List.mem_of_getElem? (i := 21) rfl))))), List.forall_mem_cons.mpr ⟨List.mem_cons_of_mem _ (List.mem_append_left _ (List.mem_append_left _ (List.mem_append_left _ (List.mem_append_left _ (List.mem_of_getElem? (i := 22) rfl))))), List.forall_mem_cons.mpr ⟨List.mem_cons_of_mem _ (List.mem_append_left _ (List.mem_append_left _ (List.mem_append_left _ (List.mem_append_left _ (List.mem_of_getElem? (i := 23) rfl))))), List.forall_mem_cons.mpr ⟨List.mem_cons_of_mem _ (List.mem_append_left _ (List.mem_append_left _ (List.mem_append_left _ (List.mem_append_right _ (List.mem_of_getElem? (i := 0) rfl))))), List.forall_mem_cons.mpr ⟨List.mem_cons_of_mem _ (List.mem_append_left _ (List.mem_append_left _ (List.mem_append_left _ (List.mem_append_right _ (List.mem_of_getElem? (i := 1) rfl))))), List.forall_mem_cons.mpr ⟨List.mem_cons_of_mem _ (List.mem_append_left _ (List.mem_append_left _ (List.mem_append_left _ (List.mem_append_right _ (List.mem_of_getElem? (i := 2) rfl))))), List.forall_mem_cons.mpr ⟨List.mem_cons_of_mem _ (List.mem_append_left _ (List.mem_append_left _ (List.mem_append_left _ (List.mem_append_right _ (List.mem_of_getElem? (i := 3) rfl))))), List.forall_mem_cons.mpr ⟨List.mem_cons_of_mem _ (List.mem_append_left _ (List.mem_append_left _ (List.mem_append_left _ (List.mem_append_right _ (List.mem_of_getElem? (i := 4) rfl))))), List.forall_mem_cons.mpr ⟨List.mem_cons_of_mem _ (List.mem_append_left _ (List.mem_append_left _ (List.mem_append_left _ (List.mem_append_right _ (List.mem_of_getElem? (i := 5) rfl))))), List.forall_mem_cons.mpr ⟨List.mem_cons_of_mem _ (List.mem_append_left _ (List.mem_append_left _ (List.mem_append_left _ (List.mem_append_right _ (List.mem_of_getElem? (i := 6) rfl))))), fun _ h9 => absurd h9 List.not_mem_nil⟩⟩⟩⟩⟩⟩⟩⟩⟩⟩⟩⟩⟩⟩⟩⟩⟩⟩⟩⟩⟩⟩, fun w h9 => List.mem_cons_of_mem _ (List.mem_append_left _ (List.mem_append_left _ (List.mem_append_right _ (h9))))⟩, fun w h9 => List.mem_cons_of_mem _ (List.mem_append_left _ (List.mem_append_right _ (h9)))⟩, fun w h9 => List.mem_cons_of_mem _ (List.mem_append_right _ (h9))⟩⟩) (by decide +kernel)
set_option maxRecDepth 20000 in
theorem gX8_enough_X8_leastEnough : GoodIn wsX8_enough (wsV RX8 258 RX8 yX8_leastEnough wsX8_leastEnough) := goodIn_app (goodIn_4 _ (List.forall_mem_cons.mpr ⟨List.mem_cons_of_mem _ (List.mem_append_left _ (List.mem_append_left _ (List.mem_append_left _ (List.mem_append_left _ (List.mem_of_getElem? (i := 6) rfl))))), List.forall_mem_cons.mpr ⟨List.mem_cons_of_mem _ (List.mem_append_left _ (List.mem_append_left _ (List.mem_append_left _ (List.mem_append_left _ (List.mem_of_getElem? (i := 7) rfl))))), List.forall_mem_cons.mpr ⟨List.mem_cons_of_mem _ (List.mem_append_left _ (List.mem_append_left _ (List.mem_append_left _ (List.mem_append_left _ (List.mem_of_getElem? (i := 8) rfl))))), List.forall_mem_cons.mpr ⟨List.mem_cons_of_mem _ (List.mem_append_left _ (List.mem_append_left _ (List.mem_append_left _ (List.mem_append_left _ (List.mem_of_getElem? (i := 4) rfl))))), fun _ h9 => absurd h9 List.not_mem_nil⟩⟩⟩⟩) (by decide +kernel)) ggX8_enough_X8_leastEnough
set_option maxRecDepth 20000 in
theorem mw_X8_enough_0 : (.fieldLink RX8 28 "FontRuns" "fontRow" "LFontRuns$FontRow;" : Cond) ∈ wsX8_enough := List.mem_cons_of_mem _ (List.mem_append_left _ (List.mem_append_left _ (List.mem_append_left _ (List.mem_append_left _ (List.mem_of_getElem? (i := 0) rfl)))))
set_option maxRecDepth 20000 in
theorem mw_X8_enough_1 : (.fieldLink RX8 106 "FontRuns$FontRow" "count" "I" : Cond) ∈ wsX8_enough := List.mem_cons_of_mem _ (List.mem_append_left _ (List.mem_append_left _ (List.mem_append_left _ (List.mem_append_left _ (List.mem_of_getElem? (i := 1) rfl)))))
theorem ax_X8_enough_0 {e0 e1 e2 e3 : Nat × va_E} : ([] : List Nat).map (fun i => ([e0, e1, e2, e3] : va_W)[i]?) = ([] : va_W).map some := rfl
theorem ax_X8_enough_1 {e0 e1 e2 e3 : Nat × va_E} : ([0, 1, 2, 3] : List Nat).map (fun i => ([e0, e1, e2, e3] : va_W)[i]?) = ([e0, e1, e2, e3] : va_W).map some := rfl
set_option maxHeartbeats 4000000 in
set_option maxRecDepth 100000 in
theorem c_X8_enough (l : Launch) (D : va_G) (sz : Nat) (w : Int) (h0 : Nat) (sh : Nat) (rd : Nat) (fr : Nat) (wr : Nat) (pf : Nat) (rc : Nat) (se : Nat) (rs : Nat) (sw : Nat) (sp : Nat) (ss : Nat) (ew : Int) (wc : Int64) (tr : Int) (lf : Int) (k1 : Nat) (k2 : Nat) (k3 : Nat) (fn : Int) (g1 : Nat) (g2 : Nat) (g3 : Nat) (g4 : Nat) (g5 : Nat) (cn : Int) (bo : Int) (ru : Int) (g6 : Nat) (g7 : Nat) (cg3 : ClassId) (f3 : Nat → Int32) (q0 : rg w) (q1 : 0 ≤ fn ∧ fn ≤ 4) (q2 : 0 ≤ cn ∧ cn ≤ 24) (q3 : 0 ≤ bo ∧ bo ≤ 24) (q4 : 0 ≤ ru ∧ ru ≤ cn) : Met l yX8_enough wsX8_enough ({ frames := 2, cells := 0, slots := 0, locals := 44 }) (kPre [.ref h0, .int (zI w)] D [(h0, .inr (8, [.ref sh, .ref rd, .ref fr, .ref wr, .ref pf, .ref rc, .ref se, .ref rs, .ref sw, .ref sp, .ref ss, .int (zI ew), .long wc, .int (zI tr), .int (zI lf)])), (fr, .inr (0, [.ref k1, .ref k2, .ref k3, .int (zI fn)])), (se, .inr (4, [.ref g1, .ref g2, .ref g3, .ref g4, .ref g5, .int (zI cn), .int (zI bo), .int (zI ru), .ref g6, .ref g7])), (g3, .inl (cg3, 24, .inl f3))] [(cg3, .int)] sz) (QcP (fun rz => True)) 0 0 (fun _ => False) := by
  refine Met.ofW (cc := cX8_enough) (maxL := 3) (ret := (some .int)) (by decide) rfl ?_
  intro p e s m args below meth c s₁ B hml hv
  obtain ⟨rfl, hsz, hP, hK, hD0, hN⟩ := hv
  have hx := B.exec
  have hb := B.bytes
  have hr := B.returns
  have hts := atoms_spec (ws := wsX8_enough) B.pre
  have hown : s.vm.findClass RX8 = some m.cls := findClass_of_methodNamed B.named
  have hlocks := B.notSynchronized
  subst hsz
  have hD := hD0
  have hP : va_P D vwCl [(h0, .inr (8, [.ref sh, .ref rd, .ref fr, .ref wr, .ref pf, .ref rc, .ref se, .ref rs, .ref sw, .ref sp, .ref ss, .int (zI ew), .long wc, .int (zI tr), .int (zI lf)])), (fr, .inr (0, [.ref k1, .ref k2, .ref k3, .int (zI fn)])), (se, .inr (4, [.ref g1, .ref g2, .ref g3, .ref g4, .ref g5, .int (zI cn), .int (zI bo), .int (zI ru), .ref g6, .ref g7])), (g3, .inl (cg3, 24, .inl f3))] s.heap := hP
  have hl := lv_entry ([.ref h0, .int (zI w)]) (n := 3) (Nat.le_of_ble_eq_true rfl)
  rw [lg_entry_eq]
  generalize (lg_sl ([.ref h0, .int (zI w)]) ++ List.replicate (3 - (lg_sl ([.ref h0, .int (zI w)])).length) Slot.unset).toArray = ls at hl ⊢
  have hl : lv_has ls 3 [(0, .ref h0), (1, .int (zI w))] := hl
  refine lv_iload_n hx hb dX8_enough_0 rfl (lv_at hl 1 rfl) ?_
  refine lv_iconst (v := zI 0) hx hb dX8_enough_1 rfl ?_
  refine lv_iconst (v := zI 1) hx hb dX8_enough_2 rfl ?_
  refine k_callR (va_runS (As := [.int (zI w), .int (zI 0), .int (zI 1)]) (rest := []) ⟨hx, hb, hml, hown, hts⟩ (c_X8_isWithin l D s.heap.size (v := w) (a := 0) (b := 1) q0 (by omega) (by omega)) (va_cwS 3 hts gX8_enough_X8_isWithin rfl rfl rfl (by decide +kernel) ⟨Nat.le_of_ble_eq_true rfl, Nat.le_of_ble_eq_true rfl⟩) (kPreS hP (kD0 hD) hK hN [] [] ax_X8_enough_0 rfl (by decide +kernel)) rfl rfl hl.1 rfl (lv_room (Nat.le_of_ble_eq_true rfl)) dX8_enough_3 ⟨Nat.le_of_ble_eq_true rfl, Nat.le_of_ble_eq_true rfl⟩) ?_
  refine lv_if_ne (tgt := 12) hx hb dX8_enough_6 (by decide) (fun c_1 => ?_) (fun c_1 => ?_)
  · have c_1 : 0 ≤ w ∧ w ≤ 1 := b01t c_1
    refine lv_aload_n hx hb dX8_enough_12 rfl (lv_at hl 0 rfl) ?_
    refine va_get (D := D) (ci := 8) (v := .ref fr) (C := RX8) (T := TX8) (N := 15) hx hb hts (fun _ h9 => List.mem_cons_of_mem _ (List.mem_append_left _ (List.mem_append_left _ (List.mem_append_right _ h9)))) hown hK hP 0 rfl rfl 2 (by decide) (hts (.fieldLink RX8 28 "FontRuns" "fontRow" "LFontRuns$FontRow;") mw_X8_enough_0) (fun _ h9 => h9) rfl dX8_enough_13 ?_
    refine va_get (D := D) (ci := 0) (v := .int (zI fn)) (C := RX0) (T := TX0) (N := 4) hx hb hts (fun _ h9 => List.mem_cons_of_mem _ (List.mem_append_left _ (List.mem_append_right _ h9))) hown hK hP 1 rfl rfl 3 (by decide) (hts (.fieldLink RX8 106 "FontRuns$FontRow" "count" "I") mw_X8_enough_1) (fun _ h9 => h9) rfl dX8_enough_16 ?_
    refine kz_if_ne (tgt := 25) hx hb dX8_enough_19 (by decide) (by omega) (fun c_2 => ?_) (fun c_2 => ?_)
    · refine lv_aload_n hx hb dX8_enough_25 rfl (lv_at hl 0 rfl) ?_
      refine k_callP (va_runV (As := []) (rest := []) ⟨hx, hb, hml, hown, hts⟩ (c_X8_leastEnough l D s.heap.size (h0 := h0) (sh := sh) (rd := rd) (fr := fr) (wr := wr) (pf := pf) (rc := rc) (se := se) (rs := rs) (sw := sw) (sp := sp) (ss := ss) (ew := ew) (wc := wc) (tr := tr) (lf := lf) (k1 := k1) (k2 := k2) (k3 := k3) (fn := fn) (g1 := g1) (g2 := g2) (g3 := g3) (g4 := g4) (g5 := g5) (cn := cn) (bo := bo) (ru := ru) (g6 := g6) (g7 := g7) (cg3 := cg3) (f3 := f3) q1 q2 q3 q4) (cwV 0 hts gX8_enough_X8_leastEnough rfl rfl rfl (by decide +kernel) ⟨Nat.le_of_ble_eq_true rfl, Nat.le_of_ble_eq_true rfl⟩) (kPreV hP (kD0 hD) hK hN [0, 1, 2, 3] [0] ax_X8_enough_1 rfl (by decide +kernel) 0 8 rfl rfl) rfl rfl hl.1 rfl (lv_room (Nat.le_of_ble_eq_true rfl)) dX8_enough_26 ⟨Nat.le_of_ble_eq_true rfl, Nat.le_of_ble_eq_true rfl⟩) (fun z_3 rz_3 h_4 => ?_)
      refine lv_istore_n (lv' := [(2, .int (zI z_3)), (0, .ref h0), (1, .int (zI w))]) hx hb dX8_enough_29 rfl hl (by decide) rfl (fun ls hl => ?_)
      refine lv_iload_n hx hb dX8_enough_30 rfl (lv_at hl 2 rfl) ?_
      refine kz_if_ne (tgt := 41) hx hb dX8_enough_31 (by decide) (by omega) (fun c_5 => ?_) (fun c_5 => ?_)
      · refine lv_iload_n hx hb dX8_enough_41 rfl (lv_at hl 0 rfl) ?_
        exact W.iret (v := (zI z_3)) hx hb hr (fun t ht hW => QcP_of (by omega) trivial ht) (fun _ h9 => by cases h9) dX8_enough_42
      · refine lv_iload_n hx hb dX8_enough_34 rfl (lv_at hl 0 rfl) ?_
        refine k_callP (va_runS (As := [.int (zI z_3)]) (rest := []) ⟨hx, hb, hml, hown, hts⟩ (c_J6_bitCount_0f7a4 l D s.heap.size (x := z_3) (by omega)) (va_cwS 1 hts gX8_enough_J6_bitCount_0f7a4 rfl rfl rfl (by decide +kernel) ⟨Nat.le_of_ble_eq_true rfl, Nat.le_of_ble_eq_true rfl⟩) (kPreS hP (kD0 hD) hK hN [] [] ax_X8_enough_0 rfl (by decide +kernel)) rfl rfl hl.1 rfl (lv_room (Nat.le_of_ble_eq_true rfl)) dX8_enough_35 ⟨Nat.le_of_ble_eq_true rfl, Nat.le_of_ble_eq_true rfl⟩) (fun z_6 rz_6 h_7 => ?_)
        refine lv_goto (tgt := 42) hx hb dX8_enough_38 (by decide) ?_
        exact W.iret (v := (zI z_6)) hx hb hr (fun t ht hW => QcP_of (by omega) trivial ht) (fun _ h9 => by cases h9) dX8_enough_42
    · refine lv_bipush (v := zI (-3)) hx hb dX8_enough_22 (by decide) ?_
      exact W.iret (v := (zI (-3))) hx hb hr (fun t ht hW => QcP_of (by omega) trivial ht) (fun _ h9 => by cases h9) dX8_enough_24
  · have c_1 : ¬ (0 ≤ w ∧ w ≤ 1) := b01f c_1
    refine lv_bipush (v := zI (-2)) hx hb dX8_enough_9 (by decide) ?_
    exact W.iret (v := (zI (-2))) hx hb hr (fun t ht hW => QcP_of (by omega) trivial ht) (fun _ h9 => by cases h9) dX8_enough_11


theorem dX8_kinds_0 : decode cX8_kinds 0 = .ok (.aload_n 0, 1) := kqo_2a kbl_X8_kinds (pc := 0) rfl
theorem dX8_kinds_1 : decode cX8_kinds 1 = .ok (.getfield 28, 3) := kqo_b4 (x1 := 0) (x2 := 28) kbl_X8_kinds (pc := 1) rfl rfl
theorem dX8_kinds_4 : decode cX8_kinds 4 = .ok (.iload_n 1, 1) := kqo_1b kbl_X8_kinds (pc := 4) rfl
theorem dX8_kinds_5 : decode cX8_kinds 5 = .ok (.invokevirtual 109, 3) := kqo_b6 (x1 := 0) (x2 := 109) kbl_X8_kinds (pc := 5) rfl rfl
theorem dX8_kinds_8 : decode cX8_kinds 8 = .ok (.ifCond .ne 5, 3) := kqo_9a (x1 := 0) (x2 := 5) kbl_X8_kinds (pc := 8) rfl rfl
theorem dX8_kinds_11 : decode cX8_kinds 11 = .ok (.iconst (-1), 1) := kqo_02 kbl_X8_kinds (pc := 11) rfl
theorem dX8_kinds_12 : decode cX8_kinds 12 = .ok (.ireturn, 1) := kqo_ac kbl_X8_kinds (pc := 12) rfl
theorem dX8_kinds_13 : decode cX8_kinds 13 = .ok (.iconst 0, 1) := kqo_03 kbl_X8_kinds (pc := 13) rfl
theorem dX8_kinds_14 : decode cX8_kinds 14 = .ok (.istore_n 2, 1) := kqo_3d kbl_X8_kinds (pc := 14) rfl
theorem dX8_kinds_15 : decode cX8_kinds 15 = .ok (.iconst 0, 1) := kqo_03 kbl_X8_kinds (pc := 15) rfl
theorem dX8_kinds_16 : decode cX8_kinds 16 = .ok (.istore_n 3, 1) := kqo_3e kbl_X8_kinds (pc := 16) rfl
theorem dX8_kinds_17 : decode cX8_kinds 17 = .ok (.iload_n 3, 1) := kqo_1d kbl_X8_kinds (pc := 17) rfl
theorem dX8_kinds_18 : decode cX8_kinds 18 = .ok (.iconst 2, 1) := kqo_05 kbl_X8_kinds (pc := 18) rfl
theorem dX8_kinds_19 : decode cX8_kinds 19 = .ok (.if_icmp .gt 43, 3) := kqo_a3 (x1 := 0) (x2 := 43) kbl_X8_kinds (pc := 19) rfl rfl
theorem dX8_kinds_22 : decode cX8_kinds 22 = .ok (.aload_n 0, 1) := kqo_2a kbl_X8_kinds (pc := 22) rfl
theorem dX8_kinds_23 : decode cX8_kinds 23 = .ok (.getfield 63, 3) := kqo_b4 (x1 := 0) (x2 := 63) kbl_X8_kinds (pc := 23) rfl rfl
theorem dX8_kinds_26 : decode cX8_kinds 26 = .ok (.aload_n 0, 1) := kqo_2a kbl_X8_kinds (pc := 26) rfl
theorem dX8_kinds_27 : decode cX8_kinds 27 = .ok (.getfield 28, 3) := kqo_b4 (x1 := 0) (x2 := 28) kbl_X8_kinds (pc := 27) rfl rfl
theorem dX8_kinds_30 : decode cX8_kinds 30 = .ok (.iload_n 1, 1) := kqo_1b kbl_X8_kinds (pc := 30) rfl
theorem dX8_kinds_31 : decode cX8_kinds 31 = .ok (.iload_n 3, 1) := kqo_1d kbl_X8_kinds (pc := 31) rfl
theorem dX8_kinds_32 : decode cX8_kinds 32 = .ok (.aload_n 0, 1) := kqo_2a kbl_X8_kinds (pc := 32) rfl
theorem dX8_kinds_33 : decode cX8_kinds 33 = .ok (.getfield 28, 3) := kqo_b4 (x1 := 0) (x2 := 28) kbl_X8_kinds (pc := 33) rfl rfl
theorem dX8_kinds_36 : decode cX8_kinds 36 = .ok (.getfield 116, 3) := kqo_b4 (x1 := 0) (x2 := 116) kbl_X8_kinds (pc := 36) rfl rfl
theorem dX8_kinds_39 : decode cX8_kinds 39 = .ok (.iload_n 1, 1) := kqo_1b kbl_X8_kinds (pc := 39) rfl
theorem dX8_kinds_40 : decode cX8_kinds 40 = .ok (.iaload, 1) := kqo_2e kbl_X8_kinds (pc := 40) rfl
theorem dX8_kinds_41 : decode cX8_kinds 41 = .ok (.invokestatic 272, 3) := kqo_b8 (x1 := 1) (x2 := 16) kbl_X8_kinds (pc := 41) rfl rfl
theorem dX8_kinds_44 : decode cX8_kinds 44 = .ok (.invokevirtual 276, 3) := kqo_b6 (x1 := 1) (x2 := 20) kbl_X8_kinds (pc := 44) rfl rfl
theorem dX8_kinds_47 : decode cX8_kinds 47 = .ok (.ifCond .eq 9, 3) := kqo_99 (x1 := 0) (x2 := 9) kbl_X8_kinds (pc := 47) rfl rfl
theorem dX8_kinds_50 : decode cX8_kinds 50 = .ok (.iload_n 2, 1) := kqo_1c kbl_X8_kinds (pc := 50) rfl
theorem dX8_kinds_51 : decode cX8_kinds 51 = .ok (.iconst 1, 1) := kqo_04 kbl_X8_kinds (pc := 51) rfl
theorem dX8_kinds_52 : decode cX8_kinds 52 = .ok (.iload_n 3, 1) := kqo_1d kbl_X8_kinds (pc := 52) rfl
theorem dX8_kinds_53 : decode cX8_kinds 53 = .ok (.ishl, 1) := kqo_78 kbl_X8_kinds (pc := 53) rfl
theorem dX8_kinds_54 : decode cX8_kinds 54 = .ok (.ior, 1) := kqo_80 kbl_X8_kinds (pc := 54) rfl
theorem dX8_kinds_55 : decode cX8_kinds 55 = .ok (.istore_n 2, 1) := kqo_3d kbl_X8_kinds (pc := 55) rfl
theorem dX8_kinds_56 : decode cX8_kinds 56 = .ok (.iinc 3 1, 3) := kqo_84 (x1 := 3) (x2 := 1) kbl_X8_kinds (pc := 56) rfl rfl
theorem dX8_kinds_59 : decode cX8_kinds 59 = .ok (.goto (-42), 3) := kqo_a7 (x1 := 255) (x2 := 214) kbl_X8_kinds (pc := 59) rfl rfl
theorem dX8_kinds_62 : decode cX8_kinds 62 = .ok (.iload_n 2, 1) := kqo_1c kbl_X8_kinds (pc := 62) rfl
theorem dX8_kinds_63 : decode cX8_kinds 63 = .ok (.ireturn, 1) := kqo_ac kbl_X8_kinds (pc := 63) rfl
set_option maxRecDepth 20000 in
theorem ggX8_kinds_X0_isFont : GoodIn wsX8_kinds wsX0_isFont := goodIn_4 _ (List.forall_mem_cons.mpr ⟨List.mem_cons_of_mem _ (List.mem_append_left _ (List.mem_append_left _ (List.mem_append_left _ (List.mem_append_left _ (List.mem_of_getElem? (i := 7) rfl))))), List.forall_mem_append.mpr ⟨List.forall_mem_cons.mpr ⟨List.mem_cons_of_mem _ (List.mem_append_left _ (List.mem_append_left _ (List.mem_append_left _ (List.mem_append_left _ (List.mem_of_getElem? (i := 8) rfl))))), List.forall_mem_cons.mpr ⟨List.mem_cons_of_mem _ (List.mem_append_left _ (List.mem_append_left _ (List.mem_append_left _ (List.mem_append_left _ (List.mem_of_getElem? (i := 9) rfl))))), List.forall_mem_cons.mpr ⟨List.mem_cons_of_mem _ (List.mem_append_left _ (List.mem_append_left _ (List.mem_append_left _ (List.mem_append_left _ (List.mem_of_getElem? (i := 10) rfl))))), List.forall_mem_cons.mpr ⟨List.mem_cons_of_mem _ (List.mem_append_left _ (List.mem_append_left _ (List.mem_append_left _ (List.mem_append_left _ (List.mem_of_getElem? (i := 11) rfl))))), fun _ h9 => absurd h9 List.not_mem_nil⟩⟩⟩⟩, fun w h9 => List.mem_cons_of_mem _ (List.mem_append_left _ (List.mem_append_right _ (h9)))⟩⟩) (by decide +kernel)
set_option maxRecDepth 20000 in
theorem gX8_kinds_X0_isFont : GoodIn wsX8_kinds (wsV RX8 109 RX0 yX0_isFont wsX0_isFont) := goodIn_app (goodIn_4 _ (List.forall_mem_cons.mpr ⟨List.mem_cons_of_mem _ (List.mem_append_left _ (List.mem_append_left _ (List.mem_append_left _ (List.mem_append_left _ (List.mem_of_getElem? (i := 3) rfl))))), List.forall_mem_cons.mpr ⟨List.mem_cons_of_mem _ (List.mem_append_left _ (List.mem_append_left _ (List.mem_append_left _ (List.mem_append_left _ (List.mem_of_getElem? (i := 4) rfl))))), List.forall_mem_cons.mpr ⟨List.mem_cons_of_mem _ (List.mem_append_left _ (List.mem_append_left _ (List.mem_append_left _ (List.mem_append_left _ (List.mem_of_getElem? (i := 5) rfl))))), List.forall_mem_cons.mpr ⟨List.mem_cons_of_mem _ (List.mem_append_left _ (List.mem_append_left _ (List.mem_append_left _ (List.mem_append_left _ (List.mem_of_getElem? (i := 6) rfl))))), fun _ h9 => absurd h9 List.not_mem_nil⟩⟩⟩⟩) (by decide +kernel)) ggX8_kinds_X0_isFont
set_option maxRecDepth 20000 in
theorem ggX8_kinds_X2_areSo : GoodIn wsX8_kinds wsX2_areSo := goodIn_4 _ (List.forall_mem_cons.mpr ⟨List.mem_cons_of_mem _ (List.mem_append_left _ (List.mem_append_left _ (List.mem_append_left _ (List.mem_append_left _ (List.mem_of_getElem? (i := 19) rfl))))), List.forall_mem_append.mpr ⟨List.forall_mem_append.mpr ⟨List.forall_mem_cons.mpr ⟨List.mem_cons_of_mem _ (List.mem_append_left _ (List.mem_append_left _ (List.mem_append_left _ (List.mem_append_left _ (List.mem_of_getElem? (i := 20) rfl))))), List.forall_mem_cons.mpr ⟨List.mem_cons_of_mem _ (List.mem_append_left _ (List.mem_append_left _ (List.mem_append_left _ (List.mem_append_left _ (List.mem_of_getElem? (i := 21) rfl))))), List.forall_mem_cons.mpr ⟨List.mem_cons_of_mem _ (List.mem_append_left _ (List.mem_append_left _ (List.mem_append_left _ (List.mem_append_left _ (List.mem_of_getElem? (i := 22) rfl))))), List.forall_mem_cons.mpr ⟨List.mem_cons_of_mem _ (List.mem_append_left _ (List.mem_append_left _ (List.mem_append_left _ (List.mem_append_left _ (List.mem_of_getElem? (i := 23) rfl))))), List.forall_mem_cons.mpr ⟨List.mem_cons_of_mem _ (List.mem_append_left _ (List.mem_append_left _ (List.mem_append_left _ (List.mem_append_right _ (List.mem_of_getElem? (i := 0) rfl))))), List.forall_mem_cons.mpr ⟨List.mem_cons_of_mem _ (List.mem_append_left _ (List.mem_append_left _ (List.mem_append_left _ (List.mem_append_right _ (List.mem_of_getElem? (i := 1) rfl))))), List.forall_mem_cons.mpr ⟨List.mem_cons_of_mem _ (List.mem_append_left _ (List.mem_append_left _ (List.mem_append_left _ (List.mem_append_right _ (List.mem_of_getElem? (i := 2) rfl))))), List.forall_mem_cons.mpr ⟨List.mem_cons_of_mem _ (List.mem_append_left _ (List.mem_append_left _ (List.mem_append_left _ (List.mem_append_left _ (List.mem_of_getElem? (i := 6) rfl))))), List.forall_mem_cons.mpr ⟨List.mem_cons_of_mem _ (List.mem_append_left _ (List.mem_append_left _ (List.mem_append_left _ (List.mem_append_right _ (List.mem_of_getElem? (i := 3) rfl))))), List.forall_mem_cons.mpr ⟨List.mem_cons_of_mem _ (List.mem_append_left _ (List.mem_append_left _ (List.mem_append_left _ (List.mem_append_right _ (List.mem_of_getElem? (i := 4) rfl))))), List.forall_mem_cons.mpr ⟨List.mem_cons_of_mem _ (List.mem_append_left _ (List.mem_append_left _ (List.mem_append_left _ (List.mem_append_right _ (List.mem_of_getElem? (i := 5) rfl))))), List.forall_mem_cons.mpr ⟨List.mem_cons_of_mem _ (List.mem_append_left _ (List.mem_append_left _ (List.mem_append_left _ (List.mem_append_right _ (List.mem_of_getElem? (i := 6) rfl))))), List.forall_mem_cons.mpr ⟨List.mem_cons_of_mem _ (List.mem_append_left _ (List.mem_append_left _ (List.mem_append_left _ (List.mem_append_left _ (List.mem_of_getElem? (i := 4) rfl))))), List.forall_mem_cons.mpr ⟨List.mem_cons_of_mem _ (List.mem_append_left _ (List.mem_append_left _ (List.mem_append_left _ (List.mem_append_left _ (List.mem_of_getElem? (i := 5) rfl))))), List.forall_mem_cons.mpr ⟨List.mem_cons_of_mem _ (List.mem_append_left _ (List.mem_append_left _ (List.mem_append_left _ (List.mem_append_left _ (List.mem_of_getElem? (i := 7) rfl))))), List.forall_mem_cons.mpr ⟨List.mem_cons_of_mem _ (List.mem_append_left _ (List.mem_append_left _ (List.mem_append_left _ (List.mem_append_left _ (List.mem_of_getElem? (i := 8) rfl))))), List.forall_mem_cons.mpr ⟨List.mem_cons_of_mem _ (List.mem_append_left _ (List.mem_append_left _ (List.mem_append_left _ (List.mem_append_left _ (List.mem_of_getElem? (i := 9) rfl))))), List.forall_mem_cons.mpr ⟨List.mem_cons_of_mem _ (List.mem_append_left _ (List.mem_append_left _ (List.mem_append_left _ (List.mem_append_left _ (List.mem_of_getElem? (i := 10) rfl))))), List.forall_mem_cons.mpr ⟨List.mem_cons_of_mem _ (List.mem_append_left _ (List.mem_append_left _ (List.mem_append_left _ (List.mem_append_left _ (List.mem_of_getElem? (i := 11) rfl))))), List.forall_mem_cons.mpr ⟨List.mem_cons_of_mem _ (List.mem_append_left _ (List.mem_append_left _ (List.mem_append_left _ (List.mem_append_left _ (List.mem_of_getElem? (i := 13) rfl))))), List.forall_mem_cons.mpr ⟨List.mem_cons_of_mem _ (List.mem_append_left _ (List.mem_append_left _ (List.mem_append_left _ (List.mem_append_left _ (List.mem_of_getElem? (i := 14) rfl))))), fun _ h9 => absurd h9 List.not_mem_nil⟩⟩⟩⟩⟩⟩⟩⟩⟩⟩⟩⟩⟩⟩⟩⟩⟩⟩⟩⟩⟩, fun w h9 => List.mem_cons_of_mem _ (List.mem_append_right _ (h9))⟩, fun w h9 => List.mem_cons_of_mem _ (List.mem_append_left _ (List.mem_append_right _ (h9)))⟩⟩) (by decide +kernel)
set_option maxRecDepth 20000 in
theorem gX8_kinds_X2_areSo : GoodIn wsX8_kinds (wsV RX8 276 RX2 yX2_areSo wsX2_areSo) := goodIn_app (goodIn_4 _ (List.forall_mem_cons.mpr ⟨List.mem_cons_of_mem _ (List.mem_append_left _ (List.mem_append_left _ (List.mem_append_left _ (List.mem_append_left _ (List.mem_of_getElem? (i := 15) rfl))))), List.forall_mem_cons.mpr ⟨List.mem_cons_of_mem _ (List.mem_append_left _ (List.mem_append_left _ (List.mem_append_left _ (List.mem_append_left _ (List.mem_of_getElem? (i := 16) rfl))))), List.forall_mem_cons.mpr ⟨List.mem_cons_of_mem _ (List.mem_append_left _ (List.mem_append_left _ (List.mem_append_left _ (List.mem_append_left _ (List.mem_of_getElem? (i := 17) rfl))))), List.forall_mem_cons.mpr ⟨List.mem_cons_of_mem _ (List.mem_append_left _ (List.mem_append_left _ (List.mem_append_left _ (List.mem_append_left _ (List.mem_of_getElem? (i := 18) rfl))))), fun _ h9 => absurd h9 List.not_mem_nil⟩⟩⟩⟩) (by decide +kernel)) ggX8_kinds_X2_areSo
set_option maxRecDepth 20000 in
theorem ggX8_kinds_X8_stepOf : GoodIn wsX8_kinds wsX8_stepOf := goodIn_4 _ (List.forall_mem_cons.mpr ⟨List.mem_cons_of_mem _ (List.mem_append_left _ (List.mem_append_left _ (List.mem_append_left _ (List.mem_append_left _ (List.mem_of_getElem? (i := 14) rfl))))), fun _ h9 => absurd h9 List.not_mem_nil⟩) (by decide +kernel)
set_option maxRecDepth 20000 in
theorem gX8_kinds_X8_stepOf : GoodIn wsX8_kinds (va_wsS RX8 272 yX8_stepOf wsX8_stepOf) := goodIn_app (goodIn_4 _ (List.forall_mem_cons.mpr ⟨List.mem_cons_of_mem _ (List.mem_append_left _ (List.mem_append_left _ (List.mem_append_left _ (List.mem_append_left _ (List.mem_of_getElem? (i := 12) rfl))))), List.forall_mem_cons.mpr ⟨List.mem_cons_of_mem _ (List.mem_append_left _ (List.mem_append_left _ (List.mem_append_left _ (List.mem_append_left _ (List.mem_of_getElem? (i := 13) rfl))))), List.forall_mem_cons.mpr ⟨List.mem_cons_of_mem _ (List.mem_append_left _ (List.mem_append_left _ (List.mem_append_left _ (List.mem_append_left _ (List.mem_of_getElem? (i := 10) rfl))))), fun _ h9 => absurd h9 List.not_mem_nil⟩⟩⟩) (by decide +kernel)) ggX8_kinds_X8_stepOf
set_option maxRecDepth 20000 in
theorem mw_X8_kinds_0 : (.fieldLink RX8 28 "FontRuns" "fontRow" "LFontRuns$FontRow;" : Cond) ∈ wsX8_kinds := List.mem_cons_of_mem _ (List.mem_append_left _ (List.mem_append_left _ (List.mem_append_left _ (List.mem_append_left _ (List.mem_of_getElem? (i := 0) rfl)))))
set_option maxRecDepth 20000 in
theorem mw_X8_kinds_1 : (.fieldLink RX8 63 "FontRuns" "readings" "LFontRuns$Readings;" : Cond) ∈ wsX8_kinds := List.mem_cons_of_mem _ (List.mem_append_left _ (List.mem_append_left _ (List.mem_append_left _ (List.mem_append_left _ (List.mem_of_getElem? (i := 1) rfl)))))
set_option maxRecDepth 20000 in
theorem mw_X8_kinds_2 : (.fieldLink RX8 116 "FontRuns$FontRow" "breadth" "[I" : Cond) ∈ wsX8_kinds := List.mem_cons_of_mem _ (List.mem_append_left _ (List.mem_append_left _ (List.mem_append_left _ (List.mem_append_left _ (List.mem_of_getElem? (i := 2) rfl)))))
theorem ax_X8_kinds_0 {e0 e1 e2 e3 e4 e5 e6 : Nat × va_E} {k : va_W} : ([1] : List Nat).map (fun i => (([e0, e1, e2, e3, e4, e5, e6] : va_W) ++ k)[i]?) = ([e1] : va_W).map some := rfl
theorem ax_X8_kinds_1 {e0 e1 e2 e3 e4 e5 e6 : Nat × va_E} {k : va_W} : ([] : List Nat).map (fun i => (([e0, e1, e2, e3, e4, e5, e6] : va_W) ++ k)[i]?) = ([] : va_W).map some := rfl
theorem ax_X8_kinds_2 {e0 e1 e2 e3 e4 e5 e6 : Nat × va_E} : ([4, 5, 6, 1, 2, 3] : List Nat).map (fun i => ([e0, e1, e2, e3, e4, e5, e6] : va_W)[i]?) = ([e4, e5, e6, e1, e2, e3] : va_W).map some := rfl
set_option maxHeartbeats 4000000 in
set_option maxRecDepth 100000 in
theorem c_X8_kinds (l : Launch) (D : va_G) (sz : Nat) (f : Int) (h0 : Nat) (sh : Nat) (rd : Nat) (fr : Nat) (wr : Nat) (pf : Nat) (rc : Nat) (se : Nat) (rs : Nat) (sw : Nat) (sp : Nat) (ss : Nat) (ew : Int) (wc : Int64) (tr : Int) (lf : Int) (k1 : Nat) (k2 : Nat) (k3 : Nat) (fn : Int) (ck1 : ClassId) (fk : Nat → Int32) (ck2 : ClassId) (fb : Nat → Int32) (dn : Int) (v1 : Nat) (v2 : Nat) (cv1 : ClassId) (fv : Nat → Int32) (cv2 : ClassId) (fq : Nat → Option Nat) (o2 : Nat) (pr : Nat → Nat) (gp : Nat → Nat → Int32) (cy : ClassId) (q0 : rg f) (q1 : 0 ≤ fn ∧ fn ≤ 4) (q2 : 0 ≤ dn ∧ dn ≤ 8) (q3 : kOut fq pr o2 8) (q4 : o2 + 8 ≤ 56) : Met l yX8_kinds wsX8_kinds ({ frames := 4, cells := 0, slots := 0, locals := 90 }) (kPre [.ref h0, .int (zI f)] D (([(h0, .inr (8, [.ref sh, .ref rd, .ref fr, .ref wr, .ref pf, .ref rc, .ref se, .ref rs, .ref sw, .ref sp, .ref ss, .int (zI ew), .long wc, .int (zI tr), .int (zI lf)])), (fr, .inr (0, [.ref k1, .ref k2, .ref k3, .int (zI fn)])), (k1, .inl (ck1, 4, .inl fk)), (k2, .inl (ck2, 4, .inl fb)), (rs, .inr (2, [.int (zI dn), .ref v1, .ref v2])), (v1, .inl (cv1, 8, .inl fv)), (v2, .inl (cv2, 8, .inr (.inr (.inr (.inr (fq))))))] : va_W) ++ kRows pr gp cy) [(ck1, .int), (ck2, .int), (cv1, .int), (cv2, .array .int), (cy, .int)] sz) (QcP (fun rz => True)) 0 0 (fun _ => False) := by
  refine Met.ofW (cc := cX8_kinds) (maxL := 4) (ret := (some .int)) (by decide) rfl ?_
  intro p e s m args below meth c s₁ B hml hv
  obtain ⟨rfl, hsz, hP, hK, hD0, hN⟩ := hv
  have hx := B.exec
  have hb := B.bytes
  have hr := B.returns
  have hts := atoms_spec (ws := wsX8_kinds) B.pre
  have hown : s.vm.findClass RX8 = some m.cls := findClass_of_methodNamed B.named
  have hlocks := B.notSynchronized
  subst hsz
  have hD := hD0
  have hP : va_P D vwCl (([(h0, .inr (8, [.ref sh, .ref rd, .ref fr, .ref wr, .ref pf, .ref rc, .ref se, .ref rs, .ref sw, .ref sp, .ref ss, .int (zI ew), .long wc, .int (zI tr), .int (zI lf)])), (fr, .inr (0, [.ref k1, .ref k2, .ref k3, .int (zI fn)])), (k1, .inl (ck1, 4, .inl fk)), (k2, .inl (ck2, 4, .inl fb)), (rs, .inr (2, [.int (zI dn), .ref v1, .ref v2])), (v1, .inl (cv1, 8, .inl fv)), (v2, .inl (cv2, 8, .inr (.inr (.inr (.inr (fq))))))] : va_W) ++ kRows pr gp cy) s.heap := hP
  have hl := lv_entry ([.ref h0, .int (zI f)]) (n := 4) (Nat.le_of_ble_eq_true rfl)
  rw [lg_entry_eq]
  generalize (lg_sl ([.ref h0, .int (zI f)]) ++ List.replicate (4 - (lg_sl ([.ref h0, .int (zI f)])).length) Slot.unset).toArray = ls at hl ⊢
  have hl : lv_has ls 4 [(0, .ref h0), (1, .int (zI f))] := hl
  refine lv_aload_n hx hb dX8_kinds_0 rfl (lv_at hl 0 rfl) ?_
  refine va_get (D := D) (ci := 8) (v := .ref fr) (C := RX8) (T := TX8) (N := 15) hx hb hts (fun _ h9 => List.mem_cons_of_mem _ (List.mem_append_left _ (List.mem_append_left _ (List.mem_append_right _ h9)))) hown hK hP 0 rfl rfl 2 (by decide) (hts (.fieldLink RX8 28 "FontRuns" "fontRow" "LFontRuns$FontRow;") mw_X8_kinds_0) (fun _ h9 => h9) rfl dX8_kinds_1 ?_
  refine lv_iload_n hx hb dX8_kinds_4 rfl (lv_at hl 1 rfl) ?_
  refine k_callR (va_runV (As := [.int (zI f)]) (rest := []) ⟨hx, hb, hml, hown, hts⟩ (c_X0_isFont l D s.heap.size (f := f) (h0 := fr) (k1 := k1) (k2 := k2) (k3 := k3) (n := fn) q0 q1) (cwV 1 hts gX8_kinds_X0_isFont rfl rfl rfl (by decide +kernel) ⟨Nat.le_of_ble_eq_true rfl, Nat.le_of_ble_eq_true rfl⟩) (kPreV hP (kD0 hD) hK hN [1] [] ax_X8_kinds_0 rfl (by decide +kernel) 1 0 rfl rfl) rfl rfl hl.1 rfl (lv_room (Nat.le_of_ble_eq_true rfl)) dX8_kinds_5 ⟨Nat.le_of_ble_eq_true rfl, Nat.le_of_ble_eq_true rfl⟩) ?_
  refine lv_if_ne (tgt := 13) hx hb dX8_kinds_8 (by decide) (fun c_1 => ?_) (fun c_1 => ?_)
  · have c_1 : 0 ≤ f ∧ f ≤ fn - 1 := b01t c_1
    refine lv_iconst (v := zI 0) hx hb dX8_kinds_13 rfl ?_
    refine lv_istore_n (lv' := [(2, .int (zI 0)), (0, .ref h0), (1, .int (zI f))]) hx hb dX8_kinds_14 rfl hl (by decide) rfl (fun ls hl => ?_)
    refine lv_iconst (v := zI 0) hx hb dX8_kinds_15 rfl ?_
    refine lv_istore_n (lv' := [(3, .int (zI 0)), (2, .int (zI 0)), (0, .ref h0), (1, .int (zI f))]) hx hb dX8_kinds_16 rfl hl (by decide) rfl (fun ls hl => ?_)
    refine k_loopM (I := fun n9 H locs ls => ∃ (js : Int) (jk : Int), n9 = (3 - jk).toNat ∧ (rg js) ∧ (0 ≤ jk ∧ jk ≤ 3) ∧ H = s.heap ∧ locs = [] ∧ lv_has ls 4 [(3, .int (zI jk)), (2, .int (zI js)), (0, .ref h0), (1, .int (zI f))]) ?_ _ ⟨0, 0, rfl, (by omega), (by omega), rfl, rfl, hl⟩
    intro n17 ih17 H locs ls hI
    obtain ⟨js, jk, en17, v_170, v_171, eH, eL, hl⟩ := hI
    subst eH
    subst eL
    refine lv_iload_n hx hb dX8_kinds_17 rfl (lv_at hl 0 rfl) ?_
    refine lv_iconst (v := zI 2) hx hb dX8_kinds_18 rfl ?_
    refine kz_icmp_gt (tgt := 62) hx hb dX8_kinds_19 (by decide) (by omega) (by omega) (fun c_2 => ?_) (fun c_2 => ?_)
    · refine lv_iload_n hx hb dX8_kinds_62 rfl (lv_at hl 1 rfl) ?_
      exact W.iret (v := (zI js)) hx hb hr (fun t ht hW => QcP_of (by omega) trivial ht) (fun _ h9 => by cases h9) dX8_kinds_63
    · refine lv_aload_n hx hb dX8_kinds_22 rfl (lv_at hl 2 rfl) ?_
      refine va_get (D := D) (ci := 8) (v := .ref rs) (C := RX8) (T := TX8) (N := 15) hx hb hts (fun _ h9 => List.mem_cons_of_mem _ (List.mem_append_left _ (List.mem_append_left _ (List.mem_append_right _ h9)))) hown hK hP 0 rfl rfl 7 (by decide) (hts (.fieldLink RX8 63 "FontRuns" "readings" "LFontRuns$Readings;") mw_X8_kinds_1) (fun _ h9 => h9) rfl dX8_kinds_23 ?_
      refine lv_aload_n hx hb dX8_kinds_26 rfl (lv_at hl 2 rfl) ?_
      refine va_get (D := D) (ci := 8) (v := .ref fr) (C := RX8) (T := TX8) (N := 15) hx hb hts (fun _ h9 => List.mem_cons_of_mem _ (List.mem_append_left _ (List.mem_append_left _ (List.mem_append_right _ h9)))) hown hK hP 0 rfl rfl 2 (by decide) (hts (.fieldLink RX8 28 "FontRuns" "fontRow" "LFontRuns$FontRow;") mw_X8_kinds_0) (fun _ h9 => h9) rfl dX8_kinds_27 ?_
      refine lv_iload_n hx hb dX8_kinds_30 rfl (lv_at hl 3 rfl) ?_
      refine lv_iload_n hx hb dX8_kinds_31 rfl (lv_at hl 0 rfl) ?_
      refine lv_aload_n hx hb dX8_kinds_32 rfl (lv_at hl 2 rfl) ?_
      refine va_get (D := D) (ci := 8) (v := .ref fr) (C := RX8) (T := TX8) (N := 15) hx hb hts (fun _ h9 => List.mem_cons_of_mem _ (List.mem_append_left _ (List.mem_append_left _ (List.mem_append_right _ h9)))) hown hK hP 0 rfl rfl 2 (by decide) (hts (.fieldLink RX8 28 "FontRuns" "fontRow" "LFontRuns$FontRow;") mw_X8_kinds_0) (fun _ h9 => h9) rfl dX8_kinds_33 ?_
      refine va_get (D := D) (ci := 0) (v := .ref k2) (C := RX0) (T := TX0) (N := 4) hx hb hts (fun _ h9 => List.mem_cons_of_mem _ (List.mem_append_left _ (List.mem_append_right _ h9))) hown hK hP 1 rfl rfl 1 (by decide) (hts (.fieldLink RX8 116 "FontRuns$FontRow" "breadth" "[I") mw_X8_kinds_2) (fun _ h9 => h9) rfl dX8_kinds_36 ?_
      refine lv_iload_n hx hb dX8_kinds_39 rfl (lv_at hl 3 rfl) ?_
      refine kz_iald hx hb hK hP 3 1 rfl rfl (by omega) dX8_kinds_40 (fun z_3 rz_3 ez_3 => ?_)
      refine k_callP (va_runS (As := [.int (zI jk), .int (zI z_3)]) (rest := [.int (zI f), .ref fr, .ref rs]) ⟨hx, hb, hml, hown, hts⟩ (c_X8_stepOf l D s.heap.size (k := jk) (b := z_3) (by omega) (by omega)) (va_cwS 2 hts gX8_kinds_X8_stepOf rfl rfl rfl (by decide +kernel) ⟨Nat.le_of_ble_eq_true rfl, Nat.le_of_ble_eq_true rfl⟩) (kPreS hP (kD0 hD) hK hN [] [] ax_X8_kinds_1 rfl (by decide +kernel)) rfl rfl hl.1 rfl (lv_room (Nat.le_of_ble_eq_true rfl)) dX8_kinds_41 ⟨Nat.le_of_ble_eq_true rfl, Nat.le_of_ble_eq_true rfl⟩) (fun z_4 rz_4 h_5 => ?_)
      refine k_callP (va_runV (As := [.ref fr, .int (zI f), .int (zI z_4)]) (rest := []) ⟨hx, hb, hml, hown, hts⟩ (c_X2_areSo l D s.heap.size (fr := fr) (ch := f) (sp := z_4) (h0 := rs) (rn := dn) (v1 := v1) (v2 := v2) (cv1 := cv1) (fv := fv) (cv2 := cv2) (fq := fq) (o2 := o2) (k1 := k1) (k2 := k2) (k3 := k3) (n := fn) (ck1 := ck1) (fk := fk) (ck2 := ck2) (fb := fb) (pr := pr) (gp := gp) (cy := cy) q0 (by omega) q2 q1 q3 q4) (cwV 3 hts gX8_kinds_X2_areSo rfl rfl rfl (by decide +kernel) ⟨Nat.le_of_ble_eq_true rfl, Nat.le_of_ble_eq_true rfl⟩) (kPreVP hP (kD0 hD) hK hN [4, 5, 6, 1, 2, 3] [2, 3, 0, 1, 4] ax_X8_kinds_2 rfl (by decide +kernel) 4 2 rfl rfl) rfl rfl hl.1 rfl (lv_room (Nat.le_of_ble_eq_true rfl)) dX8_kinds_44 ⟨Nat.le_of_ble_eq_true rfl, Nat.le_of_ble_eq_true rfl⟩) (fun z_6 rz_6 h_7 => ?_)
      refine kz_if_eq (tgt := 56) hx hb dX8_kinds_47 (by decide) (by omega) (fun c_8 => ?_) (fun c_8 => ?_)
      · refine lv_iinc (v := (zI (jk + 1))) (lv' := [(3, .int (zI (jk + 1))), (2, .int (zI js)), (0, .ref h0), (1, .int (zI f))]) hx hb dX8_kinds_56 hl (k := 0) rfl (kz_inc _ 1) (by decide) rfl (fun ls hl => ?_)
        refine lv_goto (tgt := 17) hx hb dX8_kinds_59 (by decide) ?_
        exact ih17 _ (by omega) _ _ _ ⟨js, (jk + 1), rfl, v_170, (by omega), rfl, rfl, lv_sub hl [0, 1, 2, 3] rfl⟩
      · refine lv_iload_n hx hb dX8_kinds_50 rfl (lv_at hl 1 rfl) ?_
        refine lv_iconst (v := zI 1) hx hb dX8_kinds_51 rfl ?_
        refine lv_iload_n hx hb dX8_kinds_52 rfl (lv_at hl 0 rfl) ?_
        refine lv_ishl hx hb dX8_kinds_53 ?_
        refine kz_any (fun z_9 rz_9 ez_9 => ?_)
        refine lv_ior hx hb dX8_kinds_54 ?_
        refine kz_any (fun z_10 rz_10 ez_10 => ?_)
        refine lv_istore_n (lv' := [(2, .int (zI z_10)), (3, .int (zI jk)), (0, .ref h0), (1, .int (zI f))]) hx hb dX8_kinds_55 rfl hl (by decide) rfl (fun ls hl => ?_)
        refine lv_iinc (v := (zI (jk + 1))) (lv' := [(3, .int (zI (jk + 1))), (2, .int (zI z_10)), (0, .ref h0), (1, .int (zI f))]) hx hb dX8_kinds_56 hl (k := 1) rfl (kz_inc _ 1) (by decide) rfl (fun ls hl => ?_)
        refine lv_goto (tgt := 17) hx hb dX8_kinds_59 (by decide) ?_
        exact ih17 _ (by omega) _ _ _ ⟨z_10, (jk + 1), rfl, (by omega), (by omega), rfl, rfl, lv_sub hl [0, 1, 2, 3] rfl⟩
  · have c_1 : ¬ (0 ≤ f ∧ f ≤ fn - 1) := b01f c_1
    refine lv_iconst (v := zI (-1)) hx hb dX8_kinds_11 rfl ?_
    exact W.iret (v := (zI (-1))) hx hb hr (fun t ht hW => QcP_of (by omega) trivial ht) (fun _ h9 => by cases h9) dX8_kinds_12
theorem dX8_widths_0 : decode cX8_widths 0 = .ok (.aload_n 0, 1) := kqo_2a kbl_X8_widths (pc := 0) rfl
theorem dX8_widths_1 : decode cX8_widths 1 = .ok (.getfield 28, 3) := kqo_b4 (x1 := 0) (x2 := 28) kbl_X8_widths (pc := 1) rfl rfl
theorem dX8_widths_4 : decode cX8_widths 4 = .ok (.iload_n 1, 1) := kqo_1b kbl_X8_widths (pc := 4) rfl
theorem dX8_widths_5 : decode cX8_widths 5 = .ok (.invokevirtual 109, 3) := kqo_b6 (x1 := 0) (x2 := 109) kbl_X8_widths (pc := 5) rfl rfl
theorem dX8_widths_8 : decode cX8_widths 8 = .ok (.ifCond .ne 5, 3) := kqo_9a (x1 := 0) (x2 := 5) kbl_X8_widths (pc := 8) rfl rfl
theorem dX8_widths_11 : decode cX8_widths 11 = .ok (.iconst (-1), 1) := kqo_02 kbl_X8_widths (pc := 11) rfl
theorem dX8_widths_12 : decode cX8_widths 12 = .ok (.ireturn, 1) := kqo_ac kbl_X8_widths (pc := 12) rfl
theorem dX8_widths_13 : decode cX8_widths 13 = .ok (.iconst 0, 1) := kqo_03 kbl_X8_widths (pc := 13) rfl
theorem dX8_widths_14 : decode cX8_widths 14 = .ok (.istore_n 2, 1) := kqo_3d kbl_X8_widths (pc := 14) rfl
theorem dX8_widths_15 : decode cX8_widths 15 = .ok (.iconst 1, 1) := kqo_04 kbl_X8_widths (pc := 15) rfl
theorem dX8_widths_16 : decode cX8_widths 16 = .ok (.istore_n 3, 1) := kqo_3e kbl_X8_widths (pc := 16) rfl
theorem dX8_widths_17 : decode cX8_widths 17 = .ok (.iload_n 3, 1) := kqo_1d kbl_X8_widths (pc := 17) rfl
theorem dX8_widths_18 : decode cX8_widths 18 = .ok (.bipush 9, 2) := kqo_10 (x1 := 9) kbl_X8_widths (pc := 18) rfl rfl
theorem dX8_widths_20 : decode cX8_widths 20 = .ok (.if_icmp .gt 43, 3) := kqo_a3 (x1 := 0) (x2 := 43) kbl_X8_widths (pc := 20) rfl rfl
theorem dX8_widths_23 : decode cX8_widths 23 = .ok (.aload_n 0, 1) := kqo_2a kbl_X8_widths (pc := 23) rfl
theorem dX8_widths_24 : decode cX8_widths 24 = .ok (.getfield 63, 3) := kqo_b4 (x1 := 0) (x2 := 63) kbl_X8_widths (pc := 24) rfl rfl
theorem dX8_widths_27 : decode cX8_widths 27 = .ok (.aload_n 0, 1) := kqo_2a kbl_X8_widths (pc := 27) rfl
theorem dX8_widths_28 : decode cX8_widths 28 = .ok (.getfield 28, 3) := kqo_b4 (x1 := 0) (x2 := 28) kbl_X8_widths (pc := 28) rfl rfl
theorem dX8_widths_31 : decode cX8_widths 31 = .ok (.iload_n 1, 1) := kqo_1b kbl_X8_widths (pc := 31) rfl
theorem dX8_widths_32 : decode cX8_widths 32 = .ok (.aload_n 0, 1) := kqo_2a kbl_X8_widths (pc := 32) rfl
theorem dX8_widths_33 : decode cX8_widths 33 = .ok (.getfield 28, 3) := kqo_b4 (x1 := 0) (x2 := 28) kbl_X8_widths (pc := 33) rfl rfl
theorem dX8_widths_36 : decode cX8_widths 36 = .ok (.getfield 112, 3) := kqo_b4 (x1 := 0) (x2 := 112) kbl_X8_widths (pc := 36) rfl rfl
theorem dX8_widths_39 : decode cX8_widths 39 = .ok (.iload_n 1, 1) := kqo_1b kbl_X8_widths (pc := 39) rfl
theorem dX8_widths_40 : decode cX8_widths 40 = .ok (.iaload, 1) := kqo_2e kbl_X8_widths (pc := 40) rfl
theorem dX8_widths_41 : decode cX8_widths 41 = .ok (.iload_n 3, 1) := kqo_1d kbl_X8_widths (pc := 41) rfl
theorem dX8_widths_42 : decode cX8_widths 42 = .ok (.invokestatic 272, 3) := kqo_b8 (x1 := 1) (x2 := 16) kbl_X8_widths (pc := 42) rfl rfl
theorem dX8_widths_45 : decode cX8_widths 45 = .ok (.invokevirtual 276, 3) := kqo_b6 (x1 := 1) (x2 := 20) kbl_X8_widths (pc := 45) rfl rfl
theorem dX8_widths_48 : decode cX8_widths 48 = .ok (.ifCond .eq 9, 3) := kqo_99 (x1 := 0) (x2 := 9) kbl_X8_widths (pc := 48) rfl rfl
theorem dX8_widths_51 : decode cX8_widths 51 = .ok (.iload_n 2, 1) := kqo_1c kbl_X8_widths (pc := 51) rfl
theorem dX8_widths_52 : decode cX8_widths 52 = .ok (.iconst 1, 1) := kqo_04 kbl_X8_widths (pc := 52) rfl
theorem dX8_widths_53 : decode cX8_widths 53 = .ok (.iload_n 3, 1) := kqo_1d kbl_X8_widths (pc := 53) rfl
theorem dX8_widths_54 : decode cX8_widths 54 = .ok (.ishl, 1) := kqo_78 kbl_X8_widths (pc := 54) rfl
theorem dX8_widths_55 : decode cX8_widths 55 = .ok (.ior, 1) := kqo_80 kbl_X8_widths (pc := 55) rfl
theorem dX8_widths_56 : decode cX8_widths 56 = .ok (.istore_n 2, 1) := kqo_3d kbl_X8_widths (pc := 56) rfl
theorem dX8_widths_57 : decode cX8_widths 57 = .ok (.iinc 3 1, 3) := kqo_84 (x1 := 3) (x2 := 1) kbl_X8_widths (pc := 57) rfl rfl
theorem dX8_widths_60 : decode cX8_widths 60 = .ok (.goto (-43), 3) := kqo_a7 (x1 := 255) (x2 := 213) kbl_X8_widths (pc := 60) rfl rfl
theorem dX8_widths_63 : decode cX8_widths 63 = .ok (.iload_n 2, 1) := kqo_1c kbl_X8_widths (pc := 63) rfl
theorem dX8_widths_64 : decode cX8_widths 64 = .ok (.ireturn, 1) := kqo_ac kbl_X8_widths (pc := 64) rfl
set_option maxRecDepth 20000 in
theorem ggX8_widths_X0_isFont : GoodIn wsX8_widths wsX0_isFont := goodIn_4 _ (List.forall_mem_cons.mpr ⟨List.mem_cons_of_mem _ (List.mem_append_left _ (List.mem_append_left _ (List.mem_append_left _ (List.mem_append_left _ (List.mem_of_getElem? (i := 7) rfl))))), List.forall_mem_append.mpr ⟨List.forall_mem_cons.mpr ⟨List.mem_cons_of_mem _ (List.mem_append_left _ (List.mem_append_left _ (List.mem_append_left _ (List.mem_append_left _ (List.mem_of_getElem? (i := 8) rfl))))), List.forall_mem_cons.mpr ⟨List.mem_cons_of_mem _ (List.mem_append_left _ (List.mem_append_left _ (List.mem_append_left _ (List.mem_append_left _ (List.mem_of_getElem? (i := 9) rfl))))), List.forall_mem_cons.mpr ⟨List.mem_cons_of_mem _ (List.mem_append_left _ (List.mem_append_left _ (List.mem_append_left _ (List.mem_append_left _ (List.mem_of_getElem? (i := 10) rfl))))), List.forall_mem_cons.mpr ⟨List.mem_cons_of_mem _ (List.mem_append_left _ (List.mem_append_left _ (List.mem_append_left _ (List.mem_append_left _ (List.mem_of_getElem? (i := 11) rfl))))), fun _ h9 => absurd h9 List.not_mem_nil⟩⟩⟩⟩, fun w h9 => List.mem_cons_of_mem _ (List.mem_append_left _ (List.mem_append_right _ (h9)))⟩⟩) (by decide +kernel)
set_option maxRecDepth 20000 in
theorem gX8_widths_X0_isFont : GoodIn wsX8_widths (wsV RX8 109 RX0 yX0_isFont wsX0_isFont) := goodIn_app (goodIn_4 _ (List.forall_mem_cons.mpr ⟨List.mem_cons_of_mem _ (List.mem_append_left _ (List.mem_append_left _ (List.mem_append_left _ (List.mem_append_left _ (List.mem_of_getElem? (i := 3) rfl))))), List.forall_mem_cons.mpr ⟨List.mem_cons_of_mem _ (List.mem_append_left _ (List.mem_append_left _ (List.mem_append_left _ (List.mem_append_left _ (List.mem_of_getElem? (i := 4) rfl))))), List.forall_mem_cons.mpr ⟨List.mem_cons_of_mem _ (List.mem_append_left _ (List.mem_append_left _ (List.mem_append_left _ (List.mem_append_left _ (List.mem_of_getElem? (i := 5) rfl))))), List.forall_mem_cons.mpr ⟨List.mem_cons_of_mem _ (List.mem_append_left _ (List.mem_append_left _ (List.mem_append_left _ (List.mem_append_left _ (List.mem_of_getElem? (i := 6) rfl))))), fun _ h9 => absurd h9 List.not_mem_nil⟩⟩⟩⟩) (by decide +kernel)) ggX8_widths_X0_isFont
set_option maxRecDepth 20000 in
theorem ggX8_widths_X2_areSo : GoodIn wsX8_widths wsX2_areSo := goodIn_4 _ (List.forall_mem_cons.mpr ⟨List.mem_cons_of_mem _ (List.mem_append_left _ (List.mem_append_left _ (List.mem_append_left _ (List.mem_append_left _ (List.mem_of_getElem? (i := 19) rfl))))), List.forall_mem_append.mpr ⟨List.forall_mem_append.mpr ⟨List.forall_mem_cons.mpr ⟨List.mem_cons_of_mem _ (List.mem_append_left _ (List.mem_append_left _ (List.mem_append_left _ (List.mem_append_left _ (List.mem_of_getElem? (i := 20) rfl))))), List.forall_mem_cons.mpr ⟨List.mem_cons_of_mem _ (List.mem_append_left _ (List.mem_append_left _ (List.mem_append_left _ (List.mem_append_left _ (List.mem_of_getElem? (i := 21) rfl))))), List.forall_mem_cons.mpr ⟨List.mem_cons_of_mem _ (List.mem_append_left _ (List.mem_append_left _ (List.mem_append_left _ (List.mem_append_left _ (List.mem_of_getElem? (i := 22) rfl))))), List.forall_mem_cons.mpr ⟨List.mem_cons_of_mem _ (List.mem_append_left _ (List.mem_append_left _ (List.mem_append_left _ (List.mem_append_left _ (List.mem_of_getElem? (i := 23) rfl))))), List.forall_mem_cons.mpr ⟨List.mem_cons_of_mem _ (List.mem_append_left _ (List.mem_append_left _ (List.mem_append_left _ (List.mem_append_right _ (List.mem_of_getElem? (i := 0) rfl))))), List.forall_mem_cons.mpr ⟨List.mem_cons_of_mem _ (List.mem_append_left _ (List.mem_append_left _ (List.mem_append_left _ (List.mem_append_right _ (List.mem_of_getElem? (i := 1) rfl))))), List.forall_mem_cons.mpr ⟨List.mem_cons_of_mem _ (List.mem_append_left _ (List.mem_append_left _ (List.mem_append_left _ (List.mem_append_right _ (List.mem_of_getElem? (i := 2) rfl))))), List.forall_mem_cons.mpr ⟨List.mem_cons_of_mem _ (List.mem_append_left _ (List.mem_append_left _ (List.mem_append_left _ (List.mem_append_left _ (List.mem_of_getElem? (i := 6) rfl))))), List.forall_mem_cons.mpr ⟨List.mem_cons_of_mem _ (List.mem_append_left _ (List.mem_append_left _ (List.mem_append_left _ (List.mem_append_right _ (List.mem_of_getElem? (i := 3) rfl))))), List.forall_mem_cons.mpr ⟨List.mem_cons_of_mem _ (List.mem_append_left _ (List.mem_append_left _ (List.mem_append_left _ (List.mem_append_right _ (List.mem_of_getElem? (i := 4) rfl))))), List.forall_mem_cons.mpr ⟨List.mem_cons_of_mem _ (List.mem_append_left _ (List.mem_append_left _ (List.mem_append_left _ (List.mem_append_right _ (List.mem_of_getElem? (i := 5) rfl))))), List.forall_mem_cons.mpr ⟨List.mem_cons_of_mem _ (List.mem_append_left _ (List.mem_append_left _ (List.mem_append_left _ (List.mem_append_right _ (List.mem_of_getElem? (i := 6) rfl))))), List.forall_mem_cons.mpr ⟨List.mem_cons_of_mem _ (List.mem_append_left _ (List.mem_append_left _ (List.mem_append_left _ (List.mem_append_left _ (List.mem_of_getElem? (i := 4) rfl))))), List.forall_mem_cons.mpr ⟨List.mem_cons_of_mem _ (List.mem_append_left _ (List.mem_append_left _ (List.mem_append_left _ (List.mem_append_left _ (List.mem_of_getElem? (i := 5) rfl))))), List.forall_mem_cons.mpr ⟨List.mem_cons_of_mem _ (List.mem_append_left _ (List.mem_append_left _ (List.mem_append_left _ (List.mem_append_left _ (List.mem_of_getElem? (i := 7) rfl))))), List.forall_mem_cons.mpr ⟨List.mem_cons_of_mem _ (List.mem_append_left _ (List.mem_append_left _ (List.mem_append_left _ (List.mem_append_left _ (List.mem_of_getElem? (i := 8) rfl))))), List.forall_mem_cons.mpr ⟨List.mem_cons_of_mem _ (List.mem_append_left _ (List.mem_append_left _ (List.mem_append_left _ (List.mem_append_left _ (List.mem_of_getElem? (i := 9) rfl))))), List.forall_mem_cons.mpr ⟨List.mem_cons_of_mem _ (List.mem_append_left _ (List.mem_append_left _ (List.mem_append_left _ (List.mem_append_left _ (List.mem_of_getElem? (i := 10) rfl))))), List.forall_mem_cons.mpr ⟨List.mem_cons_of_mem _ (List.mem_append_left _ (List.mem_append_left _ (List.mem_append_left _ (List.mem_append_left _ (List.mem_of_getElem? (i := 11) rfl))))), List.forall_mem_cons.mpr ⟨List.mem_cons_of_mem _ (List.mem_append_left _ (List.mem_append_left _ (List.mem_append_left _ (List.mem_append_left _ (List.mem_of_getElem? (i := 13) rfl))))), List.forall_mem_cons.mpr ⟨List.mem_cons_of_mem _ (List.mem_append_left _ (List.mem_append_left _ (List.mem_append_left _ (List.mem_append_left _ (List.mem_of_getElem? (i := 14) rfl))))), fun _ h9 => absurd h9 List.not_mem_nil⟩⟩⟩⟩⟩⟩⟩⟩⟩⟩⟩⟩⟩⟩⟩⟩⟩⟩⟩⟩⟩, fun w h9 => List.mem_cons_of_mem _ (List.mem_append_right _ (h9))⟩, fun w h9 => List.mem_cons_of_mem _ (List.mem_append_left _ (List.mem_append_right _ (h9)))⟩⟩) (by decide +kernel)
set_option maxRecDepth 20000 in
theorem gX8_widths_X2_areSo : GoodIn wsX8_widths (wsV RX8 276 RX2 yX2_areSo wsX2_areSo) := goodIn_app (goodIn_4 _ (List.forall_mem_cons.mpr ⟨List.mem_cons_of_mem _ (List.mem_append_left _ (List.mem_append_left _ (List.mem_append_left _ (List.mem_append_left _ (List.mem_of_getElem? (i := 15) rfl))))), List.forall_mem_cons.mpr ⟨List.mem_cons_of_mem _ (List.mem_append_left _ (List.mem_append_left _ (List.mem_append_left _ (List.mem_append_left _ (List.mem_of_getElem? (i := 16) rfl))))), List.forall_mem_cons.mpr ⟨List.mem_cons_of_mem _ (List.mem_append_left _ (List.mem_append_left _ (List.mem_append_left _ (List.mem_append_left _ (List.mem_of_getElem? (i := 17) rfl))))), List.forall_mem_cons.mpr ⟨List.mem_cons_of_mem _ (List.mem_append_left _ (List.mem_append_left _ (List.mem_append_left _ (List.mem_append_left _ (List.mem_of_getElem? (i := 18) rfl))))), fun _ h9 => absurd h9 List.not_mem_nil⟩⟩⟩⟩) (by decide +kernel)) ggX8_widths_X2_areSo
set_option maxRecDepth 20000 in
theorem ggX8_widths_X8_stepOf : GoodIn wsX8_widths wsX8_stepOf := goodIn_4 _ (List.forall_mem_cons.mpr ⟨List.mem_cons_of_mem _ (List.mem_append_left _ (List.mem_append_left _ (List.mem_append_left _ (List.mem_append_left _ (List.mem_of_getElem? (i := 14) rfl))))), fun _ h9 => absurd h9 List.not_mem_nil⟩) (by decide +kernel)
set_option maxRecDepth 20000 in
theorem gX8_widths_X8_stepOf : GoodIn wsX8_widths (va_wsS RX8 272 yX8_stepOf wsX8_stepOf) := goodIn_app (goodIn_4 _ (List.forall_mem_cons.mpr ⟨List.mem_cons_of_mem _ (List.mem_append_left _ (List.mem_append_left _ (List.mem_append_left _ (List.mem_append_left _ (List.mem_of_getElem? (i := 12) rfl))))), List.forall_mem_cons.mpr ⟨List.mem_cons_of_mem _ (List.mem_append_left _ (List.mem_append_left _ (List.mem_append_left _ (List.mem_append_left _ (List.mem_of_getElem? (i := 13) rfl))))), List.forall_mem_cons.mpr ⟨List.mem_cons_of_mem _ (List.mem_append_left _ (List.mem_append_left _ (List.mem_append_left _ (List.mem_append_left _ (List.mem_of_getElem? (i := 10) rfl))))), fun _ h9 => absurd h9 List.not_mem_nil⟩⟩⟩) (by decide +kernel)) ggX8_widths_X8_stepOf
set_option maxRecDepth 20000 in
theorem mw_X8_widths_0 : (.fieldLink RX8 28 "FontRuns" "fontRow" "LFontRuns$FontRow;" : Cond) ∈ wsX8_widths := List.mem_cons_of_mem _ (List.mem_append_left _ (List.mem_append_left _ (List.mem_append_left _ (List.mem_append_left _ (List.mem_of_getElem? (i := 0) rfl)))))
set_option maxRecDepth 20000 in
theorem mw_X8_widths_1 : (.fieldLink RX8 63 "FontRuns" "readings" "LFontRuns$Readings;" : Cond) ∈ wsX8_widths := List.mem_cons_of_mem _ (List.mem_append_left _ (List.mem_append_left _ (List.mem_append_left _ (List.mem_append_left _ (List.mem_of_getElem? (i := 1) rfl)))))
set_option maxRecDepth 20000 in
theorem mw_X8_widths_2 : (.fieldLink RX8 112 "FontRuns$FontRow" "kind" "[I" : Cond) ∈ wsX8_widths := List.mem_cons_of_mem _ (List.mem_append_left _ (List.mem_append_left _ (List.mem_append_left _ (List.mem_append_left _ (List.mem_of_getElem? (i := 2) rfl)))))
theorem ax_X8_widths_0 {e0 e1 e2 e3 e4 e5 e6 : Nat × va_E} {k : va_W} : ([1] : List Nat).map (fun i => (([e0, e1, e2, e3, e4, e5, e6] : va_W) ++ k)[i]?) = ([e1] : va_W).map some := rfl
theorem ax_X8_widths_1 {e0 e1 e2 e3 e4 e5 e6 : Nat × va_E} {k : va_W} : ([] : List Nat).map (fun i => (([e0, e1, e2, e3, e4, e5, e6] : va_W) ++ k)[i]?) = ([] : va_W).map some := rfl
theorem ax_X8_widths_2 {e0 e1 e2 e3 e4 e5 e6 : Nat × va_E} : ([4, 5, 6, 1, 2, 3] : List Nat).map (fun i => ([e0, e1, e2, e3, e4, e5, e6] : va_W)[i]?) = ([e4, e5, e6, e1, e2, e3] : va_W).map some := rfl
set_option maxHeartbeats 4000000 in
set_option maxRecDepth 100000 in
theorem c_X8_widths (l : Launch) (D : va_G) (sz : Nat) (f : Int) (h0 : Nat) (sh : Nat) (rd : Nat) (fr : Nat) (wr : Nat) (pf : Nat) (rc : Nat) (se : Nat) (rs : Nat) (sw : Nat) (sp : Nat) (ss : Nat) (ew : Int) (wc : Int64) (tr : Int) (lf : Int) (k1 : Nat) (k2 : Nat) (k3 : Nat) (fn : Int) (ck1 : ClassId) (fk : Nat → Int32) (ck2 : ClassId) (fb : Nat → Int32) (dn : Int) (v1 : Nat) (v2 : Nat) (cv1 : ClassId) (fv : Nat → Int32) (cv2 : ClassId) (fq : Nat → Option Nat) (o2 : Nat) (pr : Nat → Nat) (gp : Nat → Nat → Int32) (cy : ClassId) (q0 : rg f) (q1 : 0 ≤ fn ∧ fn ≤ 4) (q2 : 0 ≤ dn ∧ dn ≤ 8) (q3 : kOut fq pr o2 8) (q4 : o2 + 8 ≤ 56) : Met l yX8_widths wsX8_widths ({ frames := 4, cells := 0, slots := 0, locals := 90 }) (kPre [.ref h0, .int (zI f)] D (([(h0, .inr (8, [.ref sh, .ref rd, .ref fr, .ref wr, .ref pf, .ref rc, .ref se, .ref rs, .ref sw, .ref sp, .ref ss, .int (zI ew), .long wc, .int (zI tr), .int (zI lf)])), (fr, .inr (0, [.ref k1, .ref k2, .ref k3, .int (zI fn)])), (k1, .inl (ck1, 4, .inl fk)), (k2, .inl (ck2, 4, .inl fb)), (rs, .inr (2, [.int (zI dn), .ref v1, .ref v2])), (v1, .inl (cv1, 8, .inl fv)), (v2, .inl (cv2, 8, .inr (.inr (.inr (.inr (fq))))))] : va_W) ++ kRows pr gp cy) [(ck1, .int), (ck2, .int), (cv1, .int), (cv2, .array .int), (cy, .int)] sz) (QcP (fun rz => True)) 0 0 (fun _ => False) := by
  refine Met.ofW (cc := cX8_widths) (maxL := 4) (ret := (some .int)) (by decide) rfl ?_
  intro p e s m args below meth c s₁ B hml hv
  obtain ⟨rfl, hsz, hP, hK, hD0, hN⟩ := hv
  have hx := B.exec
  have hb := B.bytes
  have hr := B.returns
  have hts := atoms_spec (ws := wsX8_widths) B.pre
  have hown : s.vm.findClass RX8 = some m.cls := findClass_of_methodNamed B.named
  have hlocks := B.notSynchronized
  subst hsz
  have hD := hD0
  have hP : va_P D vwCl (([(h0, .inr (8, [.ref sh, .ref rd, .ref fr, .ref wr, .ref pf, .ref rc, .ref se, .ref rs, .ref sw, .ref sp, .ref ss, .int (zI ew), .long wc, .int (zI tr), .int (zI lf)])), (fr, .inr (0, [.ref k1, .ref k2, .ref k3, .int (zI fn)])), (k1, .inl (ck1, 4, .inl fk)), (k2, .inl (ck2, 4, .inl fb)), (rs, .inr (2, [.int (zI dn), .ref v1, .ref v2])), (v1, .inl (cv1, 8, .inl fv)), (v2, .inl (cv2, 8, .inr (.inr (.inr (.inr (fq))))))] : va_W) ++ kRows pr gp cy) s.heap := hP
  have hl := lv_entry ([.ref h0, .int (zI f)]) (n := 4) (Nat.le_of_ble_eq_true rfl)
  rw [lg_entry_eq]
  generalize (lg_sl ([.ref h0, .int (zI f)]) ++ List.replicate (4 - (lg_sl ([.ref h0, .int (zI f)])).length) Slot.unset).toArray = ls at hl ⊢
  have hl : lv_has ls 4 [(0, .ref h0), (1, .int (zI f))] := hl
  refine lv_aload_n hx hb dX8_widths_0 rfl (lv_at hl 0 rfl) ?_
  refine va_get (D := D) (ci := 8) (v := .ref fr) (C := RX8) (T := TX8) (N := 15) hx hb hts (fun _ h9 => List.mem_cons_of_mem _ (List.mem_append_left _ (List.mem_append_left _ (List.mem_append_right _ h9)))) hown hK hP 0 rfl rfl 2 (by decide) (hts (.fieldLink RX8 28 "FontRuns" "fontRow" "LFontRuns$FontRow;") mw_X8_widths_0) (fun _ h9 => h9) rfl dX8_widths_1 ?_
  refine lv_iload_n hx hb dX8_widths_4 rfl (lv_at hl 1 rfl) ?_
  refine k_callR (va_runV (As := [.int (zI f)]) (rest := []) ⟨hx, hb, hml, hown, hts⟩ (c_X0_isFont l D s.heap.size (f := f) (h0 := fr) (k1 := k1) (k2 := k2) (k3 := k3) (n := fn) q0 q1) (cwV 1 hts gX8_widths_X0_isFont rfl rfl rfl (by decide +kernel) ⟨Nat.le_of_ble_eq_true rfl, Nat.le_of_ble_eq_true rfl⟩) (kPreV hP (kD0 hD) hK hN [1] [] ax_X8_widths_0 rfl (by decide +kernel) 1 0 rfl rfl) rfl rfl hl.1 rfl (lv_room (Nat.le_of_ble_eq_true rfl)) dX8_widths_5 ⟨Nat.le_of_ble_eq_true rfl, Nat.le_of_ble_eq_true rfl⟩) ?_
  refine lv_if_ne (tgt := 13) hx hb dX8_widths_8 (by decide) (fun c_1 => ?_) (fun c_1 => ?_)
  · have c_1 : 0 ≤ f ∧ f ≤ fn - 1 := b01t c_1
    refine lv_iconst (v := zI 0) hx hb dX8_widths_13 rfl ?_
    refine lv_istore_n (lv' := [(2, .int (zI 0)), (0, .ref h0), (1, .int (zI f))]) hx hb dX8_widths_14 rfl hl (by decide) rfl (fun ls hl => ?_)
    refine lv_iconst (v := zI 1) hx hb dX8_widths_15 rfl ?_
    refine lv_istore_n (lv' := [(3, .int (zI 1)), (2, .int (zI 0)), (0, .ref h0), (1, .int (zI f))]) hx hb dX8_widths_16 rfl hl (by decide) rfl (fun ls hl => ?_)
    refine k_loopM (I := fun n9 H locs ls => ∃ (js : Int) (jk : Int), n9 = (10 - jk).toNat ∧ (rg js) ∧ (1 ≤ jk ∧ jk ≤ 10) ∧ H = s.heap ∧ locs = [] ∧ lv_has ls 4 [(3, .int (zI jk)), (2, .int (zI js)), (0, .ref h0), (1, .int (zI f))]) ?_ _ ⟨0, 1, rfl, (by omega), (by omega), rfl, rfl, hl⟩
    intro n17 ih17 H locs ls hI
    obtain ⟨js, jk, en17, v_170, v_171, eH, eL, hl⟩ := hI
    subst eH
    subst eL
    refine lv_iload_n hx hb dX8_widths_17 rfl (lv_at hl 0 rfl) ?_
    refine lv_bipush (v := zI 9) hx hb dX8_widths_18 (by decide) ?_
    refine kz_icmp_gt (tgt := 63) hx hb dX8_widths_20 (by decide) (by omega) (by omega) (fun c_2 => ?_) (fun c_2 => ?_)
    · refine lv_iload_n hx hb dX8_widths_63 rfl (lv_at hl 1 rfl) ?_
      exact W.iret (v := (zI js)) hx hb hr (fun t ht hW => QcP_of (by omega) trivial ht) (fun _ h9 => by cases h9) dX8_widths_64
    · refine lv_aload_n hx hb dX8_widths_23 rfl (lv_at hl 2 rfl) ?_
      refine va_get (D := D) (ci := 8) (v := .ref rs) (C := RX8) (T := TX8) (N := 15) hx hb hts (fun _ h9 => List.mem_cons_of_mem _ (List.mem_append_left _ (List.mem_append_left _ (List.mem_append_right _ h9)))) hown hK hP 0 rfl rfl 7 (by decide) (hts (.fieldLink RX8 63 "FontRuns" "readings" "LFontRuns$Readings;") mw_X8_widths_1) (fun _ h9 => h9) rfl dX8_widths_24 ?_
      refine lv_aload_n hx hb dX8_widths_27 rfl (lv_at hl 2 rfl) ?_
      refine va_get (D := D) (ci := 8) (v := .ref fr) (C := RX8) (T := TX8) (N := 15) hx hb hts (fun _ h9 => List.mem_cons_of_mem _ (List.mem_append_left _ (List.mem_append_left _ (List.mem_append_right _ h9)))) hown hK hP 0 rfl rfl 2 (by decide) (hts (.fieldLink RX8 28 "FontRuns" "fontRow" "LFontRuns$FontRow;") mw_X8_widths_0) (fun _ h9 => h9) rfl dX8_widths_28 ?_
      refine lv_iload_n hx hb dX8_widths_31 rfl (lv_at hl 3 rfl) ?_
      refine lv_aload_n hx hb dX8_widths_32 rfl (lv_at hl 2 rfl) ?_
      refine va_get (D := D) (ci := 8) (v := .ref fr) (C := RX8) (T := TX8) (N := 15) hx hb hts (fun _ h9 => List.mem_cons_of_mem _ (List.mem_append_left _ (List.mem_append_left _ (List.mem_append_right _ h9)))) hown hK hP 0 rfl rfl 2 (by decide) (hts (.fieldLink RX8 28 "FontRuns" "fontRow" "LFontRuns$FontRow;") mw_X8_widths_0) (fun _ h9 => h9) rfl dX8_widths_33 ?_
      refine va_get (D := D) (ci := 0) (v := .ref k1) (C := RX0) (T := TX0) (N := 4) hx hb hts (fun _ h9 => List.mem_cons_of_mem _ (List.mem_append_left _ (List.mem_append_right _ h9))) hown hK hP 1 rfl rfl 0 (by decide) (hts (.fieldLink RX8 112 "FontRuns$FontRow" "kind" "[I") mw_X8_widths_2) (fun _ h9 => h9) rfl dX8_widths_36 ?_
      refine lv_iload_n hx hb dX8_widths_39 rfl (lv_at hl 3 rfl) ?_
      refine kz_iald hx hb hK hP 2 0 rfl rfl (by omega) dX8_widths_40 (fun z_3 rz_3 ez_3 => ?_)
      refine lv_iload_n hx hb dX8_widths_41 rfl (lv_at hl 0 rfl) ?_
      refine k_callP (va_runS (As := [.int (zI z_3), .int (zI jk)]) (rest := [.int (zI f), .ref fr, .ref rs]) ⟨hx, hb, hml, hown, hts⟩ (c_X8_stepOf l D s.heap.size (k := z_3) (b := jk) (by omega) (by omega)) (va_cwS 2 hts gX8_widths_X8_stepOf rfl rfl rfl (by decide +kernel) ⟨Nat.le_of_ble_eq_true rfl, Nat.le_of_ble_eq_true rfl⟩) (kPreS hP (kD0 hD) hK hN [] [] ax_X8_widths_1 rfl (by decide +kernel)) rfl rfl hl.1 rfl (lv_room (Nat.le_of_ble_eq_true rfl)) dX8_widths_42 ⟨Nat.le_of_ble_eq_true rfl, Nat.le_of_ble_eq_true rfl⟩) (fun z_4 rz_4 h_5 => ?_)
      refine k_callP (va_runV (As := [.ref fr, .int (zI f), .int (zI z_4)]) (rest := []) ⟨hx, hb, hml, hown, hts⟩ (c_X2_areSo l D s.heap.size (fr := fr) (ch := f) (sp := z_4) (h0 := rs) (rn := dn) (v1 := v1) (v2 := v2) (cv1 := cv1) (fv := fv) (cv2 := cv2) (fq := fq) (o2 := o2) (k1 := k1) (k2 := k2) (k3 := k3) (n := fn) (ck1 := ck1) (fk := fk) (ck2 := ck2) (fb := fb) (pr := pr) (gp := gp) (cy := cy) q0 (by omega) q2 q1 q3 q4) (cwV 3 hts gX8_widths_X2_areSo rfl rfl rfl (by decide +kernel) ⟨Nat.le_of_ble_eq_true rfl, Nat.le_of_ble_eq_true rfl⟩) (kPreVP hP (kD0 hD) hK hN [4, 5, 6, 1, 2, 3] [2, 3, 0, 1, 4] ax_X8_widths_2 rfl (by decide +kernel) 4 2 rfl rfl) rfl rfl hl.1 rfl (lv_room (Nat.le_of_ble_eq_true rfl)) dX8_widths_45 ⟨Nat.le_of_ble_eq_true rfl, Nat.le_of_ble_eq_true rfl⟩) (fun z_6 rz_6 h_7 => ?_)
      refine kz_if_eq (tgt := 57) hx hb dX8_widths_48 (by decide) (by omega) (fun c_8 => ?_) (fun c_8 => ?_)
      · refine lv_iinc (v := (zI (jk + 1))) (lv' := [(3, .int (zI (jk + 1))), (2, .int (zI js)), (0, .ref h0), (1, .int (zI f))]) hx hb dX8_widths_57 hl (k := 0) rfl (kz_inc _ 1) (by decide) rfl (fun ls hl => ?_)
        refine lv_goto (tgt := 17) hx hb dX8_widths_60 (by decide) ?_
        exact ih17 _ (by omega) _ _ _ ⟨js, (jk + 1), rfl, v_170, (by omega), rfl, rfl, lv_sub hl [0, 1, 2, 3] rfl⟩
      · refine lv_iload_n hx hb dX8_widths_51 rfl (lv_at hl 1 rfl) ?_
        refine lv_iconst (v := zI 1) hx hb dX8_widths_52 rfl ?_
        refine lv_iload_n hx hb dX8_widths_53 rfl (lv_at hl 0 rfl) ?_
        refine lv_ishl hx hb dX8_widths_54 ?_
        refine kz_any (fun z_9 rz_9 ez_9 => ?_)
        refine lv_ior hx hb dX8_widths_55 ?_
        refine kz_any (fun z_10 rz_10 ez_10 => ?_)
        refine lv_istore_n (lv' := [(2, .int (zI z_10)), (3, .int (zI jk)), (0, .ref h0), (1, .int (zI f))]) hx hb dX8_widths_56 rfl hl (by decide) rfl (fun ls hl => ?_)
        refine lv_iinc (v := (zI (jk + 1))) (lv' := [(3, .int (zI (jk + 1))), (2, .int (zI z_10)), (0, .ref h0), (1, .int (zI f))]) hx hb dX8_widths_57 hl (k := 1) rfl (kz_inc _ 1) (by decide) rfl (fun ls hl => ?_)
        refine lv_goto (tgt := 17) hx hb dX8_widths_60 (by decide) ?_
        exact ih17 _ (by omega) _ _ _ ⟨z_10, (jk + 1), rfl, (by omega), (by omega), rfl, rfl, lv_sub hl [0, 1, 2, 3] rfl⟩
  · have c_1 : ¬ (0 ≤ f ∧ f ≤ fn - 1) := b01f c_1
    refine lv_iconst (v := zI (-1)) hx hb dX8_widths_11 rfl ?_
    exact W.iret (v := (zI (-1))) hx hb hr (fun t ht hW => QcP_of (by omega) trivial ht) (fun _ h9 => by cases h9) dX8_widths_12
theorem dX8_odds_0 : decode cX8_odds 0 = .ok (.iload_n 1, 1) := kqo_1b kbl_X8_odds (pc := 0) rfl
theorem dX8_odds_1 : decode cX8_odds 1 = .ok (.iconst 0, 1) := kqo_03 kbl_X8_odds (pc := 1) rfl
theorem dX8_odds_2 : decode cX8_odds 2 = .ok (.bipush 24, 2) := kqo_10 (x1 := 24) kbl_X8_odds (pc := 2) rfl rfl
theorem dX8_odds_4 : decode cX8_odds 4 = .ok (.invokestatic 128, 3) := kqo_b8 (x1 := 0) (x2 := 128) kbl_X8_odds (pc := 4) rfl rfl
theorem dX8_odds_7 : decode cX8_odds 7 = .ok (.ifCond .eq 12, 3) := kqo_99 (x1 := 0) (x2 := 12) kbl_X8_odds (pc := 7) rfl rfl
theorem dX8_odds_10 : decode cX8_odds 10 = .ok (.iload_n 2, 1) := kqo_1c kbl_X8_odds (pc := 10) rfl
theorem dX8_odds_11 : decode cX8_odds 11 = .ok (.iconst 0, 1) := kqo_03 kbl_X8_odds (pc := 11) rfl
theorem dX8_odds_12 : decode cX8_odds 12 = .ok (.iconst 1, 1) := kqo_04 kbl_X8_odds (pc := 12) rfl
theorem dX8_odds_13 : decode cX8_odds 13 = .ok (.invokestatic 128, 3) := kqo_b8 (x1 := 0) (x2 := 128) kbl_X8_odds (pc := 13) rfl rfl
theorem dX8_odds_16 : decode cX8_odds 16 = .ok (.ifCond .ne 7, 3) := kqo_9a (x1 := 0) (x2 := 7) kbl_X8_odds (pc := 16) rfl rfl
theorem dX8_odds_19 : decode cX8_odds 19 = .ok (.ldc2_w 280, 3) := kqo_14 (x1 := 1) (x2 := 24) kbl_X8_odds (pc := 19) rfl rfl
theorem dX8_odds_22 : decode cX8_odds 22 = .ok (.lreturn, 1) := kqo_ad kbl_X8_odds (pc := 22) rfl
theorem dX8_odds_23 : decode cX8_odds 23 = .ok (.aload_n 0, 1) := kqo_2a kbl_X8_odds (pc := 23) rfl
theorem dX8_odds_24 : decode cX8_odds 24 = .ok (.getfield 28, 3) := kqo_b4 (x1 := 0) (x2 := 28) kbl_X8_odds (pc := 24) rfl rfl
theorem dX8_odds_27 : decode cX8_odds 27 = .ok (.getfield 106, 3) := kqo_b4 (x1 := 0) (x2 := 106) kbl_X8_odds (pc := 27) rfl rfl
theorem dX8_odds_30 : decode cX8_odds 30 = .ok (.ifCond .eq 15, 3) := kqo_99 (x1 := 0) (x2 := 15) kbl_X8_odds (pc := 30) rfl rfl
theorem dX8_odds_33 : decode cX8_odds 33 = .ok (.aload_n 0, 1) := kqo_2a kbl_X8_odds (pc := 33) rfl
theorem dX8_odds_34 : decode cX8_odds 34 = .ok (.getfield 35, 3) := kqo_b4 (x1 := 0) (x2 := 35) kbl_X8_odds (pc := 34) rfl rfl
theorem dX8_odds_37 : decode cX8_odds 37 = .ok (.getfield 139, 3) := kqo_b4 (x1 := 0) (x2 := 139) kbl_X8_odds (pc := 37) rfl rfl
theorem dX8_odds_40 : decode cX8_odds 40 = .ok (.bipush 24, 2) := kqo_10 (x1 := 24) kbl_X8_odds (pc := 40) rfl rfl
theorem dX8_odds_42 : decode cX8_odds 42 = .ok (.if_icmp .lt 7, 3) := kqo_a1 (x1 := 0) (x2 := 7) kbl_X8_odds (pc := 42) rfl rfl
theorem dX8_odds_45 : decode cX8_odds 45 = .ok (.ldc2_w 280, 3) := kqo_14 (x1 := 1) (x2 := 24) kbl_X8_odds (pc := 45) rfl rfl
theorem dX8_odds_48 : decode cX8_odds 48 = .ok (.lreturn, 1) := kqo_ad kbl_X8_odds (pc := 48) rfl
theorem dX8_odds_49 : decode cX8_odds 49 = .ok (.aload_n 0, 1) := kqo_2a kbl_X8_odds (pc := 49) rfl
theorem dX8_odds_50 : decode cX8_odds 50 = .ok (.iload_n 1, 1) := kqo_1b kbl_X8_odds (pc := 50) rfl
theorem dX8_odds_51 : decode cX8_odds 51 = .ok (.invokevirtual 282, 3) := kqo_b6 (x1 := 1) (x2 := 26) kbl_X8_odds (pc := 51) rfl rfl
theorem dX8_odds_54 : decode cX8_odds 54 = .ok (.istore_n 3, 1) := kqo_3e kbl_X8_odds (pc := 54) rfl
theorem dX8_odds_55 : decode cX8_odds 55 = .ok (.bipush 16, 2) := kqo_10 (x1 := 16) kbl_X8_odds (pc := 55) rfl rfl
theorem dX8_odds_57 : decode cX8_odds 57 = .ok (.istore 4, 2) := kqo_36 (x1 := 4) kbl_X8_odds (pc := 57) rfl rfl
theorem dX8_odds_59 : decode cX8_odds 59 = .ok (.iload 4, 2) := kqo_15 (x1 := 4) kbl_X8_odds (pc := 59) rfl rfl
theorem dX8_odds_61 : decode cX8_odds 61 = .ok (.iconst 1, 1) := kqo_04 kbl_X8_odds (pc := 61) rfl
theorem dX8_odds_62 : decode cX8_odds 62 = .ok (.if_icmp .le 22, 3) := kqo_a4 (x1 := 0) (x2 := 22) kbl_X8_odds (pc := 62) rfl rfl
theorem dX8_odds_65 : decode cX8_odds 65 = .ok (.iload_n 3, 1) := kqo_1d kbl_X8_odds (pc := 65) rfl
theorem dX8_odds_66 : decode cX8_odds 66 = .ok (.iconst 2, 1) := kqo_05 kbl_X8_odds (pc := 66) rfl
theorem dX8_odds_67 : decode cX8_odds 67 = .ok (.irem, 1) := kqo_70 kbl_X8_odds (pc := 67) rfl
theorem dX8_odds_68 : decode cX8_odds 68 = .ok (.ifCond .ne 16, 3) := kqo_9a (x1 := 0) (x2 := 16) kbl_X8_odds (pc := 68) rfl rfl
theorem dX8_odds_71 : decode cX8_odds 71 = .ok (.iload_n 3, 1) := kqo_1d kbl_X8_odds (pc := 71) rfl
theorem dX8_odds_72 : decode cX8_odds 72 = .ok (.iconst 2, 1) := kqo_05 kbl_X8_odds (pc := 72) rfl
theorem dX8_odds_73 : decode cX8_odds 73 = .ok (.idiv, 1) := kqo_6c kbl_X8_odds (pc := 73) rfl
theorem dX8_odds_74 : decode cX8_odds 74 = .ok (.istore_n 3, 1) := kqo_3e kbl_X8_odds (pc := 74) rfl
theorem dX8_odds_75 : decode cX8_odds 75 = .ok (.iload 4, 2) := kqo_15 (x1 := 4) kbl_X8_odds (pc := 75) rfl rfl
theorem dX8_odds_77 : decode cX8_odds 77 = .ok (.iconst 2, 1) := kqo_05 kbl_X8_odds (pc := 77) rfl
theorem dX8_odds_78 : decode cX8_odds 78 = .ok (.idiv, 1) := kqo_6c kbl_X8_odds (pc := 78) rfl
theorem dX8_odds_79 : decode cX8_odds 79 = .ok (.istore 4, 2) := kqo_36 (x1 := 4) kbl_X8_odds (pc := 79) rfl rfl
theorem dX8_odds_81 : decode cX8_odds 81 = .ok (.goto (-22), 3) := kqo_a7 (x1 := 255) (x2 := 234) kbl_X8_odds (pc := 81) rfl rfl
theorem dX8_odds_84 : decode cX8_odds 84 = .ok (.iload_n 2, 1) := kqo_1c kbl_X8_odds (pc := 84) rfl
theorem dX8_odds_85 : decode cX8_odds 85 = .ok (.ifCond .ne 8, 3) := kqo_9a (x1 := 0) (x2 := 8) kbl_X8_odds (pc := 85) rfl rfl
theorem dX8_odds_88 : decode cX8_odds 88 = .ok (.iload_n 3, 1) := kqo_1d kbl_X8_odds (pc := 88) rfl
theorem dX8_odds_89 : decode cX8_odds 89 = .ok (.i2l, 1) := kqo_85 kbl_X8_odds (pc := 89) rfl
theorem dX8_odds_90 : decode cX8_odds 90 = .ok (.goto 6, 3) := kqo_a7 (x1 := 0) (x2 := 6) kbl_X8_odds (pc := 90) rfl rfl
theorem dX8_odds_93 : decode cX8_odds 93 = .ok (.iload 4, 2) := kqo_15 (x1 := 4) kbl_X8_odds (pc := 93) rfl rfl
theorem dX8_odds_95 : decode cX8_odds 95 = .ok (.i2l, 1) := kqo_85 kbl_X8_odds (pc := 95) rfl
theorem dX8_odds_96 : decode cX8_odds 96 = .ok (.lreturn, 1) := kqo_ad kbl_X8_odds (pc := 96) rfl
set_option maxRecDepth 20000 in
theorem ggX8_odds_X8_isWithin : GoodIn wsX8_odds wsX8_isWithin := goodIn_4 _ (List.forall_mem_cons.mpr ⟨List.mem_cons_of_mem _ (List.mem_append_left _ (List.mem_append_left _ (List.mem_append_left _ (List.mem_append_left _ (List.mem_append_left _ (List.mem_append_left _ (List.mem_of_getElem? (i := 8) rfl))))))), fun _ h9 => absurd h9 List.not_mem_nil⟩) (by decide +kernel)
set_option maxRecDepth 20000 in
theorem gX8_odds_X8_isWithin : GoodIn wsX8_odds (va_wsS RX8 128 yX8_isWithin wsX8_isWithin) := goodIn_app (goodIn_4 _ (List.forall_mem_cons.mpr ⟨List.mem_cons_of_mem _ (List.mem_append_left _ (List.mem_append_left _ (List.mem_append_left _ (List.mem_append_left _ (List.mem_append_left _ (List.mem_append_left _ (List.mem_of_getElem? (i := 5) rfl))))))), List.forall_mem_cons.mpr ⟨List.mem_cons_of_mem _ (List.mem_append_left _ (List.mem_append_left _ (List.mem_append_left _ (List.mem_append_left _ (List.mem_append_left _ (List.mem_append_left _ (List.mem_of_getElem? (i := 6) rfl))))))), List.forall_mem_cons.mpr ⟨List.mem_cons_of_mem _ (List.mem_append_left _ (List.mem_append_left _ (List.mem_append_left _ (List.mem_append_left _ (List.mem_append_left _ (List.mem_append_left _ (List.mem_of_getElem? (i := 7) rfl))))))), fun _ h9 => absurd h9 List.not_mem_nil⟩⟩⟩) (by decide +kernel)) ggX8_odds_X8_isWithin
set_option maxRecDepth 20000 in
theorem ggX8_odds_X8_lettersWithChanges : GoodIn wsX8_odds wsX8_lettersWithChanges := goodIn_4 _ (List.forall_mem_cons.mpr ⟨List.mem_cons_of_mem _ (List.mem_append_left _ (List.mem_append_left _ (List.mem_append_left _ (List.mem_append_left _ (List.mem_append_left _ (List.mem_append_left _ (List.mem_of_getElem? (i := 12) rfl))))))), List.forall_mem_append.mpr ⟨List.forall_mem_append.mpr ⟨List.forall_mem_append.mpr ⟨List.forall_mem_append.mpr ⟨List.forall_mem_append.mpr ⟨List.forall_mem_append.mpr ⟨List.forall_mem_cons.mpr ⟨List.mem_cons_of_mem _ (List.mem_append_left _ (List.mem_append_left _ (List.mem_append_left _ (List.mem_append_left _ (List.mem_append_left _ (List.mem_append_left _ (List.mem_of_getElem? (i := 13) rfl))))))), List.forall_mem_cons.mpr ⟨List.mem_cons_of_mem _ (List.mem_append_left _ (List.mem_append_left _ (List.mem_append_left _ (List.mem_append_left _ (List.mem_append_left _ (List.mem_append_left _ (List.mem_of_getElem? (i := 3) rfl))))))), List.forall_mem_cons.mpr ⟨List.mem_cons_of_mem _ (List.mem_append_left _ (List.mem_append_left _ (List.mem_append_left _ (List.mem_append_left _ (List.mem_append_left _ (List.mem_append_left _ (List.mem_of_getElem? (i := 14) rfl))))))), List.forall_mem_cons.mpr ⟨List.mem_cons_of_mem _ (List.mem_append_left _ (List.mem_append_left _ (List.mem_append_left _ (List.mem_append_left _ (List.mem_append_left _ (List.mem_append_left _ (List.mem_of_getElem? (i := 1) rfl))))))), List.forall_mem_cons.mpr ⟨List.mem_cons_of_mem _ (List.mem_append_left _ (List.mem_append_left _ (List.mem_append_left _ (List.mem_append_left _ (List.mem_append_left _ (List.mem_append_left _ (List.mem_of_getElem? (i := 15) rfl))))))), List.forall_mem_cons.mpr ⟨List.mem_cons_of_mem _ (List.mem_append_left _ (List.mem_append_left _ (List.mem_append_left _ (List.mem_append_left _ (List.mem_append_left _ (List.mem_append_left _ (List.mem_of_getElem? (i := 16) rfl))))))), List.forall_mem_cons.mpr ⟨List.mem_cons_of_mem _ (List.mem_append_left _ (List.mem_append_left _ (List.mem_append_left _ (List.mem_append_left _ (List.mem_append_left _ (List.mem_append_left _ (List.mem_of_getElem? (i := 17) rfl))))))), List.forall_mem_cons.mpr ⟨List.mem_cons_of_mem _ (List.mem_append_left _ (List.mem_append_left _ (List.mem_append_left _ (List.mem_append_left _ (List.mem_append_left _ (List.mem_append_left _ (List.mem_of_getElem? (i := 18) rfl))))))), List.forall_mem_cons.mpr ⟨List.mem_cons_of_mem _ (List.mem_append_left _ (List.mem_append_left _ (List.mem_append_left _ (List.mem_append_left _ (List.mem_append_left _ (List.mem_append_left _ (List.mem_of_getElem? (i := 19) rfl))))))), List.forall_mem_cons.mpr ⟨List.mem_cons_of_mem _ (List.mem_append_left _ (List.mem_append_left _ (List.mem_append_left _ (List.mem_append_left _ (List.mem_append_left _ (List.mem_append_left _ (List.mem_of_getElem? (i := 20) rfl))))))), List.forall_mem_cons.mpr ⟨List.mem_cons_of_mem _ (List.mem_append_left _ (List.mem_append_left _ (List.mem_append_left _ (List.mem_append_left _ (List.mem_append_left _ (List.mem_append_left _ (List.mem_of_getElem? (i := 21) rfl))))))), List.forall_mem_cons.mpr ⟨List.mem_cons_of_mem _ (List.mem_append_left _ (List.mem_append_left _ (List.mem_append_left _ (List.mem_append_left _ (List.mem_append_left _ (List.mem_append_left _ (List.mem_of_getElem? (i := 22) rfl))))))), List.forall_mem_cons.mpr ⟨List.mem_cons_of_mem _ (List.mem_append_left _ (List.mem_append_left _ (List.mem_append_left _ (List.mem_append_left _ (List.mem_append_left _ (List.mem_append_left _ (List.mem_of_getElem? (i := 23) rfl))))))), List.forall_mem_cons.mpr ⟨List.mem_cons_of_mem _ (List.mem_append_left _ (List.mem_append_left _ (List.mem_append_left _ (List.mem_append_left _ (List.mem_append_left _ (List.mem_append_right _ (List.mem_append_left _ (List.mem_of_getElem? (i := 0) rfl)))))))), List.forall_mem_cons.mpr ⟨List.mem_cons_of_mem _ (List.mem_append_left _ (List.mem_append_left _ (List.mem_append_left _ (List.mem_append_left _ (List.mem_append_left _ (List.mem_append_right _ (List.mem_append_left _ (List.mem_of_getElem? (i := 1) rfl)))))))), List.forall_mem_cons.mpr ⟨List.mem_cons_of_mem _ (List.mem_append_left _ (List.mem_append_left _ (List.mem_append_left _ (List.mem_append_left _ (List.mem_append_left _ (List.mem_append_right _ (List.mem_append_left _ (List.mem_of_getElem? (i := 2) rfl)))))))), List.forall_mem_cons.mpr ⟨List.mem_cons_of_mem _ (List.mem_append_left _ (List.mem_append_left _ (List.mem_append_left _ (List.mem_append_left _ (List.mem_append_left _ (List.mem_append_left _ (List.mem_of_getElem? (i := 6) rfl))))))), List.forall_mem_cons.mpr ⟨List.mem_cons_of_mem _ (List.mem_append_left _ (List.mem_append_left _ (List.mem_append_left _ (List.mem_append_left _ (List.mem_append_left _ (List.mem_append_left _ (List.mem_of_getElem? (i := 7) rfl))))))), List.forall_mem_cons.mpr ⟨List.mem_cons_of_mem _ (List.mem_append_left _ (List.mem_append_left _ (List.mem_append_left _ (List.mem_append_left _ (List.mem_append_left _ (List.mem_append_left _ (List.mem_of_getElem? (i := 8) rfl))))))), List.forall_mem_cons.mpr ⟨List.mem_cons_of_mem _ (List.mem_append_left _ (List.mem_append_left _ (List.mem_append_left _ (List.mem_append_left _ (List.mem_append_left _ (List.mem_append_right _ (List.mem_append_left _ (List.mem_of_getElem? (i := 3) rfl)))))))), List.forall_mem_cons.mpr ⟨List.mem_cons_of_mem _ (List.mem_append_left _ (List.mem_append_left _ (List.mem_append_left _ (List.mem_append_left _ (List.mem_append_left _ (List.mem_append_right _ (List.mem_append_left _ (List.mem_of_getElem? (i := 4) rfl)))))))), List.forall_mem_cons.mpr ⟨List.mem_cons_of_mem _ (List.mem_append_left _ (List.mem_append_left _ (List.mem_append_left _ (List.mem_append_left _ (List.mem_append_left _ (List.mem_append_right _ (List.mem_append_left _ (List.mem_of_getElem? (i := 5) rfl)))))))), List.forall_mem_cons.mpr ⟨List.mem_cons_of_mem _ (List.mem_append_left _ (List.mem_append_left _ (List.mem_append_left _ (List.mem_append_left _ (List.mem_append_left _ (List.mem_append_right _ (List.mem_append_left _ (List.mem_of_getElem? (i := 6) rfl)))))))), List.forall_mem_cons.mpr ⟨List.mem_cons_of_mem _ (List.mem_append_left _ (List.mem_append_left _ (List.mem_append_left _ (List.mem_append_left _ (List.mem_append_left _ (List.mem_append_right _ (List.mem_append_left _ (List.mem_of_getElem? (i := 7) rfl)))))))), fun _ h9 => absurd h9 List.not_mem_nil⟩⟩⟩⟩⟩⟩⟩⟩⟩⟩⟩⟩⟩⟩⟩⟩⟩⟩⟩⟩⟩⟩⟩⟩, List.forall_mem_append.mpr ⟨List.forall_mem_cons.mpr ⟨List.mem_cons_of_mem _ (List.mem_append_left _ (List.mem_append_left _ (List.mem_append_left _ (List.mem_append_left _ (List.mem_append_left _ (List.mem_append_right _ (List.mem_append_left _ (List.mem_of_getElem? (i := 8) rfl)))))))), List.forall_mem_cons.mpr ⟨List.mem_cons_of_mem _ (List.mem_append_left _ (List.mem_append_left _ (List.mem_append_left _ (List.mem_append_left _ (List.mem_append_left _ (List.mem_append_right _ (List.mem_append_left _ (List.mem_of_getElem? (i := 9) rfl)))))))), List.forall_mem_cons.mpr ⟨List.mem_cons_of_mem _ (List.mem_append_left _ (List.mem_append_left _ (List.mem_append_left _ (List.mem_append_left _ (List.mem_append_left _ (List.mem_append_right _ (List.mem_append_left _ (List.mem_of_getElem? (i := 10) rfl)))))))), List.forall_mem_cons.mpr ⟨List.mem_cons_of_mem _ (List.mem_append_left _ (List.mem_append_left _ (List.mem_append_left _ (List.mem_append_left _ (List.mem_append_left _ (List.mem_append_right _ (List.mem_append_left _ (List.mem_of_getElem? (i := 11) rfl)))))))), List.forall_mem_cons.mpr ⟨List.mem_cons_of_mem _ (List.mem_append_left _ (List.mem_append_left _ (List.mem_append_left _ (List.mem_append_left _ (List.mem_append_left _ (List.mem_append_right _ (List.mem_append_left _ (List.mem_of_getElem? (i := 12) rfl)))))))), List.forall_mem_cons.mpr ⟨List.mem_cons_of_mem _ (List.mem_append_left _ (List.mem_append_left _ (List.mem_append_left _ (List.mem_append_left _ (List.mem_append_left _ (List.mem_append_right _ (List.mem_append_left _ (List.mem_of_getElem? (i := 13) rfl)))))))), List.forall_mem_cons.mpr ⟨List.mem_cons_of_mem _ (List.mem_append_left _ (List.mem_append_left _ (List.mem_append_left _ (List.mem_append_left _ (List.mem_append_left _ (List.mem_append_right _ (List.mem_append_left _ (List.mem_of_getElem? (i := 14) rfl)))))))), List.forall_mem_cons.mpr ⟨List.mem_cons_of_mem _ (List.mem_append_left _ (List.mem_append_left _ (List.mem_append_left _ (List.mem_append_left _ (List.mem_append_left _ (List.mem_append_right _ (List.mem_append_left _ (List.mem_of_getElem? (i := 15) rfl)))))))), List.forall_mem_cons.mpr ⟨List.mem_cons_of_mem _ (List.mem_append_left _ (List.mem_append_left _ (List.mem_append_left _ (List.mem_append_left _ (List.mem_append_left _ (List.mem_append_right _ (List.mem_append_left _ (List.mem_of_getElem? (i := 16) rfl)))))))), List.forall_mem_cons.mpr ⟨List.mem_cons_of_mem _ (List.mem_append_left _ (List.mem_append_left _ (List.mem_append_left _ (List.mem_append_left _ (List.mem_append_left _ (List.mem_append_right _ (List.mem_append_left _ (List.mem_of_getElem? (i := 17) rfl)))))))), List.forall_mem_cons.mpr ⟨List.mem_cons_of_mem _ (List.mem_append_left _ (List.mem_append_left _ (List.mem_append_left _ (List.mem_append_left _ (List.mem_append_left _ (List.mem_append_right _ (List.mem_append_left _ (List.mem_of_getElem? (i := 18) rfl)))))))), List.forall_mem_cons.mpr ⟨List.mem_cons_of_mem _ (List.mem_append_left _ (List.mem_append_left _ (List.mem_append_left _ (List.mem_append_left _ (List.mem_append_left _ (List.mem_append_right _ (List.mem_append_left _ (List.mem_of_getElem? (i := 19) rfl)))))))), List.forall_mem_cons.mpr ⟨List.mem_cons_of_mem _ (List.mem_append_left _ (List.mem_append_left _ (List.mem_append_left _ (List.mem_append_left _ (List.mem_append_left _ (List.mem_append_right _ (List.mem_append_left _ (List.mem_of_getElem? (i := 20) rfl)))))))), List.forall_mem_cons.mpr ⟨List.mem_cons_of_mem _ (List.mem_append_left _ (List.mem_append_left _ (List.mem_append_left _ (List.mem_append_left _ (List.mem_append_left _ (List.mem_append_right _ (List.mem_append_left _ (List.mem_of_getElem? (i := 21) rfl)))))))), List.forall_mem_cons.mpr ⟨List.mem_cons_of_mem _ (List.mem_append_left _ (List.mem_append_left _ (List.mem_append_left _ (List.mem_append_left _ (List.mem_append_left _ (List.mem_append_right _ (List.mem_append_left _ (List.mem_of_getElem? (i := 22) rfl)))))))), List.forall_mem_cons.mpr ⟨List.mem_cons_of_mem _ (List.mem_append_left _ (List.mem_append_left _ (List.mem_append_left _ (List.mem_append_left _ (List.mem_append_left _ (List.mem_append_right _ (List.mem_append_left _ (List.mem_of_getElem? (i := 23) rfl)))))))), List.forall_mem_cons.mpr ⟨List.mem_cons_of_mem _ (List.mem_append_left _ (List.mem_append_left _ (List.mem_append_left _ (List.mem_append_left _ (List.mem_append_left _ (List.mem_append_right _ (List.mem_append_right _ (List.mem_append_left _ (List.mem_of_getElem? (i := 0) rfl))))))))), List.forall_mem_cons.mpr ⟨List.mem_cons_of_mem _ (List.mem_append_left _ (List.mem_append_left _ (List.mem_append_left _ (List.mem_append_left _ (List.mem_append_left _ (List.mem_append_right _ (List.mem_append_right _ (List.mem_append_left _ (List.mem_of_getElem? (i := 1) rfl))))))))), List.forall_mem_cons.mpr ⟨List.mem_cons_of_mem _ (List.mem_append_left _ (List.mem_append_left _ (List.mem_append_left _ (List.mem_append_left _ (List.mem_append_left _ (List.mem_append_right _ (List.mem_append_right _ (List.mem_append_left _ (List.mem_of_getElem? (i := 2) rfl))))))))), List.forall_mem_cons.mpr ⟨List.mem_cons_of_mem _ (List.mem_append_left _ (List.mem_append_left _ (List.mem_append_left _ (List.mem_append_left _ (List.mem_append_left _ (List.mem_append_right _ (List.mem_append_right _ (List.mem_append_left _ (List.mem_of_getElem? (i := 3) rfl))))))))), List.forall_mem_cons.mpr ⟨List.mem_cons_of_mem _ (List.mem_append_left _ (List.mem_append_left _ (List.mem_append_left _ (List.mem_append_left _ (List.mem_append_left _ (List.mem_append_right _ (List.mem_append_right _ (List.mem_append_left _ (List.mem_of_getElem? (i := 4) rfl))))))))), List.forall_mem_cons.mpr ⟨List.mem_cons_of_mem _ (List.mem_append_left _ (List.mem_append_left _ (List.mem_append_left _ (List.mem_append_left _ (List.mem_append_left _ (List.mem_append_right _ (List.mem_append_right _ (List.mem_append_left _ (List.mem_of_getElem? (i := 5) rfl))))))))), List.forall_mem_cons.mpr ⟨List.mem_cons_of_mem _ (List.mem_append_left _ (List.mem_append_left _ (List.mem_append_left _ (List.mem_append_left _ (List.mem_append_left _ (List.mem_append_right _ (List.mem_append_right _ (List.mem_append_left _ (List.mem_of_getElem? (i := 6) rfl))))))))), List.forall_mem_cons.mpr ⟨List.mem_cons_of_mem _ (List.mem_append_left _ (List.mem_append_left _ (List.mem_append_left _ (List.mem_append_left _ (List.mem_append_left _ (List.mem_append_right _ (List.mem_append_right _ (List.mem_append_left _ (List.mem_of_getElem? (i := 7) rfl))))))))), fun _ h9 => absurd h9 List.not_mem_nil⟩⟩⟩⟩⟩⟩⟩⟩⟩⟩⟩⟩⟩⟩⟩⟩⟩⟩⟩⟩⟩⟩⟩⟩, List.forall_mem_append.mpr ⟨List.forall_mem_cons.mpr ⟨List.mem_cons_of_mem _ (List.mem_append_left _ (List.mem_append_left _ (List.mem_append_left _ (List.mem_append_left _ (List.mem_append_left _ (List.mem_append_right _ (List.mem_append_right _ (List.mem_append_left _ (List.mem_of_getElem? (i := 8) rfl))))))))), List.forall_mem_cons.mpr ⟨List.mem_cons_of_mem _ (List.mem_append_left _ (List.mem_append_left _ (List.mem_append_left _ (List.mem_append_left _ (List.mem_append_left _ (List.mem_append_right _ (List.mem_append_right _ (List.mem_append_left _ (List.mem_of_getElem? (i := 9) rfl))))))))), List.forall_mem_cons.mpr ⟨List.mem_cons_of_mem _ (List.mem_append_left _ (List.mem_append_left _ (List.mem_append_left _ (List.mem_append_left _ (List.mem_append_left _ (List.mem_append_right _ (List.mem_append_right _ (List.mem_append_left _ (List.mem_of_getElem? (i := 10) rfl))))))))), List.forall_mem_cons.mpr ⟨List.mem_cons_of_mem _ (List.mem_append_left _ (List.mem_append_left _ (List.mem_append_left _ (List.mem_append_left _ (List.mem_append_left _ (List.mem_append_right _ (List.mem_append_right _ (List.mem_append_left _ (List.mem_of_getElem? (i := 11) rfl))))))))), List.forall_mem_cons.mpr ⟨List.mem_cons_of_mem _ (List.mem_append_left _ (List.mem_append_left _ (List.mem_append_left _ (List.mem_append_left _ (List.mem_append_left _ (List.mem_append_right _ (List.mem_append_right _ (List.mem_append_left _ (List.mem_of_getElem? (i := 12) rfl))))))))), List.forall_mem_cons.mpr ⟨List.mem_cons_of_mem _ (List.mem_append_left _ (List.mem_append_left _ (List.mem_append_left _ (List.mem_append_left _ (List.mem_append_left _ (List.mem_append_right _ (List.mem_append_right _ (List.mem_append_left _ (List.mem_of_getElem? (i := 13) rfl))))))))), List.forall_mem_cons.mpr ⟨List.mem_cons_of_mem _ (List.mem_append_left _ (List.mem_append_left _ (List.mem_append_left _ (List.mem_append_left _ (List.mem_append_left _ (List.mem_append_right _ (List.mem_append_right _ (List.mem_append_left _ (List.mem_of_getElem? (i := 14) rfl))))))))), List.forall_mem_cons.mpr ⟨List.mem_cons_of_mem _ (List.mem_append_left _ (List.mem_append_left _ (List.mem_append_left _ (List.mem_append_left _ (List.mem_append_left _ (List.mem_append_right _ (List.mem_append_right _ (List.mem_append_left _ (List.mem_of_getElem? (i := 15) rfl))))))))), List.forall_mem_cons.mpr ⟨List.mem_cons_of_mem _ (List.mem_append_left _ (List.mem_append_left _ (List.mem_append_left _ (List.mem_append_left _ (List.mem_append_left _ (List.mem_append_right _ (List.mem_append_right _ (List.mem_append_left _ (List.mem_of_getElem? (i := 16) rfl))))))))), List.forall_mem_cons.mpr ⟨List.mem_cons_of_mem _ (List.mem_append_left _ (List.mem_append_left _ (List.mem_append_left _ (List.mem_append_left _ (List.mem_append_left _ (List.mem_append_right _ (List.mem_append_right _ (List.mem_append_left _ (List.mem_of_getElem? (i := 17) rfl))))))))), List.forall_mem_cons.mpr ⟨List.mem_cons_of_mem _ (List.mem_append_left _ (List.mem_append_left _ (List.mem_append_left _ (List.mem_append_left _ (List.mem_append_left _ (List.mem_append_right _ (List.mem_append_right _ (List.mem_append_left _ (List.mem_of_getElem? (i := 18) rfl))))))))), List.forall_mem_cons.mpr ⟨List.mem_cons_of_mem _ (List.mem_append_left _ (List.mem_append_left _ (List.mem_append_left _ (List.mem_append_left _ (List.mem_append_left _ (List.mem_append_right _ (List.mem_append_right _ (List.mem_append_left _ (List.mem_of_getElem? (i := 19) rfl))))))))), List.forall_mem_cons.mpr ⟨List.mem_cons_of_mem _ (List.mem_append_left _ (List.mem_append_left _ (List.mem_append_left _ (List.mem_append_left _ (List.mem_append_left _ (List.mem_append_right _ (List.mem_append_right _ (List.mem_append_left _ (List.mem_of_getElem? (i := 20) rfl))))))))), List.forall_mem_cons.mpr ⟨List.mem_cons_of_mem _ (List.mem_append_left _ (List.mem_append_left _ (List.mem_append_left _ (List.mem_append_left _ (List.mem_append_left _ (List.mem_append_right _ (List.mem_append_right _ (List.mem_append_left _ (List.mem_of_getElem? (i := 21) rfl))))))))), List.forall_mem_cons.mpr ⟨List.mem_cons_of_mem _ (List.mem_append_left _ (List.mem_append_left _ (List.mem_append_left _ (List.mem_append_left _ (List.mem_append_left _ (List.mem_append_right _ (List.mem_append_right _ (List.mem_append_left _ (List.mem_of_getElem? (i := 22) rfl))))))))), List.forall_mem_cons.mpr ⟨List.mem_cons_of_mem _ (List.mem_append_left _ (List.mem_append_left _ (List.mem_append_left _ (List.mem_append_left _ (List.mem_append_left _ (List.mem_append_right _ (List.mem_append_right _ (List.mem_append_left _ (List.mem_of_getElem? (i := 23) rfl))))))))), List.forall_mem_cons.mpr ⟨List.mem_cons_of_mem _ (List.mem_append_left _ (List.mem_append_left _ (List.mem_append_left _ (List.mem_append_left _ (List.mem_append_left _ (List.mem_append_right _ (List.mem_append_right _ (List.mem_append_right _ (List.mem_of_getElem? (i := 0) rfl))))))))), List.forall_mem_cons.mpr ⟨List.mem_cons_of_mem _ (List.mem_append_left _ (List.mem_append_left _ (List.mem_append_left _ (List.mem_append_left _ (List.mem_append_left _ (List.mem_append_right _ (List.mem_append_right _ (List.mem_append_right _ (List.mem_of_getElem? (i := 1) rfl))))))))), List.forall_mem_cons.mpr ⟨List.mem_cons_of_mem _ (List.mem_append_left _ (List.mem_append_left _ (List.mem_append_left _ (List.mem_append_left _ (List.mem_append_left _ (List.mem_append_right _ (List.mem_append_right _ (List.mem_append_right _ (List.mem_of_getElem? (i := 2) rfl))))))))), List.forall_mem_cons.mpr ⟨List.mem_cons_of_mem _ (List.mem_append_left _ (List.mem_append_left _ (List.mem_append_left _ (List.mem_append_left _ (List.mem_append_left _ (List.mem_append_right _ (List.mem_append_right _ (List.mem_append_right _ (List.mem_of_getElem? (i := 3) rfl))))))))), List.forall_mem_cons.mpr ⟨List.mem_cons_of_mem _ (List.mem_append_left _ (List.mem_append_left _ (List.mem_append_left _ (List.mem_append_left _ (List.mem_append_left _ (List.mem_append_right _ (List.mem_append_right _ (List.mem_append_right _ (List.mem_of_getElem? (i := 4) rfl))))))))), List.forall_mem_cons.mpr ⟨List.mem_cons_of_mem _ (List.mem_append_left _ (List.mem_append_left _ (List.mem_append_left _ (List.mem_append_left _ (List.mem_append_left _ (List.mem_append_right _ (List.mem_append_right _ (List.mem_append_right _ (List.mem_of_getElem? (i := 5) rfl))))))))), List.forall_mem_cons.mpr ⟨List.mem_cons_of_mem _ (List.mem_append_left _ (List.mem_append_left _ (List.mem_append_left _ (List.mem_append_left _ (List.mem_append_left _ (List.mem_append_right _ (List.mem_append_right _ (List.mem_append_right _ (List.mem_of_getElem? (i := 6) rfl))))))))), List.forall_mem_cons.mpr ⟨List.mem_cons_of_mem _ (List.mem_append_left _ (List.mem_append_left _ (List.mem_append_left _ (List.mem_append_left _ (List.mem_append_left _ (List.mem_append_right _ (List.mem_append_right _ (List.mem_append_right _ (List.mem_of_getElem? (i := 7) rfl))))))))), fun _ h9 => absurd h9 List.not_mem_nil⟩⟩⟩⟩⟩⟩⟩⟩⟩⟩⟩⟩⟩⟩⟩⟩⟩⟩⟩⟩⟩⟩⟩⟩, List.forall_mem_cons.mpr ⟨List.mem_cons_of_mem _ (List.mem_append_left _ (List.mem_append_left _ (List.mem_append_left _ (List.mem_append_left _ (List.mem_append_left _ (List.mem_append_right _ (List.mem_append_right _ (List.mem_append_right _ (List.mem_of_getElem? (i := 8) rfl))))))))), List.forall_mem_cons.mpr ⟨List.mem_cons_of_mem _ (List.mem_append_left _ (List.mem_append_left _ (List.mem_append_left _ (List.mem_append_left _ (List.mem_append_left _ (List.mem_append_right _ (List.mem_append_right _ (List.mem_append_right _ (List.mem_of_getElem? (i := 9) rfl))))))))), List.forall_mem_cons.mpr ⟨List.mem_cons_of_mem _ (List.mem_append_left _ (List.mem_append_left _ (List.mem_append_left _ (List.mem_append_left _ (List.mem_append_left _ (List.mem_append_right _ (List.mem_append_right _ (List.mem_append_right _ (List.mem_of_getElem? (i := 10) rfl))))))))), List.forall_mem_cons.mpr ⟨List.mem_cons_of_mem _ (List.mem_append_left _ (List.mem_append_left _ (List.mem_append_left _ (List.mem_append_left _ (List.mem_append_left _ (List.mem_append_right _ (List.mem_append_right _ (List.mem_append_right _ (List.mem_of_getElem? (i := 11) rfl))))))))), List.forall_mem_cons.mpr ⟨List.mem_cons_of_mem _ (List.mem_append_left _ (List.mem_append_left _ (List.mem_append_left _ (List.mem_append_left _ (List.mem_append_left _ (List.mem_append_right _ (List.mem_append_right _ (List.mem_append_right _ (List.mem_of_getElem? (i := 12) rfl))))))))), List.forall_mem_cons.mpr ⟨List.mem_cons_of_mem _ (List.mem_append_left _ (List.mem_append_left _ (List.mem_append_left _ (List.mem_append_left _ (List.mem_append_left _ (List.mem_append_right _ (List.mem_append_right _ (List.mem_append_right _ (List.mem_of_getElem? (i := 13) rfl))))))))), List.forall_mem_cons.mpr ⟨List.mem_cons_of_mem _ (List.mem_append_left _ (List.mem_append_left _ (List.mem_append_left _ (List.mem_append_left _ (List.mem_append_left _ (List.mem_append_right _ (List.mem_append_right _ (List.mem_append_right _ (List.mem_of_getElem? (i := 14) rfl))))))))), List.forall_mem_cons.mpr ⟨List.mem_cons_of_mem _ (List.mem_append_left _ (List.mem_append_left _ (List.mem_append_left _ (List.mem_append_left _ (List.mem_append_left _ (List.mem_append_right _ (List.mem_append_right _ (List.mem_append_right _ (List.mem_of_getElem? (i := 15) rfl))))))))), fun _ h9 => absurd h9 List.not_mem_nil⟩⟩⟩⟩⟩⟩⟩⟩⟩⟩⟩, fun w h9 => List.mem_cons_of_mem _ (List.mem_append_left _ (List.mem_append_left _ (List.mem_append_left _ (List.mem_append_left _ (List.mem_append_right _ (h9))))))⟩, fun w h9 => List.mem_cons_of_mem _ (List.mem_append_left _ (List.mem_append_left _ (List.mem_append_right _ (h9))))⟩, fun w h9 => List.mem_cons_of_mem _ (List.mem_append_left _ (List.mem_append_left _ (List.mem_append_left _ (List.mem_append_right _ (h9)))))⟩, fun w h9 => List.mem_cons_of_mem _ (List.mem_append_left _ (List.mem_append_right _ (h9)))⟩, fun w h9 => List.mem_cons_of_mem _ (List.mem_append_right _ (h9))⟩⟩) (by decide +kernel)
set_option maxRecDepth 20000 in
theorem gX8_odds_X8_lettersWithChanges : GoodIn wsX8_odds (wsV RX8 282 RX8 yX8_lettersWithChanges wsX8_lettersWithChanges) := goodIn_app (goodIn_4 _ (List.forall_mem_cons.mpr ⟨List.mem_cons_of_mem _ (List.mem_append_left _ (List.mem_append_left _ (List.mem_append_left _ (List.mem_append_left _ (List.mem_append_left _ (List.mem_append_left _ (List.mem_of_getElem? (i := 9) rfl))))))), List.forall_mem_cons.mpr ⟨List.mem_cons_of_mem _ (List.mem_append_left _ (List.mem_append_left _ (List.mem_append_left _ (List.mem_append_left _ (List.mem_append_left _ (List.mem_append_left _ (List.mem_of_getElem? (i := 10) rfl))))))), List.forall_mem_cons.mpr ⟨List.mem_cons_of_mem _ (List.mem_append_left _ (List.mem_append_left _ (List.mem_append_left _ (List.mem_append_left _ (List.mem_append_left _ (List.mem_append_left _ (List.mem_of_getElem? (i := 11) rfl))))))), List.forall_mem_cons.mpr ⟨List.mem_cons_of_mem _ (List.mem_append_left _ (List.mem_append_left _ (List.mem_append_left _ (List.mem_append_left _ (List.mem_append_left _ (List.mem_append_left _ (List.mem_of_getElem? (i := 7) rfl))))))), fun _ h9 => absurd h9 List.not_mem_nil⟩⟩⟩⟩) (by decide +kernel)) ggX8_odds_X8_lettersWithChanges
set_option maxRecDepth 20000 in
theorem mw_X8_odds_0 : (.constantLong RX8 280 (-9223372036854775808) : Cond) ∈ wsX8_odds := List.mem_cons_of_mem _ (List.mem_append_left _ (List.mem_append_left _ (List.mem_append_left _ (List.mem_append_left _ (List.mem_append_left _ (List.mem_append_left _ (List.mem_of_getElem? (i := 0) rfl)))))))
set_option maxRecDepth 20000 in
theorem mw_X8_odds_1 : (.fieldLink RX8 28 "FontRuns" "fontRow" "LFontRuns$FontRow;" : Cond) ∈ wsX8_odds := List.mem_cons_of_mem _ (List.mem_append_left _ (List.mem_append_left _ (List.mem_append_left _ (List.mem_append_left _ (List.mem_append_left _ (List.mem_append_left _ (List.mem_of_getElem? (i := 1) rfl)))))))
set_option maxRecDepth 20000 in
theorem mw_X8_odds_2 : (.fieldLink RX8 106 "FontRuns$FontRow" "count" "I" : Cond) ∈ wsX8_odds := List.mem_cons_of_mem _ (List.mem_append_left _ (List.mem_append_left _ (List.mem_append_left _ (List.mem_append_left _ (List.mem_append_left _ (List.mem_append_left _ (List.mem_of_getElem? (i := 2) rfl)))))))
set_option maxRecDepth 20000 in
theorem mw_X8_odds_3 : (.fieldLink RX8 35 "FontRuns" "writing" "LFontRuns$Writing;" : Cond) ∈ wsX8_odds := List.mem_cons_of_mem _ (List.mem_append_left _ (List.mem_append_left _ (List.mem_append_left _ (List.mem_append_left _ (List.mem_append_left _ (List.mem_append_left _ (List.mem_of_getElem? (i := 3) rfl)))))))
set_option maxRecDepth 20000 in
theorem mw_X8_odds_4 : (.fieldLink RX8 139 "FontRuns$Writing" "count" "I" : Cond) ∈ wsX8_odds := List.mem_cons_of_mem _ (List.mem_append_left _ (List.mem_append_left _ (List.mem_append_left _ (List.mem_append_left _ (List.mem_append_left _ (List.mem_append_left _ (List.mem_of_getElem? (i := 4) rfl)))))))
theorem ax_X8_odds_0 {e0 e1 e2 e3 e4 e5 e6 e7 e8 e9 e10 e11 e12 e13 e14 e15 e16 : Nat × va_E} {k : va_W} : ([] : List Nat).map (fun i => (([e0, e1, e2, e3, e4, e5, e6, e7, e8, e9, e10, e11, e12, e13, e14, e15, e16] : va_W) ++ k)[i]?) = ([] : va_W).map some := rfl
theorem ax_X8_odds_1 {e0 e1 e2 e3 e4 e5 e6 e7 e8 e9 e10 e11 e12 e13 e14 e15 e16 : Nat × va_E} : ([0, 1, 2, 3, 4, 5, 6, 7, 8, 9, 10, 11, 12, 13, 14, 15, 16] : List Nat).map (fun i => ([e0, e1, e2, e3, e4, e5, e6, e7, e8, e9, e10, e11, e12, e13, e14, e15, e16] : va_W)[i]?) = ([e0, e1, e2, e3, e4, e5, e6, e7, e8, e9, e10, e11, e12, e13, e14, e15, e16] : va_W).map some := rfl
theorem ax_X8_odds_2 {e0 e1 e2 e3 e4 e5 e6 e7 e8 e9 e10 e11 e12 e13 e14 e15 e16 : Nat × va_E} : ([] : List Nat).map (fun i => ([e0, e1, e2, e3, e4, e5, e6, e7, e8, e9, e10, e11, e12, e13, e14, e15, e16] : va_W)[i]?) = ([] : va_W).map some := rfl
theorem ax_X8_odds_3 {D : va_G} {cl : List vw_C} {H : Heap} {f0 f1 f2 f3 f4 f5 f6 f7 f8 f9 f10 f11 f12 f13 f14 f15 f16 : Nat × va_E} {k : va_W} (h : va_P D cl ((([] : va_W) ++ ([f0, f1, f2, f3, f4, f5, f6, f7, f8, f9, f10, f11, f12, f13, f14, f15, f16] : va_W)) ++ k) H) : va_P D cl (([f0, f1, f2, f3, f4, f5, f6, f7, f8, f9, f10, f11, f12, f13, f14, f15, f16] : va_W) ++ k) H := h
theorem ax_X8_odds_4 {A : Nat → Prop} {f0 f1 f2 f3 f4 f5 f6 f7 f8 f9 f10 f11 f12 f13 f14 f15 f16 : Nat × va_E} {k : va_W} (h : va_D A ((([] : va_W) ++ ([f0, f1, f2, f3, f4, f5, f6, f7, f8, f9, f10, f11, f12, f13, f14, f15, f16] : va_W)) ++ k)) : va_D A (([f0, f1, f2, f3, f4, f5, f6, f7, f8, f9, f10, f11, f12, f13, f14, f15, f16] : va_W) ++ k) := h
set_option maxHeartbeats 4000000 in
set_option maxRecDepth 100000 in
theorem c_X8_odds (l : Launch) (D : va_G) (sz : Nat) (x : Int) (w : Int) (h0 : Nat) (sh : Nat) (rd : Nat) (fr : Nat) (wr : Nat) (pf : Nat) (rc : Nat) (se : Nat) (rs : Nat) (sw : Nat) (sp : Nat) (ss : Nat) (ew : Int) (wc : Int64) (tr : Int) (lf : Int) (sg1 : Nat) (sg2 : Nat) (sg3 : Nat) (sg4 : Nat) (sg5 : Nat) (scn : Int) (sbo : Int) (sru : Int) (sg6 : Nat) (sg7 : Nat) (scg1 : ClassId) (sf1 : Nat → Int32) (scg2 : ClassId) (sf2 : Nat → Int32) (scg3 : ClassId) (sf3 : Nat → Int32) (scg4 : ClassId) (sf4 : Nat → Int32) (scg5 : ClassId) (sf5 : Nat → Int32) (scg6 : ClassId) (sf6 : Nat → Int32) (scg7 : ClassId) (sfo : Nat → Option Nat) (o3 : Nat) (sw1 : Nat) (swn : Int) (csw1 : ClassId) (fsw : Nat → Int32) (w1 : Nat) (wn : Int) (cw1 : ClassId) (fw : Nat → Int32) (k1 : Nat) (k2 : Nat) (k3 : Nat) (fn : Int) (ck3 : ClassId) (fh : Nat → Int32) (p1 : Nat) (pn : Int) (cp1 : ClassId) (fp : Nat → Int32) (pr : Nat → Nat) (gp : Nat → Nat → Int32) (cy : ClassId) (q0 : rg x) (q1 : rg w) (q2 : 0 ≤ scn ∧ scn ≤ 24) (q3 : 0 ≤ sbo ∧ sbo ≤ 24) (q4 : 0 ≤ sru ∧ sru ≤ scn) (q5 : kOut sfo pr o3 24) (q6 : o3 + 24 ≤ 56) (q7 : 0 ≤ swn ∧ swn ≤ 24) (q8 : 0 ≤ wn ∧ wn ≤ 24) (q9 : 0 ≤ fn ∧ fn ≤ 4) (q10 : 0 ≤ pn ∧ pn ≤ 4) (q11 : kPr fp) : Met l yX8_odds wsX8_odds ({ frames := 4, cells := 0, slots := 0, locals := 98 }) (kPre [.ref h0, .int (zI x), .int (zI w)] D (([(h0, .inr (8, [.ref sh, .ref rd, .ref fr, .ref wr, .ref pf, .ref rc, .ref se, .ref rs, .ref sw, .ref sp, .ref ss, .int (zI ew), .long wc, .int (zI tr), .int (zI lf)])), (ss, .inr (4, [.ref sg1, .ref sg2, .ref sg3, .ref sg4, .ref sg5, .int (zI scn), .int (zI sbo), .int (zI sru), .ref sg6, .ref sg7])), (sg1, .inl (scg1, 24, .inl sf1)), (sg2, .inl (scg2, 24, .inl sf2)), (sg3, .inl (scg3, 24, .inl sf3)), (sg4, .inl (scg4, 24, .inl sf4)), (sg5, .inl (scg5, 24, .inl sf5)), (sg6, .inl (scg6, 24, .inl sf6)), (sg7, .inl (scg7, 24, .inr (.inr (.inr (.inr (sfo)))))), (sw, .inr (7, [.ref sw1, .int (zI swn)])), (sw1, .inl (csw1, 24, .inl fsw)), (wr, .inr (7, [.ref w1, .int (zI wn)])), (w1, .inl (cw1, 24, .inl fw)), (fr, .inr (0, [.ref k1, .ref k2, .ref k3, .int (zI fn)])), (k3, .inl (ck3, 4, .inl fh)), (pf, .inr (1, [.ref p1, .int (zI pn)])), (p1, .inl (cp1, 4, .inl fp))] : va_W) ++ kRows pr gp cy) [(scg1, .int), (scg2, .int), (scg3, .int), (scg4, .int), (scg5, .int), (scg6, .int), (scg7, .array .int), (csw1, .int), (cw1, .int), (ck3, .int), (cp1, .int), (cy, .int)] sz) (kQL (fun rz t => ∃ (u_swn : Int) (u_fsw : Nat → Int32) (u_scn : Int) (u_sbo : Int) (u_sru : Int) (u_sf1 : Nat → Int32) (u_sf2 : Nat → Int32) (u_sf3 : Nat → Int32) (u_sf4 : Nat → Int32) (u_sf5 : Nat → Int32) (u_sf6 : Nat → Int32) (u_gp : Nat → Nat → Int32), (0 ≤ u_scn ∧ u_scn ≤ 24) ∧ (0 ≤ u_sbo ∧ u_sbo ≤ 24) ∧ (0 ≤ u_sru ∧ u_sru ≤ u_scn) ∧ (0 ≤ u_swn ∧ u_swn ≤ 24) ∧ va_P D vwCl (([(h0, .inr (8, [.ref sh, .ref rd, .ref fr, .ref wr, .ref pf, .ref rc, .ref se, .ref rs, .ref sw, .ref sp, .ref ss, .int (zI ew), .long wc, .int (zI tr), .int (zI lf)])), (ss, .inr (4, [.ref sg1, .ref sg2, .ref sg3, .ref sg4, .ref sg5, .int (zI u_scn), .int (zI u_sbo), .int (zI u_sru), .ref sg6, .ref sg7])), (sg1, .inl (scg1, 24, .inl u_sf1)), (sg2, .inl (scg2, 24, .inl u_sf2)), (sg3, .inl (scg3, 24, .inl u_sf3)), (sg4, .inl (scg4, 24, .inl u_sf4)), (sg5, .inl (scg5, 24, .inl u_sf5)), (sg6, .inl (scg6, 24, .inl u_sf6)), (sg7, .inl (scg7, 24, .inr (.inr (.inr (.inr (sfo)))))), (sw, .inr (7, [.ref sw1, .int (zI u_swn)])), (sw1, .inl (csw1, 24, .inl u_fsw)), (wr, .inr (7, [.ref w1, .int (zI wn)])), (w1, .inl (cw1, 24, .inl fw)), (fr, .inr (0, [.ref k1, .ref k2, .ref k3, .int (zI fn)])), (k3, .inl (ck3, 4, .inl fh)), (pf, .inr (1, [.ref p1, .int (zI pn)])), (p1, .inl (cp1, 4, .inl fp))] : va_W) ++ kRows pr u_gp cy) t.heap ∧ va_D (va_A (([(h0, .inr (8, [.ref sh, .ref rd, .ref fr, .ref wr, .ref pf, .ref rc, .ref se, .ref rs, .ref sw, .ref sp, .ref ss, .int (zI ew), .long wc, .int (zI tr), .int (zI lf)])), (ss, .inr (4, [.ref sg1, .ref sg2, .ref sg3, .ref sg4, .ref sg5, .int (zI scn), .int (zI sbo), .int (zI sru), .ref sg6, .ref sg7])), (sg1, .inl (scg1, 24, .inl sf1)), (sg2, .inl (scg2, 24, .inl sf2)), (sg3, .inl (scg3, 24, .inl sf3)), (sg4, .inl (scg4, 24, .inl sf4)), (sg5, .inl (scg5, 24, .inl sf5)), (sg6, .inl (scg6, 24, .inl sf6)), (sg7, .inl (scg7, 24, .inr (.inr (.inr (.inr (sfo)))))), (sw, .inr (7, [.ref sw1, .int (zI swn)])), (sw1, .inl (csw1, 24, .inl fsw)), (wr, .inr (7, [.ref w1, .int (zI wn)])), (w1, .inl (cw1, 24, .inl fw)), (fr, .inr (0, [.ref k1, .ref k2, .ref k3, .int (zI fn)])), (k3, .inl (ck3, 4, .inl fh)), (pf, .inr (1, [.ref p1, .int (zI pn)])), (p1, .inl (cp1, 4, .inl fp))] : va_W) ++ kRows pr gp cy) sz) (([(h0, .inr (8, [.ref sh, .ref rd, .ref fr, .ref wr, .ref pf, .ref rc, .ref se, .ref rs, .ref sw, .ref sp, .ref ss, .int (zI ew), .long wc, .int (zI tr), .int (zI lf)])), (ss, .inr (4, [.ref sg1, .ref sg2, .ref sg3, .ref sg4, .ref sg5, .int (zI u_scn), .int (zI u_sbo), .int (zI u_sru), .ref sg6, .ref sg7])), (sg1, .inl (scg1, 24, .inl u_sf1)), (sg2, .inl (scg2, 24, .inl u_sf2)), (sg3, .inl (scg3, 24, .inl u_sf3)), (sg4, .inl (scg4, 24, .inl u_sf4)), (sg5, .inl (scg5, 24, .inl u_sf5)), (sg6, .inl (scg6, 24, .inl u_sf6)), (sg7, .inl (scg7, 24, .inr (.inr (.inr (.inr (sfo)))))), (sw, .inr (7, [.ref sw1, .int (zI u_swn)])), (sw1, .inl (csw1, 24, .inl u_fsw)), (wr, .inr (7, [.ref w1, .int (zI wn)])), (w1, .inl (cw1, 24, .inl fw)), (fr, .inr (0, [.ref k1, .ref k2, .ref k3, .int (zI fn)])), (k3, .inl (ck3, 4, .inl fh)), (pf, .inr (1, [.ref p1, .int (zI pn)])), (p1, .inl (cp1, 4, .inl fp))] : va_W) ++ kRows pr u_gp cy)) (va_A (([(h0, .inr (8, [.ref sh, .ref rd, .ref fr, .ref wr, .ref pf, .ref rc, .ref se, .ref rs, .ref sw, .ref sp, .ref ss, .int (zI ew), .long wc, .int (zI tr), .int (zI lf)])), (ss, .inr (4, [.ref sg1, .ref sg2, .ref sg3, .ref sg4, .ref sg5, .int (zI scn), .int (zI sbo), .int (zI sru), .ref sg6, .ref sg7])), (sg1, .inl (scg1, 24, .inl sf1)), (sg2, .inl (scg2, 24, .inl sf2)), (sg3, .inl (scg3, 24, .inl sf3)), (sg4, .inl (scg4, 24, .inl sf4)), (sg5, .inl (scg5, 24, .inl sf5)), (sg6, .inl (scg6, 24, .inl sf6)), (sg7, .inl (scg7, 24, .inr (.inr (.inr (.inr (sfo)))))), (sw, .inr (7, [.ref sw1, .int (zI swn)])), (sw1, .inl (csw1, 24, .inl fsw)), (wr, .inr (7, [.ref w1, .int (zI wn)])), (w1, .inl (cw1, 24, .inl fw)), (fr, .inr (0, [.ref k1, .ref k2, .ref k3, .int (zI fn)])), (k3, .inl (ck3, 4, .inl fh)), (pf, .inr (1, [.ref p1, .int (zI pn)])), (p1, .inl (cp1, 4, .inl fp))] : va_W) ++ kRows pr gp cy) sz)) 0 0 (va_A (([(h0, .inr (8, [.ref sh, .ref rd, .ref fr, .ref wr, .ref pf, .ref rc, .ref se, .ref rs, .ref sw, .ref sp, .ref ss, .int (zI ew), .long wc, .int (zI tr), .int (zI lf)])), (ss, .inr (4, [.ref sg1, .ref sg2, .ref sg3, .ref sg4, .ref sg5, .int (zI scn), .int (zI sbo), .int (zI sru), .ref sg6, .ref sg7])), (sg1, .inl (scg1, 24, .inl sf1)), (sg2, .inl (scg2, 24, .inl sf2)), (sg3, .inl (scg3, 24, .inl sf3)), (sg4, .inl (scg4, 24, .inl sf4)), (sg5, .inl (scg5, 24, .inl sf5)), (sg6, .inl (scg6, 24, .inl sf6)), (sg7, .inl (scg7, 24, .inr (.inr (.inr (.inr (sfo)))))), (sw, .inr (7, [.ref sw1, .int (zI swn)])), (sw1, .inl (csw1, 24, .inl fsw)), (wr, .inr (7, [.ref w1, .int (zI wn)])), (w1, .inl (cw1, 24, .inl fw)), (fr, .inr (0, [.ref k1, .ref k2, .ref k3, .int (zI fn)])), (k3, .inl (ck3, 4, .inl fh)), (pf, .inr (1, [.ref p1, .int (zI pn)])), (p1, .inl (cp1, 4, .inl fp))] : va_W) ++ kRows pr gp cy) sz) := by
  refine Met.ofW (cc := cX8_odds) (maxL := 5) (ret := (some .long)) (by decide) rfl ?_
  intro p e s m args below meth c s₁ B hml hv
  obtain ⟨rfl, hsz, hP, hK, hD0, hN⟩ := hv
  have hx := B.exec
  have hb := B.bytes
  have hr := B.returns
  have hts := atoms_spec (ws := wsX8_odds) B.pre
  have hown : s.vm.findClass RX8 = some m.cls := findClass_of_methodNamed B.named
  have hlocks := B.notSynchronized
  subst hsz
  have hD := hD0.self (sz := s.heap.size)
  generalize hAe : va_A (([(h0, .inr (8, [.ref sh, .ref rd, .ref fr, .ref wr, .ref pf, .ref rc, .ref se, .ref rs, .ref sw, .ref sp, .ref ss, .int (zI ew), .long wc, .int (zI tr), .int (zI lf)])), (ss, .inr (4, [.ref sg1, .ref sg2, .ref sg3, .ref sg4, .ref sg5, .int (zI scn), .int (zI sbo), .int (zI sru), .ref sg6, .ref sg7])), (sg1, .inl (scg1, 24, .inl sf1)), (sg2, .inl (scg2, 24, .inl sf2)), (sg3, .inl (scg3, 24, .inl sf3)), (sg4, .inl (scg4, 24, .inl sf4)), (sg5, .inl (scg5, 24, .inl sf5)), (sg6, .inl (scg6, 24, .inl sf6)), (sg7, .inl (scg7, 24, .inr (.inr (.inr (.inr (sfo)))))), (sw, .inr (7, [.ref sw1, .int (zI swn)])), (sw1, .inl (csw1, 24, .inl fsw)), (wr, .inr (7, [.ref w1, .int (zI wn)])), (w1, .inl (cw1, 24, .inl fw)), (fr, .inr (0, [.ref k1, .ref k2, .ref k3, .int (zI fn)])), (k3, .inl (ck3, 4, .inl fh)), (pf, .inr (1, [.ref p1, .int (zI pn)])), (p1, .inl (cp1, 4, .inl fp))] : va_W) ++ kRows pr gp cy) s.heap.size = A at hD ⊢
  have hA : ∀ q : Nat, s.heap.size ≤ q → A q := fun q h => by rw [← hAe]; exact Or.inr h
  have hS : va_S A s.heap s.heap [] := va_S.rf
  have hP : va_P D vwCl (([(h0, .inr (8, [.ref sh, .ref rd, .ref fr, .ref wr, .ref pf, .ref rc, .ref se, .ref rs, .ref sw, .ref sp, .ref ss, .int (zI ew), .long wc, .int (zI tr), .int (zI lf)])), (ss, .inr (4, [.ref sg1, .ref sg2, .ref sg3, .ref sg4, .ref sg5, .int (zI scn), .int (zI sbo), .int (zI sru), .ref sg6, .ref sg7])), (sg1, .inl (scg1, 24, .inl sf1)), (sg2, .inl (scg2, 24, .inl sf2)), (sg3, .inl (scg3, 24, .inl sf3)), (sg4, .inl (scg4, 24, .inl sf4)), (sg5, .inl (scg5, 24, .inl sf5)), (sg6, .inl (scg6, 24, .inl sf6)), (sg7, .inl (scg7, 24, .inr (.inr (.inr (.inr (sfo)))))), (sw, .inr (7, [.ref sw1, .int (zI swn)])), (sw1, .inl (csw1, 24, .inl fsw)), (wr, .inr (7, [.ref w1, .int (zI wn)])), (w1, .inl (cw1, 24, .inl fw)), (fr, .inr (0, [.ref k1, .ref k2, .ref k3, .int (zI fn)])), (k3, .inl (ck3, 4, .inl fh)), (pf, .inr (1, [.ref p1, .int (zI pn)])), (p1, .inl (cp1, 4, .inl fp))] : va_W) ++ kRows pr gp cy) s.heap := hP
  have hl := lv_entry ([.ref h0, .int (zI x), .int (zI w)]) (n := 5) (Nat.le_of_ble_eq_true rfl)
  rw [lg_entry_eq]
  generalize (lg_sl ([.ref h0, .int (zI x), .int (zI w)]) ++ List.replicate (5 - (lg_sl ([.ref h0, .int (zI x), .int (zI w)])).length) Slot.unset).toArray = ls at hl ⊢
  have hl : lv_has ls 5 [(0, .ref h0), (1, .int (zI x)), (2, .int (zI w))] := hl
  refine lv_iload_n hx hb dX8_odds_0 rfl (lv_at hl 1 rfl) ?_
  refine lv_iconst (v := zI 0) hx hb dX8_odds_1 rfl ?_
  refine lv_bipush (v := zI 24) hx hb dX8_odds_2 (by decide) ?_
  refine k_callR (va_runS (As := [.int (zI x), .int (zI 0), .int (zI 24)]) (rest := []) ⟨hx, hb, hml, hown, hts⟩ (c_X8_isWithin l D s.heap.size (v := x) (a := 0) (b := 24) q0 (by omega) (by omega)) (va_cwS 3 hts gX8_odds_X8_isWithin rfl rfl rfl (by decide +kernel) ⟨Nat.le_of_ble_eq_true rfl, Nat.le_of_ble_eq_true rfl⟩) (kPreS hP (kD0 hD) hK hN [] [] ax_X8_odds_0 rfl (by decide +kernel)) rfl rfl hl.1 rfl (lv_room (Nat.le_of_ble_eq_true rfl)) dX8_odds_4 ⟨Nat.le_of_ble_eq_true rfl, Nat.le_of_ble_eq_true rfl⟩) ?_
  refine lv_if_eq (tgt := 19) hx hb dX8_odds_7 (by decide) (fun c_1 => ?_) (fun c_1 => ?_)
  · have c_1 : ¬ (0 ≤ x ∧ x ≤ 24) := b01f c_1
    refine lv_ldc2 (v := (-9223372036854775808)) hx hb hown (hts (.constantLong RX8 280 (-9223372036854775808)) mw_X8_odds_0) dX8_odds_19 ?_
    have hP9 : va_P D vwCl (([(h0, .inr (8, [.ref sh, .ref rd, .ref fr, .ref wr, .ref pf, .ref rc, .ref se, .ref rs, .ref sw, .ref sp, .ref ss, .int (zI ew), .long wc, .int (zI tr), .int (zI lf)])), (ss, .inr (4, [.ref sg1, .ref sg2, .ref sg3, .ref sg4, .ref sg5, .int (zI scn), .int (zI sbo), .int (zI sru), .ref sg6, .ref sg7])), (sg1, .inl (scg1, 24, .inl sf1)), (sg2, .inl (scg2, 24, .inl sf2)), (sg3, .inl (scg3, 24, .inl sf3)), (sg4, .inl (scg4, 24, .inl sf4)), (sg5, .inl (scg5, 24, .inl sf5)), (sg6, .inl (scg6, 24, .inl sf6)), (sg7, .inl (scg7, 24, .inr (.inr (.inr (.inr (sfo)))))), (sw, .inr (7, [.ref sw1, .int (zI swn)])), (sw1, .inl (csw1, 24, .inl fsw)), (wr, .inr (7, [.ref w1, .int (zI wn)])), (w1, .inl (cw1, 24, .inl fw)), (fr, .inr (0, [.ref k1, .ref k2, .ref k3, .int (zI fn)])), (k3, .inl (ck3, 4, .inl fh)), (pf, .inr (1, [.ref p1, .int (zI pn)])), (p1, .inl (cp1, 4, .inl fp))] : va_W) ++ kRows pr gp cy) s.heap := hP.part [0, 1, 2, 3, 4, 5, 6, 7, 8, 9, 10, 11, 12, 13, 14, 15, 16] ax_X8_odds_1
    have hD9 : va_D A (([(h0, .inr (8, [.ref sh, .ref rd, .ref fr, .ref wr, .ref pf, .ref rc, .ref se, .ref rs, .ref sw, .ref sp, .ref ss, .int (zI ew), .long wc, .int (zI tr), .int (zI lf)])), (ss, .inr (4, [.ref sg1, .ref sg2, .ref sg3, .ref sg4, .ref sg5, .int (zI scn), .int (zI sbo), .int (zI sru), .ref sg6, .ref sg7])), (sg1, .inl (scg1, 24, .inl sf1)), (sg2, .inl (scg2, 24, .inl sf2)), (sg3, .inl (scg3, 24, .inl sf3)), (sg4, .inl (scg4, 24, .inl sf4)), (sg5, .inl (scg5, 24, .inl sf5)), (sg6, .inl (scg6, 24, .inl sf6)), (sg7, .inl (scg7, 24, .inr (.inr (.inr (.inr (sfo)))))), (sw, .inr (7, [.ref sw1, .int (zI swn)])), (sw1, .inl (csw1, 24, .inl fsw)), (wr, .inr (7, [.ref w1, .int (zI wn)])), (w1, .inl (cw1, 24, .inl fw)), (fr, .inr (0, [.ref k1, .ref k2, .ref k3, .int (zI fn)])), (k3, .inl (ck3, 4, .inl fh)), (pf, .inr (1, [.ref p1, .int (zI pn)])), (p1, .inl (cp1, 4, .inl fp))] : va_W) ++ kRows pr gp cy) := hD.part [0, 1, 2, 3, 4, 5, 6, 7, 8, 9, 10, 11, 12, 13, 14, 15, 16] (by decide +kernel) ax_X8_odds_1
    exact W.lret (v := (-9223372036854775808)) hx hb hr (fun t ht hW => kQL_of ⟨swn, fsw, scn, sbo, sru, sf1, sf2, sf3, sf4, sf5, sf6, gp, q2, q3, q4, q7, by rw [ht]; exact hP9, hD9⟩ (hS.F ht)) hS.2.2 dX8_odds_22
  · have c_1 : 0 ≤ x ∧ x ≤ 24 := b01t c_1
    refine lv_iload_n hx hb dX8_odds_10 rfl (lv_at hl 2 rfl) ?_
    refine lv_iconst (v := zI 0) hx hb dX8_odds_11 rfl ?_
    refine lv_iconst (v := zI 1) hx hb dX8_odds_12 rfl ?_
    refine k_callR (va_runS (As := [.int (zI w), .int (zI 0), .int (zI 1)]) (rest := []) ⟨hx, hb, hml, hown, hts⟩ (c_X8_isWithin l D s.heap.size (v := w) (a := 0) (b := 1) q1 (by omega) (by omega)) (va_cwS 3 hts gX8_odds_X8_isWithin rfl rfl rfl (by decide +kernel) ⟨Nat.le_of_ble_eq_true rfl, Nat.le_of_ble_eq_true rfl⟩) (kPreS hP (kD0 hD) hK hN [] [] ax_X8_odds_0 rfl (by decide +kernel)) rfl rfl hl.1 rfl (lv_room (Nat.le_of_ble_eq_true rfl)) dX8_odds_13 ⟨Nat.le_of_ble_eq_true rfl, Nat.le_of_ble_eq_true rfl⟩) ?_
    refine lv_if_ne (tgt := 23) hx hb dX8_odds_16 (by decide) (fun c_2 => ?_) (fun c_2 => ?_)
    · have c_2 : 0 ≤ w ∧ w ≤ 1 := b01t c_2
      refine lv_aload_n hx hb dX8_odds_23 rfl (lv_at hl 0 rfl) ?_
      refine va_get (D := D) (ci := 8) (v := .ref fr) (C := RX8) (T := TX8) (N := 15) hx hb hts (fun _ h9 => List.mem_cons_of_mem _ (List.mem_append_left _ (List.mem_append_left _ (List.mem_append_left _ (List.mem_append_left _ (List.mem_append_right _ h9)))))) hown hK hP 0 rfl rfl 2 (by decide) (hts (.fieldLink RX8 28 "FontRuns" "fontRow" "LFontRuns$FontRow;") mw_X8_odds_1) (fun _ h9 => h9) rfl dX8_odds_24 ?_
      refine va_get (D := D) (ci := 0) (v := .int (zI fn)) (C := RX0) (T := TX0) (N := 4) hx hb hts (fun _ h9 => List.mem_cons_of_mem _ (List.mem_append_left _ (List.mem_append_left _ (List.mem_append_left _ (List.mem_append_right _ h9))))) hown hK hP 13 rfl rfl 3 (by decide) (hts (.fieldLink RX8 106 "FontRuns$FontRow" "count" "I") mw_X8_odds_2) (fun _ h9 => h9) rfl dX8_odds_27 ?_
      refine kz_if_eq (tgt := 45) hx hb dX8_odds_30 (by decide) (by omega) (fun c_3 => ?_) (fun c_3 => ?_)
      · refine lv_ldc2 (v := (-9223372036854775808)) hx hb hown (hts (.constantLong RX8 280 (-9223372036854775808)) mw_X8_odds_0) dX8_odds_45 ?_
        have hP9 : va_P D vwCl (([(h0, .inr (8, [.ref sh, .ref rd, .ref fr, .ref wr, .ref pf, .ref rc, .ref se, .ref rs, .ref sw, .ref sp, .ref ss, .int (zI ew), .long wc, .int (zI tr), .int (zI lf)])), (ss, .inr (4, [.ref sg1, .ref sg2, .ref sg3, .ref sg4, .ref sg5, .int (zI scn), .int (zI sbo), .int (zI sru), .ref sg6, .ref sg7])), (sg1, .inl (scg1, 24, .inl sf1)), (sg2, .inl (scg2, 24, .inl sf2)), (sg3, .inl (scg3, 24, .inl sf3)), (sg4, .inl (scg4, 24, .inl sf4)), (sg5, .inl (scg5, 24, .inl sf5)), (sg6, .inl (scg6, 24, .inl sf6)), (sg7, .inl (scg7, 24, .inr (.inr (.inr (.inr (sfo)))))), (sw, .inr (7, [.ref sw1, .int (zI swn)])), (sw1, .inl (csw1, 24, .inl fsw)), (wr, .inr (7, [.ref w1, .int (zI wn)])), (w1, .inl (cw1, 24, .inl fw)), (fr, .inr (0, [.ref k1, .ref k2, .ref k3, .int (zI fn)])), (k3, .inl (ck3, 4, .inl fh)), (pf, .inr (1, [.ref p1, .int (zI pn)])), (p1, .inl (cp1, 4, .inl fp))] : va_W) ++ kRows pr gp cy) s.heap := hP.part [0, 1, 2, 3, 4, 5, 6, 7, 8, 9, 10, 11, 12, 13, 14, 15, 16] ax_X8_odds_1
        have hD9 : va_D A (([(h0, .inr (8, [.ref sh, .ref rd, .ref fr, .ref wr, .ref pf, .ref rc, .ref se, .ref rs, .ref sw, .ref sp, .ref ss, .int (zI ew), .long wc, .int (zI tr), .int (zI lf)])), (ss, .inr (4, [.ref sg1, .ref sg2, .ref sg3, .ref sg4, .ref sg5, .int (zI scn), .int (zI sbo), .int (zI sru), .ref sg6, .ref sg7])), (sg1, .inl (scg1, 24, .inl sf1)), (sg2, .inl (scg2, 24, .inl sf2)), (sg3, .inl (scg3, 24, .inl sf3)), (sg4, .inl (scg4, 24, .inl sf4)), (sg5, .inl (scg5, 24, .inl sf5)), (sg6, .inl (scg6, 24, .inl sf6)), (sg7, .inl (scg7, 24, .inr (.inr (.inr (.inr (sfo)))))), (sw, .inr (7, [.ref sw1, .int (zI swn)])), (sw1, .inl (csw1, 24, .inl fsw)), (wr, .inr (7, [.ref w1, .int (zI wn)])), (w1, .inl (cw1, 24, .inl fw)), (fr, .inr (0, [.ref k1, .ref k2, .ref k3, .int (zI fn)])), (k3, .inl (ck3, 4, .inl fh)), (pf, .inr (1, [.ref p1, .int (zI pn)])), (p1, .inl (cp1, 4, .inl fp))] : va_W) ++ kRows pr gp cy) := hD.part [0, 1, 2, 3, 4, 5, 6, 7, 8, 9, 10, 11, 12, 13, 14, 15, 16] (by decide +kernel) ax_X8_odds_1
        exact W.lret (v := (-9223372036854775808)) hx hb hr (fun t ht hW => kQL_of ⟨swn, fsw, scn, sbo, sru, sf1, sf2, sf3, sf4, sf5, sf6, gp, q2, q3, q4, q7, by rw [ht]; exact hP9, hD9⟩ (hS.F ht)) hS.2.2 dX8_odds_48
      · refine lv_aload_n hx hb dX8_odds_33 rfl (lv_at hl 0 rfl) ?_
        refine va_get (D := D) (ci := 8) (v := .ref wr) (C := RX8) (T := TX8) (N := 15) hx hb hts (fun _ h9 => List.mem_cons_of_mem _ (List.mem_append_left _ (List.mem_append_left _ (List.mem_append_left _ (List.mem_append_left _ (List.mem_append_right _ h9)))))) hown hK hP 0 rfl rfl 3 (by decide) (hts (.fieldLink RX8 35 "FontRuns" "writing" "LFontRuns$Writing;") mw_X8_odds_3) (fun _ h9 => h9) rfl dX8_odds_34 ?_
        refine va_get (D := D) (ci := 7) (v := .int (zI wn)) (C := RX7) (T := TX7) (N := 2) hx hb hts (fun _ h9 => List.mem_cons_of_mem _ (List.mem_append_left _ (List.mem_append_left _ (List.mem_append_right _ h9)))) hown hK hP 11 rfl rfl 1 (by decide) (hts (.fieldLink RX8 139 "FontRuns$Writing" "count" "I") mw_X8_odds_4) (fun _ h9 => h9) rfl dX8_odds_37 ?_
        refine lv_bipush (v := zI 24) hx hb dX8_odds_40 (by decide) ?_
        refine kz_icmp_lt (tgt := 49) hx hb dX8_odds_42 (by decide) (by omega) (by omega) (fun c_4 => ?_) (fun c_4 => ?_)
        · refine lv_aload_n hx hb dX8_odds_49 rfl (lv_at hl 0 rfl) ?_
          refine lv_iload_n hx hb dX8_odds_50 rfl (lv_at hl 1 rfl) ?_
          have hFc := va_freeP (cx := [(h0, .inr (8, [.ref sh, .ref rd, .ref fr, .ref wr, .ref pf, .ref rc, .ref se, .ref rs, .ref sw, .ref sp, .ref ss, .int (zI ew), .long wc, .int (zI tr), .int (zI lf)])), (ss, .inr (4, [.ref sg1, .ref sg2, .ref sg3, .ref sg4, .ref sg5, .int (zI scn), .int (zI sbo), .int (zI sru), .ref sg6, .ref sg7])), (sg1, .inl (scg1, 24, .inl sf1)), (sg2, .inl (scg2, 24, .inl sf2)), (sg3, .inl (scg3, 24, .inl sf3)), (sg4, .inl (scg4, 24, .inl sf4)), (sg5, .inl (scg5, 24, .inl sf5)), (sg6, .inl (scg6, 24, .inl sf6)), (sg7, .inl (scg7, 24, .inr (.inr (.inr (.inr (sfo)))))), (sw, .inr (7, [.ref sw1, .int (zI swn)])), (sw1, .inl (csw1, 24, .inl fsw)), (wr, .inr (7, [.ref w1, .int (zI wn)])), (w1, .inl (cw1, 24, .inl fw)), (fr, .inr (0, [.ref k1, .ref k2, .ref k3, .int (zI fn)])), (k3, .inl (ck3, 4, .inl fh)), (pf, .inr (1, [.ref p1, .int (zI pn)])), (p1, .inl (cp1, 4, .inl fp))]) hD hS hA [0, 1, 2, 3, 4, 5, 6, 7, 8, 9, 10, 11, 12, 13, 14, 15, 16] ax_X8_odds_1
          refine va_calli (va_runV (As := [.int (zI x)]) (rest := []) ⟨hx, hb, hml, hown, hts⟩ (c_X8_lettersWithChanges l D s.heap.size (x := x) (h0 := h0) (sh := sh) (rd := rd) (fr := fr) (wr := wr) (pf := pf) (rc := rc) (se := se) (rs := rs) (sw := sw) (sp := sp) (ss := ss) (ew := ew) (wc := wc) (tr := tr) (lf := lf) (sg1 := sg1) (sg2 := sg2) (sg3 := sg3) (sg4 := sg4) (sg5 := sg5) (scn := scn) (sbo := sbo) (sru := sru) (sg6 := sg6) (sg7 := sg7) (scg1 := scg1) (sf1 := sf1) (scg2 := scg2) (sf2 := sf2) (scg3 := scg3) (sf3 := sf3) (scg4 := scg4) (sf4 := sf4) (scg5 := scg5) (sf5 := sf5) (scg6 := scg6) (sf6 := sf6) (scg7 := scg7) (sfo := sfo) (o3 := o3) (sw1 := sw1) (swn := swn) (csw1 := csw1) (fsw := fsw) (w1 := w1) (wn := wn) (cw1 := cw1) (fw := fw) (k1 := k1) (k2 := k2) (k3 := k3) (fn := fn) (ck3 := ck3) (fh := fh) (p1 := p1) (pn := pn) (cp1 := cp1) (fp := fp) (pr := pr) (gp := gp) (cy := cy) q0 q7 q8 q9 q10 q11 q2 q3 q4 q5 q6) (cwV 1 hts gX8_odds_X8_lettersWithChanges rfl rfl rfl (by decide +kernel) ⟨Nat.le_of_ble_eq_true rfl, Nat.le_of_ble_eq_true rfl⟩) (kPreVP hP (kD0 hD) hK hN [0, 1, 2, 3, 4, 5, 6, 7, 8, 9, 10, 11, 12, 13, 14, 15, 16] [0, 1, 2, 3, 4, 5, 6, 7, 8, 9, 10, 11] ax_X8_odds_1 rfl (by decide +kernel) 0 8 rfl rfl) rfl rfl hl.1 rfl (lv_room (Nat.le_of_ble_eq_true rfl)) dX8_odds_51 ⟨Nat.le_of_ble_eq_true rfl, Nat.le_of_ble_eq_true rfl⟩) hS (fun q _ h => hFc q h) hFc (fun r u t H1 locs ht hvm hw hB hz1 hk1 hS => ?_)
          obtain ⟨z_17, e9⟩ : ∃ z, z = u := ⟨_, rfl⟩
          subst e9
          obtain ⟨rfl, rz_17⟩ := hw
          refine Exists.elim hB (fun un_5 hB1 => Exists.elim hB1 (fun uw_6 hB2 => Exists.elim hB2 (fun uc_7 hB3 => Exists.elim hB3 (fun ub_8 hB4 => Exists.elim hB4 (fun ur_9 hB5 => Exists.elim hB5 (fun v1_10 hB6 => Exists.elim hB6 (fun v2_11 hB7 => Exists.elim hB7 (fun v3_12 hB8 => Exists.elim hB8 (fun v4_13 hB9 => Exists.elim hB9 (fun v5_14 hB10 => Exists.elim hB10 (fun v6_15 hB11 => Exists.elim hB11 (fun ug_16 hB12 => ?_))))))))))))
          have h_18 := hB12.1
          have h_19 := hB12.2.1
          have h_20 := hB12.2.2.1
          have h_21 := hB12.2.2.2.1
          have h_22 := hB12.2.2.2.2.1
          have hP1 := hB12.2.2.2.2.2.1
          have hD1 := hB12.2.2.2.2.2.2
          clear hB hB1 hB2 hB3 hB4 hB5 hB6 hB7 hB8 hB9 hB10 hB11 hB12
          rw [ht] at hP1
          obtain ⟨hP, hD⟩ := va_joinP (X := [(h0, .inr (8, [.ref sh, .ref rd, .ref fr, .ref wr, .ref pf, .ref rc, .ref se, .ref rs, .ref sw, .ref sp, .ref ss, .int (zI ew), .long wc, .int (zI tr), .int (zI lf)])), (ss, .inr (4, [.ref sg1, .ref sg2, .ref sg3, .ref sg4, .ref sg5, .int (zI scn), .int (zI sbo), .int (zI sru), .ref sg6, .ref sg7])), (sg1, .inl (scg1, 24, .inl sf1)), (sg2, .inl (scg2, 24, .inl sf2)), (sg3, .inl (scg3, 24, .inl sf3)), (sg4, .inl (scg4, 24, .inl sf4)), (sg5, .inl (scg5, 24, .inl sf5)), (sg6, .inl (scg6, 24, .inl sf6)), (sg7, .inl (scg7, 24, .inr (.inr (.inr (.inr (sfo)))))), (sw, .inr (7, [.ref sw1, .int (zI swn)])), (sw1, .inl (csw1, 24, .inl fsw)), (wr, .inr (7, [.ref w1, .int (zI wn)])), (w1, .inl (cw1, 24, .inl fw)), (fr, .inr (0, [.ref k1, .ref k2, .ref k3, .int (zI fn)])), (k3, .inl (ck3, 4, .inl fh)), (pf, .inr (1, [.ref p1, .int (zI pn)])), (p1, .inl (cp1, 4, .inl fp))]) (wr := []) (rx := [(h0, .inr (8, [.ref sh, .ref rd, .ref fr, .ref wr, .ref pf, .ref rc, .ref se, .ref rs, .ref sw, .ref sp, .ref ss, .int (zI ew), .long wc, .int (zI tr), .int (zI lf)])), (ss, .inr (4, [.ref sg1, .ref sg2, .ref sg3, .ref sg4, .ref sg5, .int (zI uc_7), .int (zI ub_8), .int (zI ur_9), .ref sg6, .ref sg7])), (sg1, .inl (scg1, 24, .inl v1_10)), (sg2, .inl (scg2, 24, .inl v2_11)), (sg3, .inl (scg3, 24, .inl v3_12)), (sg4, .inl (scg4, 24, .inl v4_13)), (sg5, .inl (scg5, 24, .inl v5_14)), (sg6, .inl (scg6, 24, .inl v6_15)), (sg7, .inl (scg7, 24, .inr (.inr (.inr (.inr (sfo)))))), (sw, .inr (7, [.ref sw1, .int (zI un_5)])), (sw1, .inl (csw1, 24, .inl uw_6)), (wr, .inr (7, [.ref w1, .int (zI wn)])), (w1, .inl (cw1, 24, .inl fw)), (fr, .inr (0, [.ref k1, .ref k2, .ref k3, .int (zI fn)])), (k3, .inl (ck3, 4, .inl fh)), (pf, .inr (1, [.ref p1, .int (zI pn)])), (p1, .inl (cp1, 4, .inl fp))]) hP hD [0, 1, 2, 3, 4, 5, 6, 7, 8, 9, 10, 11, 12, 13, 14, 15, 16] [] ax_X8_odds_1 ax_X8_odds_2 (by decide +kernel) (by decide +kernel) hk1 hFc hP1 hD1
          have hP := ax_X8_odds_3 hP
          have hD := ax_X8_odds_4 hD
          generalize H1 = H at hP hS ⊢
          have hP : va_P D vwCl (([(h0, .inr (8, [.ref sh, .ref rd, .ref fr, .ref wr, .ref pf, .ref rc, .ref se, .ref rs, .ref sw, .ref sp, .ref ss, .int (zI ew), .long wc, .int (zI tr), .int (zI lf)])), (ss, .inr (4, [.ref sg1, .ref sg2, .ref sg3, .ref sg4, .ref sg5, .int (zI uc_7), .int (zI ub_8), .int (zI ur_9), .ref sg6, .ref sg7])), (sg1, .inl (scg1, 24, .inl v1_10)), (sg2, .inl (scg2, 24, .inl v2_11)), (sg3, .inl (scg3, 24, .inl v3_12)), (sg4, .inl (scg4, 24, .inl v4_13)), (sg5, .inl (scg5, 24, .inl v5_14)), (sg6, .inl (scg6, 24, .inl v6_15)), (sg7, .inl (scg7, 24, .inr (.inr (.inr (.inr (sfo)))))), (sw, .inr (7, [.ref sw1, .int (zI un_5)])), (sw1, .inl (csw1, 24, .inl uw_6)), (wr, .inr (7, [.ref w1, .int (zI wn)])), (w1, .inl (cw1, 24, .inl fw)), (fr, .inr (0, [.ref k1, .ref k2, .ref k3, .int (zI fn)])), (k3, .inl (ck3, 4, .inl fh)), (pf, .inr (1, [.ref p1, .int (zI pn)])), (p1, .inl (cp1, 4, .inl fp))] : va_W) ++ kRows pr ug_16 cy) H := hP
          have hD : va_D A (([(h0, .inr (8, [.ref sh, .ref rd, .ref fr, .ref wr, .ref pf, .ref rc, .ref se, .ref rs, .ref sw, .ref sp, .ref ss, .int (zI ew), .long wc, .int (zI tr), .int (zI lf)])), (ss, .inr (4, [.ref sg1, .ref sg2, .ref sg3, .ref sg4, .ref sg5, .int (zI uc_7), .int (zI ub_8), .int (zI ur_9), .ref sg6, .ref sg7])), (sg1, .inl (scg1, 24, .inl v1_10)), (sg2, .inl (scg2, 24, .inl v2_11)), (sg3, .inl (scg3, 24, .inl v3_12)), (sg4, .inl (scg4, 24, .inl v4_13)), (sg5, .inl (scg5, 24, .inl v5_14)), (sg6, .inl (scg6, 24, .inl v6_15)), (sg7, .inl (scg7, 24, .inr (.inr (.inr (.inr (sfo)))))), (sw, .inr (7, [.ref sw1, .int (zI un_5)])), (sw1, .inl (csw1, 24, .inl uw_6)), (wr, .inr (7, [.ref w1, .int (zI wn)])), (w1, .inl (cw1, 24, .inl fw)), (fr, .inr (0, [.ref k1, .ref k2, .ref k3, .int (zI fn)])), (k3, .inl (ck3, 4, .inl fh)), (pf, .inr (1, [.ref p1, .int (zI pn)])), (p1, .inl (cp1, 4, .inl fp))] : va_W) ++ kRows pr ug_16 cy) := hD
          refine lv_istore_n (lv' := [(3, .int (zI z_17)), (0, .ref h0), (1, .int (zI x)), (2, .int (zI w))]) hx hb dX8_odds_54 rfl hl (by decide) rfl (fun ls hl => ?_)
          refine lv_bipush (v := zI 16) hx hb dX8_odds_55 (by decide) ?_
          refine lv_istore (lv' := [(4, .int (zI 16)), (3, .int (zI z_17)), (0, .ref h0), (1, .int (zI x)), (2, .int (zI w))]) hx hb dX8_odds_57 hl (by decide) rfl (fun ls hl => ?_)
          refine k_loopM (I := fun n9 H locs ls => ∃ (ju : Int) (jl : Int), n9 = (jl).toNat ∧ (0 ≤ ju ∧ ju ≤ 16) ∧ (1 ≤ jl ∧ jl ≤ 16) ∧ va_P D vwCl (([(h0, .inr (8, [.ref sh, .ref rd, .ref fr, .ref wr, .ref pf, .ref rc, .ref se, .ref rs, .ref sw, .ref sp, .ref ss, .int (zI ew), .long wc, .int (zI tr), .int (zI lf)])), (ss, .inr (4, [.ref sg1, .ref sg2, .ref sg3, .ref sg4, .ref sg5, .int (zI uc_7), .int (zI ub_8), .int (zI ur_9), .ref sg6, .ref sg7])), (sg1, .inl (scg1, 24, .inl v1_10)), (sg2, .inl (scg2, 24, .inl v2_11)), (sg3, .inl (scg3, 24, .inl v3_12)), (sg4, .inl (scg4, 24, .inl v4_13)), (sg5, .inl (scg5, 24, .inl v5_14)), (sg6, .inl (scg6, 24, .inl v6_15)), (sg7, .inl (scg7, 24, .inr (.inr (.inr (.inr (sfo)))))), (sw, .inr (7, [.ref sw1, .int (zI un_5)])), (sw1, .inl (csw1, 24, .inl uw_6)), (wr, .inr (7, [.ref w1, .int (zI wn)])), (w1, .inl (cw1, 24, .inl fw)), (fr, .inr (0, [.ref k1, .ref k2, .ref k3, .int (zI fn)])), (k3, .inl (ck3, 4, .inl fh)), (pf, .inr (1, [.ref p1, .int (zI pn)])), (p1, .inl (cp1, 4, .inl fp))] : va_W) ++ kRows pr ug_16 cy) H ∧ va_D A (([(h0, .inr (8, [.ref sh, .ref rd, .ref fr, .ref wr, .ref pf, .ref rc, .ref se, .ref rs, .ref sw, .ref sp, .ref ss, .int (zI ew), .long wc, .int (zI tr), .int (zI lf)])), (ss, .inr (4, [.ref sg1, .ref sg2, .ref sg3, .ref sg4, .ref sg5, .int (zI uc_7), .int (zI ub_8), .int (zI ur_9), .ref sg6, .ref sg7])), (sg1, .inl (scg1, 24, .inl v1_10)), (sg2, .inl (scg2, 24, .inl v2_11)), (sg3, .inl (scg3, 24, .inl v3_12)), (sg4, .inl (scg4, 24, .inl v4_13)), (sg5, .inl (scg5, 24, .inl v5_14)), (sg6, .inl (scg6, 24, .inl v6_15)), (sg7, .inl (scg7, 24, .inr (.inr (.inr (.inr (sfo)))))), (sw, .inr (7, [.ref sw1, .int (zI un_5)])), (sw1, .inl (csw1, 24, .inl uw_6)), (wr, .inr (7, [.ref w1, .int (zI wn)])), (w1, .inl (cw1, 24, .inl fw)), (fr, .inr (0, [.ref k1, .ref k2, .ref k3, .int (zI fn)])), (k3, .inl (ck3, 4, .inl fh)), (pf, .inr (1, [.ref p1, .int (zI pn)])), (p1, .inl (cp1, 4, .inl fp))] : va_W) ++ kRows pr ug_16 cy) ∧ va_S A s.heap H locs ∧ lv_has ls 5 [(4, .int (zI jl)), (3, .int (zI ju)), (0, .ref h0), (1, .int (zI x)), (2, .int (zI w))]) ?_ _ ⟨z_17, 16, rfl, h_22, (by omega), hP, hD, hS, hl⟩
          intro n59 ih59 H locs ls hI
          obtain ⟨ju, jl, en59, v_590, v_591, hP, hD, hS, hl⟩ := hI
          refine lv_iload hx hb dX8_odds_59 (lv_at hl 0 rfl) ?_
          refine lv_iconst (v := zI 1) hx hb dX8_odds_61 rfl ?_
          refine kz_icmp_le (tgt := 84) hx hb dX8_odds_62 (by decide) (by omega) (by omega) (fun c_23 => ?_) (fun c_23 => ?_)
          · refine lv_iload_n hx hb dX8_odds_84 rfl (lv_at hl 4 rfl) ?_
            refine kz_if_ne (tgt := 93) hx hb dX8_odds_85 (by decide) (by omega) (fun c_24 => ?_) (fun c_24 => ?_)
            · refine lv_iload hx hb dX8_odds_93 (lv_at hl 0 rfl) ?_
              refine lv_i2l (v := (zI jl).toInt64) hx hb dX8_odds_95 rfl ?_
              have hP9 : va_P D vwCl (([(h0, .inr (8, [.ref sh, .ref rd, .ref fr, .ref wr, .ref pf, .ref rc, .ref se, .ref rs, .ref sw, .ref sp, .ref ss, .int (zI ew), .long wc, .int (zI tr), .int (zI lf)])), (ss, .inr (4, [.ref sg1, .ref sg2, .ref sg3, .ref sg4, .ref sg5, .int (zI uc_7), .int (zI ub_8), .int (zI ur_9), .ref sg6, .ref sg7])), (sg1, .inl (scg1, 24, .inl v1_10)), (sg2, .inl (scg2, 24, .inl v2_11)), (sg3, .inl (scg3, 24, .inl v3_12)), (sg4, .inl (scg4, 24, .inl v4_13)), (sg5, .inl (scg5, 24, .inl v5_14)), (sg6, .inl (scg6, 24, .inl v6_15)), (sg7, .inl (scg7, 24, .inr (.inr (.inr (.inr (sfo)))))), (sw, .inr (7, [.ref sw1, .int (zI un_5)])), (sw1, .inl (csw1, 24, .inl uw_6)), (wr, .inr (7, [.ref w1, .int (zI wn)])), (w1, .inl (cw1, 24, .inl fw)), (fr, .inr (0, [.ref k1, .ref k2, .ref k3, .int (zI fn)])), (k3, .inl (ck3, 4, .inl fh)), (pf, .inr (1, [.ref p1, .int (zI pn)])), (p1, .inl (cp1, 4, .inl fp))] : va_W) ++ kRows pr ug_16 cy) H := hP.part [0, 1, 2, 3, 4, 5, 6, 7, 8, 9, 10, 11, 12, 13, 14, 15, 16] ax_X8_odds_1
              have hD9 : va_D A (([(h0, .inr (8, [.ref sh, .ref rd, .ref fr, .ref wr, .ref pf, .ref rc, .ref se, .ref rs, .ref sw, .ref sp, .ref ss, .int (zI ew), .long wc, .int (zI tr), .int (zI lf)])), (ss, .inr (4, [.ref sg1, .ref sg2, .ref sg3, .ref sg4, .ref sg5, .int (zI uc_7), .int (zI ub_8), .int (zI ur_9), .ref sg6, .ref sg7])), (sg1, .inl (scg1, 24, .inl v1_10)), (sg2, .inl (scg2, 24, .inl v2_11)), (sg3, .inl (scg3, 24, .inl v3_12)), (sg4, .inl (scg4, 24, .inl v4_13)), (sg5, .inl (scg5, 24, .inl v5_14)), (sg6, .inl (scg6, 24, .inl v6_15)), (sg7, .inl (scg7, 24, .inr (.inr (.inr (.inr (sfo)))))), (sw, .inr (7, [.ref sw1, .int (zI un_5)])), (sw1, .inl (csw1, 24, .inl uw_6)), (wr, .inr (7, [.ref w1, .int (zI wn)])), (w1, .inl (cw1, 24, .inl fw)), (fr, .inr (0, [.ref k1, .ref k2, .ref k3, .int (zI fn)])), (k3, .inl (ck3, 4, .inl fh)), (pf, .inr (1, [.ref p1, .int (zI pn)])), (p1, .inl (cp1, 4, .inl fp))] : va_W) ++ kRows pr ug_16 cy) := hD.part [0, 1, 2, 3, 4, 5, 6, 7, 8, 9, 10, 11, 12, 13, 14, 15, 16] (by decide +kernel) ax_X8_odds_1
              exact W.lret (v := ((zI jl).toInt64)) hx hb hr (fun t ht hW => kQL_of ⟨un_5, uw_6, uc_7, ub_8, ur_9, v1_10, v2_11, v3_12, v4_13, v5_14, v6_15, ug_16, h_19, h_20, h_21, h_18, by rw [ht]; exact hP9, hD9⟩ (hS.F ht)) hS.2.2 dX8_odds_96
            · refine lv_iload_n hx hb dX8_odds_88 rfl (lv_at hl 1 rfl) ?_
              refine lv_i2l (v := (zI ju).toInt64) hx hb dX8_odds_89 rfl ?_
              refine lv_goto (tgt := 96) hx hb dX8_odds_90 (by decide) ?_
              have hP9 : va_P D vwCl (([(h0, .inr (8, [.ref sh, .ref rd, .ref fr, .ref wr, .ref pf, .ref rc, .ref se, .ref rs, .ref sw, .ref sp, .ref ss, .int (zI ew), .long wc, .int (zI tr), .int (zI lf)])), (ss, .inr (4, [.ref sg1, .ref sg2, .ref sg3, .ref sg4, .ref sg5, .int (zI uc_7), .int (zI ub_8), .int (zI ur_9), .ref sg6, .ref sg7])), (sg1, .inl (scg1, 24, .inl v1_10)), (sg2, .inl (scg2, 24, .inl v2_11)), (sg3, .inl (scg3, 24, .inl v3_12)), (sg4, .inl (scg4, 24, .inl v4_13)), (sg5, .inl (scg5, 24, .inl v5_14)), (sg6, .inl (scg6, 24, .inl v6_15)), (sg7, .inl (scg7, 24, .inr (.inr (.inr (.inr (sfo)))))), (sw, .inr (7, [.ref sw1, .int (zI un_5)])), (sw1, .inl (csw1, 24, .inl uw_6)), (wr, .inr (7, [.ref w1, .int (zI wn)])), (w1, .inl (cw1, 24, .inl fw)), (fr, .inr (0, [.ref k1, .ref k2, .ref k3, .int (zI fn)])), (k3, .inl (ck3, 4, .inl fh)), (pf, .inr (1, [.ref p1, .int (zI pn)])), (p1, .inl (cp1, 4, .inl fp))] : va_W) ++ kRows pr ug_16 cy) H := hP.part [0, 1, 2, 3, 4, 5, 6, 7, 8, 9, 10, 11, 12, 13, 14, 15, 16] ax_X8_odds_1
              have hD9 : va_D A (([(h0, .inr (8, [.ref sh, .ref rd, .ref fr, .ref wr, .ref pf, .ref rc, .ref se, .ref rs, .ref sw, .ref sp, .ref ss, .int (zI ew), .long wc, .int (zI tr), .int (zI lf)])), (ss, .inr (4, [.ref sg1, .ref sg2, .ref sg3, .ref sg4, .ref sg5, .int (zI uc_7), .int (zI ub_8), .int (zI ur_9), .ref sg6, .ref sg7])), (sg1, .inl (scg1, 24, .inl v1_10)), (sg2, .inl (scg2, 24, .inl v2_11)), (sg3, .inl (scg3, 24, .inl v3_12)), (sg4, .inl (scg4, 24, .inl v4_13)), (sg5, .inl (scg5, 24, .inl v5_14)), (sg6, .inl (scg6, 24, .inl v6_15)), (sg7, .inl (scg7, 24, .inr (.inr (.inr (.inr (sfo)))))), (sw, .inr (7, [.ref sw1, .int (zI un_5)])), (sw1, .inl (csw1, 24, .inl uw_6)), (wr, .inr (7, [.ref w1, .int (zI wn)])), (w1, .inl (cw1, 24, .inl fw)), (fr, .inr (0, [.ref k1, .ref k2, .ref k3, .int (zI fn)])), (k3, .inl (ck3, 4, .inl fh)), (pf, .inr (1, [.ref p1, .int (zI pn)])), (p1, .inl (cp1, 4, .inl fp))] : va_W) ++ kRows pr ug_16 cy) := hD.part [0, 1, 2, 3, 4, 5, 6, 7, 8, 9, 10, 11, 12, 13, 14, 15, 16] (by decide +kernel) ax_X8_odds_1
              exact W.lret (v := ((zI ju).toInt64)) hx hb hr (fun t ht hW => kQL_of ⟨un_5, uw_6, uc_7, ub_8, ur_9, v1_10, v2_11, v3_12, v4_13, v5_14, v6_15, ug_16, h_19, h_20, h_21, h_18, by rw [ht]; exact hP9, hD9⟩ (hS.F ht)) hS.2.2 dX8_odds_96
          · refine lv_iload_n hx hb dX8_odds_65 rfl (lv_at hl 1 rfl) ?_
            refine lv_iconst (v := zI 2) hx hb dX8_odds_66 rfl ?_
            refine lv_irem hx hb dX8_odds_67 (by decide) ?_
            refine kz_any (fun z_25 rz_25 ez_25 => ?_)
            refine kz_if_ne (tgt := 84) hx hb dX8_odds_68 (by decide) (by omega) (fun c_26 => ?_) (fun c_26 => ?_)
            · refine lv_iload_n hx hb dX8_odds_84 rfl (lv_at hl 4 rfl) ?_
              refine kz_if_ne (tgt := 93) hx hb dX8_odds_85 (by decide) (by omega) (fun c_27 => ?_) (fun c_27 => ?_)
              · refine lv_iload hx hb dX8_odds_93 (lv_at hl 0 rfl) ?_
                refine lv_i2l (v := (zI jl).toInt64) hx hb dX8_odds_95 rfl ?_
                have hP9 : va_P D vwCl (([(h0, .inr (8, [.ref sh, .ref rd, .ref fr, .ref wr, .ref pf, .ref rc, .ref se, .ref rs, .ref sw, .ref sp, .ref ss, .int (zI ew), .long wc, .int (zI tr), .int (zI lf)])), (ss, .inr (4, [.ref sg1, .ref sg2, .ref sg3, .ref sg4, .ref sg5, .int (zI uc_7), .int (zI ub_8), .int (zI ur_9), .ref sg6, .ref sg7])), (sg1, .inl (scg1, 24, .inl v1_10)), (sg2, .inl (scg2, 24, .inl v2_11)), (sg3, .inl (scg3, 24, .inl v3_12)), (sg4, .inl (scg4, 24, .inl v4_13)), (sg5, .inl (scg5, 24, .inl v5_14)), (sg6, .inl (scg6, 24, .inl v6_15)), (sg7, .inl (scg7, 24, .inr (.inr (.inr (.inr (sfo)))))), (sw, .inr (7, [.ref sw1, .int (zI un_5)])), (sw1, .inl (csw1, 24, .inl uw_6)), (wr, .inr (7, [.ref w1, .int (zI wn)])), (w1, .inl (cw1, 24, .inl fw)), (fr, .inr (0, [.ref k1, .ref k2, .ref k3, .int (zI fn)])), (k3, .inl (ck3, 4, .inl fh)), (pf, .inr (1, [.ref p1, .int (zI pn)])), (p1, .inl (cp1, 4, .inl fp))] : va_W) ++ kRows pr ug_16 cy) H := hP.part [0, 1, 2, 3, 4, 5, 6, 7, 8, 9, 10, 11, 12, 13, 14, 15, 16] ax_X8_odds_1
                have hD9 : va_D A (([(h0, .inr (8, [.ref sh, .ref rd, .ref fr, .ref wr, .ref pf, .ref rc, .ref se, .ref rs, .ref sw, .ref sp, .ref ss, .int (zI ew), .long wc, .int (zI tr), .int (zI lf)])), (ss, .inr (4, [.ref sg1, .ref sg2, .ref sg3, .ref sg4, .ref sg5, .int (zI uc_7), .int (zI ub_8), .int (zI ur_9), .ref sg6, .ref sg7])), (sg1, .inl (scg1, 24, .inl v1_10)), (sg2, .inl (scg2, 24, .inl v2_11)), (sg3, .inl (scg3, 24, .inl v3_12)), (sg4, .inl (scg4, 24, .inl v4_13)), (sg5, .inl (scg5, 24, .inl v5_14)), (sg6, .inl (scg6, 24, .inl v6_15)), (sg7, .inl (scg7, 24, .inr (.inr (.inr (.inr (sfo)))))), (sw, .inr (7, [.ref sw1, .int (zI un_5)])), (sw1, .inl (csw1, 24, .inl uw_6)), (wr, .inr (7, [.ref w1, .int (zI wn)])), (w1, .inl (cw1, 24, .inl fw)), (fr, .inr (0, [.ref k1, .ref k2, .ref k3, .int (zI fn)])), (k3, .inl (ck3, 4, .inl fh)), (pf, .inr (1, [.ref p1, .int (zI pn)])), (p1, .inl (cp1, 4, .inl fp))] : va_W) ++ kRows pr ug_16 cy) := hD.part [0, 1, 2, 3, 4, 5, 6, 7, 8, 9, 10, 11, 12, 13, 14, 15, 16] (by decide +kernel) ax_X8_odds_1
                exact W.lret (v := ((zI jl).toInt64)) hx hb hr (fun t ht hW => kQL_of ⟨un_5, uw_6, uc_7, ub_8, ur_9, v1_10, v2_11, v3_12, v4_13, v5_14, v6_15, ug_16, h_19, h_20, h_21, h_18, by rw [ht]; exact hP9, hD9⟩ (hS.F ht)) hS.2.2 dX8_odds_96
              · refine lv_iload_n hx hb dX8_odds_88 rfl (lv_at hl 1 rfl) ?_
                refine lv_i2l (v := (zI ju).toInt64) hx hb dX8_odds_89 rfl ?_
                refine lv_goto (tgt := 96) hx hb dX8_odds_90 (by decide) ?_
                have hP9 : va_P D vwCl (([(h0, .inr (8, [.ref sh, .ref rd, .ref fr, .ref wr, .ref pf, .ref rc, .ref se, .ref rs, .ref sw, .ref sp, .ref ss, .int (zI ew), .long wc, .int (zI tr), .int (zI lf)])), (ss, .inr (4, [.ref sg1, .ref sg2, .ref sg3, .ref sg4, .ref sg5, .int (zI uc_7), .int (zI ub_8), .int (zI ur_9), .ref sg6, .ref sg7])), (sg1, .inl (scg1, 24, .inl v1_10)), (sg2, .inl (scg2, 24, .inl v2_11)), (sg3, .inl (scg3, 24, .inl v3_12)), (sg4, .inl (scg4, 24, .inl v4_13)), (sg5, .inl (scg5, 24, .inl v5_14)), (sg6, .inl (scg6, 24, .inl v6_15)), (sg7, .inl (scg7, 24, .inr (.inr (.inr (.inr (sfo)))))), (sw, .inr (7, [.ref sw1, .int (zI un_5)])), (sw1, .inl (csw1, 24, .inl uw_6)), (wr, .inr (7, [.ref w1, .int (zI wn)])), (w1, .inl (cw1, 24, .inl fw)), (fr, .inr (0, [.ref k1, .ref k2, .ref k3, .int (zI fn)])), (k3, .inl (ck3, 4, .inl fh)), (pf, .inr (1, [.ref p1, .int (zI pn)])), (p1, .inl (cp1, 4, .inl fp))] : va_W) ++ kRows pr ug_16 cy) H := hP.part [0, 1, 2, 3, 4, 5, 6, 7, 8, 9, 10, 11, 12, 13, 14, 15, 16] ax_X8_odds_1
                have hD9 : va_D A (([(h0, .inr (8, [.ref sh, .ref rd, .ref fr, .ref wr, .ref pf, .ref rc, .ref se, .ref rs, .ref sw, .ref sp, .ref ss, .int (zI ew), .long wc, .int (zI tr), .int (zI lf)])), (ss, .inr (4, [.ref sg1, .ref sg2, .ref sg3, .ref sg4, .ref sg5, .int (zI uc_7), .int (zI ub_8), .int (zI ur_9), .ref sg6, .ref sg7])), (sg1, .inl (scg1, 24, .inl v1_10)), (sg2, .inl (scg2, 24, .inl v2_11)), (sg3, .inl (scg3, 24, .inl v3_12)), (sg4, .inl (scg4, 24, .inl v4_13)), (sg5, .inl (scg5, 24, .inl v5_14)), (sg6, .inl (scg6, 24, .inl v6_15)), (sg7, .inl (scg7, 24, .inr (.inr (.inr (.inr (sfo)))))), (sw, .inr (7, [.ref sw1, .int (zI un_5)])), (sw1, .inl (csw1, 24, .inl uw_6)), (wr, .inr (7, [.ref w1, .int (zI wn)])), (w1, .inl (cw1, 24, .inl fw)), (fr, .inr (0, [.ref k1, .ref k2, .ref k3, .int (zI fn)])), (k3, .inl (ck3, 4, .inl fh)), (pf, .inr (1, [.ref p1, .int (zI pn)])), (p1, .inl (cp1, 4, .inl fp))] : va_W) ++ kRows pr ug_16 cy) := hD.part [0, 1, 2, 3, 4, 5, 6, 7, 8, 9, 10, 11, 12, 13, 14, 15, 16] (by decide +kernel) ax_X8_odds_1
                exact W.lret (v := ((zI ju).toInt64)) hx hb hr (fun t ht hW => kQL_of ⟨un_5, uw_6, uc_7, ub_8, ur_9, v1_10, v2_11, v3_12, v4_13, v5_14, v6_15, ug_16, h_19, h_20, h_21, h_18, by rw [ht]; exact hP9, hD9⟩ (hS.F ht)) hS.2.2 dX8_odds_96
            · refine lv_iload_n hx hb dX8_odds_71 rfl (lv_at hl 1 rfl) ?_
              refine lv_iconst (v := zI 2) hx hb dX8_odds_72 rfl ?_
              refine kz_idiv2 hx hb dX8_odds_73 (by omega) ?_
              refine lv_istore_n (lv' := [(3, .int (zI (ju / 2))), (4, .int (zI jl)), (0, .ref h0), (1, .int (zI x)), (2, .int (zI w))]) hx hb dX8_odds_74 rfl hl (by decide) rfl (fun ls hl => ?_)
              refine lv_iload hx hb dX8_odds_75 (lv_at hl 1 rfl) ?_
              refine lv_iconst (v := zI 2) hx hb dX8_odds_77 rfl ?_
              refine kz_idiv2 hx hb dX8_odds_78 (by omega) ?_
              refine lv_istore (lv' := [(4, .int (zI (jl / 2))), (3, .int (zI (ju / 2))), (0, .ref h0), (1, .int (zI x)), (2, .int (zI w))]) hx hb dX8_odds_79 hl (by decide) rfl (fun ls hl => ?_)
              refine lv_goto (tgt := 59) hx hb dX8_odds_81 (by decide) ?_
              exact ih59 _ (by omega) _ _ _ ⟨(ju / 2), (jl / 2), rfl, (by omega), (by omega), hP, hD, hS, lv_sub hl [0, 1, 2, 3, 4] rfl⟩
        · refine lv_ldc2 (v := (-9223372036854775808)) hx hb hown (hts (.constantLong RX8 280 (-9223372036854775808)) mw_X8_odds_0) dX8_odds_45 ?_
          have hP9 : va_P D vwCl (([(h0, .inr (8, [.ref sh, .ref rd, .ref fr, .ref wr, .ref pf, .ref rc, .ref se, .ref rs, .ref sw, .ref sp, .ref ss, .int (zI ew), .long wc, .int (zI tr), .int (zI lf)])), (ss, .inr (4, [.ref sg1, .ref sg2, .ref sg3, .ref sg4, .ref sg5, .int (zI scn), .int (zI sbo), .int (zI sru), .ref sg6, .ref sg7])), (sg1, .inl (scg1, 24, .inl sf1)), (sg2, .inl (scg2, 24, .inl sf2)), (sg3, .inl (scg3, 24, .inl sf3)), (sg4, .inl (scg4, 24, .inl sf4)), (sg5, .inl (scg5, 24, .inl sf5)), (sg6, .inl (scg6, 24, .inl sf6)), (sg7, .inl (scg7, 24, .inr (.inr (.inr (.inr (sfo)))))), (sw, .inr (7, [.ref sw1, .int (zI swn)])), (sw1, .inl (csw1, 24, .inl fsw)), (wr, .inr (7, [.ref w1, .int (zI wn)])), (w1, .inl (cw1, 24, .inl fw)), (fr, .inr (0, [.ref k1, .ref k2, .ref k3, .int (zI fn)])), (k3, .inl (ck3, 4, .inl fh)), (pf, .inr (1, [.ref p1, .int (zI pn)])), (p1, .inl (cp1, 4, .inl fp))] : va_W) ++ kRows pr gp cy) s.heap := hP.part [0, 1, 2, 3, 4, 5, 6, 7, 8, 9, 10, 11, 12, 13, 14, 15, 16] ax_X8_odds_1
          have hD9 : va_D A (([(h0, .inr (8, [.ref sh, .ref rd, .ref fr, .ref wr, .ref pf, .ref rc, .ref se, .ref rs, .ref sw, .ref sp, .ref ss, .int (zI ew), .long wc, .int (zI tr), .int (zI lf)])), (ss, .inr (4, [.ref sg1, .ref sg2, .ref sg3, .ref sg4, .ref sg5, .int (zI scn), .int (zI sbo), .int (zI sru), .ref sg6, .ref sg7])), (sg1, .inl (scg1, 24, .inl sf1)), (sg2, .inl (scg2, 24, .inl sf2)), (sg3, .inl (scg3, 24, .inl sf3)), (sg4, .inl (scg4, 24, .inl sf4)), (sg5, .inl (scg5, 24, .inl sf5)), (sg6, .inl (scg6, 24, .inl sf6)), (sg7, .inl (scg7, 24, .inr (.inr (.inr (.inr (sfo)))))), (sw, .inr (7, [.ref sw1, .int (zI swn)])), (sw1, .inl (csw1, 24, .inl fsw)), (wr, .inr (7, [.ref w1, .int (zI wn)])), (w1, .inl (cw1, 24, .inl fw)), (fr, .inr (0, [.ref k1, .ref k2, .ref k3, .int (zI fn)])), (k3, .inl (ck3, 4, .inl fh)), (pf, .inr (1, [.ref p1, .int (zI pn)])), (p1, .inl (cp1, 4, .inl fp))] : va_W) ++ kRows pr gp cy) := hD.part [0, 1, 2, 3, 4, 5, 6, 7, 8, 9, 10, 11, 12, 13, 14, 15, 16] (by decide +kernel) ax_X8_odds_1
          exact W.lret (v := (-9223372036854775808)) hx hb hr (fun t ht hW => kQL_of ⟨swn, fsw, scn, sbo, sru, sf1, sf2, sf3, sf4, sf5, sf6, gp, q2, q3, q4, q7, by rw [ht]; exact hP9, hD9⟩ (hS.F ht)) hS.2.2 dX8_odds_48
    · have c_2 : ¬ (0 ≤ w ∧ w ≤ 1) := b01f c_2
      refine lv_ldc2 (v := (-9223372036854775808)) hx hb hown (hts (.constantLong RX8 280 (-9223372036854775808)) mw_X8_odds_0) dX8_odds_19 ?_
      have hP9 : va_P D vwCl (([(h0, .inr (8, [.ref sh, .ref rd, .ref fr, .ref wr, .ref pf, .ref rc, .ref se, .ref rs, .ref sw, .ref sp, .ref ss, .int (zI ew), .long wc, .int (zI tr), .int (zI lf)])), (ss, .inr (4, [.ref sg1, .ref sg2, .ref sg3, .ref sg4, .ref sg5, .int (zI scn), .int (zI sbo), .int (zI sru), .ref sg6, .ref sg7])), (sg1, .inl (scg1, 24, .inl sf1)), (sg2, .inl (scg2, 24, .inl sf2)), (sg3, .inl (scg3, 24, .inl sf3)), (sg4, .inl (scg4, 24, .inl sf4)), (sg5, .inl (scg5, 24, .inl sf5)), (sg6, .inl (scg6, 24, .inl sf6)), (sg7, .inl (scg7, 24, .inr (.inr (.inr (.inr (sfo)))))), (sw, .inr (7, [.ref sw1, .int (zI swn)])), (sw1, .inl (csw1, 24, .inl fsw)), (wr, .inr (7, [.ref w1, .int (zI wn)])), (w1, .inl (cw1, 24, .inl fw)), (fr, .inr (0, [.ref k1, .ref k2, .ref k3, .int (zI fn)])), (k3, .inl (ck3, 4, .inl fh)), (pf, .inr (1, [.ref p1, .int (zI pn)])), (p1, .inl (cp1, 4, .inl fp))] : va_W) ++ kRows pr gp cy) s.heap := hP.part [0, 1, 2, 3, 4, 5, 6, 7, 8, 9, 10, 11, 12, 13, 14, 15, 16] ax_X8_odds_1
      have hD9 : va_D A (([(h0, .inr (8, [.ref sh, .ref rd, .ref fr, .ref wr, .ref pf, .ref rc, .ref se, .ref rs, .ref sw, .ref sp, .ref ss, .int (zI ew), .long wc, .int (zI tr), .int (zI lf)])), (ss, .inr (4, [.ref sg1, .ref sg2, .ref sg3, .ref sg4, .ref sg5, .int (zI scn), .int (zI sbo), .int (zI sru), .ref sg6, .ref sg7])), (sg1, .inl (scg1, 24, .inl sf1)), (sg2, .inl (scg2, 24, .inl sf2)), (sg3, .inl (scg3, 24, .inl sf3)), (sg4, .inl (scg4, 24, .inl sf4)), (sg5, .inl (scg5, 24, .inl sf5)), (sg6, .inl (scg6, 24, .inl sf6)), (sg7, .inl (scg7, 24, .inr (.inr (.inr (.inr (sfo)))))), (sw, .inr (7, [.ref sw1, .int (zI swn)])), (sw1, .inl (csw1, 24, .inl fsw)), (wr, .inr (7, [.ref w1, .int (zI wn)])), (w1, .inl (cw1, 24, .inl fw)), (fr, .inr (0, [.ref k1, .ref k2, .ref k3, .int (zI fn)])), (k3, .inl (ck3, 4, .inl fh)), (pf, .inr (1, [.ref p1, .int (zI pn)])), (p1, .inl (cp1, 4, .inl fp))] : va_W) ++ kRows pr gp cy) := hD.part [0, 1, 2, 3, 4, 5, 6, 7, 8, 9, 10, 11, 12, 13, 14, 15, 16] (by decide +kernel) ax_X8_odds_1
      exact W.lret (v := (-9223372036854775808)) hx hb hr (fun t ht hW => kQL_of ⟨swn, fsw, scn, sbo, sru, sf1, sf2, sf3, sf4, sf5, sf6, gp, q2, q3, q4, q7, by rw [ht]; exact hP9, hD9⟩ (hS.F ht)) hS.2.2 dX8_odds_22
theorem dX8_many_0 : decode cX8_many 0 = .ok (.iload_n 1, 1) := kqo_1b kbl_X8_many (pc := 0) rfl
theorem dX8_many_1 : decode cX8_many 1 = .ok (.tableswitch 63 0 3 #[31, 39, 47, 55], 31) := by decide +kernel
theorem dX8_many_32 : decode cX8_many 32 = .ok (.aload_n 0, 1) := kqo_2a kbl_X8_many (pc := 32) rfl
theorem dX8_many_33 : decode cX8_many 33 = .ok (.getfield 28, 3) := kqo_b4 (x1 := 0) (x2 := 28) kbl_X8_many (pc := 33) rfl rfl
theorem dX8_many_36 : decode cX8_many 36 = .ok (.getfield 106, 3) := kqo_b4 (x1 := 0) (x2 := 106) kbl_X8_many (pc := 36) rfl rfl
theorem dX8_many_39 : decode cX8_many 39 = .ok (.ireturn, 1) := kqo_ac kbl_X8_many (pc := 39) rfl
theorem dX8_many_40 : decode cX8_many 40 = .ok (.aload_n 0, 1) := kqo_2a kbl_X8_many (pc := 40) rfl
theorem dX8_many_41 : decode cX8_many 41 = .ok (.getfield 35, 3) := kqo_b4 (x1 := 0) (x2 := 35) kbl_X8_many (pc := 41) rfl rfl
theorem dX8_many_44 : decode cX8_many 44 = .ok (.getfield 139, 3) := kqo_b4 (x1 := 0) (x2 := 139) kbl_X8_many (pc := 44) rfl rfl
theorem dX8_many_47 : decode cX8_many 47 = .ok (.ireturn, 1) := kqo_ac kbl_X8_many (pc := 47) rfl
theorem dX8_many_48 : decode cX8_many 48 = .ok (.aload_n 0, 1) := kqo_2a kbl_X8_many (pc := 48) rfl
theorem dX8_many_49 : decode cX8_many 49 = .ok (.getfield 56, 3) := kqo_b4 (x1 := 0) (x2 := 56) kbl_X8_many (pc := 49) rfl rfl
theorem dX8_many_52 : decode cX8_many 52 = .ok (.getfield 250, 3) := kqo_b4 (x1 := 0) (x2 := 250) kbl_X8_many (pc := 52) rfl rfl
theorem dX8_many_55 : decode cX8_many 55 = .ok (.ireturn, 1) := kqo_ac kbl_X8_many (pc := 55) rfl
theorem dX8_many_56 : decode cX8_many 56 = .ok (.aload_n 0, 1) := kqo_2a kbl_X8_many (pc := 56) rfl
theorem dX8_many_57 : decode cX8_many 57 = .ok (.getfield 63, 3) := kqo_b4 (x1 := 0) (x2 := 63) kbl_X8_many (pc := 57) rfl rfl
theorem dX8_many_60 : decode cX8_many 60 = .ok (.getfield 145, 3) := kqo_b4 (x1 := 0) (x2 := 145) kbl_X8_many (pc := 60) rfl rfl
theorem dX8_many_63 : decode cX8_many 63 = .ok (.ireturn, 1) := kqo_ac kbl_X8_many (pc := 63) rfl
theorem dX8_many_64 : decode cX8_many 64 = .ok (.bipush (-2), 2) := kqo_10 (x1 := 254) kbl_X8_many (pc := 64) rfl rfl
theorem dX8_many_66 : decode cX8_many 66 = .ok (.ireturn, 1) := kqo_ac kbl_X8_many (pc := 66) rfl
set_option maxRecDepth 20000 in
theorem mw_X8_many_0 : (.fieldLink RX8 28 "FontRuns" "fontRow" "LFontRuns$FontRow;" : Cond) ∈ wsX8_many := List.mem_cons_of_mem _ (List.mem_append_left _ (List.mem_append_left _ (List.mem_append_left _ (List.mem_append_left _ (List.mem_append_left _ (List.mem_of_getElem? (i := 0) rfl))))))
set_option maxRecDepth 20000 in
theorem mw_X8_many_1 : (.fieldLink RX8 106 "FontRuns$FontRow" "count" "I" : Cond) ∈ wsX8_many := List.mem_cons_of_mem _ (List.mem_append_left _ (List.mem_append_left _ (List.mem_append_left _ (List.mem_append_left _ (List.mem_append_left _ (List.mem_of_getElem? (i := 1) rfl))))))
set_option maxRecDepth 20000 in
theorem mw_X8_many_2 : (.fieldLink RX8 35 "FontRuns" "writing" "LFontRuns$Writing;" : Cond) ∈ wsX8_many := List.mem_cons_of_mem _ (List.mem_append_left _ (List.mem_append_left _ (List.mem_append_left _ (List.mem_append_left _ (List.mem_append_left _ (List.mem_of_getElem? (i := 2) rfl))))))
set_option maxRecDepth 20000 in
theorem mw_X8_many_3 : (.fieldLink RX8 139 "FontRuns$Writing" "count" "I" : Cond) ∈ wsX8_many := List.mem_cons_of_mem _ (List.mem_append_left _ (List.mem_append_left _ (List.mem_append_left _ (List.mem_append_left _ (List.mem_append_left _ (List.mem_of_getElem? (i := 3) rfl))))))
set_option maxRecDepth 20000 in
theorem mw_X8_many_4 : (.fieldLink RX8 56 "FontRuns" "setting" "LFontRuns$Setting;" : Cond) ∈ wsX8_many := List.mem_cons_of_mem _ (List.mem_append_left _ (List.mem_append_left _ (List.mem_append_left _ (List.mem_append_left _ (List.mem_append_left _ (List.mem_of_getElem? (i := 4) rfl))))))
set_option maxRecDepth 20000 in
theorem mw_X8_many_5 : (.fieldLink RX8 250 "FontRuns$Setting" "count" "I" : Cond) ∈ wsX8_many := List.mem_cons_of_mem _ (List.mem_append_left _ (List.mem_append_left _ (List.mem_append_left _ (List.mem_append_left _ (List.mem_append_left _ (List.mem_of_getElem? (i := 5) rfl))))))
set_option maxRecDepth 20000 in
theorem mw_X8_many_6 : (.fieldLink RX8 63 "FontRuns" "readings" "LFontRuns$Readings;" : Cond) ∈ wsX8_many := List.mem_cons_of_mem _ (List.mem_append_left _ (List.mem_append_left _ (List.mem_append_left _ (List.mem_append_left _ (List.mem_append_left _ (List.mem_of_getElem? (i := 6) rfl))))))
set_option maxRecDepth 20000 in
theorem mw_X8_many_7 : (.fieldLink RX8 145 "FontRuns$Readings" "count" "I" : Cond) ∈ wsX8_many := List.mem_cons_of_mem _ (List.mem_append_left _ (List.mem_append_left _ (List.mem_append_left _ (List.mem_append_left _ (List.mem_append_left _ (List.mem_of_getElem? (i := 7) rfl))))))
set_option maxHeartbeats 4000000 in
set_option maxRecDepth 100000 in
theorem c_X8_many (l : Launch) (D : va_G) (sz : Nat) (w : Int) (h0 : Nat) (sh : Nat) (rd : Nat) (fr : Nat) (wr : Nat) (pf : Nat) (rc : Nat) (se : Nat) (rs : Nat) (sw : Nat) (sp : Nat) (ss : Nat) (ew : Int) (wc : Int64) (tr : Int) (lf : Int) (k1 : Nat) (k2 : Nat) (k3 : Nat) (fn : Int) (w1 : Nat) (wn : Int) (g1 : Nat) (g2 : Nat) (g3 : Nat) (g4 : Nat) (g5 : Nat) (cn : Int) (bo : Int) (ru : Int) (g6 : Nat) (g7 : Nat) (dn : Int) (v1 : Nat) (v2 : Nat) (q0 : rg w) (q1 : 0 ≤ fn ∧ fn ≤ 4) (q2 : 0 ≤ wn ∧ wn ≤ 24) (q3 : 0 ≤ cn ∧ cn ≤ 24) (q4 : 0 ≤ bo ∧ bo ≤ 24) (q5 : 0 ≤ ru ∧ ru ≤ cn) (q6 : 0 ≤ dn ∧ dn ≤ 8) : Met l yX8_many wsX8_many ({ frames := 0, cells := 0, slots := 0, locals := 0 }) (kPre [.ref h0, .int (zI w)] D [(h0, .inr (8, [.ref sh, .ref rd, .ref fr, .ref wr, .ref pf, .ref rc, .ref se, .ref rs, .ref sw, .ref sp, .ref ss, .int (zI ew), .long wc, .int (zI tr), .int (zI lf)])), (fr, .inr (0, [.ref k1, .ref k2, .ref k3, .int (zI fn)])), (wr, .inr (7, [.ref w1, .int (zI wn)])), (se, .inr (4, [.ref g1, .ref g2, .ref g3, .ref g4, .ref g5, .int (zI cn), .int (zI bo), .int (zI ru), .ref g6, .ref g7])), (rs, .inr (2, [.int (zI dn), .ref v1, .ref v2]))] [] sz) (QcP (fun rz => True)) 0 0 (fun _ => False) := by
  refine Met.ofW (cc := cX8_many) (maxL := 2) (ret := (some .int)) (by decide) rfl ?_
  intro p e s m args below meth c s₁ B hml hv
  obtain ⟨rfl, hsz, hP, hK, hD0, hN⟩ := hv
  have hx := B.exec
  have hb := B.bytes
  have hr := B.returns
  have hts := atoms_spec (ws := wsX8_many) B.pre
  have hown : s.vm.findClass RX8 = some m.cls := findClass_of_methodNamed B.named
  have hlocks := B.notSynchronized
  subst hsz
  have hD := hD0
  have hP : va_P D vwCl [(h0, .inr (8, [.ref sh, .ref rd, .ref fr, .ref wr, .ref pf, .ref rc, .ref se, .ref rs, .ref sw, .ref sp, .ref ss, .int (zI ew), .long wc, .int (zI tr), .int (zI lf)])), (fr, .inr (0, [.ref k1, .ref k2, .ref k3, .int (zI fn)])), (wr, .inr (7, [.ref w1, .int (zI wn)])), (se, .inr (4, [.ref g1, .ref g2, .ref g3, .ref g4, .ref g5, .int (zI cn), .int (zI bo), .int (zI ru), .ref g6, .ref g7])), (rs, .inr (2, [.int (zI dn), .ref v1, .ref v2]))] s.heap := hP
  have hl := lv_entry ([.ref h0, .int (zI w)]) (n := 2) (Nat.le_of_ble_eq_true rfl)
  rw [lg_entry_eq]
  generalize (lg_sl ([.ref h0, .int (zI w)]) ++ List.replicate (2 - (lg_sl ([.ref h0, .int (zI w)])).length) Slot.unset).toArray = ls at hl ⊢
  have hl : lv_has ls 2 [(0, .ref h0), (1, .int (zI w))] := hl
  refine lv_iload_n hx hb dX8_many_0 rfl (lv_at hl 1 rfl) ?_
  rcases (show w = 0 ∨ w = 1 ∨ w = 2 ∨ w = 3 ∨ (¬ w = 0 ∧ ¬ w = 1 ∧ ¬ w = 2 ∧ ¬ w = 3) from by omega) with c_1 | c_1 | c_1 | c_1 | c_1
  · refine kz_tabIn (tgt := 32) (off := 31) hx hb dX8_many_1 0 (by omega) (by decide) (by decide) (by decide) (by decide) (by decide) ?_
    refine lv_aload_n hx hb dX8_many_32 rfl (lv_at hl 0 rfl) ?_
    refine va_get (D := D) (ci := 8) (v := .ref fr) (C := RX8) (T := TX8) (N := 15) hx hb hts (fun _ h9 => List.mem_cons_of_mem _ (List.mem_append_left _ (List.mem_append_left _ (List.mem_append_left _ (List.mem_append_left _ (List.mem_append_right _ h9)))))) hown hK hP 0 rfl rfl 2 (by decide) (hts (.fieldLink RX8 28 "FontRuns" "fontRow" "LFontRuns$FontRow;") mw_X8_many_0) (fun _ h9 => h9) rfl dX8_many_33 ?_
    refine va_get (D := D) (ci := 0) (v := .int (zI fn)) (C := RX0) (T := TX0) (N := 4) hx hb hts (fun _ h9 => List.mem_cons_of_mem _ (List.mem_append_left _ (List.mem_append_left _ (List.mem_append_left _ (List.mem_append_right _ h9))))) hown hK hP 1 rfl rfl 3 (by decide) (hts (.fieldLink RX8 106 "FontRuns$FontRow" "count" "I") mw_X8_many_1) (fun _ h9 => h9) rfl dX8_many_36 ?_
    exact W.iret (v := (zI fn)) hx hb hr (fun t ht hW => QcP_of (by omega) trivial ht) (fun _ h9 => by cases h9) dX8_many_39
  · refine kz_tabIn (tgt := 40) (off := 39) hx hb dX8_many_1 1 (by omega) (by decide) (by decide) (by decide) (by decide) (by decide) ?_
    refine lv_aload_n hx hb dX8_many_40 rfl (lv_at hl 0 rfl) ?_
    refine va_get (D := D) (ci := 8) (v := .ref wr) (C := RX8) (T := TX8) (N := 15) hx hb hts (fun _ h9 => List.mem_cons_of_mem _ (List.mem_append_left _ (List.mem_append_left _ (List.mem_append_left _ (List.mem_append_left _ (List.mem_append_right _ h9)))))) hown hK hP 0 rfl rfl 3 (by decide) (hts (.fieldLink RX8 35 "FontRuns" "writing" "LFontRuns$Writing;") mw_X8_many_2) (fun _ h9 => h9) rfl dX8_many_41 ?_
    refine va_get (D := D) (ci := 7) (v := .int (zI wn)) (C := RX7) (T := TX7) (N := 2) hx hb hts (fun _ h9 => List.mem_cons_of_mem _ (List.mem_append_left _ (List.mem_append_left _ (List.mem_append_right _ h9)))) hown hK hP 2 rfl rfl 1 (by decide) (hts (.fieldLink RX8 139 "FontRuns$Writing" "count" "I") mw_X8_many_3) (fun _ h9 => h9) rfl dX8_many_44 ?_
    exact W.iret (v := (zI wn)) hx hb hr (fun t ht hW => QcP_of (by omega) trivial ht) (fun _ h9 => by cases h9) dX8_many_47
  · refine kz_tabIn (tgt := 48) (off := 47) hx hb dX8_many_1 2 (by omega) (by decide) (by decide) (by decide) (by decide) (by decide) ?_
    refine lv_aload_n hx hb dX8_many_48 rfl (lv_at hl 0 rfl) ?_
    refine va_get (D := D) (ci := 8) (v := .ref se) (C := RX8) (T := TX8) (N := 15) hx hb hts (fun _ h9 => List.mem_cons_of_mem _ (List.mem_append_left _ (List.mem_append_left _ (List.mem_append_left _ (List.mem_append_left _ (List.mem_append_right _ h9)))))) hown hK hP 0 rfl rfl 6 (by decide) (hts (.fieldLink RX8 56 "FontRuns" "setting" "LFontRuns$Setting;") mw_X8_many_4) (fun _ h9 => h9) rfl dX8_many_49 ?_
    refine va_get (D := D) (ci := 4) (v := .int (zI cn)) (C := RX4) (T := TX4) (N := 10) hx hb hts (fun _ h9 => List.mem_cons_of_mem _ (List.mem_append_left _ (List.mem_append_right _ h9))) hown hK hP 3 rfl rfl 5 (by decide) (hts (.fieldLink RX8 250 "FontRuns$Setting" "count" "I") mw_X8_many_5) (fun _ h9 => h9) rfl dX8_many_52 ?_
    exact W.iret (v := (zI cn)) hx hb hr (fun t ht hW => QcP_of (by omega) trivial ht) (fun _ h9 => by cases h9) dX8_many_55
  · refine kz_tabIn (tgt := 56) (off := 55) hx hb dX8_many_1 3 (by omega) (by decide) (by decide) (by decide) (by decide) (by decide) ?_
    refine lv_aload_n hx hb dX8_many_56 rfl (lv_at hl 0 rfl) ?_
    refine va_get (D := D) (ci := 8) (v := .ref rs) (C := RX8) (T := TX8) (N := 15) hx hb hts (fun _ h9 => List.mem_cons_of_mem _ (List.mem_append_left _ (List.mem_append_left _ (List.mem_append_left _ (List.mem_append_left _ (List.mem_append_right _ h9)))))) hown hK hP 0 rfl rfl 7 (by decide) (hts (.fieldLink RX8 63 "FontRuns" "readings" "LFontRuns$Readings;") mw_X8_many_6) (fun _ h9 => h9) rfl dX8_many_57 ?_
    refine va_get (D := D) (ci := 2) (v := .int (zI dn)) (C := RX2) (T := TX2) (N := 3) hx hb hts (fun _ h9 => List.mem_cons_of_mem _ (List.mem_append_right _ h9)) hown hK hP 4 rfl rfl 0 (by decide) (hts (.fieldLink RX8 145 "FontRuns$Readings" "count" "I") mw_X8_many_7) (fun _ h9 => h9) rfl dX8_many_60 ?_
    exact W.iret (v := (zI dn)) hx hb hr (fun t ht hW => QcP_of (by omega) trivial ht) (fun _ h9 => by cases h9) dX8_many_63
  · refine kz_tabOut (tgt := 64) hx hb dX8_many_1 (by omega) (by omega) (by decide) ?_
    refine lv_bipush (v := zI (-2)) hx hb dX8_many_64 (by decide) ?_
    exact W.iret (v := (zI (-2))) hx hb hr (fun t ht hW => QcP_of (by omega) trivial ht) (fun _ h9 => by cases h9) dX8_many_66
/-! the lengths of the SHEETS -/
def kSL (f : Nat → Int32) : Prop := ∀ i : Nat, i < 4 → 0 ≤ (f i).toInt ∧ (f i).toInt ≤ 60
theorem kSL_at {f : Nat → Int32} (h : kSL f) {i : Nat} {z : Int} (hi : i < 4) (hz : rg z) (e : f i = zI z) : 0 ≤ z ∧ z ≤ 60 := by
  have := h i hi
  rw [e, zI_toInt hz] at this
  exact this
theorem kSL_upd {f : Nat → Int32} (h : kSL f) {k : Nat} {v : Int} (hk : k < 4) (hv : 0 ≤ v ∧ v ≤ 60) : kSL (upd f k (zI v)) := by
  intro i hi
  by_cases e : i = k
  · subst e
    rw [pk_us, zI_toInt (by omega)]
    exact hv
  · rw [pk_un e]
    exact h i hi
theorem kshr1 {x z : Int} (h : 0 < x ∧ x < 2147483648) (hz : rg z) (e : zI x >>> (zI 1 &&& 31) = zI z) : z = x / 2 := by
  obtain ⟨n, rfl⟩ := Int.eq_ofNat_of_zero_le (Int.le_of_lt h.1)
  have q : nI n >>> ((1 : Int32) &&& 31) = nI (n / 2 ^ 1) := pk_shrN (by omega) _ 1 (by decide)
  have q2 : zI (n : Int) >>> (zI 1 &&& 31) = zI ((n / 2 ^ 1 : Nat) : Int) := q
  rw [e] at q2
  have := (zI_eq hz (by omega)).mp q2
  omega
theorem dX9_size_0 : decode cX9_size 0 = .ok (.iconst 0, 1) := kqo_03 kbl_X9_size (pc := 0) rfl
theorem dX9_size_1 : decode cX9_size 1 = .ok (.istore_n 1, 1) := kqo_3c kbl_X9_size (pc := 1) rfl
theorem dX9_size_2 : decode cX9_size 2 = .ok (.iload_n 0, 1) := kqo_1a kbl_X9_size (pc := 2) rfl
theorem dX9_size_3 : decode cX9_size 3 = .ok (.istore_n 2, 1) := kqo_3d kbl_X9_size (pc := 3) rfl
theorem dX9_size_4 : decode cX9_size 4 = .ok (.iload_n 2, 1) := kqo_1c kbl_X9_size (pc := 4) rfl
theorem dX9_size_5 : decode cX9_size 5 = .ok (.ifCond .le 16, 3) := kqo_9e (x1 := 0) (x2 := 16) kbl_X9_size (pc := 5) rfl rfl
theorem dX9_size_8 : decode cX9_size 8 = .ok (.iload_n 1, 1) := kqo_1b kbl_X9_size (pc := 8) rfl
theorem dX9_size_9 : decode cX9_size 9 = .ok (.iload_n 2, 1) := kqo_1c kbl_X9_size (pc := 9) rfl
theorem dX9_size_10 : decode cX9_size 10 = .ok (.iconst 1, 1) := kqo_04 kbl_X9_size (pc := 10) rfl
theorem dX9_size_11 : decode cX9_size 11 = .ok (.iand, 1) := kqo_7e kbl_X9_size (pc := 11) rfl
theorem dX9_size_12 : decode cX9_size 12 = .ok (.iadd, 1) := kqo_60 kbl_X9_size (pc := 12) rfl
theorem dX9_size_13 : decode cX9_size 13 = .ok (.istore_n 1, 1) := kqo_3c kbl_X9_size (pc := 13) rfl
theorem dX9_size_14 : decode cX9_size 14 = .ok (.iload_n 2, 1) := kqo_1c kbl_X9_size (pc := 14) rfl
theorem dX9_size_15 : decode cX9_size 15 = .ok (.iconst 1, 1) := kqo_04 kbl_X9_size (pc := 15) rfl
theorem dX9_size_16 : decode cX9_size 16 = .ok (.ishr, 1) := kqo_7a kbl_X9_size (pc := 16) rfl
theorem dX9_size_17 : decode cX9_size 17 = .ok (.istore_n 2, 1) := kqo_3d kbl_X9_size (pc := 17) rfl
theorem dX9_size_18 : decode cX9_size 18 = .ok (.goto (-14), 3) := kqo_a7 (x1 := 255) (x2 := 242) kbl_X9_size (pc := 18) rfl rfl
theorem dX9_size_21 : decode cX9_size 21 = .ok (.iload_n 1, 1) := kqo_1b kbl_X9_size (pc := 21) rfl
theorem dX9_size_22 : decode cX9_size 22 = .ok (.ireturn, 1) := kqo_ac kbl_X9_size (pc := 22) rfl
set_option maxHeartbeats 4000000 in
set_option maxRecDepth 100000 in
theorem c_X9_size (l : Launch) (D : va_G) (sz : Nat) (x : Int) (q0 : rg x) : Met l yX9_size wsX9_size ({ frames := 0, cells := 0, slots := 0, locals := 0 }) (kPre [.int (zI x)] D [] [] sz) (QcP (fun rz => True)) 0 0 (fun _ => False) := by
  refine Met.ofW (cc := cX9_size) (maxL := 3) (ret := (some .int)) (by decide) rfl ?_
  intro p e s m args below meth c s₁ B hml hv
  obtain ⟨rfl, hsz, hP, hK, hD0, hN⟩ := hv
  have hx := B.exec
  have hb := B.bytes
  have hr := B.returns
  have hts := atoms_spec (ws := wsX9_size) B.pre
  have hown : s.vm.findClass RX9 = some m.cls := findClass_of_methodNamed B.named
  have hlocks := B.notSynchronized
  subst hsz
  have hD := hD0
  have hP : va_P D vwCl [] s.heap := hP
  have hl := lv_entry ([.int (zI x)]) (n := 3) (Nat.le_of_ble_eq_true rfl)
  rw [lg_entry_eq]
  generalize (lg_sl ([.int (zI x)]) ++ List.replicate (3 - (lg_sl ([.int (zI x)])).length) Slot.unset).toArray = ls at hl ⊢
  have hl : lv_has ls 3 [(0, .int (zI x))] := hl
  refine lv_iconst (v := zI 0) hx hb dX9_size_0 rfl ?_
  refine lv_istore_n (lv' := [(1, .int (zI 0)), (0, .int (zI x))]) hx hb dX9_size_1 rfl hl (by decide) rfl (fun ls hl => ?_)
  refine lv_iload_n hx hb dX9_size_2 rfl (lv_at hl 1 rfl) ?_
  refine lv_istore_n (lv' := [(2, .int (zI x)), (1, .int (zI 0)), (0, .int (zI x))]) hx hb dX9_size_3 rfl hl (by decide) rfl (fun ls hl => ?_)
  refine k_loopM (I := fun n9 H locs ls => ∃ (js : Int) (jl : Int), n9 = (jl).toNat ∧ (rg js) ∧ (rg jl) ∧ H = s.heap ∧ locs = [] ∧ lv_has ls 3 [(2, .int (zI jl)), (1, .int (zI js)), (0, .int (zI x))]) ?_ _ ⟨0, x, rfl, (by omega), q0, rfl, rfl, hl⟩
  intro n4 ih4 H locs ls hI
  obtain ⟨js, jl, en4, v_40, v_41, eH, eL, hl⟩ := hI
  subst eH
  subst eL
  refine lv_iload_n hx hb dX9_size_4 rfl (lv_at hl 0 rfl) ?_
  refine kz_if_le (tgt := 21) hx hb dX9_size_5 (by decide) (by omega) (fun c_1 => ?_) (fun c_1 => ?_)
  · refine lv_iload_n hx hb dX9_size_21 rfl (lv_at hl 1 rfl) ?_
    exact W.iret (v := (zI js)) hx hb hr (fun t ht hW => QcP_of (by omega) trivial ht) (fun _ h9 => by cases h9) dX9_size_22
  · refine lv_iload_n hx hb dX9_size_8 rfl (lv_at hl 1 rfl) ?_
    refine lv_iload_n hx hb dX9_size_9 rfl (lv_at hl 0 rfl) ?_
    refine lv_iconst (v := zI 1) hx hb dX9_size_10 rfl ?_
    refine lv_iand hx hb dX9_size_11 ?_
    refine kz_any (fun z_2 rz_2 ez_2 => ?_)
    refine kz_iadd hx hb dX9_size_12 ?_
    refine kz_any (fun z_3 rz_3 ez_3 => ?_)
    refine lv_istore_n (lv' := [(1, .int (zI z_3)), (2, .int (zI jl)), (0, .int (zI x))]) hx hb dX9_size_13 rfl hl (by decide) rfl (fun ls hl => ?_)
    refine lv_iload_n hx hb dX9_size_14 rfl (lv_at hl 1 rfl) ?_
    refine lv_iconst (v := zI 1) hx hb dX9_size_15 rfl ?_
    refine lv_ishr hx hb dX9_size_16 ?_
    refine kz_any (fun z_4 rz_4 ez_4 => ?_)
    have bz_4 := kshr1 (by omega) rz_4 ez_4
    refine lv_istore_n (lv' := [(2, .int (zI z_4)), (1, .int (zI z_3)), (0, .int (zI x))]) hx hb dX9_size_17 rfl hl (by decide) rfl (fun ls hl => ?_)
    refine lv_goto (tgt := 4) hx hb dX9_size_18 (by decide) ?_
    exact ih4 _ (by omega) _ _ _ ⟨z_3, z_4, rfl, (by omega), (by omega), rfl, rfl, lv_sub hl [0, 1, 2] rfl⟩
theorem dX9_isFont_0 : decode cX9_isFont 0 = .ok (.iload_n 1, 1) := kqo_1b kbl_X9_isFont (pc := 0) rfl
theorem dX9_isFont_1 : decode cX9_isFont 1 = .ok (.ifCond .lt 15, 3) := kqo_9b (x1 := 0) (x2 := 15) kbl_X9_isFont (pc := 1) rfl rfl
theorem dX9_isFont_4 : decode cX9_isFont 4 = .ok (.iload_n 1, 1) := kqo_1b kbl_X9_isFont (pc := 4) rfl
theorem dX9_isFont_5 : decode cX9_isFont 5 = .ok (.aload_n 0, 1) := kqo_2a kbl_X9_isFont (pc := 5) rfl
theorem dX9_isFont_6 : decode cX9_isFont 6 = .ok (.getfield 74, 3) := kqo_b4 (x1 := 0) (x2 := 74) kbl_X9_isFont (pc := 6) rfl rfl
theorem dX9_isFont_9 : decode cX9_isFont 9 = .ok (.if_icmp .ge 7, 3) := kqo_a2 (x1 := 0) (x2 := 7) kbl_X9_isFont (pc := 9) rfl rfl
theorem dX9_isFont_12 : decode cX9_isFont 12 = .ok (.iconst 1, 1) := kqo_04 kbl_X9_isFont (pc := 12) rfl
theorem dX9_isFont_13 : decode cX9_isFont 13 = .ok (.goto 4, 3) := kqo_a7 (x1 := 0) (x2 := 4) kbl_X9_isFont (pc := 13) rfl rfl
theorem dX9_isFont_16 : decode cX9_isFont 16 = .ok (.iconst 0, 1) := kqo_03 kbl_X9_isFont (pc := 16) rfl
theorem dX9_isFont_17 : decode cX9_isFont 17 = .ok (.ireturn, 1) := kqo_ac kbl_X9_isFont (pc := 17) rfl
set_option maxRecDepth 20000 in
theorem mw_X9_isFont_0 : (.fieldLink RX9 74 "FontRunsModel" "fonts" "I" : Cond) ∈ wsX9_isFont := List.mem_cons_of_mem _ (List.mem_append_left _ (List.mem_of_getElem? (i := 0) rfl))
set_option maxHeartbeats 4000000 in
set_option maxRecDepth 100000 in
theorem c_X9_isFont (l : Launch) (D : va_G) (sz : Nat) (f : Int) (h0 : Nat) (fa : Int) (tc : Int) (so : Nat) (sl : Nat) (ce : Nat) (fn : Int) (kd : Nat) (wd : Nat) (hs : Nat) (pf : Nat) (lt : Nat) (mn : Int) (wg : Nat) (ta : Int) (ck : Int64) (at9 : Int) (rfn : Int) (rk : Nat) (rw : Nat) (rh : Nat) (cl : Int) (sa : Nat) (fi : Nat) (bo : Int) (ch : Nat) (cn : Nat) (ad : Int) (ru : Int) (kp : Nat) (dn : Int) (rfa : Nat) (q0 : rg f) (q1 : 0 ≤ fn ∧ fn ≤ 4) : Met l yX9_isFont wsX9_isFont ({ frames := 0, cells := 0, slots := 0, locals := 0 }) (kPre [.ref h0, .int (zI f)] D [(h0, .inr (9, [.int (zI fa), .int (zI tc), .ref so, .ref sl, .ref ce, .int (zI fn), .ref kd, .ref wd, .ref hs, .ref pf, .ref lt, .int (zI mn), .ref wg, .int (zI ta), .long ck, .int (zI at9), .int (zI rfn), .ref rk, .ref rw, .ref rh, .int (zI cl), .ref sa, .ref fi, .int (zI bo), .ref ch, .ref cn, .int (zI ad), .int (zI ru), .ref kp, .int (zI dn), .ref rfa]))] [] sz) (QcRead (if 0 ≤ f ∧ f < fn then 1 else 0)) 0 0 (fun _ => False) := by
  refine Met.ofW (cc := cX9_isFont) (maxL := 2) (ret := (some .boolean)) (by decide) rfl ?_
  intro p e s m args below meth c s₁ B hml hv
  obtain ⟨rfl, hsz, hP, hK, hD0, hN⟩ := hv
  have hx := B.exec
  have hb := B.bytes
  have hr := B.returns
  have hts := atoms_spec (ws := wsX9_isFont) B.pre
  have hown : s.vm.findClass RX9 = some m.cls := findClass_of_methodNamed B.named
  have hlocks := B.notSynchronized
  subst hsz
  have hD := hD0
  have hP : va_P D vwCl [(h0, .inr (9, [.int (zI fa), .int (zI tc), .ref so, .ref sl, .ref ce, .int (zI fn), .ref kd, .ref wd, .ref hs, .ref pf, .ref lt, .int (zI mn), .ref wg, .int (zI ta), .long ck, .int (zI at9), .int (zI rfn), .ref rk, .ref rw, .ref rh, .int (zI cl), .ref sa, .ref fi, .int (zI bo), .ref ch, .ref cn, .int (zI ad), .int (zI ru), .ref kp, .int (zI dn), .ref rfa]))] s.heap := hP
  have hl := lv_entry ([.ref h0, .int (zI f)]) (n := 2) (Nat.le_of_ble_eq_true rfl)
  rw [lg_entry_eq]
  generalize (lg_sl ([.ref h0, .int (zI f)]) ++ List.replicate (2 - (lg_sl ([.ref h0, .int (zI f)])).length) Slot.unset).toArray = ls at hl ⊢
  have hl : lv_has ls 2 [(0, .ref h0), (1, .int (zI f))] := hl
  refine lv_iload_n hx hb dX9_isFont_0 rfl (lv_at hl 1 rfl) ?_
  refine kz_if_lt (tgt := 16) hx hb dX9_isFont_1 (by decide) (by omega) (fun c_1 => ?_) (fun c_1 => ?_)
  · refine lv_iconst (v := zI 0) hx hb dX9_isFont_16 rfl ?_
    exact W.zret (v := (zI 0)) hx hb hr rfl (fun t ht hW => kRd (kb0 (by omega)) ht) (fun _ h9 => by cases h9) dX9_isFont_17
  · refine lv_iload_n hx hb dX9_isFont_4 rfl (lv_at hl 1 rfl) ?_
    refine lv_aload_n hx hb dX9_isFont_5 rfl (lv_at hl 0 rfl) ?_
    refine va_get (D := D) (ci := 9) (v := .int (zI fn)) (C := RX9) (T := TX9) (N := 31) hx hb hts (fun _ h9 => List.mem_cons_of_mem _ (List.mem_append_right _ h9)) hown hK hP 0 rfl rfl 5 (by decide) (hts (.fieldLink RX9 74 "FontRunsModel" "fonts" "I") mw_X9_isFont_0) (fun _ h9 => h9) rfl dX9_isFont_6 ?_
    refine kz_icmp_ge (tgt := 16) hx hb dX9_isFont_9 (by decide) (by omega) (by omega) (fun c_2 => ?_) (fun c_2 => ?_)
    · refine lv_iconst (v := zI 0) hx hb dX9_isFont_16 rfl ?_
      exact W.zret (v := (zI 0)) hx hb hr rfl (fun t ht hW => kRd (kb0 (by omega)) ht) (fun _ h9 => by cases h9) dX9_isFont_17
    · refine lv_iconst (v := zI 1) hx hb dX9_isFont_12 rfl ?_
      refine lv_goto (tgt := 17) hx hb dX9_isFont_13 (by decide) ?_
      exact W.zret (v := (zI 1)) hx hb hr rfl (fun t ht hW => kRd (kb1 (by omega)) ht) (fun _ h9 => by cases h9) dX9_isFont_17
theorem dX9_fails_0 : decode cX9_fails 0 = .ok (.aload_n 0, 1) := kqo_2a kbl_X9_fails (pc := 0) rfl
theorem dX9_fails_1 : decode cX9_fails 1 = .ok (.iload_n 1, 1) := kqo_1b kbl_X9_fails (pc := 1) rfl
theorem dX9_fails_2 : decode cX9_fails 2 = .ok (.putfield 64, 3) := kqo_b5 (x1 := 0) (x2 := 64) kbl_X9_fails (pc := 2) rfl rfl
theorem dX9_fails_5 : decode cX9_fails 5 = .ok (.bipush (-10), 2) := kqo_10 (x1 := 246) kbl_X9_fails (pc := 5) rfl rfl
theorem dX9_fails_7 : decode cX9_fails 7 = .ok (.iload_n 1, 1) := kqo_1b kbl_X9_fails (pc := 7) rfl
theorem dX9_fails_8 : decode cX9_fails 8 = .ok (.isub, 1) := kqo_64 kbl_X9_fails (pc := 8) rfl
theorem dX9_fails_9 : decode cX9_fails 9 = .ok (.ireturn, 1) := kqo_ac kbl_X9_fails (pc := 9) rfl
set_option maxRecDepth 20000 in
theorem mw_X9_fails_0 : (.fieldLink RX9 64 "FontRunsModel" "fault" "I" : Cond) ∈ wsX9_fails := List.mem_cons_of_mem _ (List.mem_append_left _ (List.mem_of_getElem? (i := 0) rfl))
theorem ax_X9_fails_0 {e0 : Nat × va_E} : ([0] : List Nat).map (fun i => ([e0] : va_W)[i]?) = ([e0] : va_W).map some := rfl
set_option maxHeartbeats 4000000 in
set_option maxRecDepth 100000 in
theorem c_X9_fails (l : Launch) (D : va_G) (sz : Nat) (f : Int) (h0 : Nat) (fa : Int) (tc : Int) (so : Nat) (sl : Nat) (ce : Nat) (fn : Int) (kd : Nat) (wd : Nat) (hs : Nat) (pf : Nat) (lt : Nat) (mn : Int) (wg : Nat) (ta : Int) (ck : Int64) (at9 : Int) (rfn : Int) (rk : Nat) (rw : Nat) (rh : Nat) (cl : Int) (sa : Nat) (fi : Nat) (bo : Int) (ch : Nat) (cn : Nat) (ad : Int) (ru : Int) (kp : Nat) (dn : Int) (rfa : Nat) (q0 : 0 ≤ f ∧ f ≤ 4) (q1 : rg fa) : Met l yX9_fails wsX9_fails ({ frames := 0, cells := 0, slots := 0, locals := 0 }) (kPre [.ref h0, .int (zI f)] D [(h0, .inr (9, [.int (zI fa), .int (zI tc), .ref so, .ref sl, .ref ce, .int (zI fn), .ref kd, .ref wd, .ref hs, .ref pf, .ref lt, .int (zI mn), .ref wg, .int (zI ta), .long ck, .int (zI at9), .int (zI rfn), .ref rk, .ref rw, .ref rh, .int (zI cl), .ref sa, .ref fi, .int (zI bo), .ref ch, .ref cn, .int (zI ad), .int (zI ru), .ref kp, .int (zI dn), .ref rfa]))] [] sz) (kQS (fun rz t => ∃ (u_fa : Int), (rg u_fa) ∧ (rz = -10 - f) ∧ va_P D vwCl [(h0, .inr (9, [.int (zI u_fa), .int (zI tc), .ref so, .ref sl, .ref ce, .int (zI fn), .ref kd, .ref wd, .ref hs, .ref pf, .ref lt, .int (zI mn), .ref wg, .int (zI ta), .long ck, .int (zI at9), .int (zI rfn), .ref rk, .ref rw, .ref rh, .int (zI cl), .ref sa, .ref fi, .int (zI bo), .ref ch, .ref cn, .int (zI ad), .int (zI ru), .ref kp, .int (zI dn), .ref rfa]))] t.heap ∧ va_D (va_A [(h0, .inr (9, [.int (zI fa), .int (zI tc), .ref so, .ref sl, .ref ce, .int (zI fn), .ref kd, .ref wd, .ref hs, .ref pf, .ref lt, .int (zI mn), .ref wg, .int (zI ta), .long ck, .int (zI at9), .int (zI rfn), .ref rk, .ref rw, .ref rh, .int (zI cl), .ref sa, .ref fi, .int (zI bo), .ref ch, .ref cn, .int (zI ad), .int (zI ru), .ref kp, .int (zI dn), .ref rfa]))] sz) [(h0, .inr (9, [.int (zI u_fa), .int (zI tc), .ref so, .ref sl, .ref ce, .int (zI fn), .ref kd, .ref wd, .ref hs, .ref pf, .ref lt, .int (zI mn), .ref wg, .int (zI ta), .long ck, .int (zI at9), .int (zI rfn), .ref rk, .ref rw, .ref rh, .int (zI cl), .ref sa, .ref fi, .int (zI bo), .ref ch, .ref cn, .int (zI ad), .int (zI ru), .ref kp, .int (zI dn), .ref rfa]))]) (va_A [(h0, .inr (9, [.int (zI fa), .int (zI tc), .ref so, .ref sl, .ref ce, .int (zI fn), .ref kd, .ref wd, .ref hs, .ref pf, .ref lt, .int (zI mn), .ref wg, .int (zI ta), .long ck, .int (zI at9), .int (zI rfn), .ref rk, .ref rw, .ref rh, .int (zI cl), .ref sa, .ref fi, .int (zI bo), .ref ch, .ref cn, .int (zI ad), .int (zI ru), .ref kp, .int (zI dn), .ref rfa]))] sz)) 0 0 (va_A [(h0, .inr (9, [.int (zI fa), .int (zI tc), .ref so, .ref sl, .ref ce, .int (zI fn), .ref kd, .ref wd, .ref hs, .ref pf, .ref lt, .int (zI mn), .ref wg, .int (zI ta), .long ck, .int (zI at9), .int (zI rfn), .ref rk, .ref rw, .ref rh, .int (zI cl), .ref sa, .ref fi, .int (zI bo), .ref ch, .ref cn, .int (zI ad), .int (zI ru), .ref kp, .int (zI dn), .ref rfa]))] sz) := by
  refine Met.ofW (cc := cX9_fails) (maxL := 2) (ret := (some .int)) (by decide) rfl ?_
  intro p e s m args below meth c s₁ B hml hv
  obtain ⟨rfl, hsz, hP, hK, hD0, hN⟩ := hv
  have hx := B.exec
  have hb := B.bytes
  have hr := B.returns
  have hts := atoms_spec (ws := wsX9_fails) B.pre
  have hown : s.vm.findClass RX9 = some m.cls := findClass_of_methodNamed B.named
  have hlocks := B.notSynchronized
  subst hsz
  have hD := hD0.self (sz := s.heap.size)
  generalize hAe : va_A [(h0, .inr (9, [.int (zI fa), .int (zI tc), .ref so, .ref sl, .ref ce, .int (zI fn), .ref kd, .ref wd, .ref hs, .ref pf, .ref lt, .int (zI mn), .ref wg, .int (zI ta), .long ck, .int (zI at9), .int (zI rfn), .ref rk, .ref rw, .ref rh, .int (zI cl), .ref sa, .ref fi, .int (zI bo), .ref ch, .ref cn, .int (zI ad), .int (zI ru), .ref kp, .int (zI dn), .ref rfa]))] s.heap.size = A at hD ⊢
  have hA : ∀ q : Nat, s.heap.size ≤ q → A q := fun q h => by rw [← hAe]; exact Or.inr h
  have hS : va_S A s.heap s.heap [] := va_S.rf
  have hP : va_P D vwCl [(h0, .inr (9, [.int (zI fa), .int (zI tc), .ref so, .ref sl, .ref ce, .int (zI fn), .ref kd, .ref wd, .ref hs, .ref pf, .ref lt, .int (zI mn), .ref wg, .int (zI ta), .long ck, .int (zI at9), .int (zI rfn), .ref rk, .ref rw, .ref rh, .int (zI cl), .ref sa, .ref fi, .int (zI bo), .ref ch, .ref cn, .int (zI ad), .int (zI ru), .ref kp, .int (zI dn), .ref rfa]))] s.heap := hP
  have hl := lv_entry ([.ref h0, .int (zI f)]) (n := 2) (Nat.le_of_ble_eq_true rfl)
  rw [lg_entry_eq]
  generalize (lg_sl ([.ref h0, .int (zI f)]) ++ List.replicate (2 - (lg_sl ([.ref h0, .int (zI f)])).length) Slot.unset).toArray = ls at hl ⊢
  have hl : lv_has ls 2 [(0, .ref h0), (1, .int (zI f))] := hl
  refine lv_aload_n hx hb dX9_fails_0 rfl (lv_at hl 0 rfl) ?_
  refine lv_iload_n hx hb dX9_fails_1 rfl (lv_at hl 1 rfl) ?_
  refine va_put (D := D) (ci := 9) (v := .int (zI f)) (ty := .int) (C := RX9) (T := TX9) (N := 31) hx hb hts (fun _ h9 => List.mem_cons_of_mem _ (List.mem_append_right _ h9)) tyX9 tyX9_ok nmX9 hown hK hP hD hS 0 rfl rfl 0 (by decide) (hts (.fieldLink RX9 64 "FontRunsModel" "fault" "I") mw_X9_fails_0) (fun _ h9 => h9) rfl (by decide +kernel) rfl rfl (Nat.le_of_ble_eq_true rfl) dX9_fails_2 (fun H locs hP hD hS => ?_)
  have hP : va_P D vwCl [(h0, .inr (9, [.int (zI f), .int (zI tc), .ref so, .ref sl, .ref ce, .int (zI fn), .ref kd, .ref wd, .ref hs, .ref pf, .ref lt, .int (zI mn), .ref wg, .int (zI ta), .long ck, .int (zI at9), .int (zI rfn), .ref rk, .ref rw, .ref rh, .int (zI cl), .ref sa, .ref fi, .int (zI bo), .ref ch, .ref cn, .int (zI ad), .int (zI ru), .ref kp, .int (zI dn), .ref rfa]))] H := hP
  have hD : va_D A [(h0, .inr (9, [.int (zI f), .int (zI tc), .ref so, .ref sl, .ref ce, .int (zI fn), .ref kd, .ref wd, .ref hs, .ref pf, .ref lt, .int (zI mn), .ref wg, .int (zI ta), .long ck, .int (zI at9), .int (zI rfn), .ref rk, .ref rw, .ref rh, .int (zI cl), .ref sa, .ref fi, .int (zI bo), .ref ch, .ref cn, .int (zI ad), .int (zI ru), .ref kp, .int (zI dn), .ref rfa]))] := hD
  refine lv_bipush (v := zI (-10)) hx hb dX9_fails_5 (by decide) ?_
  refine lv_iload_n hx hb dX9_fails_7 rfl (lv_at hl 1 rfl) ?_
  refine kz_isub hx hb dX9_fails_8 ?_
  have hP9 := hP.sub (ws' := [(h0, .inr (9, [.int (zI f), .int (zI tc), .ref so, .ref sl, .ref ce, .int (zI fn), .ref kd, .ref wd, .ref hs, .ref pf, .ref lt, .int (zI mn), .ref wg, .int (zI ta), .long ck, .int (zI at9), .int (zI rfn), .ref rk, .ref rw, .ref rh, .int (zI cl), .ref sa, .ref fi, .int (zI bo), .ref ch, .ref cn, .int (zI ad), .int (zI ru), .ref kp, .int (zI dn), .ref rfa]))]) [0] rfl
  have hD9 := hD.sub (ws' := [(h0, .inr (9, [.int (zI f), .int (zI tc), .ref so, .ref sl, .ref ce, .int (zI fn), .ref kd, .ref wd, .ref hs, .ref pf, .ref lt, .int (zI mn), .ref wg, .int (zI ta), .long ck, .int (zI at9), .int (zI rfn), .ref rk, .ref rw, .ref rh, .int (zI cl), .ref sa, .ref fi, .int (zI bo), .ref ch, .ref cn, .int (zI ad), .int (zI ru), .ref kp, .int (zI dn), .ref rfa]))]) [0] (by decide +kernel) rfl
  exact W.iret (v := (zI ((-10) - f))) hx hb hr (fun t ht hW => kQS_of (by omega) ⟨f, (by omega), (by omega), by rw [ht]; exact hP9, hD9⟩ (hS.F ht)) hS.2.2 dX9_fails_9
theorem dX9_lost_0 : decode cX9_lost 0 = .ok (.aload_n 0, 1) := kqo_2a kbl_X9_lost (pc := 0) rfl
theorem dX9_lost_1 : decode cX9_lost 1 = .ok (.iload_n 1, 1) := kqo_1b kbl_X9_lost (pc := 1) rfl
theorem dX9_lost_2 : decode cX9_lost 2 = .ok (.putfield 64, 3) := kqo_b5 (x1 := 0) (x2 := 64) kbl_X9_lost (pc := 2) rfl rfl
theorem dX9_lost_5 : decode cX9_lost 5 = .ok (.ldc2_w 68, 3) := kqo_14 (x1 := 0) (x2 := 68) kbl_X9_lost (pc := 5) rfl rfl
theorem dX9_lost_8 : decode cX9_lost 8 = .ok (.lreturn, 1) := kqo_ad kbl_X9_lost (pc := 8) rfl
set_option maxRecDepth 20000 in
theorem mw_X9_lost_0 : (.fieldLink RX9 64 "FontRunsModel" "fault" "I" : Cond) ∈ wsX9_lost := List.mem_cons_of_mem _ (List.mem_append_left _ (List.mem_of_getElem? (i := 0) rfl))
set_option maxRecDepth 20000 in
theorem mw_X9_lost_1 : (.constantLong RX9 68 (-9223372036854775808) : Cond) ∈ wsX9_lost := List.mem_cons_of_mem _ (List.mem_append_left _ (List.mem_of_getElem? (i := 1) rfl))
theorem ax_X9_lost_0 {e0 : Nat × va_E} : ([0] : List Nat).map (fun i => ([e0] : va_W)[i]?) = ([e0] : va_W).map some := rfl
set_option maxHeartbeats 4000000 in
set_option maxRecDepth 100000 in
theorem c_X9_lost (l : Launch) (D : va_G) (sz : Nat) (f : Int) (h0 : Nat) (fa : Int) (tc : Int) (so : Nat) (sl : Nat) (ce : Nat) (fn : Int) (kd : Nat) (wd : Nat) (hs : Nat) (pf : Nat) (lt : Nat) (mn : Int) (wg : Nat) (ta : Int) (ck : Int64) (at9 : Int) (rfn : Int) (rk : Nat) (rw : Nat) (rh : Nat) (cl : Int) (sa : Nat) (fi : Nat) (bo : Int) (ch : Nat) (cn : Nat) (ad : Int) (ru : Int) (kp : Nat) (dn : Int) (rfa : Nat) (q0 : 0 ≤ f ∧ f ≤ 4) (q1 : rg fa) : Met l yX9_lost wsX9_lost ({ frames := 0, cells := 0, slots := 0, locals := 0 }) (kPre [.ref h0, .int (zI f)] D [(h0, .inr (9, [.int (zI fa), .int (zI tc), .ref so, .ref sl, .ref ce, .int (zI fn), .ref kd, .ref wd, .ref hs, .ref pf, .ref lt, .int (zI mn), .ref wg, .int (zI ta), .long ck, .int (zI at9), .int (zI rfn), .ref rk, .ref rw, .ref rh, .int (zI cl), .ref sa, .ref fi, .int (zI bo), .ref ch, .ref cn, .int (zI ad), .int (zI ru), .ref kp, .int (zI dn), .ref rfa]))] [] sz) (kQL (fun rz t => ∃ (u_fa : Int), (rg u_fa) ∧ va_P D vwCl [(h0, .inr (9, [.int (zI u_fa), .int (zI tc), .ref so, .ref sl, .ref ce, .int (zI fn), .ref kd, .ref wd, .ref hs, .ref pf, .ref lt, .int (zI mn), .ref wg, .int (zI ta), .long ck, .int (zI at9), .int (zI rfn), .ref rk, .ref rw, .ref rh, .int (zI cl), .ref sa, .ref fi, .int (zI bo), .ref ch, .ref cn, .int (zI ad), .int (zI ru), .ref kp, .int (zI dn), .ref rfa]))] t.heap ∧ va_D (va_A [(h0, .inr (9, [.int (zI fa), .int (zI tc), .ref so, .ref sl, .ref ce, .int (zI fn), .ref kd, .ref wd, .ref hs, .ref pf, .ref lt, .int (zI mn), .ref wg, .int (zI ta), .long ck, .int (zI at9), .int (zI rfn), .ref rk, .ref rw, .ref rh, .int (zI cl), .ref sa, .ref fi, .int (zI bo), .ref ch, .ref cn, .int (zI ad), .int (zI ru), .ref kp, .int (zI dn), .ref rfa]))] sz) [(h0, .inr (9, [.int (zI u_fa), .int (zI tc), .ref so, .ref sl, .ref ce, .int (zI fn), .ref kd, .ref wd, .ref hs, .ref pf, .ref lt, .int (zI mn), .ref wg, .int (zI ta), .long ck, .int (zI at9), .int (zI rfn), .ref rk, .ref rw, .ref rh, .int (zI cl), .ref sa, .ref fi, .int (zI bo), .ref ch, .ref cn, .int (zI ad), .int (zI ru), .ref kp, .int (zI dn), .ref rfa]))]) (va_A [(h0, .inr (9, [.int (zI fa), .int (zI tc), .ref so, .ref sl, .ref ce, .int (zI fn), .ref kd, .ref wd, .ref hs, .ref pf, .ref lt, .int (zI mn), .ref wg, .int (zI ta), .long ck, .int (zI at9), .int (zI rfn), .ref rk, .ref rw, .ref rh, .int (zI cl), .ref sa, .ref fi, .int (zI bo), .ref ch, .ref cn, .int (zI ad), .int (zI ru), .ref kp, .int (zI dn), .ref rfa]))] sz)) 0 0 (va_A [(h0, .inr (9, [.int (zI fa), .int (zI tc), .ref so, .ref sl, .ref ce, .int (zI fn), .ref kd, .ref wd, .ref hs, .ref pf, .ref lt, .int (zI mn), .ref wg, .int (zI ta), .long ck, .int (zI at9), .int (zI rfn), .ref rk, .ref rw, .ref rh, .int (zI cl), .ref sa, .ref fi, .int (zI bo), .ref ch, .ref cn, .int (zI ad), .int (zI ru), .ref kp, .int (zI dn), .ref rfa]))] sz) := by
  refine Met.ofW (cc := cX9_lost) (maxL := 2) (ret := (some .long)) (by decide) rfl ?_
  intro p e s m args below meth c s₁ B hml hv
  obtain ⟨rfl, hsz, hP, hK, hD0, hN⟩ := hv
  have hx := B.exec
  have hb := B.bytes
  have hr := B.returns
  have hts := atoms_spec (ws := wsX9_lost) B.pre
  have hown : s.vm.findClass RX9 = some m.cls := findClass_of_methodNamed B.named
  have hlocks := B.notSynchronized
  subst hsz
  have hD := hD0.self (sz := s.heap.size)
  generalize hAe : va_A [(h0, .inr (9, [.int (zI fa), .int (zI tc), .ref so, .ref sl, .ref ce, .int (zI fn), .ref kd, .ref wd, .ref hs, .ref pf, .ref lt, .int (zI mn), .ref wg, .int (zI ta), .long ck, .int (zI at9), .int (zI rfn), .ref rk, .ref rw, .ref rh, .int (zI cl), .ref sa, .ref fi, .int (zI bo), .ref ch, .ref cn, .int (zI ad), .int (zI ru), .ref kp, .int (zI dn), .ref rfa]))] s.heap.size = A at hD ⊢
  have hA : ∀ q : Nat, s.heap.size ≤ q → A q := fun q h => by rw [← hAe]; exact Or.inr h
  have hS : va_S A s.heap s.heap [] := va_S.rf
  have hP : va_P D vwCl [(h0, .inr (9, [.int (zI fa), .int (zI tc), .ref so, .ref sl, .ref ce, .int (zI fn), .ref kd, .ref wd, .ref hs, .ref pf, .ref lt, .int (zI mn), .ref wg, .int (zI ta), .long ck, .int (zI at9), .int (zI rfn), .ref rk, .ref rw, .ref rh, .int (zI cl), .ref sa, .ref fi, .int (zI bo), .ref ch, .ref cn, .int (zI ad), .int (zI ru), .ref kp, .int (zI dn), .ref rfa]))] s.heap := hP
  have hl := lv_entry ([.ref h0, .int (zI f)]) (n := 2) (Nat.le_of_ble_eq_true rfl)
  rw [lg_entry_eq]
  generalize (lg_sl ([.ref h0, .int (zI f)]) ++ List.replicate (2 - (lg_sl ([.ref h0, .int (zI f)])).length) Slot.unset).toArray = ls at hl ⊢
  have hl : lv_has ls 2 [(0, .ref h0), (1, .int (zI f))] := hl
  refine lv_aload_n hx hb dX9_lost_0 rfl (lv_at hl 0 rfl) ?_
  refine lv_iload_n hx hb dX9_lost_1 rfl (lv_at hl 1 rfl) ?_
  refine va_put (D := D) (ci := 9) (v := .int (zI f)) (ty := .int) (C := RX9) (T := TX9) (N := 31) hx hb hts (fun _ h9 => List.mem_cons_of_mem _ (List.mem_append_right _ h9)) tyX9 tyX9_ok nmX9 hown hK hP hD hS 0 rfl rfl 0 (by decide) (hts (.fieldLink RX9 64 "FontRunsModel" "fault" "I") mw_X9_lost_0) (fun _ h9 => h9) rfl (by decide +kernel) rfl rfl (Nat.le_of_ble_eq_true rfl) dX9_lost_2 (fun H locs hP hD hS => ?_)
  have hP : va_P D vwCl [(h0, .inr (9, [.int (zI f), .int (zI tc), .ref so, .ref sl, .ref ce, .int (zI fn), .ref kd, .ref wd, .ref hs, .ref pf, .ref lt, .int (zI mn), .ref wg, .int (zI ta), .long ck, .int (zI at9), .int (zI rfn), .ref rk, .ref rw, .ref rh, .int (zI cl), .ref sa, .ref fi, .int (zI bo), .ref ch, .ref cn, .int (zI ad), .int (zI ru), .ref kp, .int (zI dn), .ref rfa]))] H := hP
  have hD : va_D A [(h0, .inr (9, [.int (zI f), .int (zI tc), .ref so, .ref sl, .ref ce, .int (zI fn), .ref kd, .ref wd, .ref hs, .ref pf, .ref lt, .int (zI mn), .ref wg, .int (zI ta), .long ck, .int (zI at9), .int (zI rfn), .ref rk, .ref rw, .ref rh, .int (zI cl), .ref sa, .ref fi, .int (zI bo), .ref ch, .ref cn, .int (zI ad), .int (zI ru), .ref kp, .int (zI dn), .ref rfa]))] := hD
  refine lv_ldc2 (v := (-9223372036854775808)) hx hb hown (hts (.constantLong RX9 68 (-9223372036854775808)) mw_X9_lost_1) dX9_lost_5 ?_
  have hP9 := hP.sub (ws' := [(h0, .inr (9, [.int (zI f), .int (zI tc), .ref so, .ref sl, .ref ce, .int (zI fn), .ref kd, .ref wd, .ref hs, .ref pf, .ref lt, .int (zI mn), .ref wg, .int (zI ta), .long ck, .int (zI at9), .int (zI rfn), .ref rk, .ref rw, .ref rh, .int (zI cl), .ref sa, .ref fi, .int (zI bo), .ref ch, .ref cn, .int (zI ad), .int (zI ru), .ref kp, .int (zI dn), .ref rfa]))]) [0] rfl
  have hD9 := hD.sub (ws' := [(h0, .inr (9, [.int (zI f), .int (zI tc), .ref so, .ref sl, .ref ce, .int (zI fn), .ref kd, .ref wd, .ref hs, .ref pf, .ref lt, .int (zI mn), .ref wg, .int (zI ta), .long ck, .int (zI at9), .int (zI rfn), .ref rk, .ref rw, .ref rh, .int (zI cl), .ref sa, .ref fi, .int (zI bo), .ref ch, .ref cn, .int (zI ad), .int (zI ru), .ref kp, .int (zI dn), .ref rfa]))]) [0] (by decide +kernel) rfl
  exact W.lret (v := (-9223372036854775808)) hx hb hr (fun t ht hW => kQL_of ⟨f, (by omega), by rw [ht]; exact hP9, hD9⟩ (hS.F ht)) hS.2.2 dX9_lost_8
theorem dX9_against_0 : decode cX9_against 0 = .ok (.aload_n 0, 1) := kqo_2a kbl_X9_against (pc := 0) rfl
theorem dX9_against_1 : decode cX9_against 1 = .ok (.getfield 9, 3) := kqo_b4 (x1 := 0) (x2 := 9) kbl_X9_against (pc := 1) rfl rfl
theorem dX9_against_4 : decode cX9_against 4 = .ok (.iload_n 1, 1) := kqo_1b kbl_X9_against (pc := 4) rfl
theorem dX9_against_5 : decode cX9_against 5 = .ok (.iaload, 1) := kqo_2e kbl_X9_against (pc := 5) rfl
theorem dX9_against_6 : decode cX9_against 6 = .ok (.bipush (-9), 2) := kqo_10 (x1 := 247) kbl_X9_against (pc := 6) rfl rfl
theorem dX9_against_8 : decode cX9_against 8 = .ok (.if_icmp .eq 15, 3) := kqo_9f (x1 := 0) (x2 := 15) kbl_X9_against (pc := 8) rfl rfl
theorem dX9_against_11 : decode cX9_against 11 = .ok (.aload_n 0, 1) := kqo_2a kbl_X9_against (pc := 11) rfl
theorem dX9_against_12 : decode cX9_against 12 = .ok (.getfield 9, 3) := kqo_b4 (x1 := 0) (x2 := 9) kbl_X9_against (pc := 12) rfl rfl
theorem dX9_against_15 : decode cX9_against 15 = .ok (.iload_n 1, 1) := kqo_1b kbl_X9_against (pc := 15) rfl
theorem dX9_against_16 : decode cX9_against 16 = .ok (.iaload, 1) := kqo_2e kbl_X9_against (pc := 16) rfl
theorem dX9_against_17 : decode cX9_against 17 = .ok (.iload_n 2, 1) := kqo_1c kbl_X9_against (pc := 17) rfl
theorem dX9_against_18 : decode cX9_against 18 = .ok (.if_icmp .eq 5, 3) := kqo_9f (x1 := 0) (x2 := 5) kbl_X9_against (pc := 18) rfl rfl
theorem dX9_against_21 : decode cX9_against 21 = .ok (.iconst 2, 1) := kqo_05 kbl_X9_against (pc := 21) rfl
theorem dX9_against_22 : decode cX9_against 22 = .ok (.ireturn, 1) := kqo_ac kbl_X9_against (pc := 22) rfl
theorem dX9_against_23 : decode cX9_against 23 = .ok (.aload_n 0, 1) := kqo_2a kbl_X9_against (pc := 23) rfl
theorem dX9_against_24 : decode cX9_against 24 = .ok (.getfield 9, 3) := kqo_b4 (x1 := 0) (x2 := 9) kbl_X9_against (pc := 24) rfl rfl
theorem dX9_against_27 : decode cX9_against 27 = .ok (.iload_n 1, 1) := kqo_1b kbl_X9_against (pc := 27) rfl
theorem dX9_against_28 : decode cX9_against 28 = .ok (.iaload, 1) := kqo_2e kbl_X9_against (pc := 28) rfl
theorem dX9_against_29 : decode cX9_against 29 = .ok (.bipush (-9), 2) := kqo_10 (x1 := 247) kbl_X9_against (pc := 29) rfl rfl
theorem dX9_against_31 : decode cX9_against 31 = .ok (.if_icmp .ne 5, 3) := kqo_a0 (x1 := 0) (x2 := 5) kbl_X9_against (pc := 31) rfl rfl
theorem dX9_against_34 : decode cX9_against 34 = .ok (.iconst 1, 1) := kqo_04 kbl_X9_against (pc := 34) rfl
theorem dX9_against_35 : decode cX9_against 35 = .ok (.ireturn, 1) := kqo_ac kbl_X9_against (pc := 35) rfl
theorem dX9_against_36 : decode cX9_against 36 = .ok (.iload 4, 2) := kqo_15 (x1 := 4) kbl_X9_against (pc := 36) rfl rfl
theorem dX9_against_38 : decode cX9_against 38 = .ok (.ifCond .ge 5, 3) := kqo_9c (x1 := 0) (x2 := 5) kbl_X9_against (pc := 38) rfl rfl
theorem dX9_against_41 : decode cX9_against 41 = .ok (.iconst 4, 1) := kqo_07 kbl_X9_against (pc := 41) rfl
theorem dX9_against_42 : decode cX9_against 42 = .ok (.ireturn, 1) := kqo_ac kbl_X9_against (pc := 42) rfl
theorem dX9_against_43 : decode cX9_against 43 = .ok (.iload_n 3, 1) := kqo_1d kbl_X9_against (pc := 43) rfl
theorem dX9_against_44 : decode cX9_against 44 = .ok (.ifCond .lt 26, 3) := kqo_9b (x1 := 0) (x2 := 26) kbl_X9_against (pc := 44) rfl rfl
theorem dX9_against_47 : decode cX9_against 47 = .ok (.iload_n 3, 1) := kqo_1d kbl_X9_against (pc := 47) rfl
theorem dX9_against_48 : decode cX9_against 48 = .ok (.aload_n 0, 1) := kqo_2a kbl_X9_against (pc := 48) rfl
theorem dX9_against_49 : decode cX9_against 49 = .ok (.getfield 13, 3) := kqo_b4 (x1 := 0) (x2 := 13) kbl_X9_against (pc := 49) rfl rfl
theorem dX9_against_52 : decode cX9_against 52 = .ok (.iload_n 1, 1) := kqo_1b kbl_X9_against (pc := 52) rfl
theorem dX9_against_53 : decode cX9_against 53 = .ok (.iaload, 1) := kqo_2e kbl_X9_against (pc := 53) rfl
theorem dX9_against_54 : decode cX9_against 54 = .ok (.if_icmp .gt 16, 3) := kqo_a3 (x1 := 0) (x2 := 16) kbl_X9_against (pc := 54) rfl rfl
theorem dX9_against_57 : decode cX9_against 57 = .ok (.iload 4, 2) := kqo_15 (x1 := 4) kbl_X9_against (pc := 57) rfl rfl
theorem dX9_against_59 : decode cX9_against 59 = .ok (.aload_n 0, 1) := kqo_2a kbl_X9_against (pc := 59) rfl
theorem dX9_against_60 : decode cX9_against 60 = .ok (.getfield 13, 3) := kqo_b4 (x1 := 0) (x2 := 13) kbl_X9_against (pc := 60) rfl rfl
theorem dX9_against_63 : decode cX9_against 63 = .ok (.iload_n 1, 1) := kqo_1b kbl_X9_against (pc := 63) rfl
theorem dX9_against_64 : decode cX9_against 64 = .ok (.iaload, 1) := kqo_2e kbl_X9_against (pc := 64) rfl
theorem dX9_against_65 : decode cX9_against 65 = .ok (.iload_n 3, 1) := kqo_1d kbl_X9_against (pc := 65) rfl
theorem dX9_against_66 : decode cX9_against 66 = .ok (.isub, 1) := kqo_64 kbl_X9_against (pc := 66) rfl
theorem dX9_against_67 : decode cX9_against 67 = .ok (.if_icmp .le 7, 3) := kqo_a4 (x1 := 0) (x2 := 7) kbl_X9_against (pc := 67) rfl rfl
theorem dX9_against_70 : decode cX9_against 70 = .ok (.iconst 3, 1) := kqo_06 kbl_X9_against (pc := 70) rfl
theorem dX9_against_71 : decode cX9_against 71 = .ok (.goto 4, 3) := kqo_a7 (x1 := 0) (x2 := 4) kbl_X9_against (pc := 71) rfl rfl
theorem dX9_against_74 : decode cX9_against 74 = .ok (.iconst 0, 1) := kqo_03 kbl_X9_against (pc := 74) rfl
theorem dX9_against_75 : decode cX9_against 75 = .ok (.ireturn, 1) := kqo_ac kbl_X9_against (pc := 75) rfl
set_option maxRecDepth 20000 in
theorem mw_X9_against_0 : (.fieldLink RX9 9 "FontRunsModel" "sorts" "[I" : Cond) ∈ wsX9_against := List.mem_cons_of_mem _ (List.mem_append_left _ (List.mem_of_getElem? (i := 0) rfl))
set_option maxRecDepth 20000 in
theorem mw_X9_against_1 : (.fieldLink RX9 13 "FontRunsModel" "sheetLong" "[I" : Cond) ∈ wsX9_against := List.mem_cons_of_mem _ (List.mem_append_left _ (List.mem_of_getElem? (i := 1) rfl))
set_option maxHeartbeats 4000000 in
set_option maxRecDepth 100000 in
theorem c_X9_against (l : Launch) (D : va_G) (sz : Nat) (k : Int) (y : Int) (i : Int) (z : Int) (h0 : Nat) (fa : Int) (tc : Int) (so : Nat) (sl : Nat) (ce : Nat) (fn : Int) (kd : Nat) (wd : Nat) (hs : Nat) (pf : Nat) (lt : Nat) (mn : Int) (wg : Nat) (ta : Int) (ck : Int64) (at9 : Int) (rfn : Int) (rk : Nat) (rw : Nat) (rh : Nat) (cl : Int) (sa : Nat) (fi : Nat) (bo : Int) (ch : Nat) (cn : Nat) (ad : Int) (ru : Int) (kp : Nat) (dn : Int) (rfa : Nat) (c_so : ClassId) (f_so : Nat → Int32) (c_sl : ClassId) (f_sl : Nat → Int32) (q0 : 0 ≤ k ∧ k ≤ 3) (q1 : rg y) (q2 : rg i) (q3 : rg z) (q4 : kSL f_sl) : Met l yX9_against wsX9_against ({ frames := 0, cells := 0, slots := 0, locals := 0 }) (kPre [.ref h0, .int (zI k), .int (zI y), .int (zI i), .int (zI z)] D [(h0, .inr (9, [.int (zI fa), .int (zI tc), .ref so, .ref sl, .ref ce, .int (zI fn), .ref kd, .ref wd, .ref hs, .ref pf, .ref lt, .int (zI mn), .ref wg, .int (zI ta), .long ck, .int (zI at9), .int (zI rfn), .ref rk, .ref rw, .ref rh, .int (zI cl), .ref sa, .ref fi, .int (zI bo), .ref ch, .ref cn, .int (zI ad), .int (zI ru), .ref kp, .int (zI dn), .ref rfa])), (so, .inl (c_so, 4, .inl f_so)), (sl, .inl (c_sl, 4, .inl f_sl))] [(c_so, .int), (c_sl, .int)] sz) (QcP (fun rz => (rz = 0 ∧ 0 ≤ i ∧ 0 ≤ z ∧ i + z ≤ 60) ∨ (1 ≤ rz ∧ rz ≤ 4))) 0 0 (fun _ => False) := by
  refine Met.ofW (cc := cX9_against) (maxL := 5) (ret := (some .int)) (by decide) rfl ?_
  intro p e s m args below meth c s₁ B hml hv
  obtain ⟨rfl, hsz, hP, hK, hD0, hN⟩ := hv
  have hx := B.exec
  have hb := B.bytes
  have hr := B.returns
  have hts := atoms_spec (ws := wsX9_against) B.pre
  have hown : s.vm.findClass RX9 = some m.cls := findClass_of_methodNamed B.named
  have hlocks := B.notSynchronized
  subst hsz
  have hD := hD0
  have hP : va_P D vwCl [(h0, .inr (9, [.int (zI fa), .int (zI tc), .ref so, .ref sl, .ref ce, .int (zI fn), .ref kd, .ref wd, .ref hs, .ref pf, .ref lt, .int (zI mn), .ref wg, .int (zI ta), .long ck, .int (zI at9), .int (zI rfn), .ref rk, .ref rw, .ref rh, .int (zI cl), .ref sa, .ref fi, .int (zI bo), .ref ch, .ref cn, .int (zI ad), .int (zI ru), .ref kp, .int (zI dn), .ref rfa])), (so, .inl (c_so, 4, .inl f_so)), (sl, .inl (c_sl, 4, .inl f_sl))] s.heap := hP
  have hl := lv_entry ([.ref h0, .int (zI k), .int (zI y), .int (zI i), .int (zI z)]) (n := 5) (Nat.le_of_ble_eq_true rfl)
  rw [lg_entry_eq]
  generalize (lg_sl ([.ref h0, .int (zI k), .int (zI y), .int (zI i), .int (zI z)]) ++ List.replicate (5 - (lg_sl ([.ref h0, .int (zI k), .int (zI y), .int (zI i), .int (zI z)])).length) Slot.unset).toArray = ls at hl ⊢
  have hl : lv_has ls 5 [(0, .ref h0), (1, .int (zI k)), (2, .int (zI y)), (3, .int (zI i)), (4, .int (zI z))] := hl
  refine lv_aload_n hx hb dX9_against_0 rfl (lv_at hl 0 rfl) ?_
  refine va_get (D := D) (ci := 9) (v := .ref so) (C := RX9) (T := TX9) (N := 31) hx hb hts (fun _ h9 => List.mem_cons_of_mem _ (List.mem_append_right _ h9)) hown hK hP 0 rfl rfl 2 (by decide) (hts (.fieldLink RX9 9 "FontRunsModel" "sorts" "[I") mw_X9_against_0) (fun _ h9 => h9) rfl dX9_against_1 ?_
  refine lv_iload_n hx hb dX9_against_4 rfl (lv_at hl 1 rfl) ?_
  refine kz_iald hx hb hK hP 1 0 rfl rfl (by omega) dX9_against_5 (fun z_1 rz_1 ez_1 => ?_)
  refine lv_bipush (v := zI (-9)) hx hb dX9_against_6 (by decide) ?_
  refine kz_icmp_eq (tgt := 23) hx hb dX9_against_8 (by decide) (by omega) (by omega) (fun c_2 => ?_) (fun c_2 => ?_)
  · refine lv_aload_n hx hb dX9_against_23 rfl (lv_at hl 0 rfl) ?_
    refine va_get (D := D) (ci := 9) (v := .ref so) (C := RX9) (T := TX9) (N := 31) hx hb hts (fun _ h9 => List.mem_cons_of_mem _ (List.mem_append_right _ h9)) hown hK hP 0 rfl rfl 2 (by decide) (hts (.fieldLink RX9 9 "FontRunsModel" "sorts" "[I") mw_X9_against_0) (fun _ h9 => h9) rfl dX9_against_24 ?_
    refine lv_iload_n hx hb dX9_against_27 rfl (lv_at hl 1 rfl) ?_
    refine kz_iald hx hb hK hP 1 0 rfl rfl (by omega) dX9_against_28 (fun z_3 rz_3 ez_3 => ?_)
    have q9 : z_1 = z_3 := (zI_eq rz_1 rz_3).mp (ez_1.symm.trans ez_3)
    subst q9
    refine lv_bipush (v := zI (-9)) hx hb dX9_against_29 (by decide) ?_
    refine kz_icmp_ne (tgt := 36) hx hb dX9_against_31 (by decide) (by omega) (by omega) (fun c9 => by omega) (fun c9 => ?_)
    refine lv_iconst (v := zI 1) hx hb dX9_against_34 rfl ?_
    exact W.iret (v := (zI 1)) hx hb hr (fun t ht hW => QcP_of (by omega) (by omega) ht) (fun _ h9 => by cases h9) dX9_against_35
  · refine lv_aload_n hx hb dX9_against_11 rfl (lv_at hl 0 rfl) ?_
    refine va_get (D := D) (ci := 9) (v := .ref so) (C := RX9) (T := TX9) (N := 31) hx hb hts (fun _ h9 => List.mem_cons_of_mem _ (List.mem_append_right _ h9)) hown hK hP 0 rfl rfl 2 (by decide) (hts (.fieldLink RX9 9 "FontRunsModel" "sorts" "[I") mw_X9_against_0) (fun _ h9 => h9) rfl dX9_against_12 ?_
    refine lv_iload_n hx hb dX9_against_15 rfl (lv_at hl 1 rfl) ?_
    refine kz_iald hx hb hK hP 1 0 rfl rfl (by omega) dX9_against_16 (fun z_4 rz_4 ez_4 => ?_)
    have q9 : z_1 = z_4 := (zI_eq rz_1 rz_4).mp (ez_1.symm.trans ez_4)
    subst q9
    refine lv_iload_n hx hb dX9_against_17 rfl (lv_at hl 2 rfl) ?_
    refine kz_icmp_eq (tgt := 23) hx hb dX9_against_18 (by decide) (by omega) (by omega) (fun c_5 => ?_) (fun c_5 => ?_)
    · refine lv_aload_n hx hb dX9_against_23 rfl (lv_at hl 0 rfl) ?_
      refine va_get (D := D) (ci := 9) (v := .ref so) (C := RX9) (T := TX9) (N := 31) hx hb hts (fun _ h9 => List.mem_cons_of_mem _ (List.mem_append_right _ h9)) hown hK hP 0 rfl rfl 2 (by decide) (hts (.fieldLink RX9 9 "FontRunsModel" "sorts" "[I") mw_X9_against_0) (fun _ h9 => h9) rfl dX9_against_24 ?_
      refine lv_iload_n hx hb dX9_against_27 rfl (lv_at hl 1 rfl) ?_
      refine kz_iald hx hb hK hP 1 0 rfl rfl (by omega) dX9_against_28 (fun z_6 rz_6 ez_6 => ?_)
      have q9 : z_1 = z_6 := (zI_eq rz_1 rz_6).mp (ez_1.symm.trans ez_6)
      subst q9
      refine lv_bipush (v := zI (-9)) hx hb dX9_against_29 (by decide) ?_
      refine kz_icmp_ne (tgt := 36) hx hb dX9_against_31 (by decide) (by omega) (by omega) (fun c9 => ?_) (fun c9 => by omega)
      refine lv_iload hx hb dX9_against_36 (lv_at hl 4 rfl) ?_
      refine kz_if_ge (tgt := 43) hx hb dX9_against_38 (by decide) (by omega) (fun c_7 => ?_) (fun c_7 => ?_)
      · refine lv_iload_n hx hb dX9_against_43 rfl (lv_at hl 3 rfl) ?_
        refine kz_if_lt (tgt := 70) hx hb dX9_against_44 (by decide) (by omega) (fun c_8 => ?_) (fun c_8 => ?_)
        · refine lv_iconst (v := zI 3) hx hb dX9_against_70 rfl ?_
          refine lv_goto (tgt := 75) hx hb dX9_against_71 (by decide) ?_
          exact W.iret (v := (zI 3)) hx hb hr (fun t ht hW => QcP_of (by omega) (by omega) ht) (fun _ h9 => by cases h9) dX9_against_75
        · refine lv_iload_n hx hb dX9_against_47 rfl (lv_at hl 3 rfl) ?_
          refine lv_aload_n hx hb dX9_against_48 rfl (lv_at hl 0 rfl) ?_
          refine va_get (D := D) (ci := 9) (v := .ref sl) (C := RX9) (T := TX9) (N := 31) hx hb hts (fun _ h9 => List.mem_cons_of_mem _ (List.mem_append_right _ h9)) hown hK hP 0 rfl rfl 3 (by decide) (hts (.fieldLink RX9 13 "FontRunsModel" "sheetLong" "[I") mw_X9_against_1) (fun _ h9 => h9) rfl dX9_against_49 ?_
          refine lv_iload_n hx hb dX9_against_52 rfl (lv_at hl 1 rfl) ?_
          refine kz_iald hx hb hK hP 2 1 rfl rfl (by omega) dX9_against_53 (fun z_9 rz_9 ez_9 => ?_)
          have bz_9 := kSL_at q4 (by omega) rz_9 ez_9
          refine kz_icmp_gt (tgt := 70) hx hb dX9_against_54 (by decide) (by omega) (by omega) (fun c_10 => ?_) (fun c_10 => ?_)
          · refine lv_iconst (v := zI 3) hx hb dX9_against_70 rfl ?_
            refine lv_goto (tgt := 75) hx hb dX9_against_71 (by decide) ?_
            exact W.iret (v := (zI 3)) hx hb hr (fun t ht hW => QcP_of (by omega) (by omega) ht) (fun _ h9 => by cases h9) dX9_against_75
          · refine lv_iload hx hb dX9_against_57 (lv_at hl 4 rfl) ?_
            refine lv_aload_n hx hb dX9_against_59 rfl (lv_at hl 0 rfl) ?_
            refine va_get (D := D) (ci := 9) (v := .ref sl) (C := RX9) (T := TX9) (N := 31) hx hb hts (fun _ h9 => List.mem_cons_of_mem _ (List.mem_append_right _ h9)) hown hK hP 0 rfl rfl 3 (by decide) (hts (.fieldLink RX9 13 "FontRunsModel" "sheetLong" "[I") mw_X9_against_1) (fun _ h9 => h9) rfl dX9_against_60 ?_
            refine lv_iload_n hx hb dX9_against_63 rfl (lv_at hl 1 rfl) ?_
            refine kz_iald hx hb hK hP 2 1 rfl rfl (by omega) dX9_against_64 (fun z_11 rz_11 ez_11 => ?_)
            have q9 : z_9 = z_11 := (zI_eq rz_9 rz_11).mp (ez_9.symm.trans ez_11)
            subst q9
            refine lv_iload_n hx hb dX9_against_65 rfl (lv_at hl 3 rfl) ?_
            refine kz_isub hx hb dX9_against_66 ?_
            refine kz_icmp_le (tgt := 74) hx hb dX9_against_67 (by decide) (by omega) (by omega) (fun c_12 => ?_) (fun c_12 => ?_)
            · refine lv_iconst (v := zI 0) hx hb dX9_against_74 rfl ?_
              exact W.iret (v := (zI 0)) hx hb hr (fun t ht hW => QcP_of (by omega) (by omega) ht) (fun _ h9 => by cases h9) dX9_against_75
            · refine lv_iconst (v := zI 3) hx hb dX9_against_70 rfl ?_
              refine lv_goto (tgt := 75) hx hb dX9_against_71 (by decide) ?_
              exact W.iret (v := (zI 3)) hx hb hr (fun t ht hW => QcP_of (by omega) (by omega) ht) (fun _ h9 => by cases h9) dX9_against_75
      · refine lv_iconst (v := zI 4) hx hb dX9_against_41 rfl ?_
        exact W.iret (v := (zI 4)) hx hb hr (fun t ht hW => QcP_of (by omega) (by omega) ht) (fun _ h9 => by cases h9) dX9_against_42
    · refine lv_iconst (v := zI 2) hx hb dX9_against_21 rfl ?_
      exact W.iret (v := (zI 2)) hx hb hr (fun t ht hW => QcP_of (by omega) (by omega) ht) (fun _ h9 => by cases h9) dX9_against_22
theorem dX9_stepOf_0 : decode cX9_stepOf 0 = .ok (.aload_n 0, 1) := kqo_2a kbl_X9_stepOf (pc := 0) rfl
theorem dX9_stepOf_1 : decode cX9_stepOf 1 = .ok (.getfield 19, 3) := kqo_b4 (x1 := 0) (x2 := 19) kbl_X9_stepOf (pc := 1) rfl rfl
theorem dX9_stepOf_4 : decode cX9_stepOf 4 = .ok (.iload_n 1, 1) := kqo_1b kbl_X9_stepOf (pc := 4) rfl
theorem dX9_stepOf_5 : decode cX9_stepOf 5 = .ok (.iaload, 1) := kqo_2e kbl_X9_stepOf (pc := 5) rfl
theorem dX9_stepOf_6 : decode cX9_stepOf 6 = .ok (.ifCond .ne 12, 3) := kqo_9a (x1 := 0) (x2 := 12) kbl_X9_stepOf (pc := 6) rfl rfl
theorem dX9_stepOf_9 : decode cX9_stepOf 9 = .ok (.aload_n 0, 1) := kqo_2a kbl_X9_stepOf (pc := 9) rfl
theorem dX9_stepOf_10 : decode cX9_stepOf 10 = .ok (.getfield 22, 3) := kqo_b4 (x1 := 0) (x2 := 22) kbl_X9_stepOf (pc := 10) rfl rfl
theorem dX9_stepOf_13 : decode cX9_stepOf 13 = .ok (.iload_n 1, 1) := kqo_1b kbl_X9_stepOf (pc := 13) rfl
theorem dX9_stepOf_14 : decode cX9_stepOf 14 = .ok (.iaload, 1) := kqo_2e kbl_X9_stepOf (pc := 14) rfl
theorem dX9_stepOf_15 : decode cX9_stepOf 15 = .ok (.goto 32, 3) := kqo_a7 (x1 := 0) (x2 := 32) kbl_X9_stepOf (pc := 15) rfl rfl
theorem dX9_stepOf_18 : decode cX9_stepOf 18 = .ok (.aload_n 0, 1) := kqo_2a kbl_X9_stepOf (pc := 18) rfl
theorem dX9_stepOf_19 : decode cX9_stepOf 19 = .ok (.getfield 19, 3) := kqo_b4 (x1 := 0) (x2 := 19) kbl_X9_stepOf (pc := 19) rfl rfl
theorem dX9_stepOf_22 : decode cX9_stepOf 22 = .ok (.iload_n 1, 1) := kqo_1b kbl_X9_stepOf (pc := 22) rfl
theorem dX9_stepOf_23 : decode cX9_stepOf 23 = .ok (.iaload, 1) := kqo_2e kbl_X9_stepOf (pc := 23) rfl
theorem dX9_stepOf_24 : decode cX9_stepOf 24 = .ok (.iconst 1, 1) := kqo_04 kbl_X9_stepOf (pc := 24) rfl
theorem dX9_stepOf_25 : decode cX9_stepOf 25 = .ok (.if_icmp .ne 14, 3) := kqo_a0 (x1 := 0) (x2 := 14) kbl_X9_stepOf (pc := 25) rfl rfl
theorem dX9_stepOf_28 : decode cX9_stepOf 28 = .ok (.aload_n 0, 1) := kqo_2a kbl_X9_stepOf (pc := 28) rfl
theorem dX9_stepOf_29 : decode cX9_stepOf 29 = .ok (.getfield 22, 3) := kqo_b4 (x1 := 0) (x2 := 22) kbl_X9_stepOf (pc := 29) rfl rfl
theorem dX9_stepOf_32 : decode cX9_stepOf 32 = .ok (.iload_n 1, 1) := kqo_1b kbl_X9_stepOf (pc := 32) rfl
theorem dX9_stepOf_33 : decode cX9_stepOf 33 = .ok (.iaload, 1) := kqo_2e kbl_X9_stepOf (pc := 33) rfl
theorem dX9_stepOf_34 : decode cX9_stepOf 34 = .ok (.iconst 1, 1) := kqo_04 kbl_X9_stepOf (pc := 34) rfl
theorem dX9_stepOf_35 : decode cX9_stepOf 35 = .ok (.iadd, 1) := kqo_60 kbl_X9_stepOf (pc := 35) rfl
theorem dX9_stepOf_36 : decode cX9_stepOf 36 = .ok (.goto 11, 3) := kqo_a7 (x1 := 0) (x2 := 11) kbl_X9_stepOf (pc := 36) rfl rfl
theorem dX9_stepOf_39 : decode cX9_stepOf 39 = .ok (.iconst 2, 1) := kqo_05 kbl_X9_stepOf (pc := 39) rfl
theorem dX9_stepOf_40 : decode cX9_stepOf 40 = .ok (.aload_n 0, 1) := kqo_2a kbl_X9_stepOf (pc := 40) rfl
theorem dX9_stepOf_41 : decode cX9_stepOf 41 = .ok (.getfield 22, 3) := kqo_b4 (x1 := 0) (x2 := 22) kbl_X9_stepOf (pc := 41) rfl rfl
theorem dX9_stepOf_44 : decode cX9_stepOf 44 = .ok (.iload_n 1, 1) := kqo_1b kbl_X9_stepOf (pc := 44) rfl
theorem dX9_stepOf_45 : decode cX9_stepOf 45 = .ok (.iaload, 1) := kqo_2e kbl_X9_stepOf (pc := 45) rfl
theorem dX9_stepOf_46 : decode cX9_stepOf 46 = .ok (.imul, 1) := kqo_68 kbl_X9_stepOf (pc := 46) rfl
theorem dX9_stepOf_47 : decode cX9_stepOf 47 = .ok (.ireturn, 1) := kqo_ac kbl_X9_stepOf (pc := 47) rfl
set_option maxRecDepth 20000 in
theorem mw_X9_stepOf_0 : (.fieldLink RX9 19 "FontRunsModel" "kind" "[I" : Cond) ∈ wsX9_stepOf := List.mem_cons_of_mem _ (List.mem_append_left _ (List.mem_of_getElem? (i := 0) rfl))
set_option maxRecDepth 20000 in
theorem mw_X9_stepOf_1 : (.fieldLink RX9 22 "FontRunsModel" "width" "[I" : Cond) ∈ wsX9_stepOf := List.mem_cons_of_mem _ (List.mem_append_left _ (List.mem_of_getElem? (i := 1) rfl))
set_option maxHeartbeats 4000000 in
set_option maxRecDepth 100000 in
theorem c_X9_stepOf (l : Launch) (D : va_G) (sz : Nat) (f : Int) (h0 : Nat) (fa : Int) (tc : Int) (so : Nat) (sl : Nat) (ce : Nat) (fn : Int) (kd : Nat) (wd : Nat) (hs : Nat) (pf : Nat) (lt : Nat) (mn : Int) (wg : Nat) (ta : Int) (ck : Int64) (at9 : Int) (rfn : Int) (rk : Nat) (rw : Nat) (rh : Nat) (cl : Int) (sa : Nat) (fi : Nat) (bo : Int) (ch : Nat) (cn : Nat) (ad : Int) (ru : Int) (kp : Nat) (dn : Int) (rfa : Nat) (c_kd : ClassId) (f_kd : Nat → Int32) (c_wd : ClassId) (f_wd : Nat → Int32) (q0 : 0 ≤ f ∧ f ≤ 3) : Met l yX9_stepOf wsX9_stepOf ({ frames := 0, cells := 0, slots := 0, locals := 0 }) (kPre [.ref h0, .int (zI f)] D [(h0, .inr (9, [.int (zI fa), .int (zI tc), .ref so, .ref sl, .ref ce, .int (zI fn), .ref kd, .ref wd, .ref hs, .ref pf, .ref lt, .int (zI mn), .ref wg, .int (zI ta), .long ck, .int (zI at9), .int (zI rfn), .ref rk, .ref rw, .ref rh, .int (zI cl), .ref sa, .ref fi, .int (zI bo), .ref ch, .ref cn, .int (zI ad), .int (zI ru), .ref kp, .int (zI dn), .ref rfa])), (kd, .inl (c_kd, 4, .inl f_kd)), (wd, .inl (c_wd, 4, .inl f_wd))] [(c_kd, .int), (c_wd, .int)] sz) (QcP (fun rz => True)) 0 0 (fun _ => False) := by
  refine Met.ofW (cc := cX9_stepOf) (maxL := 2) (ret := (some .int)) (by decide) rfl ?_
  intro p e s m args below meth c s₁ B hml hv
  obtain ⟨rfl, hsz, hP, hK, hD0, hN⟩ := hv
  have hx := B.exec
  have hb := B.bytes
  have hr := B.returns
  have hts := atoms_spec (ws := wsX9_stepOf) B.pre
  have hown : s.vm.findClass RX9 = some m.cls := findClass_of_methodNamed B.named
  have hlocks := B.notSynchronized
  subst hsz
  have hD := hD0
  have hP : va_P D vwCl [(h0, .inr (9, [.int (zI fa), .int (zI tc), .ref so, .ref sl, .ref ce, .int (zI fn), .ref kd, .ref wd, .ref hs, .ref pf, .ref lt, .int (zI mn), .ref wg, .int (zI ta), .long ck, .int (zI at9), .int (zI rfn), .ref rk, .ref rw, .ref rh, .int (zI cl), .ref sa, .ref fi, .int (zI bo), .ref ch, .ref cn, .int (zI ad), .int (zI ru), .ref kp, .int (zI dn), .ref rfa])), (kd, .inl (c_kd, 4, .inl f_kd)), (wd, .inl (c_wd, 4, .inl f_wd))] s.heap := hP
  have hl := lv_entry ([.ref h0, .int (zI f)]) (n := 2) (Nat.le_of_ble_eq_true rfl)
  rw [lg_entry_eq]
  generalize (lg_sl ([.ref h0, .int (zI f)]) ++ List.replicate (2 - (lg_sl ([.ref h0, .int (zI f)])).length) Slot.unset).toArray = ls at hl ⊢
  have hl : lv_has ls 2 [(0, .ref h0), (1, .int (zI f))] := hl
  refine lv_aload_n hx hb dX9_stepOf_0 rfl (lv_at hl 0 rfl) ?_
  refine va_get (D := D) (ci := 9) (v := .ref kd) (C := RX9) (T := TX9) (N := 31) hx hb hts (fun _ h9 => List.mem_cons_of_mem _ (List.mem_append_right _ h9)) hown hK hP 0 rfl rfl 6 (by decide) (hts (.fieldLink RX9 19 "FontRunsModel" "kind" "[I") mw_X9_stepOf_0) (fun _ h9 => h9) rfl dX9_stepOf_1 ?_
  refine lv_iload_n hx hb dX9_stepOf_4 rfl (lv_at hl 1 rfl) ?_
  refine kz_iald hx hb hK hP 1 0 rfl rfl (by omega) dX9_stepOf_5 (fun z_1 rz_1 ez_1 => ?_)
  refine kz_if_ne (tgt := 18) hx hb dX9_stepOf_6 (by decide) (by omega) (fun c_2 => ?_) (fun c_2 => ?_)
  · refine lv_aload_n hx hb dX9_stepOf_18 rfl (lv_at hl 0 rfl) ?_
    refine va_get (D := D) (ci := 9) (v := .ref kd) (C := RX9) (T := TX9) (N := 31) hx hb hts (fun _ h9 => List.mem_cons_of_mem _ (List.mem_append_right _ h9)) hown hK hP 0 rfl rfl 6 (by decide) (hts (.fieldLink RX9 19 "FontRunsModel" "kind" "[I") mw_X9_stepOf_0) (fun _ h9 => h9) rfl dX9_stepOf_19 ?_
    refine lv_iload_n hx hb dX9_stepOf_22 rfl (lv_at hl 1 rfl) ?_
    refine kz_iald hx hb hK hP 1 0 rfl rfl (by omega) dX9_stepOf_23 (fun z_3 rz_3 ez_3 => ?_)
    have q9 : z_1 = z_3 := (zI_eq rz_1 rz_3).mp (ez_1.symm.trans ez_3)
    subst q9
    refine lv_iconst (v := zI 1) hx hb dX9_stepOf_24 rfl ?_
    refine kz_icmp_ne (tgt := 39) hx hb dX9_stepOf_25 (by decide) (by omega) (by omega) (fun c_4 => ?_) (fun c_4 => ?_)
    · refine lv_iconst (v := zI 2) hx hb dX9_stepOf_39 rfl ?_
      refine lv_aload_n hx hb dX9_stepOf_40 rfl (lv_at hl 0 rfl) ?_
      refine va_get (D := D) (ci := 9) (v := .ref wd) (C := RX9) (T := TX9) (N := 31) hx hb hts (fun _ h9 => List.mem_cons_of_mem _ (List.mem_append_right _ h9)) hown hK hP 0 rfl rfl 7 (by decide) (hts (.fieldLink RX9 22 "FontRunsModel" "width" "[I") mw_X9_stepOf_1) (fun _ h9 => h9) rfl dX9_stepOf_41 ?_
      refine lv_iload_n hx hb dX9_stepOf_44 rfl (lv_at hl 1 rfl) ?_
      refine kz_iald hx hb hK hP 2 1 rfl rfl (by omega) dX9_stepOf_45 (fun z_5 rz_5 ez_5 => ?_)
      refine kz_imul hx hb dX9_stepOf_46 ?_
      refine kz_any (fun z_6 rz_6 ez_6 => ?_)
      exact W.iret (v := (zI z_6)) hx hb hr (fun t ht hW => QcP_of (by omega) trivial ht) (fun _ h9 => by cases h9) dX9_stepOf_47
    · refine lv_aload_n hx hb dX9_stepOf_28 rfl (lv_at hl 0 rfl) ?_
      refine va_get (D := D) (ci := 9) (v := .ref wd) (C := RX9) (T := TX9) (N := 31) hx hb hts (fun _ h9 => List.mem_cons_of_mem _ (List.mem_append_right _ h9)) hown hK hP 0 rfl rfl 7 (by decide) (hts (.fieldLink RX9 22 "FontRunsModel" "width" "[I") mw_X9_stepOf_1) (fun _ h9 => h9) rfl dX9_stepOf_29 ?_
      refine lv_iload_n hx hb dX9_stepOf_32 rfl (lv_at hl 1 rfl) ?_
      refine kz_iald hx hb hK hP 2 1 rfl rfl (by omega) dX9_stepOf_33 (fun z_7 rz_7 ez_7 => ?_)
      refine lv_iconst (v := zI 1) hx hb dX9_stepOf_34 rfl ?_
      refine kz_iadd hx hb dX9_stepOf_35 ?_
      refine lv_goto (tgt := 47) hx hb dX9_stepOf_36 (by decide) ?_
      refine kz_any (fun z_8 rz_8 ez_8 => ?_)
      exact W.iret (v := (zI z_8)) hx hb hr (fun t ht hW => QcP_of (by omega) trivial ht) (fun _ h9 => by cases h9) dX9_stepOf_47
  · refine lv_aload_n hx hb dX9_stepOf_9 rfl (lv_at hl 0 rfl) ?_
    refine va_get (D := D) (ci := 9) (v := .ref wd) (C := RX9) (T := TX9) (N := 31) hx hb hts (fun _ h9 => List.mem_cons_of_mem _ (List.mem_append_right _ h9)) hown hK hP 0 rfl rfl 7 (by decide) (hts (.fieldLink RX9 22 "FontRunsModel" "width" "[I") mw_X9_stepOf_1) (fun _ h9 => h9) rfl dX9_stepOf_10 ?_
    refine lv_iload_n hx hb dX9_stepOf_13 rfl (lv_at hl 1 rfl) ?_
    refine kz_iald hx hb hK hP 2 1 rfl rfl (by omega) dX9_stepOf_14 (fun z_9 rz_9 ez_9 => ?_)
    refine lv_goto (tgt := 47) hx hb dX9_stepOf_15 (by decide) ?_
    refine kz_any (fun z_10 rz_10 ez_10 => ?_)
    exact W.iret (v := (zI z_10)) hx hb hr (fun t ht hW => QcP_of (by omega) trivial ht) (fun _ h9 => by cases h9) dX9_stepOf_47
theorem dX9_isOf_0 : decode cX9_isOf 0 = .ok (.iload_n 0, 1) := kqo_1a kbl_X9_isOf (pc := 0) rfl
theorem dX9_isOf_1 : decode cX9_isOf 1 = .ok (.iload_n 1, 1) := kqo_1b kbl_X9_isOf (pc := 1) rfl
theorem dX9_isOf_2 : decode cX9_isOf 2 = .ok (.ishr, 1) := kqo_7a kbl_X9_isOf (pc := 2) rfl
theorem dX9_isOf_3 : decode cX9_isOf 3 = .ok (.iconst 1, 1) := kqo_04 kbl_X9_isOf (pc := 3) rfl
theorem dX9_isOf_4 : decode cX9_isOf 4 = .ok (.iand, 1) := kqo_7e kbl_X9_isOf (pc := 4) rfl
theorem dX9_isOf_5 : decode cX9_isOf 5 = .ok (.iconst 1, 1) := kqo_04 kbl_X9_isOf (pc := 5) rfl
theorem dX9_isOf_6 : decode cX9_isOf 6 = .ok (.if_icmp .ne 7, 3) := kqo_a0 (x1 := 0) (x2 := 7) kbl_X9_isOf (pc := 6) rfl rfl
theorem dX9_isOf_9 : decode cX9_isOf 9 = .ok (.iconst 1, 1) := kqo_04 kbl_X9_isOf (pc := 9) rfl
theorem dX9_isOf_10 : decode cX9_isOf 10 = .ok (.goto 4, 3) := kqo_a7 (x1 := 0) (x2 := 4) kbl_X9_isOf (pc := 10) rfl rfl
theorem dX9_isOf_13 : decode cX9_isOf 13 = .ok (.iconst 0, 1) := kqo_03 kbl_X9_isOf (pc := 13) rfl
theorem dX9_isOf_14 : decode cX9_isOf 14 = .ok (.ireturn, 1) := kqo_ac kbl_X9_isOf (pc := 14) rfl
set_option maxHeartbeats 4000000 in
set_option maxRecDepth 100000 in
theorem c_X9_isOf (l : Launch) (D : va_G) (sz : Nat) (x : Int) (k : Int) (q0 : rg x) (q1 : rg k) : Met l yX9_isOf wsX9_isOf ({ frames := 0, cells := 0, slots := 0, locals := 0 }) (kPre [.int (zI x), .int (zI k)] D [] [] sz) (QcP (fun rz => True)) 0 0 (fun _ => False) := by
  refine Met.ofW (cc := cX9_isOf) (maxL := 2) (ret := (some .boolean)) (by decide) rfl ?_
  intro p e s m args below meth c s₁ B hml hv
  obtain ⟨rfl, hsz, hP, hK, hD0, hN⟩ := hv
  have hx := B.exec
  have hb := B.bytes
  have hr := B.returns
  have hts := atoms_spec (ws := wsX9_isOf) B.pre
  have hown : s.vm.findClass RX9 = some m.cls := findClass_of_methodNamed B.named
  have hlocks := B.notSynchronized
  subst hsz
  have hD := hD0
  have hP : va_P D vwCl [] s.heap := hP
  have hl := lv_entry ([.int (zI x), .int (zI k)]) (n := 2) (Nat.le_of_ble_eq_true rfl)
  rw [lg_entry_eq]
  generalize (lg_sl ([.int (zI x), .int (zI k)]) ++ List.replicate (2 - (lg_sl ([.int (zI x), .int (zI k)])).length) Slot.unset).toArray = ls at hl ⊢
  have hl : lv_has ls 2 [(0, .int (zI x)), (1, .int (zI k))] := hl
  refine lv_iload_n hx hb dX9_isOf_0 rfl (lv_at hl 0 rfl) ?_
  refine lv_iload_n hx hb dX9_isOf_1 rfl (lv_at hl 1 rfl) ?_
  refine lv_ishr hx hb dX9_isOf_2 ?_
  refine kz_any (fun z_1 rz_1 ez_1 => ?_)
  refine lv_iconst (v := zI 1) hx hb dX9_isOf_3 rfl ?_
  refine lv_iand hx hb dX9_isOf_4 ?_
  refine kz_any (fun z_2 rz_2 ez_2 => ?_)
  refine lv_iconst (v := zI 1) hx hb dX9_isOf_5 rfl ?_
  refine kz_icmp_ne (tgt := 13) hx hb dX9_isOf_6 (by decide) (by omega) (by omega) (fun c_3 => ?_) (fun c_3 => ?_)
  · refine lv_iconst (v := zI 0) hx hb dX9_isOf_13 rfl ?_
    exact W.zret (v := (zI 0)) hx hb hr rfl (fun t ht hW => QcP_of (by omega) trivial ht) (fun _ h9 => by cases h9) dX9_isOf_14
  · refine lv_iconst (v := zI 1) hx hb dX9_isOf_9 rfl ?_
    refine lv_goto (tgt := 14) hx hb dX9_isOf_10 (by decide) ?_
    exact W.zret (v := (zI 1)) hx hb hr rfl (fun t ht hW => QcP_of (by omega) trivial ht) (fun _ h9 => by cases h9) dX9_isOf_14
def kPm (f : Nat → Int32) (n : Int) : Prop := (∀ p : Nat, (p : Int) < n → ∃ z : Int, 0 ≤ z ∧ z < n ∧ f p = zI z) ∧ ∀ x : Int, 0 ≤ x → x < n → ∃ p : Nat, (p : Int) < n ∧ f p = zI x
def kHas (f : Nat → Int32) (n x j : Int) : Prop := 0 ≤ j ∧ ∃ q : Nat, j ≤ q ∧ (q : Int) < n ∧ f q = zI x
theorem kHas_0 {f : Nat → Int32} {n x : Int} (h : kPm f n) (h1 : 0 ≤ x) (h2 : x < n) : kHas f n x 0 := by
  obtain ⟨p, h3, h4⟩ := h.2 x h1 h2
  exact ⟨by omega, p, by omega, h3, h4⟩
theorem kHas_lt {f : Nat → Int32} {n x j : Int} (h : kHas f n x j) : 0 ≤ j ∧ j < n := by
  obtain ⟨h0, q, h1, h2, -⟩ := h
  omega
theorem kHas_1 {f : Nat → Int32} {n x j z : Int} (h : kHas f n x j) (hz : rg z) (hx : rg x) (e : f j.toNat = zI z) (ne : ¬ z = x) : kHas f n x (j + 1) := by
  obtain ⟨h0, q, h1, h2, h3⟩ := h
  refine ⟨by omega, q, ?_, h2, h3⟩
  by_cases c : (q : Int) = j
  · exfalso
    have c2 : j.toNat = q := by omega
    rw [c2, h3] at e
    exact ne ((zI_eq hx hz).mp e).symm
  · omega
theorem kPm_at {f : Nat → Int32} {n : Int} (h : kPm f n) {i : Nat} {z : Int} (hn : n ≤ 4) (hi : (i : Int) < n) (hz : rg z) (e : f i = zI z) : 0 ≤ z ∧ z < n := by
  obtain ⟨w, h1, h2, h3⟩ := h.1 i hi
  rw [h3] at e
  have := (zI_eq (by omega) hz).mp e
  omega
/-- the first place + 1 values moved one back, x ahead -/
def kMv (f : Nat → Int32) (w j : Int) : Nat → Int32 := fun i => if j < (i : Int) ∧ (i : Int) ≤ w then f (i - 1) else f i
theorem kMv_0 (f : Nat → Int32) (w : Int) : kMv f w w = f := by
  funext i
  unfold kMv
  rw [if_neg (by omega)]
theorem kMv_1 (f : Nat → Int32) {w j z : Int} (h : 0 < j ∧ j ≤ w) (e : kMv f w j (j - 1).toNat = zI z) : upd (kMv f w j) j.toNat (zI z) = kMv f w (j - 1) := by
  funext i
  unfold kMv at e ⊢
  rw [if_neg (by omega)] at e
  by_cases c : i = j.toNat
  · subst c
    rw [pk_us, if_pos (by omega), ← e]
    congr 1
    omega
  · rw [pk_un c]
    by_cases c2 : j < (i : Int) ∧ (i : Int) ≤ w
    · rw [if_pos c2, if_pos (by omega)]
    · rw [if_neg c2, if_neg (by omega)]
theorem kPm_mv {f : Nat → Int32} {n x w : Int} (h : kPm f n) (hn : n ≤ 4) (hw : 0 ≤ w ∧ w < n) (hx : 0 ≤ x ∧ x < n) (e : f w.toNat = zI x) : kPm (upd (kMv f w 0) 0 (zI x)) n := by
  refine ⟨fun p hp => ?_, fun y h0 h1 => ?_⟩
  · by_cases c : p = 0
    · subst c
      exact ⟨x, hx.1, hx.2, pk_us⟩
    · rw [pk_un c]
      unfold kMv
      by_cases c2 : (0 : Int) < (p : Int) ∧ (p : Int) ≤ w
      · rw [if_pos c2]
        exact h.1 (p - 1) (by omega)
      · rw [if_neg c2]
        exact h.1 p hp
  · by_cases c : y = x
    · subst c
      exact ⟨0, by omega, pk_us⟩
    · obtain ⟨p, h2, h3⟩ := h.2 y h0 h1
      by_cases c2 : (p : Int) < w
      · refine ⟨p + 1, by omega, ?_⟩
        rw [pk_un (by omega)]
        unfold kMv
        rw [if_pos (by omega)]
        exact h3
      · have c3 : ¬ (p : Int) = w := by
          intro q
          have q2 : w.toNat = p := by omega
          rw [q2, h3] at e
          exact c ((zI_eq (by omega) (by omega)).mp e)
        refine ⟨p, h2, ?_⟩
        rw [pk_un (by omega)]
        unfold kMv
        rw [if_neg (by omega)]
        exact h3
theorem dX9_placeOf_0 : decode cX9_placeOf 0 = .ok (.iconst 0, 1) := kqo_03 kbl_X9_placeOf (pc := 0) rfl
theorem dX9_placeOf_1 : decode cX9_placeOf 1 = .ok (.istore_n 2, 1) := kqo_3d kbl_X9_placeOf (pc := 1) rfl
theorem dX9_placeOf_2 : decode cX9_placeOf 2 = .ok (.aload_n 0, 1) := kqo_2a kbl_X9_placeOf (pc := 2) rfl
theorem dX9_placeOf_3 : decode cX9_placeOf 3 = .ok (.getfield 28, 3) := kqo_b4 (x1 := 0) (x2 := 28) kbl_X9_placeOf (pc := 3) rfl rfl
theorem dX9_placeOf_6 : decode cX9_placeOf 6 = .ok (.iload_n 2, 1) := kqo_1c kbl_X9_placeOf (pc := 6) rfl
theorem dX9_placeOf_7 : decode cX9_placeOf 7 = .ok (.iaload, 1) := kqo_2e kbl_X9_placeOf (pc := 7) rfl
theorem dX9_placeOf_8 : decode cX9_placeOf 8 = .ok (.iload_n 1, 1) := kqo_1b kbl_X9_placeOf (pc := 8) rfl
theorem dX9_placeOf_9 : decode cX9_placeOf 9 = .ok (.if_icmp .eq 9, 3) := kqo_9f (x1 := 0) (x2 := 9) kbl_X9_placeOf (pc := 9) rfl rfl
theorem dX9_placeOf_12 : decode cX9_placeOf 12 = .ok (.iinc 2 1, 3) := kqo_84 (x1 := 2) (x2 := 1) kbl_X9_placeOf (pc := 12) rfl rfl
theorem dX9_placeOf_15 : decode cX9_placeOf 15 = .ok (.goto (-13), 3) := kqo_a7 (x1 := 255) (x2 := 243) kbl_X9_placeOf (pc := 15) rfl rfl
theorem dX9_placeOf_18 : decode cX9_placeOf 18 = .ok (.iload_n 2, 1) := kqo_1c kbl_X9_placeOf (pc := 18) rfl
theorem dX9_placeOf_19 : decode cX9_placeOf 19 = .ok (.ireturn, 1) := kqo_ac kbl_X9_placeOf (pc := 19) rfl
set_option maxRecDepth 20000 in
theorem mw_X9_placeOf_0 : (.fieldLink RX9 28 "FontRunsModel" "preference" "[I" : Cond) ∈ wsX9_placeOf := List.mem_cons_of_mem _ (List.mem_append_left _ (List.mem_of_getElem? (i := 0) rfl))
set_option maxHeartbeats 4000000 in
set_option maxRecDepth 100000 in
theorem c_X9_placeOf (l : Launch) (D : va_G) (sz : Nat) (f : Int) (h0 : Nat) (fa : Int) (tc : Int) (so : Nat) (sl : Nat) (ce : Nat) (fn : Int) (kd : Nat) (wd : Nat) (hs : Nat) (pf : Nat) (lt : Nat) (mn : Int) (wg : Nat) (ta : Int) (ck : Int64) (at9 : Int) (rfn : Int) (rk : Nat) (rw : Nat) (rh : Nat) (cl : Int) (sa : Nat) (fi : Nat) (bo : Int) (ch : Nat) (cn : Nat) (ad : Int) (ru : Int) (kp : Nat) (dn : Int) (rfa : Nat) (c_pf : ClassId) (f_pf : Nat → Int32) (q0 : 0 ≤ f ∧ f < fn) (q1 : 0 ≤ fn ∧ fn ≤ 4) (q2 : kPm f_pf fn) : Met l yX9_placeOf wsX9_placeOf ({ frames := 0, cells := 0, slots := 0, locals := 0 }) (kPre [.ref h0, .int (zI f)] D [(h0, .inr (9, [.int (zI fa), .int (zI tc), .ref so, .ref sl, .ref ce, .int (zI fn), .ref kd, .ref wd, .ref hs, .ref pf, .ref lt, .int (zI mn), .ref wg, .int (zI ta), .long ck, .int (zI at9), .int (zI rfn), .ref rk, .ref rw, .ref rh, .int (zI cl), .ref sa, .ref fi, .int (zI bo), .ref ch, .ref cn, .int (zI ad), .int (zI ru), .ref kp, .int (zI dn), .ref rfa])), (pf, .inl (c_pf, 4, .inl f_pf))] [(c_pf, .int)] sz) (QcP (fun rz => (0 ≤ rz ∧ rz < fn) ∧ f_pf rz.toNat = zI f)) 0 0 (fun _ => False) := by
  refine Met.ofW (cc := cX9_placeOf) (maxL := 3) (ret := (some .int)) (by decide) rfl ?_
  intro p e s m args below meth c s₁ B hml hv
  obtain ⟨rfl, hsz, hP, hK, hD0, hN⟩ := hv
  have hx := B.exec
  have hb := B.bytes
  have hr := B.returns
  have hts := atoms_spec (ws := wsX9_placeOf) B.pre
  have hown : s.vm.findClass RX9 = some m.cls := findClass_of_methodNamed B.named
  have hlocks := B.notSynchronized
  subst hsz
  have hD := hD0
  have hP : va_P D vwCl [(h0, .inr (9, [.int (zI fa), .int (zI tc), .ref so, .ref sl, .ref ce, .int (zI fn), .ref kd, .ref wd, .ref hs, .ref pf, .ref lt, .int (zI mn), .ref wg, .int (zI ta), .long ck, .int (zI at9), .int (zI rfn), .ref rk, .ref rw, .ref rh, .int (zI cl), .ref sa, .ref fi, .int (zI bo), .ref ch, .ref cn, .int (zI ad), .int (zI ru), .ref kp, .int (zI dn), .ref rfa])), (pf, .inl (c_pf, 4, .inl f_pf))] s.heap := hP
  have hl := lv_entry ([.ref h0, .int (zI f)]) (n := 3) (Nat.le_of_ble_eq_true rfl)
  rw [lg_entry_eq]
  generalize (lg_sl ([.ref h0, .int (zI f)]) ++ List.replicate (3 - (lg_sl ([.ref h0, .int (zI f)])).length) Slot.unset).toArray = ls at hl ⊢
  have hl : lv_has ls 3 [(0, .ref h0), (1, .int (zI f))] := hl
  refine lv_iconst (v := zI 0) hx hb dX9_placeOf_0 rfl ?_
  refine lv_istore_n (lv' := [(2, .int (zI 0)), (0, .ref h0), (1, .int (zI f))]) hx hb dX9_placeOf_1 rfl hl (by decide) rfl (fun ls hl => ?_)
  refine k_loopM (I := fun n9 H locs ls => ∃ (jk : Int), n9 = (fn - jk).toNat ∧ (kHas f_pf fn f jk) ∧ H = s.heap ∧ locs = [] ∧ lv_has ls 3 [(2, .int (zI jk)), (0, .ref h0), (1, .int (zI f))]) ?_ _ ⟨0, rfl, (kHas_0 q2 (by omega) (by omega)), rfl, rfl, hl⟩
  intro n2 ih2 H locs ls hI
  obtain ⟨jk, en2, v_20, eH, eL, hl⟩ := hI
  subst eH
  subst eL
  have b2 := kHas_lt v_20
  refine lv_aload_n hx hb dX9_placeOf_2 rfl (lv_at hl 1 rfl) ?_
  refine va_get (D := D) (ci := 9) (v := .ref pf) (C := RX9) (T := TX9) (N := 31) hx hb hts (fun _ h9 => List.mem_cons_of_mem _ (List.mem_append_right _ h9)) hown hK hP 0 rfl rfl 9 (by decide) (hts (.fieldLink RX9 28 "FontRunsModel" "preference" "[I") mw_X9_placeOf_0) (fun _ h9 => h9) rfl dX9_placeOf_3 ?_
  refine lv_iload_n hx hb dX9_placeOf_6 rfl (lv_at hl 0 rfl) ?_
  refine kz_iald hx hb hK hP 1 0 rfl rfl (by omega) dX9_placeOf_7 (fun z_1 rz_1 ez_1 => ?_)
  refine lv_iload_n hx hb dX9_placeOf_8 rfl (lv_at hl 2 rfl) ?_
  refine kz_icmp_eq (tgt := 18) hx hb dX9_placeOf_9 (by decide) (by omega) (by omega) (fun c_2 => ?_) (fun c_2 => ?_)
  · refine lv_iload_n hx hb dX9_placeOf_18 rfl (lv_at hl 0 rfl) ?_
    exact W.iret (v := (zI jk)) hx hb hr (fun t ht hW => QcP_of (by omega) ⟨by omega, by rw [ez_1, c_2]⟩ ht) (fun _ h9 => by cases h9) dX9_placeOf_19
  · refine lv_iinc (v := (zI (jk + 1))) (lv' := [(2, .int (zI (jk + 1))), (0, .ref h0), (1, .int (zI f))]) hx hb dX9_placeOf_12 hl (k := 0) rfl (kz_inc _ 1) (by decide) rfl (fun ls hl => ?_)
    refine lv_goto (tgt := 2) hx hb dX9_placeOf_15 (by decide) ?_
    exact ih2 _ (by omega) _ _ _ ⟨(jk + 1), rfl, (kHas_1 v_20 rz_1 (by omega) ez_1 c_2), rfl, rfl, lv_sub hl [0, 1, 2] rfl⟩
theorem dX9_comesFirst_0 : decode cX9_comesFirst 0 = .ok (.aload_n 0, 1) := kqo_2a kbl_X9_comesFirst (pc := 0) rfl
theorem dX9_comesFirst_1 : decode cX9_comesFirst 1 = .ok (.iload_n 1, 1) := kqo_1b kbl_X9_comesFirst (pc := 1) rfl
theorem dX9_comesFirst_2 : decode cX9_comesFirst 2 = .ok (.invokevirtual 126, 3) := kqo_b6 (x1 := 0) (x2 := 126) kbl_X9_comesFirst (pc := 2) rfl rfl
theorem dX9_comesFirst_5 : decode cX9_comesFirst 5 = .ok (.istore_n 2, 1) := kqo_3d kbl_X9_comesFirst (pc := 5) rfl
theorem dX9_comesFirst_6 : decode cX9_comesFirst 6 = .ok (.iload_n 2, 1) := kqo_1c kbl_X9_comesFirst (pc := 6) rfl
theorem dX9_comesFirst_7 : decode cX9_comesFirst 7 = .ok (.istore_n 3, 1) := kqo_3e kbl_X9_comesFirst (pc := 7) rfl
theorem dX9_comesFirst_8 : decode cX9_comesFirst 8 = .ok (.iload_n 3, 1) := kqo_1d kbl_X9_comesFirst (pc := 8) rfl
theorem dX9_comesFirst_9 : decode cX9_comesFirst 9 = .ok (.ifCond .le 23, 3) := kqo_9e (x1 := 0) (x2 := 23) kbl_X9_comesFirst (pc := 9) rfl rfl
theorem dX9_comesFirst_12 : decode cX9_comesFirst 12 = .ok (.aload_n 0, 1) := kqo_2a kbl_X9_comesFirst (pc := 12) rfl
theorem dX9_comesFirst_13 : decode cX9_comesFirst 13 = .ok (.getfield 28, 3) := kqo_b4 (x1 := 0) (x2 := 28) kbl_X9_comesFirst (pc := 13) rfl rfl
theorem dX9_comesFirst_16 : decode cX9_comesFirst 16 = .ok (.iload_n 3, 1) := kqo_1d kbl_X9_comesFirst (pc := 16) rfl
theorem dX9_comesFirst_17 : decode cX9_comesFirst 17 = .ok (.aload_n 0, 1) := kqo_2a kbl_X9_comesFirst (pc := 17) rfl
theorem dX9_comesFirst_18 : decode cX9_comesFirst 18 = .ok (.getfield 28, 3) := kqo_b4 (x1 := 0) (x2 := 28) kbl_X9_comesFirst (pc := 18) rfl rfl
theorem dX9_comesFirst_21 : decode cX9_comesFirst 21 = .ok (.iload_n 3, 1) := kqo_1d kbl_X9_comesFirst (pc := 21) rfl
theorem dX9_comesFirst_22 : decode cX9_comesFirst 22 = .ok (.iconst 1, 1) := kqo_04 kbl_X9_comesFirst (pc := 22) rfl
theorem dX9_comesFirst_23 : decode cX9_comesFirst 23 = .ok (.isub, 1) := kqo_64 kbl_X9_comesFirst (pc := 23) rfl
theorem dX9_comesFirst_24 : decode cX9_comesFirst 24 = .ok (.iaload, 1) := kqo_2e kbl_X9_comesFirst (pc := 24) rfl
theorem dX9_comesFirst_25 : decode cX9_comesFirst 25 = .ok (.iastore, 1) := kqo_4f kbl_X9_comesFirst (pc := 25) rfl
theorem dX9_comesFirst_26 : decode cX9_comesFirst 26 = .ok (.iinc 3 (-1), 3) := kqo_84 (x1 := 3) (x2 := 255) kbl_X9_comesFirst (pc := 26) rfl rfl
theorem dX9_comesFirst_29 : decode cX9_comesFirst 29 = .ok (.goto (-21), 3) := kqo_a7 (x1 := 255) (x2 := 235) kbl_X9_comesFirst (pc := 29) rfl rfl
theorem dX9_comesFirst_32 : decode cX9_comesFirst 32 = .ok (.aload_n 0, 1) := kqo_2a kbl_X9_comesFirst (pc := 32) rfl
theorem dX9_comesFirst_33 : decode cX9_comesFirst 33 = .ok (.getfield 28, 3) := kqo_b4 (x1 := 0) (x2 := 28) kbl_X9_comesFirst (pc := 33) rfl rfl
theorem dX9_comesFirst_36 : decode cX9_comesFirst 36 = .ok (.iconst 0, 1) := kqo_03 kbl_X9_comesFirst (pc := 36) rfl
theorem dX9_comesFirst_37 : decode cX9_comesFirst 37 = .ok (.iload_n 1, 1) := kqo_1b kbl_X9_comesFirst (pc := 37) rfl
theorem dX9_comesFirst_38 : decode cX9_comesFirst 38 = .ok (.iastore, 1) := kqo_4f kbl_X9_comesFirst (pc := 38) rfl
theorem dX9_comesFirst_39 : decode cX9_comesFirst 39 = .ok (.iload_n 2, 1) := kqo_1c kbl_X9_comesFirst (pc := 39) rfl
theorem dX9_comesFirst_40 : decode cX9_comesFirst 40 = .ok (.ireturn, 1) := kqo_ac kbl_X9_comesFirst (pc := 40) rfl
set_option maxRecDepth 20000 in
theorem ggX9_comesFirst_X9_placeOf : GoodIn wsX9_comesFirst wsX9_placeOf := goodIn_4 _ (List.forall_mem_cons.mpr ⟨List.mem_cons_of_mem _ (List.mem_append_left _ (List.mem_of_getElem? (i := 5) rfl)), List.forall_mem_append.mpr ⟨List.forall_mem_cons.mpr ⟨List.mem_cons_of_mem _ (List.mem_append_left _ (List.mem_of_getElem? (i := 0) rfl)), fun _ h9 => absurd h9 List.not_mem_nil⟩, fun w h9 => List.mem_cons_of_mem _ (List.mem_append_right _ (h9))⟩⟩) (by decide +kernel)
set_option maxRecDepth 20000 in
theorem gX9_comesFirst_X9_placeOf : GoodIn wsX9_comesFirst (wsV RX9 126 RX9 yX9_placeOf wsX9_placeOf) := goodIn_app (goodIn_4 _ (List.forall_mem_cons.mpr ⟨List.mem_cons_of_mem _ (List.mem_append_left _ (List.mem_of_getElem? (i := 1) rfl)), List.forall_mem_cons.mpr ⟨List.mem_cons_of_mem _ (List.mem_append_left _ (List.mem_of_getElem? (i := 2) rfl)), List.forall_mem_cons.mpr ⟨List.mem_cons_of_mem _ (List.mem_append_left _ (List.mem_of_getElem? (i := 3) rfl)), List.forall_mem_cons.mpr ⟨List.mem_cons_of_mem _ (List.mem_append_left _ (List.mem_of_getElem? (i := 4) rfl)), fun _ h9 => absurd h9 List.not_mem_nil⟩⟩⟩⟩) (by decide +kernel)) ggX9_comesFirst_X9_placeOf
set_option maxRecDepth 20000 in
theorem mw_X9_comesFirst_0 : (.fieldLink RX9 28 "FontRunsModel" "preference" "[I" : Cond) ∈ wsX9_comesFirst := List.mem_cons_of_mem _ (List.mem_append_left _ (List.mem_of_getElem? (i := 0) rfl))
theorem ax_X9_comesFirst_0 {e0 e1 : Nat × va_E} : ([0, 1] : List Nat).map (fun i => ([e0, e1] : va_W)[i]?) = ([e0, e1] : va_W).map some := rfl
set_option maxHeartbeats 4000000 in
set_option maxRecDepth 100000 in
theorem c_X9_comesFirst (l : Launch) (D : va_G) (sz : Nat) (f : Int) (h0 : Nat) (fa : Int) (tc : Int) (so : Nat) (sl : Nat) (ce : Nat) (fn : Int) (kd : Nat) (wd : Nat) (hs : Nat) (pf : Nat) (lt : Nat) (mn : Int) (wg : Nat) (ta : Int) (ck : Int64) (at9 : Int) (rfn : Int) (rk : Nat) (rw : Nat) (rh : Nat) (cl : Int) (sa : Nat) (fi : Nat) (bo : Int) (ch : Nat) (cn : Nat) (ad : Int) (ru : Int) (kp : Nat) (dn : Int) (rfa : Nat) (c_pf : ClassId) (f_pf : Nat → Int32) (q0 : 0 ≤ f ∧ f < fn) (q1 : 0 ≤ fn ∧ fn ≤ 4) (q2 : kPm f_pf fn) : Met l yX9_comesFirst wsX9_comesFirst ({ frames := 1, cells := 0, slots := 0, locals := 22 }) (kPre [.ref h0, .int (zI f)] D [(h0, .inr (9, [.int (zI fa), .int (zI tc), .ref so, .ref sl, .ref ce, .int (zI fn), .ref kd, .ref wd, .ref hs, .ref pf, .ref lt, .int (zI mn), .ref wg, .int (zI ta), .long ck, .int (zI at9), .int (zI rfn), .ref rk, .ref rw, .ref rh, .int (zI cl), .ref sa, .ref fi, .int (zI bo), .ref ch, .ref cn, .int (zI ad), .int (zI ru), .ref kp, .int (zI dn), .ref rfa])), (pf, .inl (c_pf, 4, .inl f_pf))] [(c_pf, .int)] sz) (kQS (fun rz t => ∃ (u_f_pf : Nat → Int32), (kPm u_f_pf fn) ∧ (0 ≤ rz ∧ rz < fn) ∧ va_P D vwCl [(h0, .inr (9, [.int (zI fa), .int (zI tc), .ref so, .ref sl, .ref ce, .int (zI fn), .ref kd, .ref wd, .ref hs, .ref pf, .ref lt, .int (zI mn), .ref wg, .int (zI ta), .long ck, .int (zI at9), .int (zI rfn), .ref rk, .ref rw, .ref rh, .int (zI cl), .ref sa, .ref fi, .int (zI bo), .ref ch, .ref cn, .int (zI ad), .int (zI ru), .ref kp, .int (zI dn), .ref rfa])), (pf, .inl (c_pf, 4, .inl u_f_pf))] t.heap ∧ va_D (va_A [(h0, .inr (9, [.int (zI fa), .int (zI tc), .ref so, .ref sl, .ref ce, .int (zI fn), .ref kd, .ref wd, .ref hs, .ref pf, .ref lt, .int (zI mn), .ref wg, .int (zI ta), .long ck, .int (zI at9), .int (zI rfn), .ref rk, .ref rw, .ref rh, .int (zI cl), .ref sa, .ref fi, .int (zI bo), .ref ch, .ref cn, .int (zI ad), .int (zI ru), .ref kp, .int (zI dn), .ref rfa])), (pf, .inl (c_pf, 4, .inl f_pf))] sz) [(h0, .inr (9, [.int (zI fa), .int (zI tc), .ref so, .ref sl, .ref ce, .int (zI fn), .ref kd, .ref wd, .ref hs, .ref pf, .ref lt, .int (zI mn), .ref wg, .int (zI ta), .long ck, .int (zI at9), .int (zI rfn), .ref rk, .ref rw, .ref rh, .int (zI cl), .ref sa, .ref fi, .int (zI bo), .ref ch, .ref cn, .int (zI ad), .int (zI ru), .ref kp, .int (zI dn), .ref rfa])), (pf, .inl (c_pf, 4, .inl u_f_pf))]) (va_A [(h0, .inr (9, [.int (zI fa), .int (zI tc), .ref so, .ref sl, .ref ce, .int (zI fn), .ref kd, .ref wd, .ref hs, .ref pf, .ref lt, .int (zI mn), .ref wg, .int (zI ta), .long ck, .int (zI at9), .int (zI rfn), .ref rk, .ref rw, .ref rh, .int (zI cl), .ref sa, .ref fi, .int (zI bo), .ref ch, .ref cn, .int (zI ad), .int (zI ru), .ref kp, .int (zI dn), .ref rfa])), (pf, .inl (c_pf, 4, .inl f_pf))] sz)) 0 0 (va_A [(h0, .inr (9, [.int (zI fa), .int (zI tc), .ref so, .ref sl, .ref ce, .int (zI fn), .ref kd, .ref wd, .ref hs, .ref pf, .ref lt, .int (zI mn), .ref wg, .int (zI ta), .long ck, .int (zI at9), .int (zI rfn), .ref rk, .ref rw, .ref rh, .int (zI cl), .ref sa, .ref fi, .int (zI bo), .ref ch, .ref cn, .int (zI ad), .int (zI ru), .ref kp, .int (zI dn), .ref rfa])), (pf, .inl (c_pf, 4, .inl f_pf))] sz) := by
  refine Met.ofW (cc := cX9_comesFirst) (maxL := 4) (ret := (some .int)) (by decide) rfl ?_
  intro p e s m args below meth c s₁ B hml hv
  obtain ⟨rfl, hsz, hP, hK, hD0, hN⟩ := hv
  have hx := B.exec
  have hb := B.bytes
  have hr := B.returns
  have hts := atoms_spec (ws := wsX9_comesFirst) B.pre
  have hown : s.vm.findClass RX9 = some m.cls := findClass_of_methodNamed B.named
  have hlocks := B.notSynchronized
  subst hsz
  have hD := hD0.self (sz := s.heap.size)
  generalize hAe : va_A [(h0, .inr (9, [.int (zI fa), .int (zI tc), .ref so, .ref sl, .ref ce, .int (zI fn), .ref kd, .ref wd, .ref hs, .ref pf, .ref lt, .int (zI mn), .ref wg, .int (zI ta), .long ck, .int (zI at9), .int (zI rfn), .ref rk, .ref rw, .ref rh, .int (zI cl), .ref sa, .ref fi, .int (zI bo), .ref ch, .ref cn, .int (zI ad), .int (zI ru), .ref kp, .int (zI dn), .ref rfa])), (pf, .inl (c_pf, 4, .inl f_pf))] s.heap.size = A at hD ⊢
  have hA : ∀ q : Nat, s.heap.size ≤ q → A q := fun q h => by rw [← hAe]; exact Or.inr h
  have hS : va_S A s.heap s.heap [] := va_S.rf
  have hP : va_P D vwCl [(h0, .inr (9, [.int (zI fa), .int (zI tc), .ref so, .ref sl, .ref ce, .int (zI fn), .ref kd, .ref wd, .ref hs, .ref pf, .ref lt, .int (zI mn), .ref wg, .int (zI ta), .long ck, .int (zI at9), .int (zI rfn), .ref rk, .ref rw, .ref rh, .int (zI cl), .ref sa, .ref fi, .int (zI bo), .ref ch, .ref cn, .int (zI ad), .int (zI ru), .ref kp, .int (zI dn), .ref rfa])), (pf, .inl (c_pf, 4, .inl f_pf))] s.heap := hP
  have hl := lv_entry ([.ref h0, .int (zI f)]) (n := 4) (Nat.le_of_ble_eq_true rfl)
  rw [lg_entry_eq]
  generalize (lg_sl ([.ref h0, .int (zI f)]) ++ List.replicate (4 - (lg_sl ([.ref h0, .int (zI f)])).length) Slot.unset).toArray = ls at hl ⊢
  have hl : lv_has ls 4 [(0, .ref h0), (1, .int (zI f))] := hl
  refine lv_aload_n hx hb dX9_comesFirst_0 rfl (lv_at hl 0 rfl) ?_
  refine lv_iload_n hx hb dX9_comesFirst_1 rfl (lv_at hl 1 rfl) ?_
  refine k_callP (va_runV (As := [.int (zI f)]) (rest := []) ⟨hx, hb, hml, hown, hts⟩ (c_X9_placeOf l D s.heap.size (f := f) (h0 := h0) (fa := fa) (tc := tc) (so := so) (sl := sl) (ce := ce) (fn := fn) (kd := kd) (wd := wd) (hs := hs) (pf := pf) (lt := lt) (mn := mn) (wg := wg) (ta := ta) (ck := ck) (at9 := at9) (rfn := rfn) (rk := rk) (rw := rw) (rh := rh) (cl := cl) (sa := sa) (fi := fi) (bo := bo) (ch := ch) (cn := cn) (ad := ad) (ru := ru) (kp := kp) (dn := dn) (rfa := rfa) (c_pf := c_pf) (f_pf := f_pf) q0 q1 q2) (cwV 1 hts gX9_comesFirst_X9_placeOf rfl rfl rfl (by decide +kernel) ⟨Nat.le_of_ble_eq_true rfl, Nat.le_of_ble_eq_true rfl⟩) (kPreV hP (kD0 hD) hK hN [0, 1] [0] ax_X9_comesFirst_0 rfl (by decide +kernel) 0 9 rfl rfl) rfl rfl hl.1 rfl (lv_room (Nat.le_of_ble_eq_true rfl)) dX9_comesFirst_2 ⟨Nat.le_of_ble_eq_true rfl, Nat.le_of_ble_eq_true rfl⟩) (fun z_1 rz_1 h_2 => ?_)
  refine lv_istore_n (lv' := [(2, .int (zI z_1)), (0, .ref h0), (1, .int (zI f))]) hx hb dX9_comesFirst_5 rfl hl (by decide) rfl (fun ls hl => ?_)
  refine lv_iload_n hx hb dX9_comesFirst_6 rfl (lv_at hl 0 rfl) ?_
  refine lv_istore_n (lv' := [(3, .int (zI z_1)), (2, .int (zI z_1)), (0, .ref h0), (1, .int (zI f))]) hx hb dX9_comesFirst_7 rfl hl (by decide) rfl (fun ls hl => ?_)
  refine k_loopM (I := fun n9 H locs ls => ∃ (jk : Int) (ja : Nat → Int32), n9 = (jk).toNat ∧ (0 ≤ jk ∧ jk ≤ z_1) ∧ (ja = kMv f_pf z_1 jk) ∧ va_P D vwCl [(h0, .inr (9, [.int (zI fa), .int (zI tc), .ref so, .ref sl, .ref ce, .int (zI fn), .ref kd, .ref wd, .ref hs, .ref pf, .ref lt, .int (zI mn), .ref wg, .int (zI ta), .long ck, .int (zI at9), .int (zI rfn), .ref rk, .ref rw, .ref rh, .int (zI cl), .ref sa, .ref fi, .int (zI bo), .ref ch, .ref cn, .int (zI ad), .int (zI ru), .ref kp, .int (zI dn), .ref rfa])), (pf, .inl (c_pf, 4, .inl ja))] H ∧ va_D A [(h0, .inr (9, [.int (zI fa), .int (zI tc), .ref so, .ref sl, .ref ce, .int (zI fn), .ref kd, .ref wd, .ref hs, .ref pf, .ref lt, .int (zI mn), .ref wg, .int (zI ta), .long ck, .int (zI at9), .int (zI rfn), .ref rk, .ref rw, .ref rh, .int (zI cl), .ref sa, .ref fi, .int (zI bo), .ref ch, .ref cn, .int (zI ad), .int (zI ru), .ref kp, .int (zI dn), .ref rfa])), (pf, .inl (c_pf, 4, .inl ja))] ∧ va_S A s.heap H locs ∧ lv_has ls 4 [(3, .int (zI jk)), (2, .int (zI z_1)), (0, .ref h0), (1, .int (zI f))]) ?_ _ ⟨z_1, f_pf, rfl, (by omega), (kMv_0 _ _).symm, hP, hD, hS, hl⟩
  intro n8 ih8 H locs ls hI
  obtain ⟨jk, ja, en8, v_80, v_81, hP, hD, hS, hl⟩ := hI
  refine lv_iload_n hx hb dX9_comesFirst_8 rfl (lv_at hl 0 rfl) ?_
  refine kz_if_le (tgt := 32) hx hb dX9_comesFirst_9 (by decide) (by omega) (fun c_3 => ?_) (fun c_3 => ?_)
  · refine lv_aload_n hx hb dX9_comesFirst_32 rfl (lv_at hl 2 rfl) ?_
    refine va_get (D := D) (ci := 9) (v := .ref pf) (C := RX9) (T := TX9) (N := 31) hx hb hts (fun _ h9 => List.mem_cons_of_mem _ (List.mem_append_right _ h9)) hown hK hP 0 rfl rfl 9 (by decide) (hts (.fieldLink RX9 28 "FontRunsModel" "preference" "[I") mw_X9_comesFirst_0) (fun _ h9 => h9) rfl dX9_comesFirst_33 ?_
    refine lv_iconst (v := zI 0) hx hb dX9_comesFirst_36 rfl ?_
    refine lv_iload_n hx hb dX9_comesFirst_37 rfl (lv_at hl 3 rfl) ?_
    refine kz_iast hx hb hK hP hD hS 1 0 rfl rfl (by omega) dX9_comesFirst_38 (fun H locs hP hD hS => ?_)
    have hP : va_P D vwCl [(h0, .inr (9, [.int (zI fa), .int (zI tc), .ref so, .ref sl, .ref ce, .int (zI fn), .ref kd, .ref wd, .ref hs, .ref pf, .ref lt, .int (zI mn), .ref wg, .int (zI ta), .long ck, .int (zI at9), .int (zI rfn), .ref rk, .ref rw, .ref rh, .int (zI cl), .ref sa, .ref fi, .int (zI bo), .ref ch, .ref cn, .int (zI ad), .int (zI ru), .ref kp, .int (zI dn), .ref rfa])), (pf, .inl (c_pf, 4, .inl (upd ja (0 : Int).toNat (zI f))))] H := hP
    have hD : va_D A [(h0, .inr (9, [.int (zI fa), .int (zI tc), .ref so, .ref sl, .ref ce, .int (zI fn), .ref kd, .ref wd, .ref hs, .ref pf, .ref lt, .int (zI mn), .ref wg, .int (zI ta), .long ck, .int (zI at9), .int (zI rfn), .ref rk, .ref rw, .ref rh, .int (zI cl), .ref sa, .ref fi, .int (zI bo), .ref ch, .ref cn, .int (zI ad), .int (zI ru), .ref kp, .int (zI dn), .ref rfa])), (pf, .inl (c_pf, 4, .inl (upd ja (0 : Int).toNat (zI f))))] := hD
    generalize ef_4 : upd ja (0 : Int).toNat (zI f) = f_4 at hP hD
    refine lv_iload_n hx hb dX9_comesFirst_39 rfl (lv_at hl 1 rfl) ?_
    have hP9 := hP.sub (ws' := [(h0, .inr (9, [.int (zI fa), .int (zI tc), .ref so, .ref sl, .ref ce, .int (zI fn), .ref kd, .ref wd, .ref hs, .ref pf, .ref lt, .int (zI mn), .ref wg, .int (zI ta), .long ck, .int (zI at9), .int (zI rfn), .ref rk, .ref rw, .ref rh, .int (zI cl), .ref sa, .ref fi, .int (zI bo), .ref ch, .ref cn, .int (zI ad), .int (zI ru), .ref kp, .int (zI dn), .ref rfa])), (pf, .inl (c_pf, 4, .inl f_4))]) [0, 1] rfl
    have hD9 := hD.sub (ws' := [(h0, .inr (9, [.int (zI fa), .int (zI tc), .ref so, .ref sl, .ref ce, .int (zI fn), .ref kd, .ref wd, .ref hs, .ref pf, .ref lt, .int (zI mn), .ref wg, .int (zI ta), .long ck, .int (zI at9), .int (zI rfn), .ref rk, .ref rw, .ref rh, .int (zI cl), .ref sa, .ref fi, .int (zI bo), .ref ch, .ref cn, .int (zI ad), .int (zI ru), .ref kp, .int (zI dn), .ref rfa])), (pf, .inl (c_pf, 4, .inl f_4))]) [0, 1] (by decide +kernel) rfl
    exact W.iret (v := (zI z_1)) hx hb hr (fun t ht hW => kQS_of (by omega) ⟨f_4, (by rw [← ef_4, v_81, show jk = 0 by omega]; exact kPm_mv q2 (by omega) (by omega) (by omega) h_2.2), (by omega), by rw [ht]; exact hP9, hD9⟩ (hS.F ht)) hS.2.2 dX9_comesFirst_40
  · refine lv_aload_n hx hb dX9_comesFirst_12 rfl (lv_at hl 2 rfl) ?_
    refine va_get (D := D) (ci := 9) (v := .ref pf) (C := RX9) (T := TX9) (N := 31) hx hb hts (fun _ h9 => List.mem_cons_of_mem _ (List.mem_append_right _ h9)) hown hK hP 0 rfl rfl 9 (by decide) (hts (.fieldLink RX9 28 "FontRunsModel" "preference" "[I") mw_X9_comesFirst_0) (fun _ h9 => h9) rfl dX9_comesFirst_13 ?_
    refine lv_iload_n hx hb dX9_comesFirst_16 rfl (lv_at hl 0 rfl) ?_
    refine lv_aload_n hx hb dX9_comesFirst_17 rfl (lv_at hl 2 rfl) ?_
    refine va_get (D := D) (ci := 9) (v := .ref pf) (C := RX9) (T := TX9) (N := 31) hx hb hts (fun _ h9 => List.mem_cons_of_mem _ (List.mem_append_right _ h9)) hown hK hP 0 rfl rfl 9 (by decide) (hts (.fieldLink RX9 28 "FontRunsModel" "preference" "[I") mw_X9_comesFirst_0) (fun _ h9 => h9) rfl dX9_comesFirst_18 ?_
    refine lv_iload_n hx hb dX9_comesFirst_21 rfl (lv_at hl 0 rfl) ?_
    refine lv_iconst (v := zI 1) hx hb dX9_comesFirst_22 rfl ?_
    refine kz_isub hx hb dX9_comesFirst_23 ?_
    refine kz_iald hx hb hK hP 1 0 rfl rfl (by omega) dX9_comesFirst_24 (fun z_5 rz_5 ez_5 => ?_)
    refine kz_iast hx hb hK hP hD hS 1 0 rfl rfl (by omega) dX9_comesFirst_25 (fun H locs hP hD hS => ?_)
    have hP : va_P D vwCl [(h0, .inr (9, [.int (zI fa), .int (zI tc), .ref so, .ref sl, .ref ce, .int (zI fn), .ref kd, .ref wd, .ref hs, .ref pf, .ref lt, .int (zI mn), .ref wg, .int (zI ta), .long ck, .int (zI at9), .int (zI rfn), .ref rk, .ref rw, .ref rh, .int (zI cl), .ref sa, .ref fi, .int (zI bo), .ref ch, .ref cn, .int (zI ad), .int (zI ru), .ref kp, .int (zI dn), .ref rfa])), (pf, .inl (c_pf, 4, .inl (upd ja (jk).toNat (zI z_5))))] H := hP
    have hD : va_D A [(h0, .inr (9, [.int (zI fa), .int (zI tc), .ref so, .ref sl, .ref ce, .int (zI fn), .ref kd, .ref wd, .ref hs, .ref pf, .ref lt, .int (zI mn), .ref wg, .int (zI ta), .long ck, .int (zI at9), .int (zI rfn), .ref rk, .ref rw, .ref rh, .int (zI cl), .ref sa, .ref fi, .int (zI bo), .ref ch, .ref cn, .int (zI ad), .int (zI ru), .ref kp, .int (zI dn), .ref rfa])), (pf, .inl (c_pf, 4, .inl (upd ja (jk).toNat (zI z_5))))] := hD
    generalize ef_6 : upd ja (jk).toNat (zI z_5) = f_6 at hP hD
    refine lv_iinc (v := (zI (jk - 1))) (lv' := [(3, .int (zI (jk - 1))), (2, .int (zI z_1)), (0, .ref h0), (1, .int (zI f))]) hx hb dX9_comesFirst_26 hl (k := 0) rfl (kz_dec _ 1) (by decide) rfl (fun ls hl => ?_)
    refine lv_goto (tgt := 8) hx hb dX9_comesFirst_29 (by decide) ?_
    exact ih8 _ (by omega) _ _ _ ⟨(jk - 1), f_6, rfl, (by omega), (by rw [← ef_6, v_81]; exact kMv_1 f_pf (by omega) (by rw [← v_81]; exact ez_5)), hP, hD, hS, lv_sub hl [0, 1, 2, 3] rfl⟩
/-! what can be set, and the fewest changes behind -/
abbrev kCan (x : Int32) (f wo : Int) : Prop := ¬ f = wo ∧ (x = 0 ∨ (x >>> (zI f &&& 31)) &&& 1 = 1)
def kdl (g f : Int) : Int := if g = f then 0 else 1
theorem kdl_le (g f : Int) : 0 ≤ kdl g f ∧ kdl g f ≤ 1 := by unfold kdl; split <;> omega
def kch (ch : Nat → Int32) (c f : Int) : Int := (ch (4 * c + f).toNat).toInt
theorem kch_at {ch : Nat → Int32} {c f z : Int} (hz : rg z) (e : ch (4 * c + f).toNat = zI z) : kch ch c f = z := by
  unfold kch
  rw [e, zI_toInt hz]
theorem kch_same {ch : Nat → Int32} {c f v : Int} (hv : rg v) : kch (upd ch (4 * c + f).toNat (zI v)) c f = v := by
  unfold kch
  rw [pk_us, zI_toInt hv]
theorem kch_other {ch : Nat → Int32} {c f c2 f2 : Int} {x : Int32} (h : 0 ≤ c ∧ 0 ≤ f ∧ f < 4) (h2 : 0 ≤ c2 ∧ 0 ≤ f2 ∧ f2 < 4) (ne : ¬ (c2 = c ∧ f2 = f)) : kch (upd ch (4 * c + f).toNat x) c2 f2 = kch ch c2 f2 := by
  unfold kch
  rw [pk_un (by omega)]
def kFewI (ch fi : Nat → Int32) (wo c f j b : Int) : Prop := 0 ≤ b ∧ b ≤ 24 ∧ (∀ g : Int, 0 ≤ g → g < j → kCan (fi (c + 1).toNat) g wo → b ≤ kch ch (c + 1) g + kdl g f) ∧ (b = 24 ∨ ∃ g : Int, 0 ≤ g ∧ g < j ∧ kCan (fi (c + 1).toNat) g wo ∧ b = kch ch (c + 1) g + kdl g f)
section
variable {ch fi : Nat → Int32} {fn cl wo c f j b v : Int}
theorem kFewI_0 : kFewI ch fi wo c f 0 24 := ⟨by omega, by omega, fun g h1 h2 => by omega, Or.inl rfl⟩
theorem kFewI_b (h : kFewI ch fi wo c f j b) : 0 ≤ b ∧ b ≤ 24 := ⟨h.1, h.2.1⟩
theorem kFewI_no (h : kFewI ch fi wo c f j b) (hn : ¬ kCan (fi (c + 1).toNat) j wo) : kFewI ch fi wo c f (j + 1) b := by
  obtain ⟨h1, h2, h3, h4⟩ := h
  refine ⟨h1, h2, fun g g1 g2 g3 => ?_, ?_⟩
  · by_cases e : g = j
    · subst e
      exact absurd g3 hn
    · exact h3 g g1 (by omega) g3
  · rcases h4 with h4 | ⟨g, g1, g2, g3, g4⟩
    · exact Or.inl h4
    · exact Or.inr ⟨g, g1, by omega, g3, g4⟩
theorem kFewI_lt (h : kFewI ch fi wo c f j b) (hj : 0 ≤ j) (hc : kCan (fi (c + 1).toNat) j wo) (h0 : 0 ≤ v) (hv : v = kch ch (c + 1) j + kdl j f) (hlt : v < b) : kFewI ch fi wo c f (j + 1) v := by
  obtain ⟨h1, h2, h3, h4⟩ := h
  refine ⟨h0, by omega, fun g g1 g2 g3 => ?_, Or.inr ⟨j, hj, by omega, hc, hv⟩⟩
  by_cases e : g = j
  · subst e
    omega
  · have := h3 g g1 (by omega) g3
    omega
theorem kFewI_ge (h : kFewI ch fi wo c f j b) (hv : v = kch ch (c + 1) j + kdl j f) (hge : b ≤ v) : kFewI ch fi wo c f (j + 1) b := by
  obtain ⟨h1, h2, h3, h4⟩ := h
  refine ⟨h1, h2, fun g g1 g2 g3 => ?_, ?_⟩
  · by_cases e : g = j
    · subst e
      omega
    · exact h3 g g1 (by omega) g3
  · rcases h4 with h4 | ⟨g, g1, g2, g3, g4⟩
    · exact Or.inl h4
    · exact Or.inr ⟨g, g1, by omega, g3, g4⟩
end
/-- the entry (c, f) is as it must be, by the row behind -/
def kGood (ch fi : Nat → Int32) (fn cl wo c f : Int) : Prop := 0 ≤ kch ch c f ∧ kch ch c f ≤ 24 ∧ (c + 1 = cl → kch ch c f = 0) ∧ (c + 1 < cl → kFewI ch fi wo c f fn (kch ch c f))
def kDp (ch fi : Nat → Int32) (fn cl wo c0 : Int) : Prop := ∀ c f : Int, c0 ≤ c → c < cl → 0 ≤ f → f < fn → kGood ch fi fn cl wo c f
def kRw (ch fi : Nat → Int32) (fn cl wo c j : Int) : Prop := ∀ f : Int, 0 ≤ f → f < j → kGood ch fi fn cl wo c f
def kFit (fi : Nat → Int32) (fn cl wo : Int) : Prop := ∀ c : Int, 0 ≤ c → c < cl → ∃ f : Int, 0 ≤ f ∧ f < fn ∧ kCan (fi c.toNat) f wo
theorem kFewI_upd {ch fi : Nat → Int32} {wo c f j b : Int} {c2 f2 : Int} {x : Int32} (hc : 0 ≤ c) (h2 : 0 ≤ c2 ∧ 0 ≤ f2 ∧ f2 < 4) (hj : j ≤ 4) (ne : ¬ c + 1 = c2) (h : kFewI ch fi wo c f j b) : kFewI (upd ch (4 * c2 + f2).toNat x) fi wo c f j b := by
  obtain ⟨h1, h2', h3, h4⟩ := h
  refine ⟨h1, h2', fun g g1 g2 g3 => ?_, ?_⟩
  · clear h4
    rw [kch_other h2 (by omega) (by omega)]
    exact h3 g g1 g2 g3
  · rcases h4 with h4 | ⟨g, g1, g2, g3, g4⟩
    · exact Or.inl h4
    · exact Or.inr ⟨g, g1, g2, g3, by rw [kch_other h2 (by omega) (by omega)]; exact g4⟩
theorem kGood_upd {ch fi : Nat → Int32} {fn cl wo c f c2 f2 : Int} {x : Int32} (hc : 0 ≤ c ∧ 0 ≤ f ∧ f < fn ∧ fn ≤ 4) (h2 : 0 ≤ c2 ∧ 0 ≤ f2 ∧ f2 < 4) (ne : ¬ (c = c2 ∧ f = f2)) (ne2 : c2 ≤ c) (h : kGood ch fi fn cl wo c f) : kGood (upd ch (4 * c2 + f2).toNat x) fi fn cl wo c f := by
  obtain ⟨h1, h3, h4, h5⟩ := h
  unfold kGood
  rw [kch_other h2 (by omega) ne]
  exact ⟨h1, h3, h4, fun q => kFewI_upd (by omega) h2 (by omega) (by omega) (h5 q)⟩
theorem kDp_top {ch fi : Nat → Int32} {fn cl wo c0 : Int} (h : cl ≤ c0) : kDp ch fi fn cl wo c0 := fun c f h1 h2 => by omega
theorem kRw_0 {ch fi : Nat → Int32} {fn cl wo c : Int} : kRw ch fi fn cl wo c 0 := fun f h1 h2 => by omega
theorem kDp_dn {ch fi : Nat → Int32} {fn cl wo c : Int} (h : kDp ch fi fn cl wo (c + 1)) (h2 : kRw ch fi fn cl wo c fn) : kDp ch fi fn cl wo c := by
  intro c' f h3 h4 h5 h6
  by_cases e : c' = c
  · subst e
    exact h2 f h5 h6
  · exact h c' f (by omega) h4 h5 h6
theorem kDp_upd {ch fi : Nat → Int32} {fn cl wo c f : Int} {x : Int32} (hc : 0 ≤ c ∧ 0 ≤ f ∧ f < fn ∧ fn ≤ 4) (h : kDp ch fi fn cl wo (c + 1)) : kDp (upd ch (4 * c + f).toNat x) fi fn cl wo (c + 1) := fun c' f' h1 h2 h3 h4 => kGood_upd (by omega) (by omega) (by omega) (by omega) (h c' f' h1 h2 h3 h4)
theorem kRw_upd {ch fi : Nat → Int32} {fn cl wo c f v : Int} (hc : 0 ≤ c ∧ 0 ≤ f ∧ f < fn ∧ fn ≤ 4) (h : kRw ch fi fn cl wo c f) (hv : 0 ≤ v ∧ v ≤ 24) (h1 : c + 1 = cl → v = 0) (h2 : c + 1 < cl → kFewI ch fi wo c f fn v) : kRw (upd ch (4 * c + f).toNat (zI v)) fi fn cl wo c (f + 1) := by
  intro f' h3 h4
  by_cases e : f' = f
  · subst e
    unfold kGood
    rw [kch_same (by omega)]
    exact ⟨hv.1, hv.2, h1, fun q => kFewI_upd (by omega) (by omega) (by omega) (by omega) (h2 q)⟩
  · exact kGood_upd (by omega) (by omega) (by omega) (by omega) (h f' h3 (by omega))
/-- the entries are small: so the least is attained -/
theorem kDp_le {ch fi : Nat → Int32} {fn cl wo : Int} (h : kDp ch fi fn cl wo 0) (hf : kFit fi fn cl wo) : ∀ (n : Nat) (c f : Int), (cl - 1 - c).toNat = n → 0 ≤ c → c < cl → 0 ≤ f → f < fn → kch ch c f ≤ cl - 1 - c := by
  intro n
  induction n with
  | zero =>
    intro c f h1 h2 h3 h4 h5
    have := (h c f h2 h3 h4 h5).2.2.1 (by omega)
    omega
  | succ n ih =>
    intro c f h1 h2 h3 h4 h5
    obtain ⟨g, g1, g2, g3⟩ := hf (c + 1) (by omega) (by omega)
    have q := ((h c f h2 h3 h4 h5).2.2.2 (by omega)).2.2.1 g g1 g2 g3
    have q2 := ih (c + 1) g (by omega) (by omega) (by omega) g1 g2
    have q3 := kdl_le g f
    omega
theorem kDp_get {ch fi : Nat → Int32} {fn cl wo c f : Int} (h : kDp ch fi fn cl wo 0) (hf : kFit fi fn cl wo) (hcl : cl ≤ 24) (h2 : 0 ≤ c) (h3 : c + 1 < cl) (h4 : 0 ≤ f) (h5 : f < fn) : ∃ g : Int, 0 ≤ g ∧ g < fn ∧ kCan (fi (c + 1).toNat) g wo ∧ kch ch c f = kch ch (c + 1) g + kdl g f := by
  have q := kDp_le h hf _ c f rfl h2 (by omega) h4 h5
  rcases ((h c f h2 (by omega) h4 h5).2.2.2 h3).2.2.2 with e | e
  · omega
  · exact e
/-- the least over the first cluster -/
def kBe (ch fi : Nat → Int32) (wo j b : Int) : Prop := 0 ≤ b ∧ b ≤ 24 ∧ (∀ g : Int, 0 ≤ g → g < j → kCan (fi (0 : Int).toNat) g wo → b ≤ kch ch 0 g) ∧ (b = 24 ∨ ∃ g : Int, 0 ≤ g ∧ g < j ∧ kCan (fi (0 : Int).toNat) g wo ∧ b = kch ch 0 g)
theorem kBe_0 {ch fi : Nat → Int32} {wo : Int} : kBe ch fi wo 0 24 := ⟨by omega, by omega, fun g h1 h2 => by omega, Or.inl rfl⟩
theorem kBe_no {ch fi : Nat → Int32} {wo j b : Int} (h : kBe ch fi wo j b) (hn : ¬ kCan (fi (0 : Int).toNat) j wo) : kBe ch fi wo (j + 1) b := by
  obtain ⟨h1, h2, h3, h4⟩ := h
  refine ⟨h1, h2, fun g g1 g2 g3 => ?_, ?_⟩
  · by_cases e : g = j
    · subst e
      exact absurd g3 hn
    · exact h3 g g1 (by omega) g3
  · rcases h4 with h4 | ⟨g, g1, g2, g3, g4⟩
    · exact Or.inl h4
    · exact Or.inr ⟨g, g1, by omega, g3, g4⟩
theorem kBe_lt {ch fi : Nat → Int32} {wo j b v : Int} (h : kBe ch fi wo j b) (hj : 0 ≤ j) (hc : kCan (fi (0 : Int).toNat) j wo) (h0 : 0 ≤ v) (hv : v = kch ch 0 j) (hlt : v < b) : kBe ch fi wo (j + 1) v := by
  obtain ⟨h1, h2, h3, h4⟩ := h
  refine ⟨h0, by omega, fun g g1 g2 g3 => ?_, Or.inr ⟨j, hj, by omega, hc, hv⟩⟩
  by_cases e : g = j
  · subst e
    omega
  · have := h3 g g1 (by omega) g3
    omega
theorem kBe_ge {ch fi : Nat → Int32} {wo j b v : Int} (h : kBe ch fi wo j b) (hv : v = kch ch 0 j) (hge : b ≤ v) : kBe ch fi wo (j + 1) b := by
  obtain ⟨h1, h2, h3, h4⟩ := h
  refine ⟨h1, h2, fun g g1 g2 g3 => ?_, ?_⟩
  · by_cases e : g = j
    · subst e
      omega
    · exact h3 g g1 (by omega) g3
  · rcases h4 with h4 | ⟨g, g1, g2, g3, g4⟩
    · exact Or.inl h4
    · exact Or.inr ⟨g, g1, by omega, g3, g4⟩
/-- what is left at cluster c is attained -/
abbrev kIts (cn : Nat → Int32) (c f : Int) : Int := if 0 < c ∧ ¬ (cn (c - 1).toNat).toInt = f then 1 else 0
abbrev kIsB (ch fi cn : Nat → Int32) (c f lf : Int) : Prop := kCan (fi c.toNat) f (-9) ∧ kch ch c f + kIts cn c f = lf
def kLeft (ch fi cn : Nat → Int32) (fn cl c lf : Int) : Prop := c < cl → ∃ g : Int, 0 ≤ g ∧ g < fn ∧ kIsB ch fi cn c g lf
theorem kLeft_0 {ch fi cn : Nat → Int32} {fn cl b : Int} (h : kDp ch fi fn cl (-9) 0) (hf : kFit fi fn cl (-9)) (hcl : cl ≤ 24) (hb : 0 < cl → kBe ch fi (-9) fn b) : kLeft ch fi cn fn cl 0 b := by
  intro hc
  obtain ⟨f, f1, f2, f3⟩ := hf 0 (by omega) hc
  obtain ⟨h1, h2, h3, h4⟩ := hb hc
  have q := kDp_le h hf _ 0 f rfl (by omega) hc f1 f2
  have q2 := h3 f f1 f2 f3
  rcases h4 with e | ⟨g, g1, g2, g3, g4⟩
  · omega
  · exact ⟨g, g1, g2, g3, by unfold kIts; rw [if_neg (by omega)]; omega⟩
theorem kLeft_1 {ch fi cn : Nat → Int32} {fn cl c f : Int} (h : kDp ch fi fn cl (-9) 0) (hf : kFit fi fn cl (-9)) (hcl : cl ≤ 24) (hc : 0 ≤ c) (hf0 : 0 ≤ f ∧ f < fn) (hn : (cn c.toNat).toInt = f) : kLeft ch fi cn fn cl (c + 1) (kch ch c f) := by
  intro hlt
  obtain ⟨g, g1, g2, g3, g4⟩ := kDp_get h hf hcl hc hlt hf0.1 hf0.2
  refine ⟨g, g1, g2, g3, ?_⟩
  unfold kIts
  rw [show (c + 1 - 1).toNat = c.toNat by omega, hn]
  unfold kdl at g4
  by_cases e : g = f
  · rw [if_pos e] at g4
    rw [if_neg (by omega)]
    omega
  · rw [if_neg e] at g4
    rw [if_pos (by omega)]
    omega
/-! ===== Int32 by its bits: bt x i ===== -/
def bt (x : Int32) (i : Nat) : Bool := x.toBitVec.getLsbD i
theorem b_ext {x y : Int32} (h : ∀ i, i < 32 → bt x i = bt y i) : x = y := Int32.toBitVec_inj.mp (BitVec.eq_of_getLsbD_eq (fun i hi => h i hi))
theorem b_or (x y : Int32) (i : Nat) : bt (x ||| y) i = (bt x i || bt y i) := by unfold bt; rw [Int32.toBitVec_or, BitVec.getLsbD_or]
theorem b_and (x y : Int32) (i : Nat) : bt (x &&& y) i = (bt x i && bt y i) := by unfold bt; rw [Int32.toBitVec_and, BitVec.getLsbD_and]
theorem b_xor (x y : Int32) (i : Nat) : bt (x ^^^ y) i = (bt x i ^^ bt y i) := by unfold bt; rw [Int32.toBitVec_xor, BitVec.getLsbD_xor]
theorem b_big {x : Int32} {i : Nat} (h : 32 ≤ i) : bt x i = false := BitVec.getLsbD_of_ge _ _ h
theorem b_255 (i : Nat) : bt 255 i = decide (i < 8) := by
  rcases Nat.lt_or_ge i 32 with h | h
  · exact (by decide +kernel : ∀ i, i < 32 → bt 255 i = decide (i < 8)) i h
  · rw [b_big h, decide_eq_false (by omega)]
theorem b_65535 (i : Nat) : bt 65535 i = decide (i < 16) := by
  rcases Nat.lt_or_ge i 32 with h | h
  · exact (by decide +kernel : ∀ i, i < 32 → bt 65535 i = decide (i < 16)) i h
  · rw [b_big h, decide_eq_false (by omega)]
theorem b_m1 : ∀ i, i < 32 → bt (-1) i = true := by decide +kernel
theorem b_0 (i : Nat) : bt 0 i = false := BitVec.getLsbD_zero
theorem s_l : ∀ n, n < 32 → ((nI n &&& 31).toBitVec.smod 32).toNat = n := by decide +kernel
theorem s_u : ∀ n, n < 32 → (((nI n).toUInt32 &&& Int32.toUInt32 31).toBitVec % 32).toNat = n := by decide +kernel
theorem b_shl (n : Nat) (hn : n < 32) (x : Int32) {i : Nat} (hi : i < 32) : bt (x <<< (nI n &&& 31)) i = (decide (n ≤ i) && bt x (i - n)) := by
  unfold bt
  rw [Int32.toBitVec_shiftLeft]
  show (x.toBitVec <<< ((nI n &&& 31).toBitVec.smod 32).toNat).getLsbD i = _
  rw [s_l n hn, BitVec.getLsbD_shiftLeft]
  rcases Nat.lt_or_ge i n with h | h
  · simp [h, Nat.not_le.mpr h]
  · simp [hi, h, Nat.not_lt.mpr h]
theorem b_ushr (n : Nat) (hn : n < 32) (x : Int32) (i : Nat) : bt ((x.toUInt32 >>> ((nI n).toUInt32 &&& Int32.toUInt32 31)).toInt32) i = bt x (n + i) := by
  show (x.toUInt32 >>> ((nI n).toUInt32 &&& Int32.toUInt32 31)).toBitVec.getLsbD i = x.toUInt32.toBitVec.getLsbD (n + i)
  rw [UInt32.toBitVec_shiftRight]
  show (x.toUInt32.toBitVec >>> (((nI n).toUInt32 &&& Int32.toUInt32 31).toBitVec % 32).toNat).getLsbD i = _
  rw [s_u n hn, BitVec.getLsbD_ushiftRight]
theorem b_sshr (n : Nat) (hn : n < 32) (x : Int32) {i : Nat} (hi : i < 32) : bt (x >>> (nI n &&& 31)) i = if n + i < 32 then bt x (n + i) else bt x 31 := by
  unfold bt
  rw [Int32.toBitVec_shiftRight]
  show (x.toBitVec.sshiftRight ((nI n &&& 31).toBitVec.smod 32).toNat).getLsbD i = _
  rw [s_l n hn, BitVec.getLsbD_sshiftRight, BitVec.msb_eq_getLsbD_last]
  simp [hi]
theorem kb_one (y : Int32) : (y &&& 1 = 1) ↔ bt y 0 = true := by
  have o1 : ∀ i, i < 32 → bt 1 i = decide (i = 0) := by decide +kernel
  constructor
  · intro h
    have q := congrArg (fun z => bt z 0) h
    simp only [b_and, o1 0 (by omega)] at q
    simpa using q
  · intro h
    apply b_ext
    intro i hi
    rw [b_and, o1 i hi]
    by_cases e : i = 0
    · subst e
      simp [h]
    · simp [e]
theorem kb_bit {x : Int32} {f : Int} (hf : 0 ≤ f ∧ f < 32) : ((x >>> (zI f &&& 31)) &&& 1 = 1) ↔ bt x f.toNat = true := by
  obtain ⟨n, rfl⟩ := Int.eq_ofNat_of_zero_le hf.1
  rw [kb_one]
  have q := b_sshr n (by omega) x (i := 0) (by omega)
  rw [if_pos (by omega)] at q
  have q2 : bt (x >>> (zI (n : Int) &&& 31)) 0 = bt x (n + 0) := q
  rw [q2]
  simp
theorem kb_or {x y : Int32} {f wo : Int} (hf : 0 ≤ f ∧ f < 32) (hx : ¬ x = 0) (h : kCan x f wo) : kCan (x ||| y) f wo := by
  refine ⟨h.1, Or.inr ?_⟩
  rcases h.2 with e | e
  · exact absurd e hx
  · rw [kb_bit hf] at e ⊢
    rw [b_or, e, Bool.true_or]
theorem kb_set {x : Int32} {f wo : Int} (hf : 0 ≤ f ∧ f < 32) (hw : ¬ f = wo) : kCan (x ||| (zI 1 <<< (zI f &&& 31))) f wo := by
  refine ⟨hw, Or.inr ?_⟩
  rw [kb_bit hf, b_or]
  obtain ⟨n, rfl⟩ := Int.eq_ofNat_of_zero_le hf.1
  have q := b_shl n (by omega) (1 : Int32) (i := n) (by omega)
  have q2 : bt (zI 1 <<< (zI (n : Int) &&& 31)) n = (decide (n ≤ n) && bt 1 (n - n)) := q
  have q3 : ((n : Int)).toNat = n := by omega
  rw [q3, q2, Nat.sub_self, show bt 1 0 = true from by decide +kernel]
  simp
theorem kb_o0 (x : Int32) : x ||| zI 0 = x := by
  apply b_ext
  intro i hi
  rw [b_or, show bt (zI 0) i = false from b_0 i, Bool.or_false]
theorem kcan1 {x : Int32} {z f wo : Int} (e : x = zI z) (h1 : ¬ f = wo) (h : z = 0 ∨ (zI z >>> (zI f &&& 31)) &&& 1 = 1) : kCan x f wo := by
  refine ⟨h1, ?_⟩
  rcases h with h | h
  · left
    rw [e, h]
    rfl
  · right
    rw [e]
    exact h
theorem kcan0 {x : Int32} {z f wo : Int} (e : x = zI z) (hz : rg z) (h : f = wo ∨ (¬ z = 0 ∧ ¬ (zI z >>> (zI f &&& 31)) &&& 1 = 1)) : ¬ kCan x f wo := by
  rintro ⟨h1, h2⟩
  rcases h with h | ⟨h3, h4⟩
  · exact h1 h
  · rw [e] at h2
    rcases h2 with h2 | h2
    · exact h3 ((zI_eq hz (by omega)).mp h2)
    · exact h4 h2
set_option maxHeartbeats 4000000 in
set_option maxRecDepth 100000 in
theorem c_X9_isOf_b (l : Launch) (D : va_G) (sz : Nat) (x : Int) (k : Int) (q0 : rg x) (q1 : rg k) : Met l yX9_isOf wsX9_isOf ({ frames := 0, cells := 0, slots := 0, locals := 0 }) (kPre [.int (zI x), .int (zI k)] D [] [] sz) (QcRead (if (zI x >>> (zI k &&& 31)) &&& 1 = 1 then 1 else 0)) 0 0 (fun _ => False) := by
  refine Met.ofW (cc := cX9_isOf) (maxL := 2) (ret := (some .boolean)) (by decide) rfl ?_
  intro p e s m args below meth c s₁ B hml hv
  obtain ⟨rfl, hsz, hP, hK, hD0, hN⟩ := hv
  have hx := B.exec
  have hb := B.bytes
  have hr := B.returns
  have hts := atoms_spec (ws := wsX9_isOf) B.pre
  have hown : s.vm.findClass RX9 = some m.cls := findClass_of_methodNamed B.named
  have hlocks := B.notSynchronized
  subst hsz
  have hD := hD0
  have hP : va_P D vwCl [] s.heap := hP
  have hl := lv_entry ([.int (zI x), .int (zI k)]) (n := 2) (Nat.le_of_ble_eq_true rfl)
  rw [lg_entry_eq]
  generalize (lg_sl ([.int (zI x), .int (zI k)]) ++ List.replicate (2 - (lg_sl ([.int (zI x), .int (zI k)])).length) Slot.unset).toArray = ls at hl ⊢
  have hl : lv_has ls 2 [(0, .int (zI x)), (1, .int (zI k))] := hl
  refine lv_iload_n hx hb dX9_isOf_0 rfl (lv_at hl 0 rfl) ?_
  refine lv_iload_n hx hb dX9_isOf_1 rfl (lv_at hl 1 rfl) ?_
  refine lv_ishr hx hb dX9_isOf_2 ?_
  refine kz_any (fun z_1 rz_1 ez_1 => ?_)
  refine lv_iconst (v := zI 1) hx hb dX9_isOf_3 rfl ?_
  refine lv_iand hx hb dX9_isOf_4 ?_
  refine kz_any (fun z_2 rz_2 ez_2 => ?_)
  refine lv_iconst (v := zI 1) hx hb dX9_isOf_5 rfl ?_
  refine kz_icmp_ne (tgt := 13) hx hb dX9_isOf_6 (by decide) (by omega) (by omega) (fun c_3 => ?_) (fun c_3 => ?_)
  · refine lv_iconst (v := zI 0) hx hb dX9_isOf_13 rfl ?_
    exact W.zret (v := (zI 0)) hx hb hr rfl (fun t ht hW => kRd (kb0 (fun h9 => c_3 ((zI_eq rz_2 (by omega)).mp (by rw [← ez_2, ← ez_1]; exact h9)))) ht) (fun _ h9 => by cases h9) dX9_isOf_14
  · refine lv_iconst (v := zI 1) hx hb dX9_isOf_9 rfl ?_
    refine lv_goto (tgt := 14) hx hb dX9_isOf_10 (by decide) ?_
    exact W.zret (v := (zI 1)) hx hb hr rfl (fun t ht hW => kRd (kb1 (by show (zI x >>> (zI k &&& 31)) &&& zI 1 = zI 1; rw [ez_1, ez_2, c_3])) ht) (fun _ h9 => by cases h9) dX9_isOf_14
theorem dX9_canSet_0 : decode cX9_canSet 0 = .ok (.iload_n 2, 1) := kqo_1c kbl_X9_canSet (pc := 0) rfl
theorem dX9_canSet_1 : decode cX9_canSet 1 = .ok (.iload_n 3, 1) := kqo_1d kbl_X9_canSet (pc := 1) rfl
theorem dX9_canSet_2 : decode cX9_canSet 2 = .ok (.if_icmp .eq 29, 3) := kqo_9f (x1 := 0) (x2 := 29) kbl_X9_canSet (pc := 2) rfl rfl
theorem dX9_canSet_5 : decode cX9_canSet 5 = .ok (.aload_n 0, 1) := kqo_2a kbl_X9_canSet (pc := 5) rfl
theorem dX9_canSet_6 : decode cX9_canSet 6 = .ok (.getfield 49, 3) := kqo_b4 (x1 := 0) (x2 := 49) kbl_X9_canSet (pc := 6) rfl rfl
theorem dX9_canSet_9 : decode cX9_canSet 9 = .ok (.iload_n 1, 1) := kqo_1b kbl_X9_canSet (pc := 9) rfl
theorem dX9_canSet_10 : decode cX9_canSet 10 = .ok (.iaload, 1) := kqo_2e kbl_X9_canSet (pc := 10) rfl
theorem dX9_canSet_11 : decode cX9_canSet 11 = .ok (.ifCond .eq 16, 3) := kqo_99 (x1 := 0) (x2 := 16) kbl_X9_canSet (pc := 11) rfl rfl
theorem dX9_canSet_14 : decode cX9_canSet 14 = .ok (.aload_n 0, 1) := kqo_2a kbl_X9_canSet (pc := 14) rfl
theorem dX9_canSet_15 : decode cX9_canSet 15 = .ok (.getfield 49, 3) := kqo_b4 (x1 := 0) (x2 := 49) kbl_X9_canSet (pc := 15) rfl rfl
theorem dX9_canSet_18 : decode cX9_canSet 18 = .ok (.iload_n 1, 1) := kqo_1b kbl_X9_canSet (pc := 18) rfl
theorem dX9_canSet_19 : decode cX9_canSet 19 = .ok (.iaload, 1) := kqo_2e kbl_X9_canSet (pc := 19) rfl
theorem dX9_canSet_20 : decode cX9_canSet 20 = .ok (.iload_n 2, 1) := kqo_1c kbl_X9_canSet (pc := 20) rfl
theorem dX9_canSet_21 : decode cX9_canSet 21 = .ok (.invokestatic 117, 3) := kqo_b8 (x1 := 0) (x2 := 117) kbl_X9_canSet (pc := 21) rfl rfl
theorem dX9_canSet_24 : decode cX9_canSet 24 = .ok (.ifCond .eq 7, 3) := kqo_99 (x1 := 0) (x2 := 7) kbl_X9_canSet (pc := 24) rfl rfl
theorem dX9_canSet_27 : decode cX9_canSet 27 = .ok (.iconst 1, 1) := kqo_04 kbl_X9_canSet (pc := 27) rfl
theorem dX9_canSet_28 : decode cX9_canSet 28 = .ok (.goto 4, 3) := kqo_a7 (x1 := 0) (x2 := 4) kbl_X9_canSet (pc := 28) rfl rfl
theorem dX9_canSet_31 : decode cX9_canSet 31 = .ok (.iconst 0, 1) := kqo_03 kbl_X9_canSet (pc := 31) rfl
theorem dX9_canSet_32 : decode cX9_canSet 32 = .ok (.ireturn, 1) := kqo_ac kbl_X9_canSet (pc := 32) rfl
set_option maxRecDepth 20000 in
theorem ggX9_canSet_X9_isOf : GoodIn wsX9_canSet wsX9_isOf := goodIn_4 _ (List.forall_mem_cons.mpr ⟨List.mem_cons_of_mem _ (List.mem_append_left _ (List.mem_of_getElem? (i := 4) rfl)), fun _ h9 => absurd h9 List.not_mem_nil⟩) (by decide +kernel)
set_option maxRecDepth 20000 in
theorem gX9_canSet_X9_isOf : GoodIn wsX9_canSet (va_wsS RX9 117 yX9_isOf wsX9_isOf) := goodIn_app (goodIn_4 _ (List.forall_mem_cons.mpr ⟨List.mem_cons_of_mem _ (List.mem_append_left _ (List.mem_of_getElem? (i := 1) rfl)), List.forall_mem_cons.mpr ⟨List.mem_cons_of_mem _ (List.mem_append_left _ (List.mem_of_getElem? (i := 2) rfl)), List.forall_mem_cons.mpr ⟨List.mem_cons_of_mem _ (List.mem_append_left _ (List.mem_of_getElem? (i := 3) rfl)), fun _ h9 => absurd h9 List.not_mem_nil⟩⟩⟩) (by decide +kernel)) ggX9_canSet_X9_isOf
set_option maxRecDepth 20000 in
theorem mw_X9_canSet_0 : (.fieldLink RX9 49 "FontRunsModel" "fits" "[I" : Cond) ∈ wsX9_canSet := List.mem_cons_of_mem _ (List.mem_append_left _ (List.mem_of_getElem? (i := 0) rfl))
theorem ax_X9_canSet_0 {e0 e1 : Nat × va_E} : ([] : List Nat).map (fun i => ([e0, e1] : va_W)[i]?) = ([] : va_W).map some := rfl
set_option maxHeartbeats 4000000 in
set_option maxRecDepth 100000 in
theorem c_X9_canSet (l : Launch) (D : va_G) (sz : Nat) (kc : Int) (f : Int) (wo : Int) (h0 : Nat) (fa : Int) (tc : Int) (so : Nat) (sl : Nat) (ce : Nat) (fn : Int) (kd : Nat) (wd : Nat) (hs : Nat) (pf : Nat) (lt : Nat) (mn : Int) (wg : Nat) (ta : Int) (ck : Int64) (at9 : Int) (rfn : Int) (rk : Nat) (rw : Nat) (rh : Nat) (cl : Int) (sa : Nat) (fi : Nat) (bo : Int) (ch : Nat) (cn : Nat) (ad : Int) (ru : Int) (kp : Nat) (dn : Int) (rfa : Nat) (c_fi : ClassId) (f_fi : Nat → Int32) (q0 : 0 ≤ kc ∧ kc ≤ 23) (q1 : rg f) (q2 : rg wo) : Met l yX9_canSet wsX9_canSet ({ frames := 1, cells := 0, slots := 0, locals := 21 }) (kPre [.ref h0, .int (zI kc), .int (zI f), .int (zI wo)] D [(h0, .inr (9, [.int (zI fa), .int (zI tc), .ref so, .ref sl, .ref ce, .int (zI fn), .ref kd, .ref wd, .ref hs, .ref pf, .ref lt, .int (zI mn), .ref wg, .int (zI ta), .long ck, .int (zI at9), .int (zI rfn), .ref rk, .ref rw, .ref rh, .int (zI cl), .ref sa, .ref fi, .int (zI bo), .ref ch, .ref cn, .int (zI ad), .int (zI ru), .ref kp, .int (zI dn), .ref rfa])), (fi, .inl (c_fi, 24, .inl f_fi))] [(c_fi, .int)] sz) (QcRead (if kCan (f_fi kc.toNat) f wo then 1 else 0)) 0 0 (fun _ => False) := by
  refine Met.ofW (cc := cX9_canSet) (maxL := 4) (ret := (some .boolean)) (by decide) rfl ?_
  intro p e s m args below meth c s₁ B hml hv
  obtain ⟨rfl, hsz, hP, hK, hD0, hN⟩ := hv
  have hx := B.exec
  have hb := B.bytes
  have hr := B.returns
  have hts := atoms_spec (ws := wsX9_canSet) B.pre
  have hown : s.vm.findClass RX9 = some m.cls := findClass_of_methodNamed B.named
  have hlocks := B.notSynchronized
  subst hsz
  have hD := hD0
  have hP : va_P D vwCl [(h0, .inr (9, [.int (zI fa), .int (zI tc), .ref so, .ref sl, .ref ce, .int (zI fn), .ref kd, .ref wd, .ref hs, .ref pf, .ref lt, .int (zI mn), .ref wg, .int (zI ta), .long ck, .int (zI at9), .int (zI rfn), .ref rk, .ref rw, .ref rh, .int (zI cl), .ref sa, .ref fi, .int (zI bo), .ref ch, .ref cn, .int (zI ad), .int (zI ru), .ref kp, .int (zI dn), .ref rfa])), (fi, .inl (c_fi, 24, .inl f_fi))] s.heap := hP
  have hl := lv_entry ([.ref h0, .int (zI kc), .int (zI f), .int (zI wo)]) (n := 4) (Nat.le_of_ble_eq_true rfl)
  rw [lg_entry_eq]
  generalize (lg_sl ([.ref h0, .int (zI kc), .int (zI f), .int (zI wo)]) ++ List.replicate (4 - (lg_sl ([.ref h0, .int (zI kc), .int (zI f), .int (zI wo)])).length) Slot.unset).toArray = ls at hl ⊢
  have hl : lv_has ls 4 [(0, .ref h0), (1, .int (zI kc)), (2, .int (zI f)), (3, .int (zI wo))] := hl
  refine lv_iload_n hx hb dX9_canSet_0 rfl (lv_at hl 2 rfl) ?_
  refine lv_iload_n hx hb dX9_canSet_1 rfl (lv_at hl 3 rfl) ?_
  refine kz_icmp_eq (tgt := 31) hx hb dX9_canSet_2 (by decide) (by omega) (by omega) (fun c_1 => ?_) (fun c_1 => ?_)
  · refine lv_iconst (v := zI 0) hx hb dX9_canSet_31 rfl ?_
    exact W.zret (v := (zI 0)) hx hb hr rfl (fun t ht hW => kRd (kb0 (fun h9 => h9.1 c_1)) ht) (fun _ h9 => by cases h9) dX9_canSet_32
  · refine lv_aload_n hx hb dX9_canSet_5 rfl (lv_at hl 0 rfl) ?_
    refine va_get (D := D) (ci := 9) (v := .ref fi) (C := RX9) (T := TX9) (N := 31) hx hb hts (fun _ h9 => List.mem_cons_of_mem _ (List.mem_append_right _ h9)) hown hK hP 0 rfl rfl 22 (by decide) (hts (.fieldLink RX9 49 "FontRunsModel" "fits" "[I") mw_X9_canSet_0) (fun _ h9 => h9) rfl dX9_canSet_6 ?_
    refine lv_iload_n hx hb dX9_canSet_9 rfl (lv_at hl 1 rfl) ?_
    refine kz_iald hx hb hK hP 1 0 rfl rfl (by omega) dX9_canSet_10 (fun z_2 rz_2 ez_2 => ?_)
    refine kz_if_eq (tgt := 27) hx hb dX9_canSet_11 (by decide) (by omega) (fun c_3 => ?_) (fun c_3 => ?_)
    · refine lv_iconst (v := zI 1) hx hb dX9_canSet_27 rfl ?_
      refine lv_goto (tgt := 32) hx hb dX9_canSet_28 (by decide) ?_
      exact W.zret (v := (zI 1)) hx hb hr rfl (fun t ht hW => kRd (kb1 (kcan1 ez_2 c_1 (Or.inl c_3))) ht) (fun _ h9 => by cases h9) dX9_canSet_32
    · refine lv_aload_n hx hb dX9_canSet_14 rfl (lv_at hl 0 rfl) ?_
      refine va_get (D := D) (ci := 9) (v := .ref fi) (C := RX9) (T := TX9) (N := 31) hx hb hts (fun _ h9 => List.mem_cons_of_mem _ (List.mem_append_right _ h9)) hown hK hP 0 rfl rfl 22 (by decide) (hts (.fieldLink RX9 49 "FontRunsModel" "fits" "[I") mw_X9_canSet_0) (fun _ h9 => h9) rfl dX9_canSet_15 ?_
      refine lv_iload_n hx hb dX9_canSet_18 rfl (lv_at hl 1 rfl) ?_
      refine kz_iald hx hb hK hP 1 0 rfl rfl (by omega) dX9_canSet_19 (fun z_4 rz_4 ez_4 => ?_)
      have q9 : z_2 = z_4 := (zI_eq rz_2 rz_4).mp (ez_2.symm.trans ez_4)
      subst q9
      refine lv_iload_n hx hb dX9_canSet_20 rfl (lv_at hl 2 rfl) ?_
      refine k_callR (va_runS (As := [.int (zI z_2), .int (zI f)]) (rest := []) ⟨hx, hb, hml, hown, hts⟩ (c_X9_isOf_b l D s.heap.size (x := z_2) (k := f) (by omega) q1) (va_cwS 2 hts gX9_canSet_X9_isOf rfl rfl rfl (by decide +kernel) ⟨Nat.le_of_ble_eq_true rfl, Nat.le_of_ble_eq_true rfl⟩) (kPreS hP (kD0 hD) hK hN [] [] ax_X9_canSet_0 rfl (by decide +kernel)) rfl rfl hl.1 rfl (lv_room (Nat.le_of_ble_eq_true rfl)) dX9_canSet_21 ⟨Nat.le_of_ble_eq_true rfl, Nat.le_of_ble_eq_true rfl⟩) ?_
      refine lv_if_eq (tgt := 31) hx hb dX9_canSet_24 (by decide) (fun c_5 => ?_) (fun c_5 => ?_)
      · have c_5 : ¬ ((zI z_2 >>> (zI f &&& 31)) &&& 1 = 1) := b01f c_5
        refine lv_iconst (v := zI 0) hx hb dX9_canSet_31 rfl ?_
        exact W.zret (v := (zI 0)) hx hb hr rfl (fun t ht hW => kRd (kb0 (kcan0 ez_2 rz_2 (Or.inr ⟨c_3, c_5⟩))) ht) (fun _ h9 => by cases h9) dX9_canSet_32
      · have c_5 : (zI z_2 >>> (zI f &&& 31)) &&& 1 = 1 := b01t c_5
        refine lv_iconst (v := zI 1) hx hb dX9_canSet_27 rfl ?_
        refine lv_goto (tgt := 32) hx hb dX9_canSet_28 (by decide) ?_
        exact W.zret (v := (zI 1)) hx hb hr rfl (fun t ht hW => kRd (kb1 (kcan1 ez_2 c_1 (Or.inr c_5))) ht) (fun _ h9 => by cases h9) dX9_canSet_32
theorem dX9_fewestBehind_0 : decode cX9_fewestBehind 0 = .ok (.iload_n 1, 1) := kqo_1b kbl_X9_fewestBehind (pc := 0) rfl
theorem dX9_fewestBehind_1 : decode cX9_fewestBehind 1 = .ok (.iconst 1, 1) := kqo_04 kbl_X9_fewestBehind (pc := 1) rfl
theorem dX9_fewestBehind_2 : decode cX9_fewestBehind 2 = .ok (.iadd, 1) := kqo_60 kbl_X9_fewestBehind (pc := 2) rfl
theorem dX9_fewestBehind_3 : decode cX9_fewestBehind 3 = .ok (.aload_n 0, 1) := kqo_2a kbl_X9_fewestBehind (pc := 3) rfl
theorem dX9_fewestBehind_4 : decode cX9_fewestBehind 4 = .ok (.getfield 138, 3) := kqo_b4 (x1 := 0) (x2 := 138) kbl_X9_fewestBehind (pc := 4) rfl rfl
theorem dX9_fewestBehind_7 : decode cX9_fewestBehind 7 = .ok (.if_icmp .ne 5, 3) := kqo_a0 (x1 := 0) (x2 := 5) kbl_X9_fewestBehind (pc := 7) rfl rfl
theorem dX9_fewestBehind_10 : decode cX9_fewestBehind 10 = .ok (.iconst 0, 1) := kqo_03 kbl_X9_fewestBehind (pc := 10) rfl
theorem dX9_fewestBehind_11 : decode cX9_fewestBehind 11 = .ok (.ireturn, 1) := kqo_ac kbl_X9_fewestBehind (pc := 11) rfl
theorem dX9_fewestBehind_12 : decode cX9_fewestBehind 12 = .ok (.bipush 24, 2) := kqo_10 (x1 := 24) kbl_X9_fewestBehind (pc := 12) rfl rfl
theorem dX9_fewestBehind_14 : decode cX9_fewestBehind 14 = .ok (.istore 4, 2) := kqo_36 (x1 := 4) kbl_X9_fewestBehind (pc := 14) rfl rfl
theorem dX9_fewestBehind_16 : decode cX9_fewestBehind 16 = .ok (.iconst 0, 1) := kqo_03 kbl_X9_fewestBehind (pc := 16) rfl
theorem dX9_fewestBehind_17 : decode cX9_fewestBehind 17 = .ok (.istore 5, 2) := kqo_36 (x1 := 5) kbl_X9_fewestBehind (pc := 17) rfl rfl
theorem dX9_fewestBehind_19 : decode cX9_fewestBehind 19 = .ok (.iload 5, 2) := kqo_15 (x1 := 5) kbl_X9_fewestBehind (pc := 19) rfl rfl
theorem dX9_fewestBehind_21 : decode cX9_fewestBehind 21 = .ok (.aload_n 0, 1) := kqo_2a kbl_X9_fewestBehind (pc := 21) rfl
theorem dX9_fewestBehind_22 : decode cX9_fewestBehind 22 = .ok (.getfield 74, 3) := kqo_b4 (x1 := 0) (x2 := 74) kbl_X9_fewestBehind (pc := 22) rfl rfl
theorem dX9_fewestBehind_25 : decode cX9_fewestBehind 25 = .ok (.if_icmp .ge 70, 3) := kqo_a2 (x1 := 0) (x2 := 70) kbl_X9_fewestBehind (pc := 25) rfl rfl
theorem dX9_fewestBehind_28 : decode cX9_fewestBehind 28 = .ok (.aload_n 0, 1) := kqo_2a kbl_X9_fewestBehind (pc := 28) rfl
theorem dX9_fewestBehind_29 : decode cX9_fewestBehind 29 = .ok (.iload_n 1, 1) := kqo_1b kbl_X9_fewestBehind (pc := 29) rfl
theorem dX9_fewestBehind_30 : decode cX9_fewestBehind 30 = .ok (.iconst 1, 1) := kqo_04 kbl_X9_fewestBehind (pc := 30) rfl
theorem dX9_fewestBehind_31 : decode cX9_fewestBehind 31 = .ok (.iadd, 1) := kqo_60 kbl_X9_fewestBehind (pc := 31) rfl
theorem dX9_fewestBehind_32 : decode cX9_fewestBehind 32 = .ok (.iload 5, 2) := kqo_15 (x1 := 5) kbl_X9_fewestBehind (pc := 32) rfl rfl
theorem dX9_fewestBehind_34 : decode cX9_fewestBehind 34 = .ok (.iload_n 3, 1) := kqo_1d kbl_X9_fewestBehind (pc := 34) rfl
theorem dX9_fewestBehind_35 : decode cX9_fewestBehind 35 = .ok (.invokevirtual 144, 3) := kqo_b6 (x1 := 0) (x2 := 144) kbl_X9_fewestBehind (pc := 35) rfl rfl
theorem dX9_fewestBehind_38 : decode cX9_fewestBehind 38 = .ok (.ifCond .eq 31, 3) := kqo_99 (x1 := 0) (x2 := 31) kbl_X9_fewestBehind (pc := 38) rfl rfl
theorem dX9_fewestBehind_41 : decode cX9_fewestBehind 41 = .ok (.aload_n 0, 1) := kqo_2a kbl_X9_fewestBehind (pc := 41) rfl
theorem dX9_fewestBehind_42 : decode cX9_fewestBehind 42 = .ok (.getfield 52, 3) := kqo_b4 (x1 := 0) (x2 := 52) kbl_X9_fewestBehind (pc := 42) rfl rfl
theorem dX9_fewestBehind_45 : decode cX9_fewestBehind 45 = .ok (.iconst 4, 1) := kqo_07 kbl_X9_fewestBehind (pc := 45) rfl
theorem dX9_fewestBehind_46 : decode cX9_fewestBehind 46 = .ok (.iload_n 1, 1) := kqo_1b kbl_X9_fewestBehind (pc := 46) rfl
theorem dX9_fewestBehind_47 : decode cX9_fewestBehind 47 = .ok (.iconst 1, 1) := kqo_04 kbl_X9_fewestBehind (pc := 47) rfl
theorem dX9_fewestBehind_48 : decode cX9_fewestBehind 48 = .ok (.iadd, 1) := kqo_60 kbl_X9_fewestBehind (pc := 48) rfl
theorem dX9_fewestBehind_49 : decode cX9_fewestBehind 49 = .ok (.imul, 1) := kqo_68 kbl_X9_fewestBehind (pc := 49) rfl
theorem dX9_fewestBehind_50 : decode cX9_fewestBehind 50 = .ok (.iload 5, 2) := kqo_15 (x1 := 5) kbl_X9_fewestBehind (pc := 50) rfl rfl
theorem dX9_fewestBehind_52 : decode cX9_fewestBehind 52 = .ok (.iadd, 1) := kqo_60 kbl_X9_fewestBehind (pc := 52) rfl
theorem dX9_fewestBehind_53 : decode cX9_fewestBehind 53 = .ok (.iaload, 1) := kqo_2e kbl_X9_fewestBehind (pc := 53) rfl
theorem dX9_fewestBehind_54 : decode cX9_fewestBehind 54 = .ok (.iload 5, 2) := kqo_15 (x1 := 5) kbl_X9_fewestBehind (pc := 54) rfl rfl
theorem dX9_fewestBehind_56 : decode cX9_fewestBehind 56 = .ok (.iload_n 2, 1) := kqo_1c kbl_X9_fewestBehind (pc := 56) rfl
theorem dX9_fewestBehind_57 : decode cX9_fewestBehind 57 = .ok (.if_icmp .ne 7, 3) := kqo_a0 (x1 := 0) (x2 := 7) kbl_X9_fewestBehind (pc := 57) rfl rfl
theorem dX9_fewestBehind_60 : decode cX9_fewestBehind 60 = .ok (.iconst 0, 1) := kqo_03 kbl_X9_fewestBehind (pc := 60) rfl
theorem dX9_fewestBehind_61 : decode cX9_fewestBehind 61 = .ok (.goto 4, 3) := kqo_a7 (x1 := 0) (x2 := 4) kbl_X9_fewestBehind (pc := 61) rfl rfl
theorem dX9_fewestBehind_64 : decode cX9_fewestBehind 64 = .ok (.iconst 1, 1) := kqo_04 kbl_X9_fewestBehind (pc := 64) rfl
theorem dX9_fewestBehind_65 : decode cX9_fewestBehind 65 = .ok (.iadd, 1) := kqo_60 kbl_X9_fewestBehind (pc := 65) rfl
theorem dX9_fewestBehind_66 : decode cX9_fewestBehind 66 = .ok (.goto 5, 3) := kqo_a7 (x1 := 0) (x2 := 5) kbl_X9_fewestBehind (pc := 66) rfl rfl
theorem dX9_fewestBehind_69 : decode cX9_fewestBehind 69 = .ok (.bipush 24, 2) := kqo_10 (x1 := 24) kbl_X9_fewestBehind (pc := 69) rfl rfl
theorem dX9_fewestBehind_71 : decode cX9_fewestBehind 71 = .ok (.istore 6, 2) := kqo_36 (x1 := 6) kbl_X9_fewestBehind (pc := 71) rfl rfl
theorem dX9_fewestBehind_73 : decode cX9_fewestBehind 73 = .ok (.iload 6, 2) := kqo_15 (x1 := 6) kbl_X9_fewestBehind (pc := 73) rfl rfl
theorem dX9_fewestBehind_75 : decode cX9_fewestBehind 75 = .ok (.iload 4, 2) := kqo_15 (x1 := 4) kbl_X9_fewestBehind (pc := 75) rfl rfl
theorem dX9_fewestBehind_77 : decode cX9_fewestBehind 77 = .ok (.if_icmp .ge 8, 3) := kqo_a2 (x1 := 0) (x2 := 8) kbl_X9_fewestBehind (pc := 77) rfl rfl
theorem dX9_fewestBehind_80 : decode cX9_fewestBehind 80 = .ok (.iload 6, 2) := kqo_15 (x1 := 6) kbl_X9_fewestBehind (pc := 80) rfl rfl
theorem dX9_fewestBehind_82 : decode cX9_fewestBehind 82 = .ok (.goto 5, 3) := kqo_a7 (x1 := 0) (x2 := 5) kbl_X9_fewestBehind (pc := 82) rfl rfl
theorem dX9_fewestBehind_85 : decode cX9_fewestBehind 85 = .ok (.iload 4, 2) := kqo_15 (x1 := 4) kbl_X9_fewestBehind (pc := 85) rfl rfl
theorem dX9_fewestBehind_87 : decode cX9_fewestBehind 87 = .ok (.istore 4, 2) := kqo_36 (x1 := 4) kbl_X9_fewestBehind (pc := 87) rfl rfl
theorem dX9_fewestBehind_89 : decode cX9_fewestBehind 89 = .ok (.iinc 5 1, 3) := kqo_84 (x1 := 5) (x2 := 1) kbl_X9_fewestBehind (pc := 89) rfl rfl
theorem dX9_fewestBehind_92 : decode cX9_fewestBehind 92 = .ok (.goto (-73), 3) := kqo_a7 (x1 := 255) (x2 := 183) kbl_X9_fewestBehind (pc := 92) rfl rfl
theorem dX9_fewestBehind_95 : decode cX9_fewestBehind 95 = .ok (.iload 4, 2) := kqo_15 (x1 := 4) kbl_X9_fewestBehind (pc := 95) rfl rfl
theorem dX9_fewestBehind_97 : decode cX9_fewestBehind 97 = .ok (.ireturn, 1) := kqo_ac kbl_X9_fewestBehind (pc := 97) rfl
set_option maxRecDepth 20000 in
theorem ggX9_fewestBehind_X9_canSet : GoodIn wsX9_fewestBehind wsX9_canSet := goodIn_4 _ (List.forall_mem_cons.mpr ⟨List.mem_cons_of_mem _ (List.mem_append_left _ (List.mem_of_getElem? (i := 7) rfl)), List.forall_mem_append.mpr ⟨List.forall_mem_cons.mpr ⟨List.mem_cons_of_mem _ (List.mem_append_left _ (List.mem_of_getElem? (i := 8) rfl)), List.forall_mem_cons.mpr ⟨List.mem_cons_of_mem _ (List.mem_append_left _ (List.mem_of_getElem? (i := 9) rfl)), List.forall_mem_cons.mpr ⟨List.mem_cons_of_mem _ (List.mem_append_left _ (List.mem_of_getElem? (i := 10) rfl)), List.forall_mem_cons.mpr ⟨List.mem_cons_of_mem _ (List.mem_append_left _ (List.mem_of_getElem? (i := 6) rfl)), List.forall_mem_cons.mpr ⟨List.mem_cons_of_mem _ (List.mem_append_left _ (List.mem_of_getElem? (i := 11) rfl)), fun _ h9 => absurd h9 List.not_mem_nil⟩⟩⟩⟩⟩, fun w h9 => List.mem_cons_of_mem _ (List.mem_append_right _ (h9))⟩⟩) (by decide +kernel)
set_option maxRecDepth 20000 in
theorem gX9_fewestBehind_X9_canSet : GoodIn wsX9_fewestBehind (wsV RX9 144 RX9 yX9_canSet wsX9_canSet) := goodIn_app (goodIn_4 _ (List.forall_mem_cons.mpr ⟨List.mem_cons_of_mem _ (List.mem_append_left _ (List.mem_of_getElem? (i := 3) rfl)), List.forall_mem_cons.mpr ⟨List.mem_cons_of_mem _ (List.mem_append_left _ (List.mem_of_getElem? (i := 4) rfl)), List.forall_mem_cons.mpr ⟨List.mem_cons_of_mem _ (List.mem_append_left _ (List.mem_of_getElem? (i := 5) rfl)), List.forall_mem_cons.mpr ⟨List.mem_cons_of_mem _ (List.mem_append_left _ (List.mem_of_getElem? (i := 6) rfl)), fun _ h9 => absurd h9 List.not_mem_nil⟩⟩⟩⟩) (by decide +kernel)) ggX9_fewestBehind_X9_canSet
set_option maxRecDepth 20000 in
theorem mw_X9_fewestBehind_0 : (.fieldLink RX9 138 "FontRunsModel" "clusters" "I" : Cond) ∈ wsX9_fewestBehind := List.mem_cons_of_mem _ (List.mem_append_left _ (List.mem_of_getElem? (i := 0) rfl))
set_option maxRecDepth 20000 in
theorem mw_X9_fewestBehind_1 : (.fieldLink RX9 74 "FontRunsModel" "fonts" "I" : Cond) ∈ wsX9_fewestBehind := List.mem_cons_of_mem _ (List.mem_append_left _ (List.mem_of_getElem? (i := 1) rfl))
set_option maxRecDepth 20000 in
theorem mw_X9_fewestBehind_2 : (.fieldLink RX9 52 "FontRunsModel" "changes" "[I" : Cond) ∈ wsX9_fewestBehind := List.mem_cons_of_mem _ (List.mem_append_left _ (List.mem_of_getElem? (i := 2) rfl))
theorem ax_X9_fewestBehind_0 {e0 e1 e2 : Nat × va_E} : ([0, 1] : List Nat).map (fun i => ([e0, e1, e2] : va_W)[i]?) = ([e0, e1] : va_W).map some := rfl
set_option maxHeartbeats 4000000 in
set_option maxRecDepth 100000 in
theorem c_X9_fewestBehind (l : Launch) (D : va_G) (sz : Nat) (kc : Int) (kf : Int) (wo : Int) (h0 : Nat) (fa : Int) (tc : Int) (so : Nat) (sl : Nat) (ce : Nat) (fn : Int) (kd : Nat) (wd : Nat) (hs : Nat) (pf : Nat) (lt : Nat) (mn : Int) (wg : Nat) (ta : Int) (ck : Int64) (at9 : Int) (rfn : Int) (rk : Nat) (rw : Nat) (rh : Nat) (cl : Int) (sa : Nat) (fi : Nat) (bo : Int) (ch : Nat) (cn : Nat) (ad : Int) (ru : Int) (kp : Nat) (dn : Int) (rfa : Nat) (c_fi : ClassId) (f_fi : Nat → Int32) (c_ch : ClassId) (f_ch : Nat → Int32) (q0 : 0 ≤ kc ∧ kc + 1 ≤ cl) (q1 : 0 ≤ kf ∧ kf < fn) (q2 : rg wo) (q3 : 0 ≤ cl ∧ cl ≤ 24) (q4 : 0 ≤ fn ∧ fn ≤ 4) (q5 : kDp f_ch f_fi fn cl wo (kc + 1)) : Met l yX9_fewestBehind wsX9_fewestBehind ({ frames := 2, cells := 0, slots := 0, locals := 44 }) (kPre [.ref h0, .int (zI kc), .int (zI kf), .int (zI wo)] D [(h0, .inr (9, [.int (zI fa), .int (zI tc), .ref so, .ref sl, .ref ce, .int (zI fn), .ref kd, .ref wd, .ref hs, .ref pf, .ref lt, .int (zI mn), .ref wg, .int (zI ta), .long ck, .int (zI at9), .int (zI rfn), .ref rk, .ref rw, .ref rh, .int (zI cl), .ref sa, .ref fi, .int (zI bo), .ref ch, .ref cn, .int (zI ad), .int (zI ru), .ref kp, .int (zI dn), .ref rfa])), (fi, .inl (c_fi, 24, .inl f_fi)), (ch, .inl (c_ch, 96, .inl f_ch))] [(c_fi, .int), (c_ch, .int)] sz) (QcP (fun rz => (kc + 1 = cl → rz = 0) ∧ (kc + 1 < cl → kFewI f_ch f_fi wo kc kf fn rz) ∧ (0 ≤ rz ∧ rz ≤ 24))) 0 0 (fun _ => False) := by
  refine Met.ofW (cc := cX9_fewestBehind) (maxL := 7) (ret := (some .int)) (by decide) rfl ?_
  intro p e s m args below meth c s₁ B hml hv
  obtain ⟨rfl, hsz, hP, hK, hD0, hN⟩ := hv
  have hx := B.exec
  have hb := B.bytes
  have hr := B.returns
  have hts := atoms_spec (ws := wsX9_fewestBehind) B.pre
  have hown : s.vm.findClass RX9 = some m.cls := findClass_of_methodNamed B.named
  have hlocks := B.notSynchronized
  subst hsz
  have hD := hD0
  have hP : va_P D vwCl [(h0, .inr (9, [.int (zI fa), .int (zI tc), .ref so, .ref sl, .ref ce, .int (zI fn), .ref kd, .ref wd, .ref hs, .ref pf, .ref lt, .int (zI mn), .ref wg, .int (zI ta), .long ck, .int (zI at9), .int (zI rfn), .ref rk, .ref rw, .ref rh, .int (zI cl), .ref sa, .ref fi, .int (zI bo), .ref ch, .ref cn, .int (zI ad), .int (zI ru), .ref kp, .int (zI dn), .ref rfa])), (fi, .inl (c_fi, 24, .inl f_fi)), (ch, .inl (c_ch, 96, .inl f_ch))] s.heap := hP
  have hl := lv_entry ([.ref h0, .int (zI kc), .int (zI kf), .int (zI wo)]) (n := 7) (Nat.le_of_ble_eq_true rfl)
  rw [lg_entry_eq]
  generalize (lg_sl ([.ref h0, .int (zI kc), .int (zI kf), .int (zI wo)]) ++ List.replicate (7 - (lg_sl ([.ref h0, .int (zI kc), .int (zI kf), .int (zI wo)])).length) Slot.unset).toArray = ls at hl ⊢
  have hl : lv_has ls 7 [(0, .ref h0), (1, .int (zI kc)), (2, .int (zI kf)), (3, .int (zI wo))] := hl
  refine lv_iload_n hx hb dX9_fewestBehind_0 rfl (lv_at hl 1 rfl) ?_
  refine lv_iconst (v := zI 1) hx hb dX9_fewestBehind_1 rfl ?_
  refine kz_iadd hx hb dX9_fewestBehind_2 ?_
  refine lv_aload_n hx hb dX9_fewestBehind_3 rfl (lv_at hl 0 rfl) ?_
  refine va_get (D := D) (ci := 9) (v := .int (zI cl)) (C := RX9) (T := TX9) (N := 31) hx hb hts (fun _ h9 => List.mem_cons_of_mem _ (List.mem_append_right _ h9)) hown hK hP 0 rfl rfl 20 (by decide) (hts (.fieldLink RX9 138 "FontRunsModel" "clusters" "I") mw_X9_fewestBehind_0) (fun _ h9 => h9) rfl dX9_fewestBehind_4 ?_
  refine kz_icmp_ne (tgt := 12) hx hb dX9_fewestBehind_7 (by decide) (by omega) (by omega) (fun c_1 => ?_) (fun c_1 => ?_)
  · refine lv_bipush (v := zI 24) hx hb dX9_fewestBehind_12 (by decide) ?_
    refine lv_istore (lv' := [(4, .int (zI 24)), (0, .ref h0), (1, .int (zI kc)), (2, .int (zI kf)), (3, .int (zI wo))]) hx hb dX9_fewestBehind_14 hl (by decide) rfl (fun ls hl => ?_)
    refine lv_iconst (v := zI 0) hx hb dX9_fewestBehind_16 rfl ?_
    refine lv_istore (lv' := [(5, .int (zI 0)), (4, .int (zI 24)), (0, .ref h0), (1, .int (zI kc)), (2, .int (zI kf)), (3, .int (zI wo))]) hx hb dX9_fewestBehind_17 hl (by decide) rfl (fun ls hl => ?_)
    refine k_loopM (I := fun n9 H locs ls => ∃ (jb : Int) (jg : Int), n9 = (fn - jg).toNat ∧ (0 ≤ jg ∧ jg ≤ fn) ∧ (kFewI f_ch f_fi wo kc kf jg jb) ∧ H = s.heap ∧ locs = [] ∧ lv_has ls 7 [(5, .int (zI jg)), (4, .int (zI jb)), (0, .ref h0), (1, .int (zI kc)), (2, .int (zI kf)), (3, .int (zI wo))]) ?_ _ ⟨24, 0, rfl, (by omega), kFewI_0, rfl, rfl, hl⟩
    intro n19 ih19 H locs ls hI
    obtain ⟨jb, jg, en19, v_190, v_191, eH, eL, hl⟩ := hI
    subst eH
    subst eL
    have b2 := kFewI_b v_191
    refine lv_iload hx hb dX9_fewestBehind_19 (lv_at hl 0 rfl) ?_
    refine lv_aload_n hx hb dX9_fewestBehind_21 rfl (lv_at hl 2 rfl) ?_
    refine va_get (D := D) (ci := 9) (v := .int (zI fn)) (C := RX9) (T := TX9) (N := 31) hx hb hts (fun _ h9 => List.mem_cons_of_mem _ (List.mem_append_right _ h9)) hown hK hP 0 rfl rfl 5 (by decide) (hts (.fieldLink RX9 74 "FontRunsModel" "fonts" "I") mw_X9_fewestBehind_1) (fun _ h9 => h9) rfl dX9_fewestBehind_22 ?_
    refine kz_icmp_ge (tgt := 95) hx hb dX9_fewestBehind_25 (by decide) (by omega) (by omega) (fun c_2 => ?_) (fun c_2 => ?_)
    · refine lv_iload hx hb dX9_fewestBehind_95 (lv_at hl 1 rfl) ?_
      exact W.iret (v := (zI jb)) hx hb hr (fun t ht hW => QcP_of (by omega) ⟨fun q => by omega, fun _ => (show fn = jg by omega) ▸ v_191, by omega⟩ ht) (fun _ h9 => by cases h9) dX9_fewestBehind_97
    · refine lv_aload_n hx hb dX9_fewestBehind_28 rfl (lv_at hl 2 rfl) ?_
      refine lv_iload_n hx hb dX9_fewestBehind_29 rfl (lv_at hl 3 rfl) ?_
      refine lv_iconst (v := zI 1) hx hb dX9_fewestBehind_30 rfl ?_
      refine kz_iadd hx hb dX9_fewestBehind_31 ?_
      refine lv_iload hx hb dX9_fewestBehind_32 (lv_at hl 0 rfl) ?_
      refine lv_iload_n hx hb dX9_fewestBehind_34 rfl (lv_at hl 5 rfl) ?_
      refine k_callR (va_runV (As := [.int (zI (kc + 1)), .int (zI jg), .int (zI wo)]) (rest := []) ⟨hx, hb, hml, hown, hts⟩ (c_X9_canSet l D s.heap.size (kc := (kc + 1)) (f := jg) (wo := wo) (h0 := h0) (fa := fa) (tc := tc) (so := so) (sl := sl) (ce := ce) (fn := fn) (kd := kd) (wd := wd) (hs := hs) (pf := pf) (lt := lt) (mn := mn) (wg := wg) (ta := ta) (ck := ck) (at9 := at9) (rfn := rfn) (rk := rk) (rw := rw) (rh := rh) (cl := cl) (sa := sa) (fi := fi) (bo := bo) (ch := ch) (cn := cn) (ad := ad) (ru := ru) (kp := kp) (dn := dn) (rfa := rfa) (c_fi := c_fi) (f_fi := f_fi) (by omega) (by omega) q2) (cwV 3 hts gX9_fewestBehind_X9_canSet rfl rfl rfl (by decide +kernel) ⟨Nat.le_of_ble_eq_true rfl, Nat.le_of_ble_eq_true rfl⟩) (kPreV hP (kD0 hD) hK hN [0, 1] [0] ax_X9_fewestBehind_0 rfl (by decide +kernel) 0 9 rfl rfl) rfl rfl hl.1 rfl (lv_room (Nat.le_of_ble_eq_true rfl)) dX9_fewestBehind_35 ⟨Nat.le_of_ble_eq_true rfl, Nat.le_of_ble_eq_true rfl⟩) ?_
      refine lv_if_eq (tgt := 69) hx hb dX9_fewestBehind_38 (by decide) (fun c_3 => ?_) (fun c_3 => ?_)
      · have c_3 : ¬ (kCan (f_fi (kc + 1).toNat) jg wo) := b01f c_3
        refine lv_bipush (v := zI 24) hx hb dX9_fewestBehind_69 (by decide) ?_
        refine lv_istore (lv' := [(6, .int (zI 24)), (5, .int (zI jg)), (4, .int (zI jb)), (0, .ref h0), (1, .int (zI kc)), (2, .int (zI kf)), (3, .int (zI wo))]) hx hb dX9_fewestBehind_71 hl (by decide) rfl (fun ls hl => ?_)
        refine lv_iload hx hb dX9_fewestBehind_73 (lv_at hl 0 rfl) ?_
        refine lv_iload hx hb dX9_fewestBehind_75 (lv_at hl 2 rfl) ?_
        refine kz_icmp_ge (tgt := 85) hx hb dX9_fewestBehind_77 (by decide) (by omega) (by omega) (fun c_4 => ?_) (fun c_4 => ?_)
        · refine lv_iload hx hb dX9_fewestBehind_85 (lv_at hl 2 rfl) ?_
          refine lv_istore (lv' := [(4, .int (zI jb)), (6, .int (zI 24)), (5, .int (zI jg)), (0, .ref h0), (1, .int (zI kc)), (2, .int (zI kf)), (3, .int (zI wo))]) hx hb dX9_fewestBehind_87 hl (by decide) rfl (fun ls hl => ?_)
          refine lv_iinc (v := (zI (jg + 1))) (lv' := [(5, .int (zI (jg + 1))), (4, .int (zI jb)), (6, .int (zI 24)), (0, .ref h0), (1, .int (zI kc)), (2, .int (zI kf)), (3, .int (zI wo))]) hx hb dX9_fewestBehind_89 hl (k := 2) rfl (kz_inc _ 1) (by decide) rfl (fun ls hl => ?_)
          refine lv_goto (tgt := 19) hx hb dX9_fewestBehind_92 (by decide) ?_
          exact ih19 _ (by omega) _ _ _ ⟨jb, (jg + 1), rfl, (by omega), (kFewI_no v_191 c_3), rfl, rfl, lv_sub hl [0, 1, 3, 4, 5, 6] rfl⟩
        · omega
      · have c_3 : kCan (f_fi (kc + 1).toNat) jg wo := b01t c_3
        refine lv_aload_n hx hb dX9_fewestBehind_41 rfl (lv_at hl 2 rfl) ?_
        refine va_get (D := D) (ci := 9) (v := .ref ch) (C := RX9) (T := TX9) (N := 31) hx hb hts (fun _ h9 => List.mem_cons_of_mem _ (List.mem_append_right _ h9)) hown hK hP 0 rfl rfl 24 (by decide) (hts (.fieldLink RX9 52 "FontRunsModel" "changes" "[I") mw_X9_fewestBehind_2) (fun _ h9 => h9) rfl dX9_fewestBehind_42 ?_
        refine lv_iconst (v := zI 4) hx hb dX9_fewestBehind_45 rfl ?_
        refine lv_iload_n hx hb dX9_fewestBehind_46 rfl (lv_at hl 3 rfl) ?_
        refine lv_iconst (v := zI 1) hx hb dX9_fewestBehind_47 rfl ?_
        refine kz_iadd hx hb dX9_fewestBehind_48 ?_
        refine kz_imul hx hb dX9_fewestBehind_49 ?_
        refine lv_iload hx hb dX9_fewestBehind_50 (lv_at hl 0 rfl) ?_
        refine kz_iadd hx hb dX9_fewestBehind_52 ?_
        refine kz_iald hx hb hK hP 2 1 rfl rfl (by omega) dX9_fewestBehind_53 (fun z_5 rz_5 ez_5 => ?_)
        have gz_5 := q5 (kc + 1) jg (by omega) (by omega) (by omega) (by omega)
        have az_5 := kch_at (c := kc + 1) (f := jg) rz_5 ez_5
        have bz_5 : 0 ≤ z_5 ∧ z_5 ≤ 24 := by have u1 := gz_5.1; have u2 := gz_5.2.1; rw [az_5] at u1 u2; exact ⟨u1, u2⟩
        refine lv_iload hx hb dX9_fewestBehind_54 (lv_at hl 0 rfl) ?_
        refine lv_iload_n hx hb dX9_fewestBehind_56 rfl (lv_at hl 4 rfl) ?_
        refine kz_icmp_ne (tgt := 64) hx hb dX9_fewestBehind_57 (by decide) (by omega) (by omega) (fun c_6 => ?_) (fun c_6 => ?_)
        · refine lv_iconst (v := zI 1) hx hb dX9_fewestBehind_64 rfl ?_
          refine kz_iadd hx hb dX9_fewestBehind_65 ?_
          refine lv_goto (tgt := 71) hx hb dX9_fewestBehind_66 (by decide) ?_
          refine lv_istore (lv' := [(6, .int (zI (z_5 + 1))), (5, .int (zI jg)), (4, .int (zI jb)), (0, .ref h0), (1, .int (zI kc)), (2, .int (zI kf)), (3, .int (zI wo))]) hx hb dX9_fewestBehind_71 hl (by decide) rfl (fun ls hl => ?_)
          refine lv_iload hx hb dX9_fewestBehind_73 (lv_at hl 0 rfl) ?_
          refine lv_iload hx hb dX9_fewestBehind_75 (lv_at hl 2 rfl) ?_
          refine kz_icmp_ge (tgt := 85) hx hb dX9_fewestBehind_77 (by decide) (by omega) (by omega) (fun c_7 => ?_) (fun c_7 => ?_)
          · refine lv_iload hx hb dX9_fewestBehind_85 (lv_at hl 2 rfl) ?_
            refine lv_istore (lv' := [(4, .int (zI jb)), (6, .int (zI (z_5 + 1))), (5, .int (zI jg)), (0, .ref h0), (1, .int (zI kc)), (2, .int (zI kf)), (3, .int (zI wo))]) hx hb dX9_fewestBehind_87 hl (by decide) rfl (fun ls hl => ?_)
            refine lv_iinc (v := (zI (jg + 1))) (lv' := [(5, .int (zI (jg + 1))), (4, .int (zI jb)), (6, .int (zI (z_5 + 1))), (0, .ref h0), (1, .int (zI kc)), (2, .int (zI kf)), (3, .int (zI wo))]) hx hb dX9_fewestBehind_89 hl (k := 2) rfl (kz_inc _ 1) (by decide) rfl (fun ls hl => ?_)
            refine lv_goto (tgt := 19) hx hb dX9_fewestBehind_92 (by decide) ?_
            exact ih19 _ (by omega) _ _ _ ⟨jb, (jg + 1), rfl, (by omega), (kFewI_ge (v := z_5 + 1) v_191 (by rw [az_5]; unfold kdl; split <;> omega) (by omega)), rfl, rfl, lv_sub hl [0, 1, 3, 4, 5, 6] rfl⟩
          · refine lv_iload hx hb dX9_fewestBehind_80 (lv_at hl 0 rfl) ?_
            refine lv_goto (tgt := 87) hx hb dX9_fewestBehind_82 (by decide) ?_
            refine lv_istore (lv' := [(4, .int (zI (z_5 + 1))), (6, .int (zI (z_5 + 1))), (5, .int (zI jg)), (0, .ref h0), (1, .int (zI kc)), (2, .int (zI kf)), (3, .int (zI wo))]) hx hb dX9_fewestBehind_87 hl (by decide) rfl (fun ls hl => ?_)
            refine lv_iinc (v := (zI (jg + 1))) (lv' := [(5, .int (zI (jg + 1))), (4, .int (zI (z_5 + 1))), (6, .int (zI (z_5 + 1))), (0, .ref h0), (1, .int (zI kc)), (2, .int (zI kf)), (3, .int (zI wo))]) hx hb dX9_fewestBehind_89 hl (k := 2) rfl (kz_inc _ 1) (by decide) rfl (fun ls hl => ?_)
            refine lv_goto (tgt := 19) hx hb dX9_fewestBehind_92 (by decide) ?_
            exact ih19 _ (by omega) _ _ _ ⟨(z_5 + 1), (jg + 1), rfl, (by omega), (kFewI_lt v_191 (by omega) c_3 (by omega) (by rw [az_5]; unfold kdl; split <;> omega) (by omega)), rfl, rfl, lv_sub hl [0, 1, 3, 4, 5, 6] rfl⟩
        · refine lv_iconst (v := zI 0) hx hb dX9_fewestBehind_60 rfl ?_
          refine lv_goto (tgt := 65) hx hb dX9_fewestBehind_61 (by decide) ?_
          refine kz_iadd hx hb dX9_fewestBehind_65 ?_
          refine lv_goto (tgt := 71) hx hb dX9_fewestBehind_66 (by decide) ?_
          refine lv_istore (lv' := [(6, .int (zI (z_5 + 0))), (5, .int (zI jg)), (4, .int (zI jb)), (0, .ref h0), (1, .int (zI kc)), (2, .int (zI kf)), (3, .int (zI wo))]) hx hb dX9_fewestBehind_71 hl (by decide) rfl (fun ls hl => ?_)
          refine lv_iload hx hb dX9_fewestBehind_73 (lv_at hl 0 rfl) ?_
          refine lv_iload hx hb dX9_fewestBehind_75 (lv_at hl 2 rfl) ?_
          refine kz_icmp_ge (tgt := 85) hx hb dX9_fewestBehind_77 (by decide) (by omega) (by omega) (fun c_8 => ?_) (fun c_8 => ?_)
          · refine lv_iload hx hb dX9_fewestBehind_85 (lv_at hl 2 rfl) ?_
            refine lv_istore (lv' := [(4, .int (zI jb)), (6, .int (zI (z_5 + 0))), (5, .int (zI jg)), (0, .ref h0), (1, .int (zI kc)), (2, .int (zI kf)), (3, .int (zI wo))]) hx hb dX9_fewestBehind_87 hl (by decide) rfl (fun ls hl => ?_)
            refine lv_iinc (v := (zI (jg + 1))) (lv' := [(5, .int (zI (jg + 1))), (4, .int (zI jb)), (6, .int (zI (z_5 + 0))), (0, .ref h0), (1, .int (zI kc)), (2, .int (zI kf)), (3, .int (zI wo))]) hx hb dX9_fewestBehind_89 hl (k := 2) rfl (kz_inc _ 1) (by decide) rfl (fun ls hl => ?_)
            refine lv_goto (tgt := 19) hx hb dX9_fewestBehind_92 (by decide) ?_
            exact ih19 _ (by omega) _ _ _ ⟨jb, (jg + 1), rfl, (by omega), (kFewI_ge (v := z_5 + 0) v_191 (by rw [az_5]; unfold kdl; split <;> omega) (by omega)), rfl, rfl, lv_sub hl [0, 1, 3, 4, 5, 6] rfl⟩
          · refine lv_iload hx hb dX9_fewestBehind_80 (lv_at hl 0 rfl) ?_
            refine lv_goto (tgt := 87) hx hb dX9_fewestBehind_82 (by decide) ?_
            refine lv_istore (lv' := [(4, .int (zI (z_5 + 0))), (6, .int (zI (z_5 + 0))), (5, .int (zI jg)), (0, .ref h0), (1, .int (zI kc)), (2, .int (zI kf)), (3, .int (zI wo))]) hx hb dX9_fewestBehind_87 hl (by decide) rfl (fun ls hl => ?_)
            refine lv_iinc (v := (zI (jg + 1))) (lv' := [(5, .int (zI (jg + 1))), (4, .int (zI (z_5 + 0))), (6, .int (zI (z_5 + 0))), (0, .ref h0), (1, .int (zI kc)), (2, .int (zI kf)), (3, .int (zI wo))]) hx hb dX9_fewestBehind_89 hl (k := 2) rfl (kz_inc _ 1) (by decide) rfl (fun ls hl => ?_)
            refine lv_goto (tgt := 19) hx hb dX9_fewestBehind_92 (by decide) ?_
            exact ih19 _ (by omega) _ _ _ ⟨(z_5 + 0), (jg + 1), rfl, (by omega), (kFewI_lt v_191 (by omega) c_3 (by omega) (by rw [az_5]; unfold kdl; split <;> omega) (by omega)), rfl, rfl, lv_sub hl [0, 1, 3, 4, 5, 6] rfl⟩
  · refine lv_iconst (v := zI 0) hx hb dX9_fewestBehind_10 rfl ?_
    exact W.iret (v := (zI 0)) hx hb hr (fun t ht hW => QcP_of (by omega) ⟨fun _ => rfl, fun q => by omega, by omega⟩ ht) (fun _ h9 => by cases h9) dX9_fewestBehind_11
/-! where CLUSTERS begin; who fits them -/
def kSt (f : Nat → Int32) (n m : Int) : Prop := ∀ i : Nat, (i : Int) < n → ∃ z : Int, 0 ≤ z ∧ z ≤ m ∧ f i = zI z
theorem kSt_0 {f : Nat → Int32} {m : Int} : kSt f 0 m := fun i h => by omega
theorem kSt_upd {f : Nat → Int32} {n m v : Int} (h : kSt f n m) (hn : 0 ≤ n) (hv : 0 ≤ v ∧ v ≤ m) : kSt (upd f n.toNat (zI v)) (n + 1) m := by
  intro i hi
  by_cases e : i = n.toNat
  · subst e
    exact ⟨v, hv.1, hv.2, pk_us⟩
  · rw [pk_un e]
    exact h i (by omega)
theorem kSt_at {f : Nat → Int32} {n m i z : Int} (h : kSt f n m) (hi : 0 ≤ i ∧ i < n) (hm : m ≤ 24) (hz : rg z) (e : f i.toNat = zI z) : 0 ≤ z ∧ z ≤ m := by
  obtain ⟨w, h1, h2, h3⟩ := h i.toNat (by omega)
  rw [h3] at e
  have := (zI_eq (by omega) hz).mp e
  omega
def kFp (x : Int32) (n wo : Int) : Prop := x = 0 ∨ ∃ f : Int, 0 ≤ f ∧ f < n ∧ kCan x f wo
def kFt (fi : Nat → Int32) (fn n wo : Int) : Prop := ∀ c : Int, 0 ≤ c → c < n → kFp (fi c.toNat) fn wo
theorem kFt_0 {fi : Nat → Int32} {fn wo : Int} : kFt fi fn 0 wo := fun c h1 h2 => by omega
theorem kFt_upd {fi : Nat → Int32} {fn c wo : Int} {x : Int32} (h : kFt fi fn c wo) (hc : 0 ≤ c) : kFt (upd fi c.toNat x) fn c wo := by
  intro c' h1 h2
  rw [pk_un (by omega)]
  exact h c' h1 h2
theorem kFt_1 {fi : Nat → Int32} {fn c wo : Int} (h : kFt fi fn c wo) (h2 : kFp (fi c.toNat) fn wo) : kFt fi fn (c + 1) wo := by
  intro c' h3 h4
  by_cases e : c' = c
  · subst e
    exact h2
  · exact h c' h3 (by omega)
theorem kFp_same {x y : Int32} {n wo : Int} (h : kFp x n wo) (e : y = x) : kFp y (n + 1) wo := by
  subst e
  rcases h with h | ⟨f, f1, f2, f3⟩
  · exact Or.inl h
  · exact Or.inr ⟨f, f1, by omega, f3⟩
theorem kFp_set {x y : Int32} {j wo : Int} (hj : 0 ≤ j ∧ j < 4) (hw : ¬ j = wo) (e : y = x ||| (zI 1 <<< (zI j &&& 31))) : kFp y (j + 1) wo := by
  subst e
  exact Or.inr ⟨j, hj.1, by omega, kb_set (by omega) hw⟩
theorem kFt_fit {fi : Nat → Int32} {fn n : Int} (h : kFt fi fn n (-9)) (hf : 1 ≤ fn) : kFit fi fn n (-9) := by
  intro c h1 h2
  rcases h c h1 h2 with e | e
  · exact ⟨0, by omega, by omega, by omega, Or.inl e⟩
  · exact e
