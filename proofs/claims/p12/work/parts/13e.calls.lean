theorem dX8_best_0 : decode cX8_best 0 = .ok (.iload_n 1, 1) := by decide +kernel
theorem dX8_best_1 : decode cX8_best 1 = .ok (.iconst 0, 1) := by decide +kernel
theorem dX8_best_2 : decode cX8_best 2 = .ok (.iconst 3, 1) := by decide +kernel
theorem dX8_best_3 : decode cX8_best 3 = .ok (.invokestatic 128, 3) := by decide +kernel
theorem dX8_best_6 : decode cX8_best 6 = .ok (.ifCond .ne 6, 3) := by decide +kernel
theorem dX8_best_9 : decode cX8_best 9 = .ok (.bipush (-2), 2) := by decide +kernel
theorem dX8_best_11 : decode cX8_best 11 = .ok (.ireturn, 1) := by decide +kernel
theorem dX8_best_12 : decode cX8_best 12 = .ok (.aload_n 0, 1) := by decide +kernel
theorem dX8_best_13 : decode cX8_best 13 = .ok (.getfield 28, 3) := by decide +kernel
theorem dX8_best_16 : decode cX8_best 16 = .ok (.getfield 106, 3) := by decide +kernel
theorem dX8_best_19 : decode cX8_best 19 = .ok (.ifCond .ne 6, 3) := by decide +kernel
theorem dX8_best_22 : decode cX8_best 22 = .ok (.bipush (-3), 2) := by decide +kernel
theorem dX8_best_24 : decode cX8_best 24 = .ok (.ireturn, 1) := by decide +kernel
theorem dX8_best_25 : decode cX8_best 25 = .ok (.iload_n 1, 1) := by decide +kernel
theorem dX8_best_26 : decode cX8_best 26 = .ok (.tableswitch 50 0 2 #[26, 34, 42], 26) := by decide +kernel
theorem dX8_best_52 : decode cX8_best 52 = .ok (.aload_n 0, 1) := by decide +kernel
theorem dX8_best_53 : decode cX8_best 53 = .ok (.getfield 56, 3) := by decide +kernel
theorem dX8_best_56 : decode cX8_best 56 = .ok (.invokevirtual 247, 3) := by decide +kernel
theorem dX8_best_59 : decode cX8_best 59 = .ok (.ireturn, 1) := by decide +kernel
theorem dX8_best_60 : decode cX8_best 60 = .ok (.aload_n 0, 1) := by decide +kernel
theorem dX8_best_61 : decode cX8_best 61 = .ok (.getfield 56, 3) := by decide +kernel
theorem dX8_best_64 : decode cX8_best 64 = .ok (.getfield 187, 3) := by decide +kernel
theorem dX8_best_67 : decode cX8_best 67 = .ok (.ireturn, 1) := by decide +kernel
theorem dX8_best_68 : decode cX8_best 68 = .ok (.aload_n 0, 1) := by decide +kernel
theorem dX8_best_69 : decode cX8_best 69 = .ok (.getfield 56, 3) := by decide +kernel
theorem dX8_best_72 : decode cX8_best 72 = .ok (.getfield 251, 3) := by decide +kernel
theorem dX8_best_75 : decode cX8_best 75 = .ok (.ireturn, 1) := by decide +kernel
theorem dX8_best_76 : decode cX8_best 76 = .ok (.aload_n 0, 1) := by decide +kernel
theorem dX8_best_77 : decode cX8_best 77 = .ok (.getfield 56, 3) := by decide +kernel
theorem dX8_best_80 : decode cX8_best 80 = .ok (.aload_n 0, 1) := by decide +kernel
theorem dX8_best_81 : decode cX8_best 81 = .ok (.getfield 28, 3) := by decide +kernel
theorem dX8_best_84 : decode cX8_best 84 = .ok (.invokevirtual 254, 3) := by decide +kernel
theorem dX8_best_87 : decode cX8_best 87 = .ok (.ireturn, 1) := by decide +kernel
set_option maxRecDepth 20000 in
theorem ggX8_best_X4_advance : GoodIn wsX8_best wsX4_advance := goodIn_r _ [23, 24, 25, 26, 27, 28, 29, 30, 31, 32, 33, 34, 35, 36, 37, 7, 8, 9, 38, 39, 59, 60, 61, 62, 63, 64, 65, 66, 67, 68, 55, 56, 57, 58] (by decide +kernel) (by decide +kernel)
set_option maxRecDepth 20000 in
theorem gX8_best_X4_advance : GoodIn wsX8_best (wsV RX8 254 RX4 yX4_advance wsX4_advance) := goodIn_app (goodIn_of _ (by decide +kernel)) ggX8_best_X4_advance
set_option maxRecDepth 20000 in
theorem ggX8_best_X4_changes : GoodIn wsX8_best wsX4_changes := goodIn_r _ [14, 15, 16, 17, 18, 19, 59, 60, 61, 62, 63, 64, 65, 66, 67, 68] (by decide +kernel) (by decide +kernel)
set_option maxRecDepth 20000 in
theorem gX8_best_X4_changes : GoodIn wsX8_best (wsV RX8 247 RX4 yX4_changes wsX4_changes) := goodIn_app (goodIn_of _ (by decide +kernel)) ggX8_best_X4_changes
set_option maxRecDepth 20000 in
theorem ggX8_best_X8_isWithin : GoodIn wsX8_best wsX8_isWithin := goodIn_r _ [9] (by decide +kernel) (by decide +kernel)
set_option maxRecDepth 20000 in
theorem gX8_best_X8_isWithin : GoodIn wsX8_best (va_wsS RX8 128 yX8_isWithin wsX8_isWithin) := goodIn_app (goodIn_of _ (by decide +kernel)) ggX8_best_X8_isWithin
set_option maxRecDepth 20000 in
theorem mw_X8_best_0 : (.fieldLink RX8 28 "FontRuns" "fontRow" "LFontRuns$FontRow;" : Cond) ∈ wsX8_best := by decide +kernel
set_option maxRecDepth 20000 in
theorem mw_X8_best_1 : (.fieldLink RX8 106 "FontRuns$FontRow" "count" "I" : Cond) ∈ wsX8_best := by decide +kernel
set_option maxRecDepth 20000 in
theorem mw_X8_best_2 : (.fieldLink RX8 56 "FontRuns" "setting" "LFontRuns$Setting;" : Cond) ∈ wsX8_best := by decide +kernel
set_option maxRecDepth 20000 in
theorem mw_X8_best_3 : (.fieldLink RX8 187 "FontRuns$Setting" "runs" "I" : Cond) ∈ wsX8_best := by decide +kernel
set_option maxRecDepth 20000 in
theorem mw_X8_best_4 : (.fieldLink RX8 251 "FontRuns$Setting" "boxes" "I" : Cond) ∈ wsX8_best := by decide +kernel
theorem ax_X8_best_0 {e0 e1 e2 e3 e4 e5 : Nat × va_E} : ([] : List Nat).map (fun i => ([e0, e1, e2, e3, e4, e5] : va_W)[i]?) = ([] : va_W).map some := rfl
theorem ax_X8_best_1 {e0 e1 e2 e3 e4 e5 : Nat × va_E} : ([1] : List Nat).map (fun i => ([e0, e1, e2, e3, e4, e5] : va_W)[i]?) = ([e1] : va_W).map some := rfl
theorem ax_X8_best_2 {e0 e1 e2 e3 e4 e5 : Nat × va_E} : ([1, 2, 3, 4, 5] : List Nat).map (fun i => ([e0, e1, e2, e3, e4, e5] : va_W)[i]?) = ([e1, e2, e3, e4, e5] : va_W).map some := rfl
set_option maxHeartbeats 4000000 in
set_option maxRecDepth 100000 in
theorem c_X8_best (l : Launch) (D : va_G) (sz : Nat) (w : Int) (h0 : Nat) (sh : Nat) (rd : Nat) (fr : Nat) (wr : Nat) (pf : Nat) (rc : Nat) (se : Nat) (rs : Nat) (sw : Nat) (sp : Nat) (ss : Nat) (ew : Int) (wc : Int64) (tr : Int) (lf : Int) (g1 : Nat) (g2 : Nat) (g3 : Nat) (g4 : Nat) (g5 : Nat) (cn : Int) (bo : Int) (ru : Int) (g6 : Nat) (g7 : Nat) (cg4 : ClassId) (f4 : Nat → Int32) (k1 : Nat) (k2 : Nat) (k3 : Nat) (fn : Int) (ck1 : ClassId) (fk : Nat → Int32) (ck2 : ClassId) (fb : Nat → Int32) (q0 : rg w) (q1 : 0 ≤ cn ∧ cn ≤ 24) (q2 : 0 ≤ bo ∧ bo ≤ 24) (q3 : 0 ≤ ru ∧ ru ≤ cn) (q4 : 0 ≤ fn ∧ fn ≤ 4) : Met l yX8_best wsX8_best ({ frames := 4, cells := 0, slots := 0, locals := 87 }) (kPre [.ref h0, .int (zI w)] D [(h0, .inr (8, [.ref sh, .ref rd, .ref fr, .ref wr, .ref pf, .ref rc, .ref se, .ref rs, .ref sw, .ref sp, .ref ss, .int (zI ew), .long wc, .int (zI tr), .int (zI lf)])), (se, .inr (4, [.ref g1, .ref g2, .ref g3, .ref g4, .ref g5, .int (zI cn), .int (zI bo), .int (zI ru), .ref g6, .ref g7])), (g4, .inl (cg4, 24, .inl f4)), (fr, .inr (0, [.ref k1, .ref k2, .ref k3, .int (zI fn)])), (k1, .inl (ck1, 4, .inl fk)), (k2, .inl (ck2, 4, .inl fb))] [(cg4, .int), (ck1, .int), (ck2, .int)] sz) (QcP (fun rz => True)) 0 0 (fun _ => False) := by
  refine Met.ofW (cc := cX8_best) (maxL := 2) (ret := (some .int)) (by decide) rfl ?_
  intro p e s m args below meth c s₁ B hml hv
  obtain ⟨rfl, hsz, hP, hK, hD0, hN⟩ := hv
  have hx := B.exec
  have hb := B.bytes
  have hr := B.returns
  have hts := atoms_spec (ws := wsX8_best) B.pre
  have hown : s.vm.findClass RX8 = some m.cls := findClass_of_methodNamed B.named
  have hlocks := B.notSynchronized
  subst hsz
  have hD := hD0
  have hP : va_P D vwCl [(h0, .inr (8, [.ref sh, .ref rd, .ref fr, .ref wr, .ref pf, .ref rc, .ref se, .ref rs, .ref sw, .ref sp, .ref ss, .int (zI ew), .long wc, .int (zI tr), .int (zI lf)])), (se, .inr (4, [.ref g1, .ref g2, .ref g3, .ref g4, .ref g5, .int (zI cn), .int (zI bo), .int (zI ru), .ref g6, .ref g7])), (g4, .inl (cg4, 24, .inl f4)), (fr, .inr (0, [.ref k1, .ref k2, .ref k3, .int (zI fn)])), (k1, .inl (ck1, 4, .inl fk)), (k2, .inl (ck2, 4, .inl fb))] s.heap := hP
  have hl := lv_entry ([.ref h0, .int (zI w)]) (n := 2) (Nat.le_of_ble_eq_true rfl)
  rw [lg_entry_eq]
  generalize (lg_sl ([.ref h0, .int (zI w)]) ++ List.replicate (2 - (lg_sl ([.ref h0, .int (zI w)])).length) Slot.unset).toArray = ls at hl ⊢
  have hl : lv_has ls 2 [(0, .ref h0), (1, .int (zI w))] := hl
  refine lv_iload_n hx hb dX8_best_0 rfl (lv_at hl 1 rfl) ?_
  refine lv_iconst (v := zI 0) hx hb dX8_best_1 rfl ?_
  refine lv_iconst (v := zI 3) hx hb dX8_best_2 rfl ?_
  refine k_callR (va_runS (As := [.int (zI w), .int (zI 0), .int (zI 3)]) (rest := []) ⟨hx, hb, hml, hown, hts⟩ (c_X8_isWithin l D s.heap.size (v := w) (a := 0) (b := 3) q0 (by omega) (by omega)) (va_cwS 3 hts gX8_best_X8_isWithin rfl rfl rfl (by decide +kernel) ⟨Nat.le_of_ble_eq_true rfl, Nat.le_of_ble_eq_true rfl⟩) (kPreS hP (kD0 hD) hK hN [] [] ax_X8_best_0 rfl (by decide +kernel)) rfl rfl hl.1 rfl (lv_room (Nat.le_of_ble_eq_true rfl)) dX8_best_3 ⟨Nat.le_of_ble_eq_true rfl, Nat.le_of_ble_eq_true rfl⟩) ?_
  refine lv_if_ne (tgt := 12) hx hb dX8_best_6 (by decide) (fun c_1 => ?_) (fun c_1 => ?_)
  · have c_1 : 0 ≤ w ∧ w ≤ 3 := b01t c_1
    refine lv_aload_n hx hb dX8_best_12 rfl (lv_at hl 0 rfl) ?_
    refine va_get (D := D) (ci := 8) (v := .ref fr) (C := RX8) (T := TX8) (N := 15) hx hb hts (fun _ h9 => List.mem_cons_of_mem _ (List.mem_append_left _ (List.mem_append_left _ (List.mem_append_right _ h9)))) hown hK hP 0 rfl rfl 2 (by decide) (hts (.fieldLink RX8 28 "FontRuns" "fontRow" "LFontRuns$FontRow;") mw_X8_best_0) (fun _ h9 => h9) rfl dX8_best_13 ?_
    refine va_get (D := D) (ci := 0) (v := .int (zI fn)) (C := RX0) (T := TX0) (N := 4) hx hb hts (fun _ h9 => List.mem_cons_of_mem _ (List.mem_append_left _ (List.mem_append_right _ h9))) hown hK hP 3 rfl rfl 3 (by decide) (hts (.fieldLink RX8 106 "FontRuns$FontRow" "count" "I") mw_X8_best_1) (fun _ h9 => h9) rfl dX8_best_16 ?_
    refine kz_if_ne (tgt := 25) hx hb dX8_best_19 (by decide) (by omega) (fun c_2 => ?_) (fun c_2 => ?_)
    · refine lv_iload_n hx hb dX8_best_25 rfl (lv_at hl 1 rfl) ?_
      rcases (show w = 0 ∨ w = 1 ∨ w = 2 ∨ (¬ w = 0 ∧ ¬ w = 1 ∧ ¬ w = 2) from by omega) with c_3 | c_3 | c_3 | c_3
      · refine kz_tabIn (tgt := 52) (off := 26) hx hb dX8_best_26 0 (by omega) (by decide) (by decide) (by decide) (by decide) (by decide) ?_
        refine lv_aload_n hx hb dX8_best_52 rfl (lv_at hl 0 rfl) ?_
        refine va_get (D := D) (ci := 8) (v := .ref se) (C := RX8) (T := TX8) (N := 15) hx hb hts (fun _ h9 => List.mem_cons_of_mem _ (List.mem_append_left _ (List.mem_append_left _ (List.mem_append_right _ h9)))) hown hK hP 0 rfl rfl 6 (by decide) (hts (.fieldLink RX8 56 "FontRuns" "setting" "LFontRuns$Setting;") mw_X8_best_2) (fun _ h9 => h9) rfl dX8_best_53 ?_
        refine k_callP (va_runV (As := []) (rest := []) ⟨hx, hb, hml, hown, hts⟩ (c_X4_changes l D s.heap.size (h0 := se) (g1 := g1) (g2 := g2) (g3 := g3) (g4 := g4) (g5 := g5) (cn := cn) (bo := bo) (ru := ru) (g6 := g6) (g7 := g7) q1 q2 q3) (cwV 0 hts gX8_best_X4_changes rfl rfl rfl (by decide +kernel) ⟨Nat.le_of_ble_eq_true rfl, Nat.le_of_ble_eq_true rfl⟩) (kPreV hP (kD0 hD) hK hN [1] [] ax_X8_best_1 rfl (by decide +kernel) 1 4 rfl rfl) rfl rfl hl.1 rfl (lv_room (Nat.le_of_ble_eq_true rfl)) dX8_best_56 ⟨Nat.le_of_ble_eq_true rfl, Nat.le_of_ble_eq_true rfl⟩) (fun z_4 rz_4 h_5 => ?_)
        exact W.iret (v := (zI z_4)) hx hb hr (fun t ht hW => QcP_of (by omega) trivial ht) (fun _ h9 => by cases h9) dX8_best_59
      · refine kz_tabIn (tgt := 60) (off := 34) hx hb dX8_best_26 1 (by omega) (by decide) (by decide) (by decide) (by decide) (by decide) ?_
        refine lv_aload_n hx hb dX8_best_60 rfl (lv_at hl 0 rfl) ?_
        refine va_get (D := D) (ci := 8) (v := .ref se) (C := RX8) (T := TX8) (N := 15) hx hb hts (fun _ h9 => List.mem_cons_of_mem _ (List.mem_append_left _ (List.mem_append_left _ (List.mem_append_right _ h9)))) hown hK hP 0 rfl rfl 6 (by decide) (hts (.fieldLink RX8 56 "FontRuns" "setting" "LFontRuns$Setting;") mw_X8_best_2) (fun _ h9 => h9) rfl dX8_best_61 ?_
        refine va_get (D := D) (ci := 4) (v := .int (zI ru)) (C := RX4) (T := TX4) (N := 10) hx hb hts (fun _ h9 => List.mem_cons_of_mem _ (List.mem_append_right _ h9)) hown hK hP 1 rfl rfl 7 (by decide) (hts (.fieldLink RX8 187 "FontRuns$Setting" "runs" "I") mw_X8_best_3) (fun _ h9 => h9) rfl dX8_best_64 ?_
        exact W.iret (v := (zI ru)) hx hb hr (fun t ht hW => QcP_of (by omega) trivial ht) (fun _ h9 => by cases h9) dX8_best_67
      · refine kz_tabIn (tgt := 68) (off := 42) hx hb dX8_best_26 2 (by omega) (by decide) (by decide) (by decide) (by decide) (by decide) ?_
        refine lv_aload_n hx hb dX8_best_68 rfl (lv_at hl 0 rfl) ?_
        refine va_get (D := D) (ci := 8) (v := .ref se) (C := RX8) (T := TX8) (N := 15) hx hb hts (fun _ h9 => List.mem_cons_of_mem _ (List.mem_append_left _ (List.mem_append_left _ (List.mem_append_right _ h9)))) hown hK hP 0 rfl rfl 6 (by decide) (hts (.fieldLink RX8 56 "FontRuns" "setting" "LFontRuns$Setting;") mw_X8_best_2) (fun _ h9 => h9) rfl dX8_best_69 ?_
        refine va_get (D := D) (ci := 4) (v := .int (zI bo)) (C := RX4) (T := TX4) (N := 10) hx hb hts (fun _ h9 => List.mem_cons_of_mem _ (List.mem_append_right _ h9)) hown hK hP 1 rfl rfl 6 (by decide) (hts (.fieldLink RX8 251 "FontRuns$Setting" "boxes" "I") mw_X8_best_4) (fun _ h9 => h9) rfl dX8_best_72 ?_
        exact W.iret (v := (zI bo)) hx hb hr (fun t ht hW => QcP_of (by omega) trivial ht) (fun _ h9 => by cases h9) dX8_best_75
      · refine kz_tabOut (tgt := 76) hx hb dX8_best_26 (by omega) (by omega) (by decide) ?_
        refine lv_aload_n hx hb dX8_best_76 rfl (lv_at hl 0 rfl) ?_
        refine va_get (D := D) (ci := 8) (v := .ref se) (C := RX8) (T := TX8) (N := 15) hx hb hts (fun _ h9 => List.mem_cons_of_mem _ (List.mem_append_left _ (List.mem_append_left _ (List.mem_append_right _ h9)))) hown hK hP 0 rfl rfl 6 (by decide) (hts (.fieldLink RX8 56 "FontRuns" "setting" "LFontRuns$Setting;") mw_X8_best_2) (fun _ h9 => h9) rfl dX8_best_77 ?_
        refine lv_aload_n hx hb dX8_best_80 rfl (lv_at hl 0 rfl) ?_
        refine va_get (D := D) (ci := 8) (v := .ref fr) (C := RX8) (T := TX8) (N := 15) hx hb hts (fun _ h9 => List.mem_cons_of_mem _ (List.mem_append_left _ (List.mem_append_left _ (List.mem_append_right _ h9)))) hown hK hP 0 rfl rfl 2 (by decide) (hts (.fieldLink RX8 28 "FontRuns" "fontRow" "LFontRuns$FontRow;") mw_X8_best_0) (fun _ h9 => h9) rfl dX8_best_81 ?_
        refine k_callP (va_runV (As := [.ref fr]) (rest := []) ⟨hx, hb, hml, hown, hts⟩ (c_X4_advance l D s.heap.size (fr := fr) (h0 := se) (g1 := g1) (g2 := g2) (g3 := g3) (g4 := g4) (g5 := g5) (cn := cn) (bo := bo) (ru := ru) (g6 := g6) (g7 := g7) (cg4 := cg4) (f4 := f4) (k1 := k1) (k2 := k2) (k3 := k3) (n := fn) (ck1 := ck1) (fk := fk) (ck2 := ck2) (fb := fb) q1 q2 q3 q4) (cwV 1 hts gX8_best_X4_advance rfl rfl rfl (by decide +kernel) ⟨Nat.le_of_ble_eq_true rfl, Nat.le_of_ble_eq_true rfl⟩) (kPreV hP (kD0 hD) hK hN [1, 2, 3, 4, 5] [0, 1, 2] ax_X8_best_2 rfl (by decide +kernel) 1 4 rfl rfl) rfl rfl hl.1 rfl (lv_room (Nat.le_of_ble_eq_true rfl)) dX8_best_84 ⟨Nat.le_of_ble_eq_true rfl, Nat.le_of_ble_eq_true rfl⟩) (fun z_6 rz_6 h_7 => ?_)
        exact W.iret (v := (zI z_6)) hx hb hr (fun t ht hW => QcP_of (by omega) trivial ht) (fun _ h9 => by cases h9) dX8_best_87
    · refine lv_bipush (v := zI (-3)) hx hb dX8_best_22 (by decide) ?_
      exact W.iret (v := (zI (-3))) hx hb hr (fun t ht hW => QcP_of (by omega) trivial ht) (fun _ h9 => by cases h9) dX8_best_24
  · have c_1 : ¬ (0 ≤ w ∧ w ≤ 3) := b01f c_1
    refine lv_bipush (v := zI (-2)) hx hb dX8_best_9 (by decide) ?_
    exact W.iret (v := (zI (-2))) hx hb hr (fun t ht hW => QcP_of (by omega) trivial ht) (fun _ h9 => by cases h9) dX8_best_11
theorem dX8_without_0 : decode cX8_without 0 = .ok (.aload_n 0, 1) := by decide +kernel
theorem dX8_without_1 : decode cX8_without 1 = .ok (.getfield 28, 3) := by decide +kernel
theorem dX8_without_4 : decode cX8_without 4 = .ok (.iload_n 1, 1) := by decide +kernel
theorem dX8_without_5 : decode cX8_without 5 = .ok (.invokevirtual 109, 3) := by decide +kernel
theorem dX8_without_8 : decode cX8_without 8 = .ok (.ifCond .ne 5, 3) := by decide +kernel
theorem dX8_without_11 : decode cX8_without 11 = .ok (.iconst (-1), 1) := by decide +kernel
theorem dX8_without_12 : decode cX8_without 12 = .ok (.ireturn, 1) := by decide +kernel
theorem dX8_without_13 : decode cX8_without 13 = .ok (.aload_n 0, 1) := by decide +kernel
theorem dX8_without_14 : decode cX8_without 14 = .ok (.getfield 28, 3) := by decide +kernel
theorem dX8_without_17 : decode cX8_without 17 = .ok (.getfield 106, 3) := by decide +kernel
theorem dX8_without_20 : decode cX8_without 20 = .ok (.iconst 1, 1) := by decide +kernel
theorem dX8_without_21 : decode cX8_without 21 = .ok (.if_icmp .ne 6, 3) := by decide +kernel
theorem dX8_without_24 : decode cX8_without 24 = .ok (.bipush (-9), 2) := by decide +kernel
theorem dX8_without_26 : decode cX8_without 26 = .ok (.ireturn, 1) := by decide +kernel
theorem dX8_without_27 : decode cX8_without 27 = .ok (.aload_n 0, 1) := by decide +kernel
theorem dX8_without_28 : decode cX8_without 28 = .ok (.getfield 73, 3) := by decide +kernel
theorem dX8_without_31 : decode cX8_without 31 = .ok (.aload_n 0, 1) := by decide +kernel
theorem dX8_without_32 : decode cX8_without 32 = .ok (.getfield 35, 3) := by decide +kernel
theorem dX8_without_35 : decode cX8_without 35 = .ok (.aload_n 0, 1) := by decide +kernel
theorem dX8_without_36 : decode cX8_without 36 = .ok (.getfield 28, 3) := by decide +kernel
theorem dX8_without_39 : decode cX8_without 39 = .ok (.aload_n 0, 1) := by decide +kernel
theorem dX8_without_40 : decode cX8_without 40 = .ok (.getfield 42, 3) := by decide +kernel
theorem dX8_without_43 : decode cX8_without 43 = .ok (.aload_n 0, 1) := by decide +kernel
theorem dX8_without_44 : decode cX8_without 44 = .ok (.getfield 28, 3) := by decide +kernel
theorem dX8_without_47 : decode cX8_without 47 = .ok (.invokevirtual 227, 3) := by decide +kernel
theorem dX8_without_50 : decode cX8_without 50 = .ok (.iconst 1, 1) := by decide +kernel
theorem dX8_without_51 : decode cX8_without 51 = .ok (.iload_n 1, 1) := by decide +kernel
theorem dX8_without_52 : decode cX8_without 52 = .ok (.ishl, 1) := by decide +kernel
theorem dX8_without_53 : decode cX8_without 53 = .ok (.iconst (-1), 1) := by decide +kernel
theorem dX8_without_54 : decode cX8_without 54 = .ok (.ixor, 1) := by decide +kernel
theorem dX8_without_55 : decode cX8_without 55 = .ok (.iand, 1) := by decide +kernel
theorem dX8_without_56 : decode cX8_without 56 = .ok (.invokevirtual 231, 3) := by decide +kernel
theorem dX8_without_59 : decode cX8_without 59 = .ok (.aload_n 0, 1) := by decide +kernel
theorem dX8_without_60 : decode cX8_without 60 = .ok (.getfield 73, 3) := by decide +kernel
theorem dX8_without_63 : decode cX8_without 63 = .ok (.invokevirtual 247, 3) := by decide +kernel
theorem dX8_without_66 : decode cX8_without 66 = .ok (.ireturn, 1) := by decide +kernel
set_option maxRecDepth 20000 in
theorem ggX8_without_X0_all : GoodIn wsX8_without wsX0_all := goodIn_r _ [18, 11, 89, 90, 91, 92] (by decide +kernel) (by decide +kernel)
set_option maxRecDepth 20000 in
theorem gX8_without_X0_all : GoodIn wsX8_without (wsV RX8 227 RX0 yX0_all wsX0_all) := goodIn_app (goodIn_of _ (by decide +kernel)) ggX8_without_X0_all
set_option maxRecDepth 20000 in
theorem ggX8_without_X0_isFont : GoodIn wsX8_without wsX0_isFont := goodIn_r _ [10, 11, 12, 13, 14, 89, 90, 91, 92] (by decide +kernel) (by decide +kernel)
set_option maxRecDepth 20000 in
theorem gX8_without_X0_isFont : GoodIn wsX8_without (wsV RX8 109 RX0 yX0_isFont wsX0_isFont) := goodIn_app (goodIn_of _ (by decide +kernel)) ggX8_without_X0_isFont
set_option maxRecDepth 20000 in
theorem ggX8_without_X4_changes : GoodIn wsX8_without wsX4_changes := goodIn_r _ [70, 58, 71, 72, 52, 73, 93, 94, 95, 96, 97, 98, 99, 100, 101, 102] (by decide +kernel) (by decide +kernel)
set_option maxRecDepth 20000 in
theorem gX8_without_X4_changes : GoodIn wsX8_without (wsV RX8 247 RX4 yX4_changes wsX4_changes) := goodIn_app (goodIn_of _ (by decide +kernel)) ggX8_without_X4_changes
set_option maxRecDepth 20000 in
theorem ggX8_without_X4_make : GoodIn wsX8_without wsX4_make := goodIn_r _ [23, 24, 25, 26, 22, 27, 28, 29, 30, 31, 32, 33, 34, 35, 36, 37, 38, 39, 40, 41, 42, 9, 43, 11, 44, 45, 46, 47, 48, 49, 50, 51, 52, 53, 54, 55, 56, 57, 58, 59, 60, 61, 62, 63, 64, 65, 66, 93, 94, 95, 96, 97, 98, 99, 100, 101, 102, 103, 104, 89, 90, 91, 92, 105, 106] (by decide +kernel) (by decide +kernel)
set_option maxRecDepth 20000 in
theorem gX8_without_X4_make : GoodIn wsX8_without (wsV RX8 231 RX4 yX4_make wsX4_make) := goodIn_app (goodIn_of _ (by decide +kernel)) ggX8_without_X4_make
set_option maxRecDepth 20000 in
theorem mw_X8_without_0 : (.fieldLink RX8 28 "FontRuns" "fontRow" "LFontRuns$FontRow;" : Cond) ∈ wsX8_without := by decide +kernel
set_option maxRecDepth 20000 in
theorem mw_X8_without_1 : (.fieldLink RX8 106 "FontRuns$FontRow" "count" "I" : Cond) ∈ wsX8_without := by decide +kernel
set_option maxRecDepth 20000 in
theorem mw_X8_without_2 : (.fieldLink RX8 73 "FontRuns" "supposedSetting" "LFontRuns$Setting;" : Cond) ∈ wsX8_without := by decide +kernel
set_option maxRecDepth 20000 in
theorem mw_X8_without_3 : (.fieldLink RX8 35 "FontRuns" "writing" "LFontRuns$Writing;" : Cond) ∈ wsX8_without := by decide +kernel
set_option maxRecDepth 20000 in
theorem mw_X8_without_4 : (.fieldLink RX8 42 "FontRuns" "preference" "LFontRuns$Preference;" : Cond) ∈ wsX8_without := by decide +kernel
theorem ax_X8_without_0 {e0 e1 e2 e3 e4 e5 e6 e7 e8 e9 e10 e11 e12 e13 e14 : Nat × va_E} {k : va_W} : ([11] : List Nat).map (fun i => (([e0, e1, e2, e3, e4, e5, e6, e7, e8, e9, e10, e11, e12, e13, e14] : va_W) ++ k)[i]?) = ([e11] : va_W).map some := rfl
theorem ax_X8_without_1 {e0 e1 e2 e3 e4 e5 e6 e7 e8 e9 e10 e11 e12 e13 e14 : Nat × va_E} : ([1, 2, 3, 4, 5, 6, 7, 8, 9, 10, 11, 12, 13, 14] : List Nat).map (fun i => ([e0, e1, e2, e3, e4, e5, e6, e7, e8, e9, e10, e11, e12, e13, e14] : va_W)[i]?) = ([e1, e2, e3, e4, e5, e6, e7, e8, e9, e10, e11, e12, e13, e14] : va_W).map some := rfl
theorem ax_X8_without_2 {e0 e1 e2 e3 e4 e5 e6 e7 e8 e9 e10 e11 e12 e13 e14 : Nat × va_E} : ([0] : List Nat).map (fun i => ([e0, e1, e2, e3, e4, e5, e6, e7, e8, e9, e10, e11, e12, e13, e14] : va_W)[i]?) = ([e0] : va_W).map some := rfl
theorem ax_X8_without_3 {D : va_G} {cl : List vw_C} {H : Heap} {e0 f0 f1 f2 f3 f4 f5 f6 f7 f8 f9 f10 f11 f12 f13 : Nat × va_E} {k : va_W} (h : va_P D cl ((([e0] : va_W) ++ ([f0, f1, f2, f3, f4, f5, f6, f7, f8, f9, f10, f11, f12, f13] : va_W)) ++ k) H) : va_P D cl (([e0, f0, f1, f2, f3, f4, f5, f6, f7, f8, f9, f10, f11, f12, f13] : va_W) ++ k) H := h
theorem ax_X8_without_4 {A : Nat → Prop} {e0 f0 f1 f2 f3 f4 f5 f6 f7 f8 f9 f10 f11 f12 f13 : Nat × va_E} {k : va_W} (h : va_D A ((([e0] : va_W) ++ ([f0, f1, f2, f3, f4, f5, f6, f7, f8, f9, f10, f11, f12, f13] : va_W)) ++ k)) : va_D A (([e0, f0, f1, f2, f3, f4, f5, f6, f7, f8, f9, f10, f11, f12, f13] : va_W) ++ k) := h
theorem ax_X8_without_5 {e0 e1 e2 e3 e4 e5 e6 e7 e8 e9 e10 e11 e12 e13 e14 : Nat × va_E} {k : va_W} : ([1] : List Nat).map (fun i => (([e0, e1, e2, e3, e4, e5, e6, e7, e8, e9, e10, e11, e12, e13, e14] : va_W) ++ k)[i]?) = ([e1] : va_W).map some := rfl
theorem ax_X8_without_6 {e0 e1 e2 e3 e4 e5 e6 e7 e8 e9 e10 e11 e12 e13 e14 : Nat × va_E} : ([0, 1, 2, 3, 4, 5, 6, 7, 8, 9, 10, 11, 12, 13, 14] : List Nat).map (fun i => ([e0, e1, e2, e3, e4, e5, e6, e7, e8, e9, e10, e11, e12, e13, e14] : va_W)[i]?) = ([e0, e1, e2, e3, e4, e5, e6, e7, e8, e9, e10, e11, e12, e13, e14] : va_W).map some := rfl
set_option maxHeartbeats 4000000 in
set_option maxRecDepth 100000 in
theorem c_X8_without (l : Launch) (D : va_G) (sz : Nat) (f : Int) (h0 : Nat) (sh : Nat) (rd : Nat) (fr : Nat) (wr : Nat) (pf : Nat) (rc : Nat) (se : Nat) (rs : Nat) (sw : Nat) (sp : Nat) (ss : Nat) (ew : Int) (wc : Int64) (tr : Int) (lf : Int) (sg1 : Nat) (sg2 : Nat) (sg3 : Nat) (sg4 : Nat) (sg5 : Nat) (scn : Int) (sbo : Int) (sru : Int) (sg6 : Nat) (sg7 : Nat) (scg1 : ClassId) (sf1 : Nat → Int32) (scg2 : ClassId) (sf2 : Nat → Int32) (scg3 : ClassId) (sf3 : Nat → Int32) (scg4 : ClassId) (sf4 : Nat → Int32) (scg5 : ClassId) (sf5 : Nat → Int32) (scg6 : ClassId) (sf6 : Nat → Int32) (scg7 : ClassId) (sfo : Nat → Option Nat) (o3 : Nat) (w1 : Nat) (wn : Int) (cw1 : ClassId) (fw : Nat → Int32) (k1 : Nat) (k2 : Nat) (k3 : Nat) (fn : Int) (ck3 : ClassId) (fh : Nat → Int32) (p1 : Nat) (pn : Int) (cp1 : ClassId) (fp : Nat → Int32) (pr : Nat → Nat) (gp : Nat → Nat → Int32) (cy : ClassId) (q0 : rg f) (q1 : 0 ≤ scn ∧ scn ≤ 24) (q2 : 0 ≤ sbo ∧ sbo ≤ 24) (q3 : 0 ≤ sru ∧ sru ≤ scn) (q4 : kOut sfo pr o3 24) (q5 : o3 + 24 ≤ 56) (q6 : 0 ≤ wn ∧ wn ≤ 24) (q7 : 0 ≤ fn ∧ fn ≤ 4) (q8 : 0 ≤ pn ∧ pn ≤ 4) (q9 : kPr fp) : Met l yX8_without wsX8_without ({ frames := 3, cells := 0, slots := 0, locals := 75 }) (kPre [.ref h0, .int (zI f)] D (([(h0, .inr (8, [.ref sh, .ref rd, .ref fr, .ref wr, .ref pf, .ref rc, .ref se, .ref rs, .ref sw, .ref sp, .ref ss, .int (zI ew), .long wc, .int (zI tr), .int (zI lf)])), (ss, .inr (4, [.ref sg1, .ref sg2, .ref sg3, .ref sg4, .ref sg5, .int (zI scn), .int (zI sbo), .int (zI sru), .ref sg6, .ref sg7])), (sg1, .inl (scg1, 24, .inl sf1)), (sg2, .inl (scg2, 24, .inl sf2)), (sg3, .inl (scg3, 24, .inl sf3)), (sg4, .inl (scg4, 24, .inl sf4)), (sg5, .inl (scg5, 24, .inl sf5)), (sg6, .inl (scg6, 24, .inl sf6)), (sg7, .inl (scg7, 24, .inr (.inr (.inr (.inr (sfo)))))), (wr, .inr (7, [.ref w1, .int (zI wn)])), (w1, .inl (cw1, 24, .inl fw)), (fr, .inr (0, [.ref k1, .ref k2, .ref k3, .int (zI fn)])), (k3, .inl (ck3, 4, .inl fh)), (pf, .inr (1, [.ref p1, .int (zI pn)])), (p1, .inl (cp1, 4, .inl fp))] : va_W) ++ kRows pr gp cy) [(scg1, .int), (scg2, .int), (scg3, .int), (scg4, .int), (scg5, .int), (scg6, .int), (scg7, .array .int), (cw1, .int), (ck3, .int), (cp1, .int), (cy, .int)] sz) (kQS (fun rz t => ∃ (u_scn : Int) (u_sbo : Int) (u_sru : Int) (u_sf1 : Nat → Int32) (u_sf2 : Nat → Int32) (u_sf3 : Nat → Int32) (u_sf4 : Nat → Int32) (u_sf5 : Nat → Int32) (u_sf6 : Nat → Int32) (u_gp : Nat → Nat → Int32), (0 ≤ u_scn ∧ u_scn ≤ 24) ∧ (0 ≤ u_sbo ∧ u_sbo ≤ 24) ∧ (0 ≤ u_sru ∧ u_sru ≤ u_scn) ∧ va_P D vwCl (([(h0, .inr (8, [.ref sh, .ref rd, .ref fr, .ref wr, .ref pf, .ref rc, .ref se, .ref rs, .ref sw, .ref sp, .ref ss, .int (zI ew), .long wc, .int (zI tr), .int (zI lf)])), (ss, .inr (4, [.ref sg1, .ref sg2, .ref sg3, .ref sg4, .ref sg5, .int (zI u_scn), .int (zI u_sbo), .int (zI u_sru), .ref sg6, .ref sg7])), (sg1, .inl (scg1, 24, .inl u_sf1)), (sg2, .inl (scg2, 24, .inl u_sf2)), (sg3, .inl (scg3, 24, .inl u_sf3)), (sg4, .inl (scg4, 24, .inl u_sf4)), (sg5, .inl (scg5, 24, .inl u_sf5)), (sg6, .inl (scg6, 24, .inl u_sf6)), (sg7, .inl (scg7, 24, .inr (.inr (.inr (.inr (sfo)))))), (wr, .inr (7, [.ref w1, .int (zI wn)])), (w1, .inl (cw1, 24, .inl fw)), (fr, .inr (0, [.ref k1, .ref k2, .ref k3, .int (zI fn)])), (k3, .inl (ck3, 4, .inl fh)), (pf, .inr (1, [.ref p1, .int (zI pn)])), (p1, .inl (cp1, 4, .inl fp))] : va_W) ++ kRows pr u_gp cy) t.heap ∧ va_D (va_A (([(h0, .inr (8, [.ref sh, .ref rd, .ref fr, .ref wr, .ref pf, .ref rc, .ref se, .ref rs, .ref sw, .ref sp, .ref ss, .int (zI ew), .long wc, .int (zI tr), .int (zI lf)])), (ss, .inr (4, [.ref sg1, .ref sg2, .ref sg3, .ref sg4, .ref sg5, .int (zI scn), .int (zI sbo), .int (zI sru), .ref sg6, .ref sg7])), (sg1, .inl (scg1, 24, .inl sf1)), (sg2, .inl (scg2, 24, .inl sf2)), (sg3, .inl (scg3, 24, .inl sf3)), (sg4, .inl (scg4, 24, .inl sf4)), (sg5, .inl (scg5, 24, .inl sf5)), (sg6, .inl (scg6, 24, .inl sf6)), (sg7, .inl (scg7, 24, .inr (.inr (.inr (.inr (sfo)))))), (wr, .inr (7, [.ref w1, .int (zI wn)])), (w1, .inl (cw1, 24, .inl fw)), (fr, .inr (0, [.ref k1, .ref k2, .ref k3, .int (zI fn)])), (k3, .inl (ck3, 4, .inl fh)), (pf, .inr (1, [.ref p1, .int (zI pn)])), (p1, .inl (cp1, 4, .inl fp))] : va_W) ++ kRows pr gp cy) sz) (([(h0, .inr (8, [.ref sh, .ref rd, .ref fr, .ref wr, .ref pf, .ref rc, .ref se, .ref rs, .ref sw, .ref sp, .ref ss, .int (zI ew), .long wc, .int (zI tr), .int (zI lf)])), (ss, .inr (4, [.ref sg1, .ref sg2, .ref sg3, .ref sg4, .ref sg5, .int (zI u_scn), .int (zI u_sbo), .int (zI u_sru), .ref sg6, .ref sg7])), (sg1, .inl (scg1, 24, .inl u_sf1)), (sg2, .inl (scg2, 24, .inl u_sf2)), (sg3, .inl (scg3, 24, .inl u_sf3)), (sg4, .inl (scg4, 24, .inl u_sf4)), (sg5, .inl (scg5, 24, .inl u_sf5)), (sg6, .inl (scg6, 24, .inl u_sf6)), (sg7, .inl (scg7, 24, .inr (.inr (.inr (.inr (sfo)))))), (wr, .inr (7, [.ref w1, .int (zI wn)])), (w1, .inl (cw1, 24, .inl fw)), (fr, .inr (0, [.ref k1, .ref k2, .ref k3, .int (zI fn)])), (k3, .inl (ck3, 4, .inl fh)), (pf, .inr (1, [.ref p1, .int (zI pn)])), (p1, .inl (cp1, 4, .inl fp))] : va_W) ++ kRows pr u_gp cy)) (va_A (([(h0, .inr (8, [.ref sh, .ref rd, .ref fr, .ref wr, .ref pf, .ref rc, .ref se, .ref rs, .ref sw, .ref sp, .ref ss, .int (zI ew), .long wc, .int (zI tr), .int (zI lf)])), (ss, .inr (4, [.ref sg1, .ref sg2, .ref sg3, .ref sg4, .ref sg5, .int (zI scn), .int (zI sbo), .int (zI sru), .ref sg6, .ref sg7])), (sg1, .inl (scg1, 24, .inl sf1)), (sg2, .inl (scg2, 24, .inl sf2)), (sg3, .inl (scg3, 24, .inl sf3)), (sg4, .inl (scg4, 24, .inl sf4)), (sg5, .inl (scg5, 24, .inl sf5)), (sg6, .inl (scg6, 24, .inl sf6)), (sg7, .inl (scg7, 24, .inr (.inr (.inr (.inr (sfo)))))), (wr, .inr (7, [.ref w1, .int (zI wn)])), (w1, .inl (cw1, 24, .inl fw)), (fr, .inr (0, [.ref k1, .ref k2, .ref k3, .int (zI fn)])), (k3, .inl (ck3, 4, .inl fh)), (pf, .inr (1, [.ref p1, .int (zI pn)])), (p1, .inl (cp1, 4, .inl fp))] : va_W) ++ kRows pr gp cy) sz)) 0 0 (va_A (([(h0, .inr (8, [.ref sh, .ref rd, .ref fr, .ref wr, .ref pf, .ref rc, .ref se, .ref rs, .ref sw, .ref sp, .ref ss, .int (zI ew), .long wc, .int (zI tr), .int (zI lf)])), (ss, .inr (4, [.ref sg1, .ref sg2, .ref sg3, .ref sg4, .ref sg5, .int (zI scn), .int (zI sbo), .int (zI sru), .ref sg6, .ref sg7])), (sg1, .inl (scg1, 24, .inl sf1)), (sg2, .inl (scg2, 24, .inl sf2)), (sg3, .inl (scg3, 24, .inl sf3)), (sg4, .inl (scg4, 24, .inl sf4)), (sg5, .inl (scg5, 24, .inl sf5)), (sg6, .inl (scg6, 24, .inl sf6)), (sg7, .inl (scg7, 24, .inr (.inr (.inr (.inr (sfo)))))), (wr, .inr (7, [.ref w1, .int (zI wn)])), (w1, .inl (cw1, 24, .inl fw)), (fr, .inr (0, [.ref k1, .ref k2, .ref k3, .int (zI fn)])), (k3, .inl (ck3, 4, .inl fh)), (pf, .inr (1, [.ref p1, .int (zI pn)])), (p1, .inl (cp1, 4, .inl fp))] : va_W) ++ kRows pr gp cy) sz) := by
  refine Met.ofW (cc := cX8_without) (maxL := 2) (ret := (some .int)) (by decide) rfl ?_
  intro p e s m args below meth c s₁ B hml hv
  obtain ⟨rfl, hsz, hP, hK, hD0, hN⟩ := hv
  have hx := B.exec
  have hb := B.bytes
  have hr := B.returns
  have hts := atoms_spec (ws := wsX8_without) B.pre
  have hown : s.vm.findClass RX8 = some m.cls := findClass_of_methodNamed B.named
  have hlocks := B.notSynchronized
  subst hsz
  have hD := hD0.self (sz := s.heap.size)
  generalize hAe : va_A (([(h0, .inr (8, [.ref sh, .ref rd, .ref fr, .ref wr, .ref pf, .ref rc, .ref se, .ref rs, .ref sw, .ref sp, .ref ss, .int (zI ew), .long wc, .int (zI tr), .int (zI lf)])), (ss, .inr (4, [.ref sg1, .ref sg2, .ref sg3, .ref sg4, .ref sg5, .int (zI scn), .int (zI sbo), .int (zI sru), .ref sg6, .ref sg7])), (sg1, .inl (scg1, 24, .inl sf1)), (sg2, .inl (scg2, 24, .inl sf2)), (sg3, .inl (scg3, 24, .inl sf3)), (sg4, .inl (scg4, 24, .inl sf4)), (sg5, .inl (scg5, 24, .inl sf5)), (sg6, .inl (scg6, 24, .inl sf6)), (sg7, .inl (scg7, 24, .inr (.inr (.inr (.inr (sfo)))))), (wr, .inr (7, [.ref w1, .int (zI wn)])), (w1, .inl (cw1, 24, .inl fw)), (fr, .inr (0, [.ref k1, .ref k2, .ref k3, .int (zI fn)])), (k3, .inl (ck3, 4, .inl fh)), (pf, .inr (1, [.ref p1, .int (zI pn)])), (p1, .inl (cp1, 4, .inl fp))] : va_W) ++ kRows pr gp cy) s.heap.size = A at hD ⊢
  have hA : ∀ q : Nat, s.heap.size ≤ q → A q := fun q h => by rw [← hAe]; exact Or.inr h
  have hS : va_S A s.heap s.heap [] := va_S.rf
  have hP : va_P D vwCl (([(h0, .inr (8, [.ref sh, .ref rd, .ref fr, .ref wr, .ref pf, .ref rc, .ref se, .ref rs, .ref sw, .ref sp, .ref ss, .int (zI ew), .long wc, .int (zI tr), .int (zI lf)])), (ss, .inr (4, [.ref sg1, .ref sg2, .ref sg3, .ref sg4, .ref sg5, .int (zI scn), .int (zI sbo), .int (zI sru), .ref sg6, .ref sg7])), (sg1, .inl (scg1, 24, .inl sf1)), (sg2, .inl (scg2, 24, .inl sf2)), (sg3, .inl (scg3, 24, .inl sf3)), (sg4, .inl (scg4, 24, .inl sf4)), (sg5, .inl (scg5, 24, .inl sf5)), (sg6, .inl (scg6, 24, .inl sf6)), (sg7, .inl (scg7, 24, .inr (.inr (.inr (.inr (sfo)))))), (wr, .inr (7, [.ref w1, .int (zI wn)])), (w1, .inl (cw1, 24, .inl fw)), (fr, .inr (0, [.ref k1, .ref k2, .ref k3, .int (zI fn)])), (k3, .inl (ck3, 4, .inl fh)), (pf, .inr (1, [.ref p1, .int (zI pn)])), (p1, .inl (cp1, 4, .inl fp))] : va_W) ++ kRows pr gp cy) s.heap := hP
  have hl := lv_entry ([.ref h0, .int (zI f)]) (n := 2) (Nat.le_of_ble_eq_true rfl)
  rw [lg_entry_eq]
  generalize (lg_sl ([.ref h0, .int (zI f)]) ++ List.replicate (2 - (lg_sl ([.ref h0, .int (zI f)])).length) Slot.unset).toArray = ls at hl ⊢
  have hl : lv_has ls 2 [(0, .ref h0), (1, .int (zI f))] := hl
  refine lv_aload_n hx hb dX8_without_0 rfl (lv_at hl 0 rfl) ?_
  refine va_get (D := D) (ci := 8) (v := .ref fr) (C := RX8) (T := TX8) (N := 15) hx hb hts (fun _ h9 => List.mem_cons_of_mem _ (List.mem_append_left _ (List.mem_append_left _ (List.mem_append_left _ (List.mem_append_left _ (List.mem_append_right _ h9)))))) hown hK hP 0 rfl rfl 2 (by decide) (hts (.fieldLink RX8 28 "FontRuns" "fontRow" "LFontRuns$FontRow;") mw_X8_without_0) (fun _ h9 => h9) rfl dX8_without_1 ?_
  refine lv_iload_n hx hb dX8_without_4 rfl (lv_at hl 1 rfl) ?_
  refine k_callR (va_runV (As := [.int (zI f)]) (rest := []) ⟨hx, hb, hml, hown, hts⟩ (c_X0_isFont l D s.heap.size (f := f) (h0 := fr) (k1 := k1) (k2 := k2) (k3 := k3) (n := fn) q0 q7) (cwV 1 hts gX8_without_X0_isFont rfl rfl rfl (by decide +kernel) ⟨Nat.le_of_ble_eq_true rfl, Nat.le_of_ble_eq_true rfl⟩) (kPreV hP (kD0 hD) hK hN [11] [] ax_X8_without_0 rfl (by decide +kernel) 11 0 rfl rfl) rfl rfl hl.1 rfl (lv_room (Nat.le_of_ble_eq_true rfl)) dX8_without_5 ⟨Nat.le_of_ble_eq_true rfl, Nat.le_of_ble_eq_true rfl⟩) ?_
  refine lv_if_ne (tgt := 13) hx hb dX8_without_8 (by decide) (fun c_1 => ?_) (fun c_1 => ?_)
  · have c_1 : 0 ≤ f ∧ f ≤ fn - 1 := b01t c_1
    refine lv_aload_n hx hb dX8_without_13 rfl (lv_at hl 0 rfl) ?_
    refine va_get (D := D) (ci := 8) (v := .ref fr) (C := RX8) (T := TX8) (N := 15) hx hb hts (fun _ h9 => List.mem_cons_of_mem _ (List.mem_append_left _ (List.mem_append_left _ (List.mem_append_left _ (List.mem_append_left _ (List.mem_append_right _ h9)))))) hown hK hP 0 rfl rfl 2 (by decide) (hts (.fieldLink RX8 28 "FontRuns" "fontRow" "LFontRuns$FontRow;") mw_X8_without_0) (fun _ h9 => h9) rfl dX8_without_14 ?_
    refine va_get (D := D) (ci := 0) (v := .int (zI fn)) (C := RX0) (T := TX0) (N := 4) hx hb hts (fun _ h9 => List.mem_cons_of_mem _ (List.mem_append_left _ (List.mem_append_left _ (List.mem_append_left _ (List.mem_append_right _ h9))))) hown hK hP 11 rfl rfl 3 (by decide) (hts (.fieldLink RX8 106 "FontRuns$FontRow" "count" "I") mw_X8_without_1) (fun _ h9 => h9) rfl dX8_without_17 ?_
    refine lv_iconst (v := zI 1) hx hb dX8_without_20 rfl ?_
    refine kz_icmp_ne (tgt := 27) hx hb dX8_without_21 (by decide) (by omega) (by omega) (fun c_2 => ?_) (fun c_2 => ?_)
    · refine lv_aload_n hx hb dX8_without_27 rfl (lv_at hl 0 rfl) ?_
      refine va_get (D := D) (ci := 8) (v := .ref ss) (C := RX8) (T := TX8) (N := 15) hx hb hts (fun _ h9 => List.mem_cons_of_mem _ (List.mem_append_left _ (List.mem_append_left _ (List.mem_append_left _ (List.mem_append_left _ (List.mem_append_right _ h9)))))) hown hK hP 0 rfl rfl 10 (by decide) (hts (.fieldLink RX8 73 "FontRuns" "supposedSetting" "LFontRuns$Setting;") mw_X8_without_2) (fun _ h9 => h9) rfl dX8_without_28 ?_
      refine lv_aload_n hx hb dX8_without_31 rfl (lv_at hl 0 rfl) ?_
      refine va_get (D := D) (ci := 8) (v := .ref wr) (C := RX8) (T := TX8) (N := 15) hx hb hts (fun _ h9 => List.mem_cons_of_mem _ (List.mem_append_left _ (List.mem_append_left _ (List.mem_append_left _ (List.mem_append_left _ (List.mem_append_right _ h9)))))) hown hK hP 0 rfl rfl 3 (by decide) (hts (.fieldLink RX8 35 "FontRuns" "writing" "LFontRuns$Writing;") mw_X8_without_3) (fun _ h9 => h9) rfl dX8_without_32 ?_
      refine lv_aload_n hx hb dX8_without_35 rfl (lv_at hl 0 rfl) ?_
      refine va_get (D := D) (ci := 8) (v := .ref fr) (C := RX8) (T := TX8) (N := 15) hx hb hts (fun _ h9 => List.mem_cons_of_mem _ (List.mem_append_left _ (List.mem_append_left _ (List.mem_append_left _ (List.mem_append_left _ (List.mem_append_right _ h9)))))) hown hK hP 0 rfl rfl 2 (by decide) (hts (.fieldLink RX8 28 "FontRuns" "fontRow" "LFontRuns$FontRow;") mw_X8_without_0) (fun _ h9 => h9) rfl dX8_without_36 ?_
      refine lv_aload_n hx hb dX8_without_39 rfl (lv_at hl 0 rfl) ?_
      refine va_get (D := D) (ci := 8) (v := .ref pf) (C := RX8) (T := TX8) (N := 15) hx hb hts (fun _ h9 => List.mem_cons_of_mem _ (List.mem_append_left _ (List.mem_append_left _ (List.mem_append_left _ (List.mem_append_left _ (List.mem_append_right _ h9)))))) hown hK hP 0 rfl rfl 4 (by decide) (hts (.fieldLink RX8 42 "FontRuns" "preference" "LFontRuns$Preference;") mw_X8_without_4) (fun _ h9 => h9) rfl dX8_without_40 ?_
      refine lv_aload_n hx hb dX8_without_43 rfl (lv_at hl 0 rfl) ?_
      refine va_get (D := D) (ci := 8) (v := .ref fr) (C := RX8) (T := TX8) (N := 15) hx hb hts (fun _ h9 => List.mem_cons_of_mem _ (List.mem_append_left _ (List.mem_append_left _ (List.mem_append_left _ (List.mem_append_left _ (List.mem_append_right _ h9)))))) hown hK hP 0 rfl rfl 2 (by decide) (hts (.fieldLink RX8 28 "FontRuns" "fontRow" "LFontRuns$FontRow;") mw_X8_without_0) (fun _ h9 => h9) rfl dX8_without_44 ?_
      refine k_callP (va_runV (As := []) (rest := [.ref pf, .ref fr, .ref wr, .ref ss]) ⟨hx, hb, hml, hown, hts⟩ (c_X0_all l D s.heap.size (h0 := fr) (k1 := k1) (k2 := k2) (k3 := k3) (n := fn) q7) (cwV 0 hts gX8_without_X0_all rfl rfl rfl (by decide +kernel) ⟨Nat.le_of_ble_eq_true rfl, Nat.le_of_ble_eq_true rfl⟩) (kPreV hP (kD0 hD) hK hN [11] [] ax_X8_without_0 rfl (by decide +kernel) 11 0 rfl rfl) rfl rfl hl.1 rfl (lv_room (Nat.le_of_ble_eq_true rfl)) dX8_without_47 ⟨Nat.le_of_ble_eq_true rfl, Nat.le_of_ble_eq_true rfl⟩) (fun z_3 rz_3 h_4 => ?_)
      refine lv_iconst (v := zI 1) hx hb dX8_without_50 rfl ?_
      refine lv_iload_n hx hb dX8_without_51 rfl (lv_at hl 1 rfl) ?_
      refine lv_ishl hx hb dX8_without_52 ?_
      refine kz_any (fun z_5 rz_5 ez_5 => ?_)
      refine lv_iconst (v := zI (-1)) hx hb dX8_without_53 rfl ?_
      refine lv_ixor hx hb dX8_without_54 ?_
      refine kz_any (fun z_6 rz_6 ez_6 => ?_)
      refine lv_iand hx hb dX8_without_55 ?_
      refine kz_any (fun z_7 rz_7 ez_7 => ?_)
      have hFc := va_freeP (cx := [(ss, .inr (4, [.ref sg1, .ref sg2, .ref sg3, .ref sg4, .ref sg5, .int (zI scn), .int (zI sbo), .int (zI sru), .ref sg6, .ref sg7])), (sg1, .inl (scg1, 24, .inl sf1)), (sg2, .inl (scg2, 24, .inl sf2)), (sg3, .inl (scg3, 24, .inl sf3)), (sg4, .inl (scg4, 24, .inl sf4)), (sg5, .inl (scg5, 24, .inl sf5)), (sg6, .inl (scg6, 24, .inl sf6)), (sg7, .inl (scg7, 24, .inr (.inr (.inr (.inr (sfo)))))), (wr, .inr (7, [.ref w1, .int (zI wn)])), (w1, .inl (cw1, 24, .inl fw)), (fr, .inr (0, [.ref k1, .ref k2, .ref k3, .int (zI fn)])), (k3, .inl (ck3, 4, .inl fh)), (pf, .inr (1, [.ref p1, .int (zI pn)])), (p1, .inl (cp1, 4, .inl fp))]) hD hS hA [1, 2, 3, 4, 5, 6, 7, 8, 9, 10, 11, 12, 13, 14] ax_X8_without_1
      refine va_callv (va_runV (As := [.ref wr, .ref fr, .ref pf, .int (zI z_7)]) (rest := []) ⟨hx, hb, hml, hown, hts⟩ (c_X4_make l D s.heap.size (wr := wr) (fr := fr) (pf := pf) (al := z_7) (h0 := ss) (g1 := sg1) (g2 := sg2) (g3 := sg3) (g4 := sg4) (g5 := sg5) (cn := scn) (bo := sbo) (ru := sru) (g6 := sg6) (g7 := sg7) (cg1 := scg1) (f1 := sf1) (cg2 := scg2) (f2 := sf2) (cg3 := scg3) (f3 := sf3) (cg4 := scg4) (f4 := sf4) (cg5 := scg5) (f5 := sf5) (cg6 := scg6) (f6 := sf6) (cg7 := scg7) (fo := sfo) (o := o3) (w1 := w1) (wn := wn) (cw1 := cw1) (fw := fw) (k1 := k1) (k2 := k2) (k3 := k3) (n := fn) (ck3 := ck3) (fh := fh) (p1 := p1) (pn := pn) (cp1 := cp1) (fp := fp) (pr := pr) (gp := gp) (cy := cy) (by omega) q6 q7 q8 q9 q4 q5) (cwV 4 hts gX8_without_X4_make rfl rfl rfl (by decide +kernel) ⟨Nat.le_of_ble_eq_true rfl, Nat.le_of_ble_eq_true rfl⟩) (kPreVP hP (kD0 hD) hK hN [1, 2, 3, 4, 5, 6, 7, 8, 9, 10, 11, 12, 13, 14] [0, 1, 2, 3, 4, 5, 6, 7, 8, 9, 10] ax_X8_without_1 rfl (by decide +kernel) 1 4 rfl rfl) rfl rfl hl.1 rfl (lv_room (Nat.le_of_ble_eq_true rfl)) dX8_without_56 ⟨Nat.le_of_ble_eq_true rfl, Nat.le_of_ble_eq_true rfl⟩) hS (fun q _ h => hFc q h) hFc (fun u t H1 locs ht hvm hw hB hz1 hk1 hS => ?_)
      refine Exists.elim hB (fun uc_8 hB1 => Exists.elim hB1 (fun ub_9 hB2 => Exists.elim hB2 (fun ur_10 hB3 => Exists.elim hB3 (fun v1_11 hB4 => Exists.elim hB4 (fun v2_12 hB5 => Exists.elim hB5 (fun v3_13 hB6 => Exists.elim hB6 (fun v4_14 hB7 => Exists.elim hB7 (fun v5_15 hB8 => Exists.elim hB8 (fun v6_16 hB9 => Exists.elim hB9 (fun ug_17 hB10 => ?_))))))))))
      have h_18 := hB10.1
      have h_19 := hB10.2.1
      have h_20 := hB10.2.2.1
      have hP1 := hB10.2.2.2.1
      have hD1 := hB10.2.2.2.2
      clear hB hB1 hB2 hB3 hB4 hB5 hB6 hB7 hB8 hB9 hB10
      rw [ht] at hP1
      obtain ⟨hP, hD⟩ := va_joinP (X := [(h0, .inr (8, [.ref sh, .ref rd, .ref fr, .ref wr, .ref pf, .ref rc, .ref se, .ref rs, .ref sw, .ref sp, .ref ss, .int (zI ew), .long wc, .int (zI tr), .int (zI lf)])), (ss, .inr (4, [.ref sg1, .ref sg2, .ref sg3, .ref sg4, .ref sg5, .int (zI scn), .int (zI sbo), .int (zI sru), .ref sg6, .ref sg7])), (sg1, .inl (scg1, 24, .inl sf1)), (sg2, .inl (scg2, 24, .inl sf2)), (sg3, .inl (scg3, 24, .inl sf3)), (sg4, .inl (scg4, 24, .inl sf4)), (sg5, .inl (scg5, 24, .inl sf5)), (sg6, .inl (scg6, 24, .inl sf6)), (sg7, .inl (scg7, 24, .inr (.inr (.inr (.inr (sfo)))))), (wr, .inr (7, [.ref w1, .int (zI wn)])), (w1, .inl (cw1, 24, .inl fw)), (fr, .inr (0, [.ref k1, .ref k2, .ref k3, .int (zI fn)])), (k3, .inl (ck3, 4, .inl fh)), (pf, .inr (1, [.ref p1, .int (zI pn)])), (p1, .inl (cp1, 4, .inl fp))]) (wr := [(h0, .inr (8, [.ref sh, .ref rd, .ref fr, .ref wr, .ref pf, .ref rc, .ref se, .ref rs, .ref sw, .ref sp, .ref ss, .int (zI ew), .long wc, .int (zI tr), .int (zI lf)]))]) (rx := [(ss, .inr (4, [.ref sg1, .ref sg2, .ref sg3, .ref sg4, .ref sg5, .int (zI uc_8), .int (zI ub_9), .int (zI ur_10), .ref sg6, .ref sg7])), (sg1, .inl (scg1, 24, .inl v1_11)), (sg2, .inl (scg2, 24, .inl v2_12)), (sg3, .inl (scg3, 24, .inl v3_13)), (sg4, .inl (scg4, 24, .inl v4_14)), (sg5, .inl (scg5, 24, .inl v5_15)), (sg6, .inl (scg6, 24, .inl v6_16)), (sg7, .inl (scg7, 24, .inr (.inr (.inr (.inr (sfo)))))), (wr, .inr (7, [.ref w1, .int (zI wn)])), (w1, .inl (cw1, 24, .inl fw)), (fr, .inr (0, [.ref k1, .ref k2, .ref k3, .int (zI fn)])), (k3, .inl (ck3, 4, .inl fh)), (pf, .inr (1, [.ref p1, .int (zI pn)])), (p1, .inl (cp1, 4, .inl fp))]) hP hD [1, 2, 3, 4, 5, 6, 7, 8, 9, 10, 11, 12, 13, 14] [0] ax_X8_without_1 ax_X8_without_2 (by decide +kernel) (by decide +kernel) hk1 hFc hP1 hD1
      have hP := ax_X8_without_3 hP
      have hD := ax_X8_without_4 hD
      generalize H1 = H at hP hS ⊢
      have hP : va_P D vwCl (([(h0, .inr (8, [.ref sh, .ref rd, .ref fr, .ref wr, .ref pf, .ref rc, .ref se, .ref rs, .ref sw, .ref sp, .ref ss, .int (zI ew), .long wc, .int (zI tr), .int (zI lf)])), (ss, .inr (4, [.ref sg1, .ref sg2, .ref sg3, .ref sg4, .ref sg5, .int (zI uc_8), .int (zI ub_9), .int (zI ur_10), .ref sg6, .ref sg7])), (sg1, .inl (scg1, 24, .inl v1_11)), (sg2, .inl (scg2, 24, .inl v2_12)), (sg3, .inl (scg3, 24, .inl v3_13)), (sg4, .inl (scg4, 24, .inl v4_14)), (sg5, .inl (scg5, 24, .inl v5_15)), (sg6, .inl (scg6, 24, .inl v6_16)), (sg7, .inl (scg7, 24, .inr (.inr (.inr (.inr (sfo)))))), (wr, .inr (7, [.ref w1, .int (zI wn)])), (w1, .inl (cw1, 24, .inl fw)), (fr, .inr (0, [.ref k1, .ref k2, .ref k3, .int (zI fn)])), (k3, .inl (ck3, 4, .inl fh)), (pf, .inr (1, [.ref p1, .int (zI pn)])), (p1, .inl (cp1, 4, .inl fp))] : va_W) ++ kRows pr ug_17 cy) H := hP
      have hD : va_D A (([(h0, .inr (8, [.ref sh, .ref rd, .ref fr, .ref wr, .ref pf, .ref rc, .ref se, .ref rs, .ref sw, .ref sp, .ref ss, .int (zI ew), .long wc, .int (zI tr), .int (zI lf)])), (ss, .inr (4, [.ref sg1, .ref sg2, .ref sg3, .ref sg4, .ref sg5, .int (zI uc_8), .int (zI ub_9), .int (zI ur_10), .ref sg6, .ref sg7])), (sg1, .inl (scg1, 24, .inl v1_11)), (sg2, .inl (scg2, 24, .inl v2_12)), (sg3, .inl (scg3, 24, .inl v3_13)), (sg4, .inl (scg4, 24, .inl v4_14)), (sg5, .inl (scg5, 24, .inl v5_15)), (sg6, .inl (scg6, 24, .inl v6_16)), (sg7, .inl (scg7, 24, .inr (.inr (.inr (.inr (sfo)))))), (wr, .inr (7, [.ref w1, .int (zI wn)])), (w1, .inl (cw1, 24, .inl fw)), (fr, .inr (0, [.ref k1, .ref k2, .ref k3, .int (zI fn)])), (k3, .inl (ck3, 4, .inl fh)), (pf, .inr (1, [.ref p1, .int (zI pn)])), (p1, .inl (cp1, 4, .inl fp))] : va_W) ++ kRows pr ug_17 cy) := hD
      refine lv_aload_n hx hb dX8_without_59 rfl (lv_at hl 0 rfl) ?_
      refine va_get (D := D) (ci := 8) (v := .ref ss) (C := RX8) (T := TX8) (N := 15) hx hb hts (fun _ h9 => List.mem_cons_of_mem _ (List.mem_append_left _ (List.mem_append_left _ (List.mem_append_left _ (List.mem_append_left _ (List.mem_append_right _ h9)))))) hown hK hP 0 rfl rfl 10 (by decide) (hts (.fieldLink RX8 73 "FontRuns" "supposedSetting" "LFontRuns$Setting;") mw_X8_without_2) (fun _ h9 => h9) rfl dX8_without_60 ?_
      refine k_callP (va_runV (As := []) (rest := []) ⟨hx, hb, hml, hown, hts⟩ (c_X4_changes l D H.size (h0 := ss) (g1 := sg1) (g2 := sg2) (g3 := sg3) (g4 := sg4) (g5 := sg5) (cn := uc_8) (bo := ub_9) (ru := ur_10) (g6 := sg6) (g7 := sg7) h_18 h_19 h_20) (cwV 0 hts gX8_without_X4_changes rfl rfl rfl (by decide +kernel) ⟨Nat.le_of_ble_eq_true rfl, Nat.le_of_ble_eq_true rfl⟩) (kPreV hP (kD0 hD) hK hN [1] [] ax_X8_without_5 rfl (by decide +kernel) 1 4 rfl rfl) rfl rfl hl.1 rfl (lv_room (Nat.le_of_ble_eq_true rfl)) dX8_without_63 ⟨Nat.le_of_ble_eq_true rfl, Nat.le_of_ble_eq_true rfl⟩) (fun z_21 rz_21 h_22 => ?_)
      have hP9 : va_P D vwCl (([(h0, .inr (8, [.ref sh, .ref rd, .ref fr, .ref wr, .ref pf, .ref rc, .ref se, .ref rs, .ref sw, .ref sp, .ref ss, .int (zI ew), .long wc, .int (zI tr), .int (zI lf)])), (ss, .inr (4, [.ref sg1, .ref sg2, .ref sg3, .ref sg4, .ref sg5, .int (zI uc_8), .int (zI ub_9), .int (zI ur_10), .ref sg6, .ref sg7])), (sg1, .inl (scg1, 24, .inl v1_11)), (sg2, .inl (scg2, 24, .inl v2_12)), (sg3, .inl (scg3, 24, .inl v3_13)), (sg4, .inl (scg4, 24, .inl v4_14)), (sg5, .inl (scg5, 24, .inl v5_15)), (sg6, .inl (scg6, 24, .inl v6_16)), (sg7, .inl (scg7, 24, .inr (.inr (.inr (.inr (sfo)))))), (wr, .inr (7, [.ref w1, .int (zI wn)])), (w1, .inl (cw1, 24, .inl fw)), (fr, .inr (0, [.ref k1, .ref k2, .ref k3, .int (zI fn)])), (k3, .inl (ck3, 4, .inl fh)), (pf, .inr (1, [.ref p1, .int (zI pn)])), (p1, .inl (cp1, 4, .inl fp))] : va_W) ++ kRows pr ug_17 cy) H := hP.part [0, 1, 2, 3, 4, 5, 6, 7, 8, 9, 10, 11, 12, 13, 14] ax_X8_without_6
      have hD9 : va_D A (([(h0, .inr (8, [.ref sh, .ref rd, .ref fr, .ref wr, .ref pf, .ref rc, .ref se, .ref rs, .ref sw, .ref sp, .ref ss, .int (zI ew), .long wc, .int (zI tr), .int (zI lf)])), (ss, .inr (4, [.ref sg1, .ref sg2, .ref sg3, .ref sg4, .ref sg5, .int (zI uc_8), .int (zI ub_9), .int (zI ur_10), .ref sg6, .ref sg7])), (sg1, .inl (scg1, 24, .inl v1_11)), (sg2, .inl (scg2, 24, .inl v2_12)), (sg3, .inl (scg3, 24, .inl v3_13)), (sg4, .inl (scg4, 24, .inl v4_14)), (sg5, .inl (scg5, 24, .inl v5_15)), (sg6, .inl (scg6, 24, .inl v6_16)), (sg7, .inl (scg7, 24, .inr (.inr (.inr (.inr (sfo)))))), (wr, .inr (7, [.ref w1, .int (zI wn)])), (w1, .inl (cw1, 24, .inl fw)), (fr, .inr (0, [.ref k1, .ref k2, .ref k3, .int (zI fn)])), (k3, .inl (ck3, 4, .inl fh)), (pf, .inr (1, [.ref p1, .int (zI pn)])), (p1, .inl (cp1, 4, .inl fp))] : va_W) ++ kRows pr ug_17 cy) := hD.part [0, 1, 2, 3, 4, 5, 6, 7, 8, 9, 10, 11, 12, 13, 14] (by decide +kernel) ax_X8_without_6
      exact W.iret (v := (zI z_21)) hx hb hr (fun t ht hW => kQS_of (by omega) ⟨uc_8, ub_9, ur_10, v1_11, v2_12, v3_13, v4_14, v5_15, v6_16, ug_17, h_18, h_19, h_20, by rw [ht]; exact hP9, hD9⟩ (hS.F ht)) hS.2.2 dX8_without_66
    · refine lv_bipush (v := zI (-9)) hx hb dX8_without_24 (by decide) ?_
      have hP9 : va_P D vwCl (([(h0, .inr (8, [.ref sh, .ref rd, .ref fr, .ref wr, .ref pf, .ref rc, .ref se, .ref rs, .ref sw, .ref sp, .ref ss, .int (zI ew), .long wc, .int (zI tr), .int (zI lf)])), (ss, .inr (4, [.ref sg1, .ref sg2, .ref sg3, .ref sg4, .ref sg5, .int (zI scn), .int (zI sbo), .int (zI sru), .ref sg6, .ref sg7])), (sg1, .inl (scg1, 24, .inl sf1)), (sg2, .inl (scg2, 24, .inl sf2)), (sg3, .inl (scg3, 24, .inl sf3)), (sg4, .inl (scg4, 24, .inl sf4)), (sg5, .inl (scg5, 24, .inl sf5)), (sg6, .inl (scg6, 24, .inl sf6)), (sg7, .inl (scg7, 24, .inr (.inr (.inr (.inr (sfo)))))), (wr, .inr (7, [.ref w1, .int (zI wn)])), (w1, .inl (cw1, 24, .inl fw)), (fr, .inr (0, [.ref k1, .ref k2, .ref k3, .int (zI fn)])), (k3, .inl (ck3, 4, .inl fh)), (pf, .inr (1, [.ref p1, .int (zI pn)])), (p1, .inl (cp1, 4, .inl fp))] : va_W) ++ kRows pr gp cy) s.heap := hP.part [0, 1, 2, 3, 4, 5, 6, 7, 8, 9, 10, 11, 12, 13, 14] ax_X8_without_6
      have hD9 : va_D A (([(h0, .inr (8, [.ref sh, .ref rd, .ref fr, .ref wr, .ref pf, .ref rc, .ref se, .ref rs, .ref sw, .ref sp, .ref ss, .int (zI ew), .long wc, .int (zI tr), .int (zI lf)])), (ss, .inr (4, [.ref sg1, .ref sg2, .ref sg3, .ref sg4, .ref sg5, .int (zI scn), .int (zI sbo), .int (zI sru), .ref sg6, .ref sg7])), (sg1, .inl (scg1, 24, .inl sf1)), (sg2, .inl (scg2, 24, .inl sf2)), (sg3, .inl (scg3, 24, .inl sf3)), (sg4, .inl (scg4, 24, .inl sf4)), (sg5, .inl (scg5, 24, .inl sf5)), (sg6, .inl (scg6, 24, .inl sf6)), (sg7, .inl (scg7, 24, .inr (.inr (.inr (.inr (sfo)))))), (wr, .inr (7, [.ref w1, .int (zI wn)])), (w1, .inl (cw1, 24, .inl fw)), (fr, .inr (0, [.ref k1, .ref k2, .ref k3, .int (zI fn)])), (k3, .inl (ck3, 4, .inl fh)), (pf, .inr (1, [.ref p1, .int (zI pn)])), (p1, .inl (cp1, 4, .inl fp))] : va_W) ++ kRows pr gp cy) := hD.part [0, 1, 2, 3, 4, 5, 6, 7, 8, 9, 10, 11, 12, 13, 14] (by decide +kernel) ax_X8_without_6
      exact W.iret (v := (zI (-9))) hx hb hr (fun t ht hW => kQS_of (by omega) ⟨scn, sbo, sru, sf1, sf2, sf3, sf4, sf5, sf6, gp, q1, q2, q3, by rw [ht]; exact hP9, hD9⟩ (hS.F ht)) hS.2.2 dX8_without_26
  · have c_1 : ¬ (0 ≤ f ∧ f ≤ fn - 1) := b01f c_1
    refine lv_iconst (v := zI (-1)) hx hb dX8_without_11 rfl ?_
    have hP9 : va_P D vwCl (([(h0, .inr (8, [.ref sh, .ref rd, .ref fr, .ref wr, .ref pf, .ref rc, .ref se, .ref rs, .ref sw, .ref sp, .ref ss, .int (zI ew), .long wc, .int (zI tr), .int (zI lf)])), (ss, .inr (4, [.ref sg1, .ref sg2, .ref sg3, .ref sg4, .ref sg5, .int (zI scn), .int (zI sbo), .int (zI sru), .ref sg6, .ref sg7])), (sg1, .inl (scg1, 24, .inl sf1)), (sg2, .inl (scg2, 24, .inl sf2)), (sg3, .inl (scg3, 24, .inl sf3)), (sg4, .inl (scg4, 24, .inl sf4)), (sg5, .inl (scg5, 24, .inl sf5)), (sg6, .inl (scg6, 24, .inl sf6)), (sg7, .inl (scg7, 24, .inr (.inr (.inr (.inr (sfo)))))), (wr, .inr (7, [.ref w1, .int (zI wn)])), (w1, .inl (cw1, 24, .inl fw)), (fr, .inr (0, [.ref k1, .ref k2, .ref k3, .int (zI fn)])), (k3, .inl (ck3, 4, .inl fh)), (pf, .inr (1, [.ref p1, .int (zI pn)])), (p1, .inl (cp1, 4, .inl fp))] : va_W) ++ kRows pr gp cy) s.heap := hP.part [0, 1, 2, 3, 4, 5, 6, 7, 8, 9, 10, 11, 12, 13, 14] ax_X8_without_6
    have hD9 : va_D A (([(h0, .inr (8, [.ref sh, .ref rd, .ref fr, .ref wr, .ref pf, .ref rc, .ref se, .ref rs, .ref sw, .ref sp, .ref ss, .int (zI ew), .long wc, .int (zI tr), .int (zI lf)])), (ss, .inr (4, [.ref sg1, .ref sg2, .ref sg3, .ref sg4, .ref sg5, .int (zI scn), .int (zI sbo), .int (zI sru), .ref sg6, .ref sg7])), (sg1, .inl (scg1, 24, .inl sf1)), (sg2, .inl (scg2, 24, .inl sf2)), (sg3, .inl (scg3, 24, .inl sf3)), (sg4, .inl (scg4, 24, .inl sf4)), (sg5, .inl (scg5, 24, .inl sf5)), (sg6, .inl (scg6, 24, .inl sf6)), (sg7, .inl (scg7, 24, .inr (.inr (.inr (.inr (sfo)))))), (wr, .inr (7, [.ref w1, .int (zI wn)])), (w1, .inl (cw1, 24, .inl fw)), (fr, .inr (0, [.ref k1, .ref k2, .ref k3, .int (zI fn)])), (k3, .inl (ck3, 4, .inl fh)), (pf, .inr (1, [.ref p1, .int (zI pn)])), (p1, .inl (cp1, 4, .inl fp))] : va_W) ++ kRows pr gp cy) := hD.part [0, 1, 2, 3, 4, 5, 6, 7, 8, 9, 10, 11, 12, 13, 14] (by decide +kernel) ax_X8_without_6
    exact W.iret (v := (zI (-1))) hx hb hr (fun t ht hW => kQS_of (by omega) ⟨scn, sbo, sru, sf1, sf2, sf3, sf4, sf5, sf6, gp, q1, q2, q3, by rw [ht]; exact hP9, hD9⟩ (hS.F ht)) hS.2.2 dX8_without_12
theorem dX8_enough_0 : decode cX8_enough 0 = .ok (.iload_n 1, 1) := by decide +kernel
theorem dX8_enough_1 : decode cX8_enough 1 = .ok (.iconst 0, 1) := by decide +kernel
theorem dX8_enough_2 : decode cX8_enough 2 = .ok (.iconst 1, 1) := by decide +kernel
theorem dX8_enough_3 : decode cX8_enough 3 = .ok (.invokestatic 128, 3) := by decide +kernel
theorem dX8_enough_6 : decode cX8_enough 6 = .ok (.ifCond .ne 6, 3) := by decide +kernel
theorem dX8_enough_9 : decode cX8_enough 9 = .ok (.bipush (-2), 2) := by decide +kernel
theorem dX8_enough_11 : decode cX8_enough 11 = .ok (.ireturn, 1) := by decide +kernel
theorem dX8_enough_12 : decode cX8_enough 12 = .ok (.aload_n 0, 1) := by decide +kernel
theorem dX8_enough_13 : decode cX8_enough 13 = .ok (.getfield 28, 3) := by decide +kernel
theorem dX8_enough_16 : decode cX8_enough 16 = .ok (.getfield 106, 3) := by decide +kernel
theorem dX8_enough_19 : decode cX8_enough 19 = .ok (.ifCond .ne 6, 3) := by decide +kernel
theorem dX8_enough_22 : decode cX8_enough 22 = .ok (.bipush (-3), 2) := by decide +kernel
theorem dX8_enough_24 : decode cX8_enough 24 = .ok (.ireturn, 1) := by decide +kernel
theorem dX8_enough_25 : decode cX8_enough 25 = .ok (.aload_n 0, 1) := by decide +kernel
theorem dX8_enough_26 : decode cX8_enough 26 = .ok (.invokevirtual 258, 3) := by decide +kernel
theorem dX8_enough_29 : decode cX8_enough 29 = .ok (.istore_n 2, 1) := by decide +kernel
theorem dX8_enough_30 : decode cX8_enough 30 = .ok (.iload_n 1, 1) := by decide +kernel
theorem dX8_enough_31 : decode cX8_enough 31 = .ok (.ifCond .ne 10, 3) := by decide +kernel
theorem dX8_enough_34 : decode cX8_enough 34 = .ok (.iload_n 2, 1) := by decide +kernel
theorem dX8_enough_35 : decode cX8_enough 35 = .ok (.invokestatic 261, 3) := by decide +kernel
theorem dX8_enough_38 : decode cX8_enough 38 = .ok (.goto 4, 3) := by decide +kernel
theorem dX8_enough_41 : decode cX8_enough 41 = .ok (.iload_n 2, 1) := by decide +kernel
theorem dX8_enough_42 : decode cX8_enough 42 = .ok (.ireturn, 1) := by decide +kernel
set_option maxRecDepth 20000 in
theorem ggX8_enough_J6_bitCount_0f7a4 : GoodIn wsX8_enough wsJ6_bitCount_0f7a4 := goodIn_r _ [28, 29, 30, 31] (by decide +kernel) (by decide +kernel)
set_option maxRecDepth 20000 in
theorem gX8_enough_J6_bitCount_0f7a4 : GoodIn wsX8_enough (va_wsS RX8 261 yJ6_bitCount_0f7a4 wsJ6_bitCount_0f7a4) := goodIn_app (goodIn_of _ (by decide +kernel)) ggX8_enough_J6_bitCount_0f7a4
set_option maxRecDepth 20000 in
theorem ggX8_enough_X8_isWithin : GoodIn wsX8_enough wsX8_isWithin := goodIn_r _ [6] (by decide +kernel) (by decide +kernel)
set_option maxRecDepth 20000 in
theorem gX8_enough_X8_isWithin : GoodIn wsX8_enough (va_wsS RX8 128 yX8_isWithin wsX8_isWithin) := goodIn_app (goodIn_of _ (by decide +kernel)) ggX8_enough_X8_isWithin
set_option maxRecDepth 20000 in
theorem ggX8_enough_X8_leastEnough : GoodIn wsX8_enough wsX8_leastEnough := goodIn_r _ [10, 1, 11, 12, 13, 14, 15, 16, 17, 18, 19, 20, 21, 22, 23, 24, 25, 26, 27, 28, 29, 30, 31, 32, 33, 34, 35, 36, 37, 38, 39, 40, 41, 42, 43, 44, 45, 46, 47, 48, 49, 50, 51, 52, 53, 54, 55, 56, 57, 58, 59, 60] (by decide +kernel) (by decide +kernel)
set_option maxRecDepth 20000 in
theorem gX8_enough_X8_leastEnough : GoodIn wsX8_enough (wsV RX8 258 RX8 yX8_leastEnough wsX8_leastEnough) := goodIn_app (goodIn_of _ (by decide +kernel)) ggX8_enough_X8_leastEnough
set_option maxRecDepth 20000 in
theorem mw_X8_enough_0 : (.fieldLink RX8 28 "FontRuns" "fontRow" "LFontRuns$FontRow;" : Cond) ∈ wsX8_enough := by decide +kernel
set_option maxRecDepth 20000 in
theorem mw_X8_enough_1 : (.fieldLink RX8 106 "FontRuns$FontRow" "count" "I" : Cond) ∈ wsX8_enough := by decide +kernel
theorem ax_X8_enough_0 {e0 e1 e2 e3 : Nat × va_E} : ([] : List Nat).map (fun i => ([e0, e1, e2, e3] : va_W)[i]?) = ([] : va_W).map some := rfl
theorem ax_X8_enough_1 {e0 e1 e2 e3 : Nat × va_E} : ([0, 1, 2, 3] : List Nat).map (fun i => ([e0, e1, e2, e3] : va_W)[i]?) = ([e0, e1, e2, e3] : va_W).map some := rfl
set_option maxHeartbeats 4000000 in
set_option maxRecDepth 100000 in
theorem c_X8_enough (l : Launch) (D : va_G) (sz : Nat) (w : Int) (h0 : Nat) (sh : Nat) (rd : Nat) (fr : Nat) (wr : Nat) (pf : Nat) (rc : Nat) (se : Nat) (rs : Nat) (sw : Nat) (sp : Nat) (ss : Nat) (ew : Int) (wc : Int64) (tr : Int) (lf : Int) (k1 : Nat) (k2 : Nat) (k3 : Nat) (fn : Int) (g1 : Nat) (g2 : Nat) (g3 : Nat) (g4 : Nat) (g5 : Nat) (cn : Int) (bo : Int) (ru : Int) (g6 : Nat) (g7 : Nat) (cg3 : ClassId) (f3 : Nat → Int32) (q0 : rg w) (q1 : 0 ≤ fn ∧ fn ≤ 4) (q2 : 0 ≤ cn ∧ cn ≤ 24) (q3 : 0 ≤ bo ∧ bo ≤ 24) (q4 : 0 ≤ ru ∧ ru ≤ cn) : Met l yX8_enough wsX8_enough ({ frames := 2, cells := 0, slots := 0, locals := 44 }) (kPre [.ref h0, .int (zI w)] D [(h0, .inr (8, [.ref sh, .ref rd, .ref fr, .ref wr, .ref pf, .ref rc, .ref se, .ref rs, .ref sw, .ref sp, .ref ss, .int (zI ew), .long wc, .int (zI tr), .int (zI lf)])), (fr, .inr (0, [.ref k1, .ref k2, .ref k3, .int (zI fn)])), (se, .inr (4, [.ref g1, .ref g2, .ref g3, .ref g4, .ref g5, .int (zI cn), .int (zI bo), .int (zI ru), .ref g6, .ref g7])), (g3, .inl (cg3, 24, .inl f3))] [(cg3, .int)] sz) (QcP (fun rz => True)) 0 0 (fun _ => False) := by
  refine Met.ofW (cc := cX8_enough) (maxL := 3) (ret := (some .int)) (by decide) rfl ?_
  intro p e s m args below meth c s₁ B hml hv
  obtain ⟨rfl, hsz, hP, hK, hD0, hN⟩ := hv
  have hx := B.exec
  have hb := B.bytes
  have hr := B.returns
  have hts := atoms_spec (ws := wsX8_enough) B.pre
  have hown : s.vm.findClass RX8 = some m.cls := findClass_of_methodNamed B.named
  have hlocks := B.notSynchronized
  subst hsz
  have hD := hD0
  have hP : va_P D vwCl [(h0, .inr (8, [.ref sh, .ref rd, .ref fr, .ref wr, .ref pf, .ref rc, .ref se, .ref rs, .ref sw, .ref sp, .ref ss, .int (zI ew), .long wc, .int (zI tr), .int (zI lf)])), (fr, .inr (0, [.ref k1, .ref k2, .ref k3, .int (zI fn)])), (se, .inr (4, [.ref g1, .ref g2, .ref g3, .ref g4, .ref g5, .int (zI cn), .int (zI bo), .int (zI ru), .ref g6, .ref g7])), (g3, .inl (cg3, 24, .inl f3))] s.heap := hP
  have hl := lv_entry ([.ref h0, .int (zI w)]) (n := 3) (Nat.le_of_ble_eq_true rfl)
  rw [lg_entry_eq]
  generalize (lg_sl ([.ref h0, .int (zI w)]) ++ List.replicate (3 - (lg_sl ([.ref h0, .int (zI w)])).length) Slot.unset).toArray = ls at hl ⊢
  have hl : lv_has ls 3 [(0, .ref h0), (1, .int (zI w))] := hl
  refine lv_iload_n hx hb dX8_enough_0 rfl (lv_at hl 1 rfl) ?_
  refine lv_iconst (v := zI 0) hx hb dX8_enough_1 rfl ?_
  refine lv_iconst (v := zI 1) hx hb dX8_enough_2 rfl ?_
  refine k_callR (va_runS (As := [.int (zI w), .int (zI 0), .int (zI 1)]) (rest := []) ⟨hx, hb, hml, hown, hts⟩ (c_X8_isWithin l D s.heap.size (v := w) (a := 0) (b := 1) q0 (by omega) (by omega)) (va_cwS 3 hts gX8_enough_X8_isWithin rfl rfl rfl (by decide +kernel) ⟨Nat.le_of_ble_eq_true rfl, Nat.le_of_ble_eq_true rfl⟩) (kPreS hP (kD0 hD) hK hN [] [] ax_X8_enough_0 rfl (by decide +kernel)) rfl rfl hl.1 rfl (lv_room (Nat.le_of_ble_eq_true rfl)) dX8_enough_3 ⟨Nat.le_of_ble_eq_true rfl, Nat.le_of_ble_eq_true rfl⟩) ?_
  refine lv_if_ne (tgt := 12) hx hb dX8_enough_6 (by decide) (fun c_1 => ?_) (fun c_1 => ?_)
  · have c_1 : 0 ≤ w ∧ w ≤ 1 := b01t c_1
    refine lv_aload_n hx hb dX8_enough_12 rfl (lv_at hl 0 rfl) ?_
    refine va_get (D := D) (ci := 8) (v := .ref fr) (C := RX8) (T := TX8) (N := 15) hx hb hts (fun _ h9 => List.mem_cons_of_mem _ (List.mem_append_left _ (List.mem_append_left _ (List.mem_append_right _ h9)))) hown hK hP 0 rfl rfl 2 (by decide) (hts (.fieldLink RX8 28 "FontRuns" "fontRow" "LFontRuns$FontRow;") mw_X8_enough_0) (fun _ h9 => h9) rfl dX8_enough_13 ?_
    refine va_get (D := D) (ci := 0) (v := .int (zI fn)) (C := RX0) (T := TX0) (N := 4) hx hb hts (fun _ h9 => List.mem_cons_of_mem _ (List.mem_append_left _ (List.mem_append_right _ h9))) hown hK hP 1 rfl rfl 3 (by decide) (hts (.fieldLink RX8 106 "FontRuns$FontRow" "count" "I") mw_X8_enough_1) (fun _ h9 => h9) rfl dX8_enough_16 ?_
    refine kz_if_ne (tgt := 25) hx hb dX8_enough_19 (by decide) (by omega) (fun c_2 => ?_) (fun c_2 => ?_)
    · refine lv_aload_n hx hb dX8_enough_25 rfl (lv_at hl 0 rfl) ?_
      refine k_callP (va_runV (As := []) (rest := []) ⟨hx, hb, hml, hown, hts⟩ (c_X8_leastEnough l D s.heap.size (h0 := h0) (sh := sh) (rd := rd) (fr := fr) (wr := wr) (pf := pf) (rc := rc) (se := se) (rs := rs) (sw := sw) (sp := sp) (ss := ss) (ew := ew) (wc := wc) (tr := tr) (lf := lf) (k1 := k1) (k2 := k2) (k3 := k3) (fn := fn) (g1 := g1) (g2 := g2) (g3 := g3) (g4 := g4) (g5 := g5) (cn := cn) (bo := bo) (ru := ru) (g6 := g6) (g7 := g7) (cg3 := cg3) (f3 := f3) q1 q2 q3 q4) (cwV 0 hts gX8_enough_X8_leastEnough rfl rfl rfl (by decide +kernel) ⟨Nat.le_of_ble_eq_true rfl, Nat.le_of_ble_eq_true rfl⟩) (kPreV hP (kD0 hD) hK hN [0, 1, 2, 3] [0] ax_X8_enough_1 rfl (by decide +kernel) 0 8 rfl rfl) rfl rfl hl.1 rfl (lv_room (Nat.le_of_ble_eq_true rfl)) dX8_enough_26 ⟨Nat.le_of_ble_eq_true rfl, Nat.le_of_ble_eq_true rfl⟩) (fun z_3 rz_3 h_4 => ?_)
      refine lv_istore_n (lv' := [(2, .int (zI z_3)), (0, .ref h0), (1, .int (zI w))]) hx hb dX8_enough_29 rfl hl (by decide) rfl (fun ls hl => ?_)
      refine lv_iload_n hx hb dX8_enough_30 rfl (lv_at hl 2 rfl) ?_
      refine kz_if_ne (tgt := 41) hx hb dX8_enough_31 (by decide) (by omega) (fun c_5 => ?_) (fun c_5 => ?_)
      · refine lv_iload_n hx hb dX8_enough_41 rfl (lv_at hl 0 rfl) ?_
        exact W.iret (v := (zI z_3)) hx hb hr (fun t ht hW => QcP_of (by omega) trivial ht) (fun _ h9 => by cases h9) dX8_enough_42
      · refine lv_iload_n hx hb dX8_enough_34 rfl (lv_at hl 0 rfl) ?_
        refine k_callP (va_runS (As := [.int (zI z_3)]) (rest := []) ⟨hx, hb, hml, hown, hts⟩ (c_J6_bitCount_0f7a4 l D s.heap.size (x := z_3) (by omega)) (va_cwS 1 hts gX8_enough_J6_bitCount_0f7a4 rfl rfl rfl (by decide +kernel) ⟨Nat.le_of_ble_eq_true rfl, Nat.le_of_ble_eq_true rfl⟩) (kPreS hP (kD0 hD) hK hN [] [] ax_X8_enough_0 rfl (by decide +kernel)) rfl rfl hl.1 rfl (lv_room (Nat.le_of_ble_eq_true rfl)) dX8_enough_35 ⟨Nat.le_of_ble_eq_true rfl, Nat.le_of_ble_eq_true rfl⟩) (fun z_6 rz_6 h_7 => ?_)
        refine lv_goto (tgt := 42) hx hb dX8_enough_38 (by decide) ?_
        exact W.iret (v := (zI z_6)) hx hb hr (fun t ht hW => QcP_of (by omega) trivial ht) (fun _ h9 => by cases h9) dX8_enough_42
    · refine lv_bipush (v := zI (-3)) hx hb dX8_enough_22 (by decide) ?_
      exact W.iret (v := (zI (-3))) hx hb hr (fun t ht hW => QcP_of (by omega) trivial ht) (fun _ h9 => by cases h9) dX8_enough_24
  · have c_1 : ¬ (0 ≤ w ∧ w ≤ 1) := b01f c_1
    refine lv_bipush (v := zI (-2)) hx hb dX8_enough_9 (by decide) ?_
    exact W.iret (v := (zI (-2))) hx hb hr (fun t ht hW => QcP_of (by omega) trivial ht) (fun _ h9 => by cases h9) dX8_enough_11


theorem dX8_kinds_0 : decode cX8_kinds 0 = .ok (.aload_n 0, 1) := by decide +kernel
theorem dX8_kinds_1 : decode cX8_kinds 1 = .ok (.getfield 28, 3) := by decide +kernel
theorem dX8_kinds_4 : decode cX8_kinds 4 = .ok (.iload_n 1, 1) := by decide +kernel
theorem dX8_kinds_5 : decode cX8_kinds 5 = .ok (.invokevirtual 109, 3) := by decide +kernel
theorem dX8_kinds_8 : decode cX8_kinds 8 = .ok (.ifCond .ne 5, 3) := by decide +kernel
theorem dX8_kinds_11 : decode cX8_kinds 11 = .ok (.iconst (-1), 1) := by decide +kernel
theorem dX8_kinds_12 : decode cX8_kinds 12 = .ok (.ireturn, 1) := by decide +kernel
theorem dX8_kinds_13 : decode cX8_kinds 13 = .ok (.iconst 0, 1) := by decide +kernel
theorem dX8_kinds_14 : decode cX8_kinds 14 = .ok (.istore_n 2, 1) := by decide +kernel
theorem dX8_kinds_15 : decode cX8_kinds 15 = .ok (.iconst 0, 1) := by decide +kernel
theorem dX8_kinds_16 : decode cX8_kinds 16 = .ok (.istore_n 3, 1) := by decide +kernel
theorem dX8_kinds_17 : decode cX8_kinds 17 = .ok (.iload_n 3, 1) := by decide +kernel
theorem dX8_kinds_18 : decode cX8_kinds 18 = .ok (.iconst 2, 1) := by decide +kernel
theorem dX8_kinds_19 : decode cX8_kinds 19 = .ok (.if_icmp .gt 43, 3) := by decide +kernel
theorem dX8_kinds_22 : decode cX8_kinds 22 = .ok (.aload_n 0, 1) := by decide +kernel
theorem dX8_kinds_23 : decode cX8_kinds 23 = .ok (.getfield 63, 3) := by decide +kernel
theorem dX8_kinds_26 : decode cX8_kinds 26 = .ok (.aload_n 0, 1) := by decide +kernel
theorem dX8_kinds_27 : decode cX8_kinds 27 = .ok (.getfield 28, 3) := by decide +kernel
theorem dX8_kinds_30 : decode cX8_kinds 30 = .ok (.iload_n 1, 1) := by decide +kernel
theorem dX8_kinds_31 : decode cX8_kinds 31 = .ok (.iload_n 3, 1) := by decide +kernel
theorem dX8_kinds_32 : decode cX8_kinds 32 = .ok (.aload_n 0, 1) := by decide +kernel
theorem dX8_kinds_33 : decode cX8_kinds 33 = .ok (.getfield 28, 3) := by decide +kernel
theorem dX8_kinds_36 : decode cX8_kinds 36 = .ok (.getfield 116, 3) := by decide +kernel
theorem dX8_kinds_39 : decode cX8_kinds 39 = .ok (.iload_n 1, 1) := by decide +kernel
theorem dX8_kinds_40 : decode cX8_kinds 40 = .ok (.iaload, 1) := by decide +kernel
theorem dX8_kinds_41 : decode cX8_kinds 41 = .ok (.invokestatic 272, 3) := by decide +kernel
theorem dX8_kinds_44 : decode cX8_kinds 44 = .ok (.invokevirtual 276, 3) := by decide +kernel
theorem dX8_kinds_47 : decode cX8_kinds 47 = .ok (.ifCond .eq 9, 3) := by decide +kernel
theorem dX8_kinds_50 : decode cX8_kinds 50 = .ok (.iload_n 2, 1) := by decide +kernel
theorem dX8_kinds_51 : decode cX8_kinds 51 = .ok (.iconst 1, 1) := by decide +kernel
theorem dX8_kinds_52 : decode cX8_kinds 52 = .ok (.iload_n 3, 1) := by decide +kernel
theorem dX8_kinds_53 : decode cX8_kinds 53 = .ok (.ishl, 1) := by decide +kernel
theorem dX8_kinds_54 : decode cX8_kinds 54 = .ok (.ior, 1) := by decide +kernel
theorem dX8_kinds_55 : decode cX8_kinds 55 = .ok (.istore_n 2, 1) := by decide +kernel
theorem dX8_kinds_56 : decode cX8_kinds 56 = .ok (.iinc 3 1, 3) := by decide +kernel
theorem dX8_kinds_59 : decode cX8_kinds 59 = .ok (.goto (-42), 3) := by decide +kernel
theorem dX8_kinds_62 : decode cX8_kinds 62 = .ok (.iload_n 2, 1) := by decide +kernel
theorem dX8_kinds_63 : decode cX8_kinds 63 = .ok (.ireturn, 1) := by decide +kernel
set_option maxRecDepth 20000 in
theorem ggX8_kinds_X0_isFont : GoodIn wsX8_kinds wsX0_isFont := goodIn_r _ [8, 9, 10, 11, 12, 47, 48, 49, 50] (by decide +kernel) (by decide +kernel)
set_option maxRecDepth 20000 in
theorem gX8_kinds_X0_isFont : GoodIn wsX8_kinds (wsV RX8 109 RX0 yX0_isFont wsX0_isFont) := goodIn_app (goodIn_of _ (by decide +kernel)) ggX8_kinds_X0_isFont
set_option maxRecDepth 20000 in
theorem ggX8_kinds_X2_areSo : GoodIn wsX8_kinds wsX2_areSo := goodIn_r _ [20, 21, 22, 23, 24, 25, 26, 27, 7, 28, 29, 30, 31, 5, 6, 8, 9, 10, 11, 12, 14, 15, 51, 52, 53, 47, 48, 49, 50] (by decide +kernel) (by decide +kernel)
set_option maxRecDepth 20000 in
theorem gX8_kinds_X2_areSo : GoodIn wsX8_kinds (wsV RX8 276 RX2 yX2_areSo wsX2_areSo) := goodIn_app (goodIn_of _ (by decide +kernel)) ggX8_kinds_X2_areSo
set_option maxRecDepth 20000 in
theorem ggX8_kinds_X8_stepOf : GoodIn wsX8_kinds wsX8_stepOf := goodIn_r _ [15] (by decide +kernel) (by decide +kernel)
set_option maxRecDepth 20000 in
theorem gX8_kinds_X8_stepOf : GoodIn wsX8_kinds (va_wsS RX8 272 yX8_stepOf wsX8_stepOf) := goodIn_app (goodIn_of _ (by decide +kernel)) ggX8_kinds_X8_stepOf
set_option maxRecDepth 20000 in
theorem mw_X8_kinds_0 : (.fieldLink RX8 28 "FontRuns" "fontRow" "LFontRuns$FontRow;" : Cond) ∈ wsX8_kinds := by decide +kernel
set_option maxRecDepth 20000 in
theorem mw_X8_kinds_1 : (.fieldLink RX8 63 "FontRuns" "readings" "LFontRuns$Readings;" : Cond) ∈ wsX8_kinds := by decide +kernel
set_option maxRecDepth 20000 in
theorem mw_X8_kinds_2 : (.fieldLink RX8 116 "FontRuns$FontRow" "breadth" "[I" : Cond) ∈ wsX8_kinds := by decide +kernel
theorem ax_X8_kinds_0 {e0 e1 e2 e3 e4 e5 e6 : Nat × va_E} {k : va_W} : ([1] : List Nat).map (fun i => (([e0, e1, e2, e3, e4, e5, e6] : va_W) ++ k)[i]?) = ([e1] : va_W).map some := rfl
theorem ax_X8_kinds_1 {e0 e1 e2 e3 e4 e5 e6 : Nat × va_E} {k : va_W} : ([] : List Nat).map (fun i => (([e0, e1, e2, e3, e4, e5, e6] : va_W) ++ k)[i]?) = ([] : va_W).map some := rfl
theorem ax_X8_kinds_2 {e0 e1 e2 e3 e4 e5 e6 : Nat × va_E} : ([4, 5, 6, 1, 2, 3] : List Nat).map (fun i => ([e0, e1, e2, e3, e4, e5, e6] : va_W)[i]?) = ([e4, e5, e6, e1, e2, e3] : va_W).map some := rfl
set_option maxHeartbeats 4000000 in
set_option maxRecDepth 100000 in
theorem c_X8_kinds (l : Launch) (D : va_G) (sz : Nat) (f : Int) (h0 : Nat) (sh : Nat) (rd : Nat) (fr : Nat) (wr : Nat) (pf : Nat) (rc : Nat) (se : Nat) (rs : Nat) (sw : Nat) (sp : Nat) (ss : Nat) (ew : Int) (wc : Int64) (tr : Int) (lf : Int) (k1 : Nat) (k2 : Nat) (k3 : Nat) (fn : Int) (ck1 : ClassId) (fk : Nat → Int32) (ck2 : ClassId) (fb : Nat → Int32) (dn : Int) (v1 : Nat) (v2 : Nat) (cv1 : ClassId) (fv : Nat → Int32) (cv2 : ClassId) (fq : Nat → Option Nat) (o2 : Nat) (pr : Nat → Nat) (gp : Nat → Nat → Int32) (cy : ClassId) (q0 : rg f) (q1 : 0 ≤ fn ∧ fn ≤ 4) (q2 : 0 ≤ dn ∧ dn ≤ 8) (q3 : kOut fq pr o2 8) (q4 : o2 + 8 ≤ 56) : Met l yX8_kinds wsX8_kinds ({ frames := 4, cells := 0, slots := 0, locals := 90 }) (kPre [.ref h0, .int (zI f)] D (([(h0, .inr (8, [.ref sh, .ref rd, .ref fr, .ref wr, .ref pf, .ref rc, .ref se, .ref rs, .ref sw, .ref sp, .ref ss, .int (zI ew), .long wc, .int (zI tr), .int (zI lf)])), (fr, .inr (0, [.ref k1, .ref k2, .ref k3, .int (zI fn)])), (k1, .inl (ck1, 4, .inl fk)), (k2, .inl (ck2, 4, .inl fb)), (rs, .inr (2, [.int (zI dn), .ref v1, .ref v2])), (v1, .inl (cv1, 8, .inl fv)), (v2, .inl (cv2, 8, .inr (.inr (.inr (.inr (fq))))))] : va_W) ++ kRows pr gp cy) [(ck1, .int), (ck2, .int), (cv1, .int), (cv2, .array .int), (cy, .int)] sz) (QcP (fun rz => True)) 0 0 (fun _ => False) := by
  refine Met.ofW (cc := cX8_kinds) (maxL := 4) (ret := (some .int)) (by decide) rfl ?_
  intro p e s m args below meth c s₁ B hml hv
  obtain ⟨rfl, hsz, hP, hK, hD0, hN⟩ := hv
  have hx := B.exec
  have hb := B.bytes
  have hr := B.returns
  have hts := atoms_spec (ws := wsX8_kinds) B.pre
  have hown : s.vm.findClass RX8 = some m.cls := findClass_of_methodNamed B.named
  have hlocks := B.notSynchronized
  subst hsz
  have hD := hD0
  have hP : va_P D vwCl (([(h0, .inr (8, [.ref sh, .ref rd, .ref fr, .ref wr, .ref pf, .ref rc, .ref se, .ref rs, .ref sw, .ref sp, .ref ss, .int (zI ew), .long wc, .int (zI tr), .int (zI lf)])), (fr, .inr (0, [.ref k1, .ref k2, .ref k3, .int (zI fn)])), (k1, .inl (ck1, 4, .inl fk)), (k2, .inl (ck2, 4, .inl fb)), (rs, .inr (2, [.int (zI dn), .ref v1, .ref v2])), (v1, .inl (cv1, 8, .inl fv)), (v2, .inl (cv2, 8, .inr (.inr (.inr (.inr (fq))))))] : va_W) ++ kRows pr gp cy) s.heap := hP
  have hl := lv_entry ([.ref h0, .int (zI f)]) (n := 4) (Nat.le_of_ble_eq_true rfl)
  rw [lg_entry_eq]
  generalize (lg_sl ([.ref h0, .int (zI f)]) ++ List.replicate (4 - (lg_sl ([.ref h0, .int (zI f)])).length) Slot.unset).toArray = ls at hl ⊢
  have hl : lv_has ls 4 [(0, .ref h0), (1, .int (zI f))] := hl
  refine lv_aload_n hx hb dX8_kinds_0 rfl (lv_at hl 0 rfl) ?_
  refine va_get (D := D) (ci := 8) (v := .ref fr) (C := RX8) (T := TX8) (N := 15) hx hb hts (fun _ h9 => List.mem_cons_of_mem _ (List.mem_append_left _ (List.mem_append_left _ (List.mem_append_right _ h9)))) hown hK hP 0 rfl rfl 2 (by decide) (hts (.fieldLink RX8 28 "FontRuns" "fontRow" "LFontRuns$FontRow;") mw_X8_kinds_0) (fun _ h9 => h9) rfl dX8_kinds_1 ?_
  refine lv_iload_n hx hb dX8_kinds_4 rfl (lv_at hl 1 rfl) ?_
  refine k_callR (va_runV (As := [.int (zI f)]) (rest := []) ⟨hx, hb, hml, hown, hts⟩ (c_X0_isFont l D s.heap.size (f := f) (h0 := fr) (k1 := k1) (k2 := k2) (k3 := k3) (n := fn) q0 q1) (cwV 1 hts gX8_kinds_X0_isFont rfl rfl rfl (by decide +kernel) ⟨Nat.le_of_ble_eq_true rfl, Nat.le_of_ble_eq_true rfl⟩) (kPreV hP (kD0 hD) hK hN [1] [] ax_X8_kinds_0 rfl (by decide +kernel) 1 0 rfl rfl) rfl rfl hl.1 rfl (lv_room (Nat.le_of_ble_eq_true rfl)) dX8_kinds_5 ⟨Nat.le_of_ble_eq_true rfl, Nat.le_of_ble_eq_true rfl⟩) ?_
  refine lv_if_ne (tgt := 13) hx hb dX8_kinds_8 (by decide) (fun c_1 => ?_) (fun c_1 => ?_)
  · have c_1 : 0 ≤ f ∧ f ≤ fn - 1 := b01t c_1
    refine lv_iconst (v := zI 0) hx hb dX8_kinds_13 rfl ?_
    refine lv_istore_n (lv' := [(2, .int (zI 0)), (0, .ref h0), (1, .int (zI f))]) hx hb dX8_kinds_14 rfl hl (by decide) rfl (fun ls hl => ?_)
    refine lv_iconst (v := zI 0) hx hb dX8_kinds_15 rfl ?_
    refine lv_istore_n (lv' := [(3, .int (zI 0)), (2, .int (zI 0)), (0, .ref h0), (1, .int (zI f))]) hx hb dX8_kinds_16 rfl hl (by decide) rfl (fun ls hl => ?_)
    refine k_loopM (I := fun n9 H locs ls => ∃ (js : Int) (jk : Int), n9 = (3 - jk).toNat ∧ (rg js) ∧ (0 ≤ jk ∧ jk ≤ 3) ∧ H = s.heap ∧ locs = [] ∧ lv_has ls 4 [(3, .int (zI jk)), (2, .int (zI js)), (0, .ref h0), (1, .int (zI f))]) ?_ _ ⟨0, 0, rfl, (by omega), (by omega), rfl, rfl, hl⟩
    intro n17 ih17 H locs ls hI
    obtain ⟨js, jk, en17, v_170, v_171, eH, eL, hl⟩ := hI
    subst eH
    subst eL
    refine lv_iload_n hx hb dX8_kinds_17 rfl (lv_at hl 0 rfl) ?_
    refine lv_iconst (v := zI 2) hx hb dX8_kinds_18 rfl ?_
    refine kz_icmp_gt (tgt := 62) hx hb dX8_kinds_19 (by decide) (by omega) (by omega) (fun c_2 => ?_) (fun c_2 => ?_)
    · refine lv_iload_n hx hb dX8_kinds_62 rfl (lv_at hl 1 rfl) ?_
      exact W.iret (v := (zI js)) hx hb hr (fun t ht hW => QcP_of (by omega) trivial ht) (fun _ h9 => by cases h9) dX8_kinds_63
    · refine lv_aload_n hx hb dX8_kinds_22 rfl (lv_at hl 2 rfl) ?_
      refine va_get (D := D) (ci := 8) (v := .ref rs) (C := RX8) (T := TX8) (N := 15) hx hb hts (fun _ h9 => List.mem_cons_of_mem _ (List.mem_append_left _ (List.mem_append_left _ (List.mem_append_right _ h9)))) hown hK hP 0 rfl rfl 7 (by decide) (hts (.fieldLink RX8 63 "FontRuns" "readings" "LFontRuns$Readings;") mw_X8_kinds_1) (fun _ h9 => h9) rfl dX8_kinds_23 ?_
      refine lv_aload_n hx hb dX8_kinds_26 rfl (lv_at hl 2 rfl) ?_
      refine va_get (D := D) (ci := 8) (v := .ref fr) (C := RX8) (T := TX8) (N := 15) hx hb hts (fun _ h9 => List.mem_cons_of_mem _ (List.mem_append_left _ (List.mem_append_left _ (List.mem_append_right _ h9)))) hown hK hP 0 rfl rfl 2 (by decide) (hts (.fieldLink RX8 28 "FontRuns" "fontRow" "LFontRuns$FontRow;") mw_X8_kinds_0) (fun _ h9 => h9) rfl dX8_kinds_27 ?_
      refine lv_iload_n hx hb dX8_kinds_30 rfl (lv_at hl 3 rfl) ?_
      refine lv_iload_n hx hb dX8_kinds_31 rfl (lv_at hl 0 rfl) ?_
      refine lv_aload_n hx hb dX8_kinds_32 rfl (lv_at hl 2 rfl) ?_
      refine va_get (D := D) (ci := 8) (v := .ref fr) (C := RX8) (T := TX8) (N := 15) hx hb hts (fun _ h9 => List.mem_cons_of_mem _ (List.mem_append_left _ (List.mem_append_left _ (List.mem_append_right _ h9)))) hown hK hP 0 rfl rfl 2 (by decide) (hts (.fieldLink RX8 28 "FontRuns" "fontRow" "LFontRuns$FontRow;") mw_X8_kinds_0) (fun _ h9 => h9) rfl dX8_kinds_33 ?_
      refine va_get (D := D) (ci := 0) (v := .ref k2) (C := RX0) (T := TX0) (N := 4) hx hb hts (fun _ h9 => List.mem_cons_of_mem _ (List.mem_append_left _ (List.mem_append_right _ h9))) hown hK hP 1 rfl rfl 1 (by decide) (hts (.fieldLink RX8 116 "FontRuns$FontRow" "breadth" "[I") mw_X8_kinds_2) (fun _ h9 => h9) rfl dX8_kinds_36 ?_
      refine lv_iload_n hx hb dX8_kinds_39 rfl (lv_at hl 3 rfl) ?_
      refine kz_iald hx hb hK hP 3 1 rfl rfl (by omega) dX8_kinds_40 (fun z_3 rz_3 ez_3 => ?_)
      refine k_callP (va_runS (As := [.int (zI jk), .int (zI z_3)]) (rest := [.int (zI f), .ref fr, .ref rs]) ⟨hx, hb, hml, hown, hts⟩ (c_X8_stepOf l D s.heap.size (k := jk) (b := z_3) (by omega) (by omega)) (va_cwS 2 hts gX8_kinds_X8_stepOf rfl rfl rfl (by decide +kernel) ⟨Nat.le_of_ble_eq_true rfl, Nat.le_of_ble_eq_true rfl⟩) (kPreS hP (kD0 hD) hK hN [] [] ax_X8_kinds_1 rfl (by decide +kernel)) rfl rfl hl.1 rfl (lv_room (Nat.le_of_ble_eq_true rfl)) dX8_kinds_41 ⟨Nat.le_of_ble_eq_true rfl, Nat.le_of_ble_eq_true rfl⟩) (fun z_4 rz_4 h_5 => ?_)
      refine k_callP (va_runV (As := [.ref fr, .int (zI f), .int (zI z_4)]) (rest := []) ⟨hx, hb, hml, hown, hts⟩ (c_X2_areSo l D s.heap.size (fr := fr) (ch := f) (sp := z_4) (h0 := rs) (rn := dn) (v1 := v1) (v2 := v2) (cv1 := cv1) (fv := fv) (cv2 := cv2) (fq := fq) (o2 := o2) (k1 := k1) (k2 := k2) (k3 := k3) (n := fn) (ck1 := ck1) (fk := fk) (ck2 := ck2) (fb := fb) (pr := pr) (gp := gp) (cy := cy) q0 (by omega) q2 q1 q3 q4) (cwV 3 hts gX8_kinds_X2_areSo rfl rfl rfl (by decide +kernel) ⟨Nat.le_of_ble_eq_true rfl, Nat.le_of_ble_eq_true rfl⟩) (kPreVP hP (kD0 hD) hK hN [4, 5, 6, 1, 2, 3] [2, 3, 0, 1, 4] ax_X8_kinds_2 rfl (by decide +kernel) 4 2 rfl rfl) rfl rfl hl.1 rfl (lv_room (Nat.le_of_ble_eq_true rfl)) dX8_kinds_44 ⟨Nat.le_of_ble_eq_true rfl, Nat.le_of_ble_eq_true rfl⟩) (fun z_6 rz_6 h_7 => ?_)
      refine kz_if_eq (tgt := 56) hx hb dX8_kinds_47 (by decide) (by omega) (fun c_8 => ?_) (fun c_8 => ?_)
      · refine lv_iinc (v := (zI (jk + 1))) (lv' := [(3, .int (zI (jk + 1))), (2, .int (zI js)), (0, .ref h0), (1, .int (zI f))]) hx hb dX8_kinds_56 hl (k := 0) rfl (kz_inc _ 1) (by decide) rfl (fun ls hl => ?_)
        refine lv_goto (tgt := 17) hx hb dX8_kinds_59 (by decide) ?_
        exact ih17 _ (by omega) _ _ _ ⟨js, (jk + 1), rfl, v_170, (by omega), rfl, rfl, lv_sub hl [0, 1, 2, 3] rfl⟩
      · refine lv_iload_n hx hb dX8_kinds_50 rfl (lv_at hl 1 rfl) ?_
        refine lv_iconst (v := zI 1) hx hb dX8_kinds_51 rfl ?_
        refine lv_iload_n hx hb dX8_kinds_52 rfl (lv_at hl 0 rfl) ?_
        refine lv_ishl hx hb dX8_kinds_53 ?_
        refine kz_any (fun z_9 rz_9 ez_9 => ?_)
        refine lv_ior hx hb dX8_kinds_54 ?_
        refine kz_any (fun z_10 rz_10 ez_10 => ?_)
        refine lv_istore_n (lv' := [(2, .int (zI z_10)), (3, .int (zI jk)), (0, .ref h0), (1, .int (zI f))]) hx hb dX8_kinds_55 rfl hl (by decide) rfl (fun ls hl => ?_)
        refine lv_iinc (v := (zI (jk + 1))) (lv' := [(3, .int (zI (jk + 1))), (2, .int (zI z_10)), (0, .ref h0), (1, .int (zI f))]) hx hb dX8_kinds_56 hl (k := 1) rfl (kz_inc _ 1) (by decide) rfl (fun ls hl => ?_)
        refine lv_goto (tgt := 17) hx hb dX8_kinds_59 (by decide) ?_
        exact ih17 _ (by omega) _ _ _ ⟨z_10, (jk + 1), rfl, (by omega), (by omega), rfl, rfl, lv_sub hl [0, 1, 2, 3] rfl⟩
  · have c_1 : ¬ (0 ≤ f ∧ f ≤ fn - 1) := b01f c_1
    refine lv_iconst (v := zI (-1)) hx hb dX8_kinds_11 rfl ?_
    exact W.iret (v := (zI (-1))) hx hb hr (fun t ht hW => QcP_of (by omega) trivial ht) (fun _ h9 => by cases h9) dX8_kinds_12
theorem dX8_widths_0 : decode cX8_widths 0 = .ok (.aload_n 0, 1) := by decide +kernel
theorem dX8_widths_1 : decode cX8_widths 1 = .ok (.getfield 28, 3) := by decide +kernel
theorem dX8_widths_4 : decode cX8_widths 4 = .ok (.iload_n 1, 1) := by decide +kernel
theorem dX8_widths_5 : decode cX8_widths 5 = .ok (.invokevirtual 109, 3) := by decide +kernel
theorem dX8_widths_8 : decode cX8_widths 8 = .ok (.ifCond .ne 5, 3) := by decide +kernel
theorem dX8_widths_11 : decode cX8_widths 11 = .ok (.iconst (-1), 1) := by decide +kernel
theorem dX8_widths_12 : decode cX8_widths 12 = .ok (.ireturn, 1) := by decide +kernel
theorem dX8_widths_13 : decode cX8_widths 13 = .ok (.iconst 0, 1) := by decide +kernel
theorem dX8_widths_14 : decode cX8_widths 14 = .ok (.istore_n 2, 1) := by decide +kernel
theorem dX8_widths_15 : decode cX8_widths 15 = .ok (.iconst 1, 1) := by decide +kernel
theorem dX8_widths_16 : decode cX8_widths 16 = .ok (.istore_n 3, 1) := by decide +kernel
theorem dX8_widths_17 : decode cX8_widths 17 = .ok (.iload_n 3, 1) := by decide +kernel
theorem dX8_widths_18 : decode cX8_widths 18 = .ok (.bipush 9, 2) := by decide +kernel
theorem dX8_widths_20 : decode cX8_widths 20 = .ok (.if_icmp .gt 43, 3) := by decide +kernel
theorem dX8_widths_23 : decode cX8_widths 23 = .ok (.aload_n 0, 1) := by decide +kernel
theorem dX8_widths_24 : decode cX8_widths 24 = .ok (.getfield 63, 3) := by decide +kernel
theorem dX8_widths_27 : decode cX8_widths 27 = .ok (.aload_n 0, 1) := by decide +kernel
theorem dX8_widths_28 : decode cX8_widths 28 = .ok (.getfield 28, 3) := by decide +kernel
theorem dX8_widths_31 : decode cX8_widths 31 = .ok (.iload_n 1, 1) := by decide +kernel
theorem dX8_widths_32 : decode cX8_widths 32 = .ok (.aload_n 0, 1) := by decide +kernel
theorem dX8_widths_33 : decode cX8_widths 33 = .ok (.getfield 28, 3) := by decide +kernel
theorem dX8_widths_36 : decode cX8_widths 36 = .ok (.getfield 112, 3) := by decide +kernel
theorem dX8_widths_39 : decode cX8_widths 39 = .ok (.iload_n 1, 1) := by decide +kernel
theorem dX8_widths_40 : decode cX8_widths 40 = .ok (.iaload, 1) := by decide +kernel
theorem dX8_widths_41 : decode cX8_widths 41 = .ok (.iload_n 3, 1) := by decide +kernel
theorem dX8_widths_42 : decode cX8_widths 42 = .ok (.invokestatic 272, 3) := by decide +kernel
theorem dX8_widths_45 : decode cX8_widths 45 = .ok (.invokevirtual 276, 3) := by decide +kernel
theorem dX8_widths_48 : decode cX8_widths 48 = .ok (.ifCond .eq 9, 3) := by decide +kernel
theorem dX8_widths_51 : decode cX8_widths 51 = .ok (.iload_n 2, 1) := by decide +kernel
theorem dX8_widths_52 : decode cX8_widths 52 = .ok (.iconst 1, 1) := by decide +kernel
theorem dX8_widths_53 : decode cX8_widths 53 = .ok (.iload_n 3, 1) := by decide +kernel
theorem dX8_widths_54 : decode cX8_widths 54 = .ok (.ishl, 1) := by decide +kernel
theorem dX8_widths_55 : decode cX8_widths 55 = .ok (.ior, 1) := by decide +kernel
theorem dX8_widths_56 : decode cX8_widths 56 = .ok (.istore_n 2, 1) := by decide +kernel
theorem dX8_widths_57 : decode cX8_widths 57 = .ok (.iinc 3 1, 3) := by decide +kernel
theorem dX8_widths_60 : decode cX8_widths 60 = .ok (.goto (-43), 3) := by decide +kernel
theorem dX8_widths_63 : decode cX8_widths 63 = .ok (.iload_n 2, 1) := by decide +kernel
theorem dX8_widths_64 : decode cX8_widths 64 = .ok (.ireturn, 1) := by decide +kernel
set_option maxRecDepth 20000 in
theorem ggX8_widths_X0_isFont : GoodIn wsX8_widths wsX0_isFont := goodIn_r _ [8, 9, 10, 11, 12, 47, 48, 49, 50] (by decide +kernel) (by decide +kernel)
set_option maxRecDepth 20000 in
theorem gX8_widths_X0_isFont : GoodIn wsX8_widths (wsV RX8 109 RX0 yX0_isFont wsX0_isFont) := goodIn_app (goodIn_of _ (by decide +kernel)) ggX8_widths_X0_isFont
set_option maxRecDepth 20000 in
theorem ggX8_widths_X2_areSo : GoodIn wsX8_widths wsX2_areSo := goodIn_r _ [20, 21, 22, 23, 24, 25, 26, 27, 7, 28, 29, 30, 31, 5, 6, 8, 9, 10, 11, 12, 14, 15, 51, 52, 53, 47, 48, 49, 50] (by decide +kernel) (by decide +kernel)
set_option maxRecDepth 20000 in
theorem gX8_widths_X2_areSo : GoodIn wsX8_widths (wsV RX8 276 RX2 yX2_areSo wsX2_areSo) := goodIn_app (goodIn_of _ (by decide +kernel)) ggX8_widths_X2_areSo
set_option maxRecDepth 20000 in
theorem ggX8_widths_X8_stepOf : GoodIn wsX8_widths wsX8_stepOf := goodIn_r _ [15] (by decide +kernel) (by decide +kernel)
set_option maxRecDepth 20000 in
theorem gX8_widths_X8_stepOf : GoodIn wsX8_widths (va_wsS RX8 272 yX8_stepOf wsX8_stepOf) := goodIn_app (goodIn_of _ (by decide +kernel)) ggX8_widths_X8_stepOf
set_option maxRecDepth 20000 in
theorem mw_X8_widths_0 : (.fieldLink RX8 28 "FontRuns" "fontRow" "LFontRuns$FontRow;" : Cond) ∈ wsX8_widths := by decide +kernel
set_option maxRecDepth 20000 in
theorem mw_X8_widths_1 : (.fieldLink RX8 63 "FontRuns" "readings" "LFontRuns$Readings;" : Cond) ∈ wsX8_widths := by decide +kernel
set_option maxRecDepth 20000 in
theorem mw_X8_widths_2 : (.fieldLink RX8 112 "FontRuns$FontRow" "kind" "[I" : Cond) ∈ wsX8_widths := by decide +kernel
theorem ax_X8_widths_0 {e0 e1 e2 e3 e4 e5 e6 : Nat × va_E} {k : va_W} : ([1] : List Nat).map (fun i => (([e0, e1, e2, e3, e4, e5, e6] : va_W) ++ k)[i]?) = ([e1] : va_W).map some := rfl
theorem ax_X8_widths_1 {e0 e1 e2 e3 e4 e5 e6 : Nat × va_E} {k : va_W} : ([] : List Nat).map (fun i => (([e0, e1, e2, e3, e4, e5, e6] : va_W) ++ k)[i]?) = ([] : va_W).map some := rfl
theorem ax_X8_widths_2 {e0 e1 e2 e3 e4 e5 e6 : Nat × va_E} : ([4, 5, 6, 1, 2, 3] : List Nat).map (fun i => ([e0, e1, e2, e3, e4, e5, e6] : va_W)[i]?) = ([e4, e5, e6, e1, e2, e3] : va_W).map some := rfl
set_option maxHeartbeats 4000000 in
set_option maxRecDepth 100000 in
theorem c_X8_widths (l : Launch) (D : va_G) (sz : Nat) (f : Int) (h0 : Nat) (sh : Nat) (rd : Nat) (fr : Nat) (wr : Nat) (pf : Nat) (rc : Nat) (se : Nat) (rs : Nat) (sw : Nat) (sp : Nat) (ss : Nat) (ew : Int) (wc : Int64) (tr : Int) (lf : Int) (k1 : Nat) (k2 : Nat) (k3 : Nat) (fn : Int) (ck1 : ClassId) (fk : Nat → Int32) (ck2 : ClassId) (fb : Nat → Int32) (dn : Int) (v1 : Nat) (v2 : Nat) (cv1 : ClassId) (fv : Nat → Int32) (cv2 : ClassId) (fq : Nat → Option Nat) (o2 : Nat) (pr : Nat → Nat) (gp : Nat → Nat → Int32) (cy : ClassId) (q0 : rg f) (q1 : 0 ≤ fn ∧ fn ≤ 4) (q2 : 0 ≤ dn ∧ dn ≤ 8) (q3 : kOut fq pr o2 8) (q4 : o2 + 8 ≤ 56) : Met l yX8_widths wsX8_widths ({ frames := 4, cells := 0, slots := 0, locals := 90 }) (kPre [.ref h0, .int (zI f)] D (([(h0, .inr (8, [.ref sh, .ref rd, .ref fr, .ref wr, .ref pf, .ref rc, .ref se, .ref rs, .ref sw, .ref sp, .ref ss, .int (zI ew), .long wc, .int (zI tr), .int (zI lf)])), (fr, .inr (0, [.ref k1, .ref k2, .ref k3, .int (zI fn)])), (k1, .inl (ck1, 4, .inl fk)), (k2, .inl (ck2, 4, .inl fb)), (rs, .inr (2, [.int (zI dn), .ref v1, .ref v2])), (v1, .inl (cv1, 8, .inl fv)), (v2, .inl (cv2, 8, .inr (.inr (.inr (.inr (fq))))))] : va_W) ++ kRows pr gp cy) [(ck1, .int), (ck2, .int), (cv1, .int), (cv2, .array .int), (cy, .int)] sz) (QcP (fun rz => True)) 0 0 (fun _ => False) := by
  refine Met.ofW (cc := cX8_widths) (maxL := 4) (ret := (some .int)) (by decide) rfl ?_
  intro p e s m args below meth c s₁ B hml hv
  obtain ⟨rfl, hsz, hP, hK, hD0, hN⟩ := hv
  have hx := B.exec
  have hb := B.bytes
  have hr := B.returns
  have hts := atoms_spec (ws := wsX8_widths) B.pre
  have hown : s.vm.findClass RX8 = some m.cls := findClass_of_methodNamed B.named
  have hlocks := B.notSynchronized
  subst hsz
  have hD := hD0
  have hP : va_P D vwCl (([(h0, .inr (8, [.ref sh, .ref rd, .ref fr, .ref wr, .ref pf, .ref rc, .ref se, .ref rs, .ref sw, .ref sp, .ref ss, .int (zI ew), .long wc, .int (zI tr), .int (zI lf)])), (fr, .inr (0, [.ref k1, .ref k2, .ref k3, .int (zI fn)])), (k1, .inl (ck1, 4, .inl fk)), (k2, .inl (ck2, 4, .inl fb)), (rs, .inr (2, [.int (zI dn), .ref v1, .ref v2])), (v1, .inl (cv1, 8, .inl fv)), (v2, .inl (cv2, 8, .inr (.inr (.inr (.inr (fq))))))] : va_W) ++ kRows pr gp cy) s.heap := hP
  have hl := lv_entry ([.ref h0, .int (zI f)]) (n := 4) (Nat.le_of_ble_eq_true rfl)
  rw [lg_entry_eq]
  generalize (lg_sl ([.ref h0, .int (zI f)]) ++ List.replicate (4 - (lg_sl ([.ref h0, .int (zI f)])).length) Slot.unset).toArray = ls at hl ⊢
  have hl : lv_has ls 4 [(0, .ref h0), (1, .int (zI f))] := hl
  refine lv_aload_n hx hb dX8_widths_0 rfl (lv_at hl 0 rfl) ?_
  refine va_get (D := D) (ci := 8) (v := .ref fr) (C := RX8) (T := TX8) (N := 15) hx hb hts (fun _ h9 => List.mem_cons_of_mem _ (List.mem_append_left _ (List.mem_append_left _ (List.mem_append_right _ h9)))) hown hK hP 0 rfl rfl 2 (by decide) (hts (.fieldLink RX8 28 "FontRuns" "fontRow" "LFontRuns$FontRow;") mw_X8_widths_0) (fun _ h9 => h9) rfl dX8_widths_1 ?_
  refine lv_iload_n hx hb dX8_widths_4 rfl (lv_at hl 1 rfl) ?_
  refine k_callR (va_runV (As := [.int (zI f)]) (rest := []) ⟨hx, hb, hml, hown, hts⟩ (c_X0_isFont l D s.heap.size (f := f) (h0 := fr) (k1 := k1) (k2 := k2) (k3 := k3) (n := fn) q0 q1) (cwV 1 hts gX8_widths_X0_isFont rfl rfl rfl (by decide +kernel) ⟨Nat.le_of_ble_eq_true rfl, Nat.le_of_ble_eq_true rfl⟩) (kPreV hP (kD0 hD) hK hN [1] [] ax_X8_widths_0 rfl (by decide +kernel) 1 0 rfl rfl) rfl rfl hl.1 rfl (lv_room (Nat.le_of_ble_eq_true rfl)) dX8_widths_5 ⟨Nat.le_of_ble_eq_true rfl, Nat.le_of_ble_eq_true rfl⟩) ?_
  refine lv_if_ne (tgt := 13) hx hb dX8_widths_8 (by decide) (fun c_1 => ?_) (fun c_1 => ?_)
  · have c_1 : 0 ≤ f ∧ f ≤ fn - 1 := b01t c_1
    refine lv_iconst (v := zI 0) hx hb dX8_widths_13 rfl ?_
    refine lv_istore_n (lv' := [(2, .int (zI 0)), (0, .ref h0), (1, .int (zI f))]) hx hb dX8_widths_14 rfl hl (by decide) rfl (fun ls hl => ?_)
    refine lv_iconst (v := zI 1) hx hb dX8_widths_15 rfl ?_
    refine lv_istore_n (lv' := [(3, .int (zI 1)), (2, .int (zI 0)), (0, .ref h0), (1, .int (zI f))]) hx hb dX8_widths_16 rfl hl (by decide) rfl (fun ls hl => ?_)
    refine k_loopM (I := fun n9 H locs ls => ∃ (js : Int) (jk : Int), n9 = (10 - jk).toNat ∧ (rg js) ∧ (1 ≤ jk ∧ jk ≤ 10) ∧ H = s.heap ∧ locs = [] ∧ lv_has ls 4 [(3, .int (zI jk)), (2, .int (zI js)), (0, .ref h0), (1, .int (zI f))]) ?_ _ ⟨0, 1, rfl, (by omega), (by omega), rfl, rfl, hl⟩
    intro n17 ih17 H locs ls hI
    obtain ⟨js, jk, en17, v_170, v_171, eH, eL, hl⟩ := hI
    subst eH
    subst eL
    refine lv_iload_n hx hb dX8_widths_17 rfl (lv_at hl 0 rfl) ?_
    refine lv_bipush (v := zI 9) hx hb dX8_widths_18 (by decide) ?_
    refine kz_icmp_gt (tgt := 63) hx hb dX8_widths_20 (by decide) (by omega) (by omega) (fun c_2 => ?_) (fun c_2 => ?_)
    · refine lv_iload_n hx hb dX8_widths_63 rfl (lv_at hl 1 rfl) ?_
      exact W.iret (v := (zI js)) hx hb hr (fun t ht hW => QcP_of (by omega) trivial ht) (fun _ h9 => by cases h9) dX8_widths_64
    · refine lv_aload_n hx hb dX8_widths_23 rfl (lv_at hl 2 rfl) ?_
      refine va_get (D := D) (ci := 8) (v := .ref rs) (C := RX8) (T := TX8) (N := 15) hx hb hts (fun _ h9 => List.mem_cons_of_mem _ (List.mem_append_left _ (List.mem_append_left _ (List.mem_append_right _ h9)))) hown hK hP 0 rfl rfl 7 (by decide) (hts (.fieldLink RX8 63 "FontRuns" "readings" "LFontRuns$Readings;") mw_X8_widths_1) (fun _ h9 => h9) rfl dX8_widths_24 ?_
      refine lv_aload_n hx hb dX8_widths_27 rfl (lv_at hl 2 rfl) ?_
      refine va_get (D := D) (ci := 8) (v := .ref fr) (C := RX8) (T := TX8) (N := 15) hx hb hts (fun _ h9 => List.mem_cons_of_mem _ (List.mem_append_left _ (List.mem_append_left _ (List.mem_append_right _ h9)))) hown hK hP 0 rfl rfl 2 (by decide) (hts (.fieldLink RX8 28 "FontRuns" "fontRow" "LFontRuns$FontRow;") mw_X8_widths_0) (fun _ h9 => h9) rfl dX8_widths_28 ?_
      refine lv_iload_n hx hb dX8_widths_31 rfl (lv_at hl 3 rfl) ?_
      refine lv_aload_n hx hb dX8_widths_32 rfl (lv_at hl 2 rfl) ?_
      refine va_get (D := D) (ci := 8) (v := .ref fr) (C := RX8) (T := TX8) (N := 15) hx hb hts (fun _ h9 => List.mem_cons_of_mem _ (List.mem_append_left _ (List.mem_append_left _ (List.mem_append_right _ h9)))) hown hK hP 0 rfl rfl 2 (by decide) (hts (.fieldLink RX8 28 "FontRuns" "fontRow" "LFontRuns$FontRow;") mw_X8_widths_0) (fun _ h9 => h9) rfl dX8_widths_33 ?_
      refine va_get (D := D) (ci := 0) (v := .ref k1) (C := RX0) (T := TX0) (N := 4) hx hb hts (fun _ h9 => List.mem_cons_of_mem _ (List.mem_append_left _ (List.mem_append_right _ h9))) hown hK hP 1 rfl rfl 0 (by decide) (hts (.fieldLink RX8 112 "FontRuns$FontRow" "kind" "[I") mw_X8_widths_2) (fun _ h9 => h9) rfl dX8_widths_36 ?_
      refine lv_iload_n hx hb dX8_widths_39 rfl (lv_at hl 3 rfl) ?_
      refine kz_iald hx hb hK hP 2 0 rfl rfl (by omega) dX8_widths_40 (fun z_3 rz_3 ez_3 => ?_)
      refine lv_iload_n hx hb dX8_widths_41 rfl (lv_at hl 0 rfl) ?_
      refine k_callP (va_runS (As := [.int (zI z_3), .int (zI jk)]) (rest := [.int (zI f), .ref fr, .ref rs]) ⟨hx, hb, hml, hown, hts⟩ (c_X8_stepOf l D s.heap.size (k := z_3) (b := jk) (by omega) (by omega)) (va_cwS 2 hts gX8_widths_X8_stepOf rfl rfl rfl (by decide +kernel) ⟨Nat.le_of_ble_eq_true rfl, Nat.le_of_ble_eq_true rfl⟩) (kPreS hP (kD0 hD) hK hN [] [] ax_X8_widths_1 rfl (by decide +kernel)) rfl rfl hl.1 rfl (lv_room (Nat.le_of_ble_eq_true rfl)) dX8_widths_42 ⟨Nat.le_of_ble_eq_true rfl, Nat.le_of_ble_eq_true rfl⟩) (fun z_4 rz_4 h_5 => ?_)
      refine k_callP (va_runV (As := [.ref fr, .int (zI f), .int (zI z_4)]) (rest := []) ⟨hx, hb, hml, hown, hts⟩ (c_X2_areSo l D s.heap.size (fr := fr) (ch := f) (sp := z_4) (h0 := rs) (rn := dn) (v1 := v1) (v2 := v2) (cv1 := cv1) (fv := fv) (cv2 := cv2) (fq := fq) (o2 := o2) (k1 := k1) (k2 := k2) (k3 := k3) (n := fn) (ck1 := ck1) (fk := fk) (ck2 := ck2) (fb := fb) (pr := pr) (gp := gp) (cy := cy) q0 (by omega) q2 q1 q3 q4) (cwV 3 hts gX8_widths_X2_areSo rfl rfl rfl (by decide +kernel) ⟨Nat.le_of_ble_eq_true rfl, Nat.le_of_ble_eq_true rfl⟩) (kPreVP hP (kD0 hD) hK hN [4, 5, 6, 1, 2, 3] [2, 3, 0, 1, 4] ax_X8_widths_2 rfl (by decide +kernel) 4 2 rfl rfl) rfl rfl hl.1 rfl (lv_room (Nat.le_of_ble_eq_true rfl)) dX8_widths_45 ⟨Nat.le_of_ble_eq_true rfl, Nat.le_of_ble_eq_true rfl⟩) (fun z_6 rz_6 h_7 => ?_)
      refine kz_if_eq (tgt := 57) hx hb dX8_widths_48 (by decide) (by omega) (fun c_8 => ?_) (fun c_8 => ?_)
      · refine lv_iinc (v := (zI (jk + 1))) (lv' := [(3, .int (zI (jk + 1))), (2, .int (zI js)), (0, .ref h0), (1, .int (zI f))]) hx hb dX8_widths_57 hl (k := 0) rfl (kz_inc _ 1) (by decide) rfl (fun ls hl => ?_)
        refine lv_goto (tgt := 17) hx hb dX8_widths_60 (by decide) ?_
        exact ih17 _ (by omega) _ _ _ ⟨js, (jk + 1), rfl, v_170, (by omega), rfl, rfl, lv_sub hl [0, 1, 2, 3] rfl⟩
      · refine lv_iload_n hx hb dX8_widths_51 rfl (lv_at hl 1 rfl) ?_
        refine lv_iconst (v := zI 1) hx hb dX8_widths_52 rfl ?_
        refine lv_iload_n hx hb dX8_widths_53 rfl (lv_at hl 0 rfl) ?_
        refine lv_ishl hx hb dX8_widths_54 ?_
        refine kz_any (fun z_9 rz_9 ez_9 => ?_)
        refine lv_ior hx hb dX8_widths_55 ?_
        refine kz_any (fun z_10 rz_10 ez_10 => ?_)
        refine lv_istore_n (lv' := [(2, .int (zI z_10)), (3, .int (zI jk)), (0, .ref h0), (1, .int (zI f))]) hx hb dX8_widths_56 rfl hl (by decide) rfl (fun ls hl => ?_)
        refine lv_iinc (v := (zI (jk + 1))) (lv' := [(3, .int (zI (jk + 1))), (2, .int (zI z_10)), (0, .ref h0), (1, .int (zI f))]) hx hb dX8_widths_57 hl (k := 1) rfl (kz_inc _ 1) (by decide) rfl (fun ls hl => ?_)
        refine lv_goto (tgt := 17) hx hb dX8_widths_60 (by decide) ?_
        exact ih17 _ (by omega) _ _ _ ⟨z_10, (jk + 1), rfl, (by omega), (by omega), rfl, rfl, lv_sub hl [0, 1, 2, 3] rfl⟩
  · have c_1 : ¬ (0 ≤ f ∧ f ≤ fn - 1) := b01f c_1
    refine lv_iconst (v := zI (-1)) hx hb dX8_widths_11 rfl ?_
    exact W.iret (v := (zI (-1))) hx hb hr (fun t ht hW => QcP_of (by omega) trivial ht) (fun _ h9 => by cases h9) dX8_widths_12
theorem dX8_odds_0 : decode cX8_odds 0 = .ok (.iload_n 1, 1) := by decide +kernel
theorem dX8_odds_1 : decode cX8_odds 1 = .ok (.iconst 0, 1) := by decide +kernel
theorem dX8_odds_2 : decode cX8_odds 2 = .ok (.bipush 24, 2) := by decide +kernel
theorem dX8_odds_4 : decode cX8_odds 4 = .ok (.invokestatic 128, 3) := by decide +kernel
theorem dX8_odds_7 : decode cX8_odds 7 = .ok (.ifCond .eq 12, 3) := by decide +kernel
theorem dX8_odds_10 : decode cX8_odds 10 = .ok (.iload_n 2, 1) := by decide +kernel
theorem dX8_odds_11 : decode cX8_odds 11 = .ok (.iconst 0, 1) := by decide +kernel
theorem dX8_odds_12 : decode cX8_odds 12 = .ok (.iconst 1, 1) := by decide +kernel
theorem dX8_odds_13 : decode cX8_odds 13 = .ok (.invokestatic 128, 3) := by decide +kernel
theorem dX8_odds_16 : decode cX8_odds 16 = .ok (.ifCond .ne 7, 3) := by decide +kernel
theorem dX8_odds_19 : decode cX8_odds 19 = .ok (.ldc2_w 280, 3) := by decide +kernel
theorem dX8_odds_22 : decode cX8_odds 22 = .ok (.lreturn, 1) := by decide +kernel
theorem dX8_odds_23 : decode cX8_odds 23 = .ok (.aload_n 0, 1) := by decide +kernel
theorem dX8_odds_24 : decode cX8_odds 24 = .ok (.getfield 28, 3) := by decide +kernel
theorem dX8_odds_27 : decode cX8_odds 27 = .ok (.getfield 106, 3) := by decide +kernel
theorem dX8_odds_30 : decode cX8_odds 30 = .ok (.ifCond .eq 15, 3) := by decide +kernel
theorem dX8_odds_33 : decode cX8_odds 33 = .ok (.aload_n 0, 1) := by decide +kernel
theorem dX8_odds_34 : decode cX8_odds 34 = .ok (.getfield 35, 3) := by decide +kernel
theorem dX8_odds_37 : decode cX8_odds 37 = .ok (.getfield 139, 3) := by decide +kernel
theorem dX8_odds_40 : decode cX8_odds 40 = .ok (.bipush 24, 2) := by decide +kernel
theorem dX8_odds_42 : decode cX8_odds 42 = .ok (.if_icmp .lt 7, 3) := by decide +kernel
theorem dX8_odds_45 : decode cX8_odds 45 = .ok (.ldc2_w 280, 3) := by decide +kernel
theorem dX8_odds_48 : decode cX8_odds 48 = .ok (.lreturn, 1) := by decide +kernel
theorem dX8_odds_49 : decode cX8_odds 49 = .ok (.aload_n 0, 1) := by decide +kernel
theorem dX8_odds_50 : decode cX8_odds 50 = .ok (.iload_n 1, 1) := by decide +kernel
theorem dX8_odds_51 : decode cX8_odds 51 = .ok (.invokevirtual 282, 3) := by decide +kernel
theorem dX8_odds_54 : decode cX8_odds 54 = .ok (.istore_n 3, 1) := by decide +kernel
theorem dX8_odds_55 : decode cX8_odds 55 = .ok (.bipush 16, 2) := by decide +kernel
theorem dX8_odds_57 : decode cX8_odds 57 = .ok (.istore 4, 2) := by decide +kernel
theorem dX8_odds_59 : decode cX8_odds 59 = .ok (.iload 4, 2) := by decide +kernel
theorem dX8_odds_61 : decode cX8_odds 61 = .ok (.iconst 1, 1) := by decide +kernel
theorem dX8_odds_62 : decode cX8_odds 62 = .ok (.if_icmp .le 22, 3) := by decide +kernel
theorem dX8_odds_65 : decode cX8_odds 65 = .ok (.iload_n 3, 1) := by decide +kernel
theorem dX8_odds_66 : decode cX8_odds 66 = .ok (.iconst 2, 1) := by decide +kernel
theorem dX8_odds_67 : decode cX8_odds 67 = .ok (.irem, 1) := by decide +kernel
theorem dX8_odds_68 : decode cX8_odds 68 = .ok (.ifCond .ne 16, 3) := by decide +kernel
theorem dX8_odds_71 : decode cX8_odds 71 = .ok (.iload_n 3, 1) := by decide +kernel
theorem dX8_odds_72 : decode cX8_odds 72 = .ok (.iconst 2, 1) := by decide +kernel
theorem dX8_odds_73 : decode cX8_odds 73 = .ok (.idiv, 1) := by decide +kernel
theorem dX8_odds_74 : decode cX8_odds 74 = .ok (.istore_n 3, 1) := by decide +kernel
theorem dX8_odds_75 : decode cX8_odds 75 = .ok (.iload 4, 2) := by decide +kernel
theorem dX8_odds_77 : decode cX8_odds 77 = .ok (.iconst 2, 1) := by decide +kernel
theorem dX8_odds_78 : decode cX8_odds 78 = .ok (.idiv, 1) := by decide +kernel
theorem dX8_odds_79 : decode cX8_odds 79 = .ok (.istore 4, 2) := by decide +kernel
theorem dX8_odds_81 : decode cX8_odds 81 = .ok (.goto (-22), 3) := by decide +kernel
theorem dX8_odds_84 : decode cX8_odds 84 = .ok (.iload_n 2, 1) := by decide +kernel
theorem dX8_odds_85 : decode cX8_odds 85 = .ok (.ifCond .ne 8, 3) := by decide +kernel
theorem dX8_odds_88 : decode cX8_odds 88 = .ok (.iload_n 3, 1) := by decide +kernel
theorem dX8_odds_89 : decode cX8_odds 89 = .ok (.i2l, 1) := by decide +kernel
theorem dX8_odds_90 : decode cX8_odds 90 = .ok (.goto 6, 3) := by decide +kernel
theorem dX8_odds_93 : decode cX8_odds 93 = .ok (.iload 4, 2) := by decide +kernel
theorem dX8_odds_95 : decode cX8_odds 95 = .ok (.i2l, 1) := by decide +kernel
theorem dX8_odds_96 : decode cX8_odds 96 = .ok (.lreturn, 1) := by decide +kernel
set_option maxRecDepth 20000 in
theorem ggX8_odds_X8_isWithin : GoodIn wsX8_odds wsX8_isWithin := goodIn_r _ [9] (by decide +kernel) (by decide +kernel)
set_option maxRecDepth 20000 in
theorem gX8_odds_X8_isWithin : GoodIn wsX8_odds (va_wsS RX8 128 yX8_isWithin wsX8_isWithin) := goodIn_app (goodIn_of _ (by decide +kernel)) ggX8_odds_X8_isWithin
set_option maxRecDepth 20000 in
theorem ggX8_odds_X8_lettersWithChanges : GoodIn wsX8_odds wsX8_lettersWithChanges := goodIn_r _ [13, 14, 4, 15, 2, 16, 17, 18, 19, 20, 21, 22, 23, 24, 25, 26, 27, 7, 8, 9, 28, 29, 30, 31, 32, 33, 34, 35, 36, 37, 38, 39, 40, 41, 42, 43, 44, 45, 46, 47, 48, 49, 50, 51, 52, 53, 54, 55, 56, 57, 58, 59, 60, 61, 62, 63, 64, 65, 66, 67, 68, 69, 70, 71, 72, 73, 74, 75, 76, 77, 78, 79, 80, 81, 82, 83, 84, 85, 86, 87, 88, 89, 90, 91, 92, 93, 94, 95, 96, 97, 98, 99, 100, 101, 102, 103, 108, 109, 104, 105, 106, 107, 110, 111, 112, 113, 114, 115, 116, 117, 118, 119, 120, 121] (by decide +kernel) (by decide +kernel)
set_option maxRecDepth 20000 in
theorem gX8_odds_X8_lettersWithChanges : GoodIn wsX8_odds (wsV RX8 282 RX8 yX8_lettersWithChanges wsX8_lettersWithChanges) := goodIn_app (goodIn_of _ (by decide +kernel)) ggX8_odds_X8_lettersWithChanges
set_option maxRecDepth 20000 in
theorem mw_X8_odds_0 : (.constantLong RX8 280 (-9223372036854775808) : Cond) ∈ wsX8_odds := by decide +kernel
set_option maxRecDepth 20000 in
theorem mw_X8_odds_1 : (.fieldLink RX8 28 "FontRuns" "fontRow" "LFontRuns$FontRow;" : Cond) ∈ wsX8_odds := by decide +kernel
set_option maxRecDepth 20000 in
theorem mw_X8_odds_2 : (.fieldLink RX8 106 "FontRuns$FontRow" "count" "I" : Cond) ∈ wsX8_odds := by decide +kernel
set_option maxRecDepth 20000 in
theorem mw_X8_odds_3 : (.fieldLink RX8 35 "FontRuns" "writing" "LFontRuns$Writing;" : Cond) ∈ wsX8_odds := by decide +kernel
set_option maxRecDepth 20000 in
theorem mw_X8_odds_4 : (.fieldLink RX8 139 "FontRuns$Writing" "count" "I" : Cond) ∈ wsX8_odds := by decide +kernel
theorem ax_X8_odds_0 {e0 e1 e2 e3 e4 e5 e6 e7 e8 e9 e10 e11 e12 e13 e14 e15 e16 : Nat × va_E} {k : va_W} : ([] : List Nat).map (fun i => (([e0, e1, e2, e3, e4, e5, e6, e7, e8, e9, e10, e11, e12, e13, e14, e15, e16] : va_W) ++ k)[i]?) = ([] : va_W).map some := rfl
theorem ax_X8_odds_1 {e0 e1 e2 e3 e4 e5 e6 e7 e8 e9 e10 e11 e12 e13 e14 e15 e16 : Nat × va_E} : ([0, 1, 2, 3, 4, 5, 6, 7, 8, 9, 10, 11, 12, 13, 14, 15, 16] : List Nat).map (fun i => ([e0, e1, e2, e3, e4, e5, e6, e7, e8, e9, e10, e11, e12, e13, e14, e15, e16] : va_W)[i]?) = ([e0, e1, e2, e3, e4, e5, e6, e7, e8, e9, e10, e11, e12, e13, e14, e15, e16] : va_W).map some := rfl
theorem ax_X8_odds_2 {e0 e1 e2 e3 e4 e5 e6 e7 e8 e9 e10 e11 e12 e13 e14 e15 e16 : Nat × va_E} : ([] : List Nat).map (fun i => ([e0, e1, e2, e3, e4, e5, e6, e7, e8, e9, e10, e11, e12, e13, e14, e15, e16] : va_W)[i]?) = ([] : va_W).map some := rfl
theorem ax_X8_odds_3 {D : va_G} {cl : List vw_C} {H : Heap} {f0 f1 f2 f3 f4 f5 f6 f7 f8 f9 f10 f11 f12 f13 f14 f15 f16 : Nat × va_E} {k : va_W} (h : va_P D cl ((([] : va_W) ++ ([f0, f1, f2, f3, f4, f5, f6, f7, f8, f9, f10, f11, f12, f13, f14, f15, f16] : va_W)) ++ k) H) : va_P D cl (([f0, f1, f2, f3, f4, f5, f6, f7, f8, f9, f10, f11, f12, f13, f14, f15, f16] : va_W) ++ k) H := h
theorem ax_X8_odds_4 {A : Nat → Prop} {f0 f1 f2 f3 f4 f5 f6 f7 f8 f9 f10 f11 f12 f13 f14 f15 f16 : Nat × va_E} {k : va_W} (h : va_D A ((([] : va_W) ++ ([f0, f1, f2, f3, f4, f5, f6, f7, f8, f9, f10, f11, f12, f13, f14, f15, f16] : va_W)) ++ k)) : va_D A (([f0, f1, f2, f3, f4, f5, f6, f7, f8, f9, f10, f11, f12, f13, f14, f15, f16] : va_W) ++ k) := h
set_option maxHeartbeats 4000000 in
set_option maxRecDepth 100000 in
theorem c_X8_odds (l : Launch) (D : va_G) (sz : Nat) (x : Int) (w : Int) (h0 : Nat) (sh : Nat) (rd : Nat) (fr : Nat) (wr : Nat) (pf : Nat) (rc : Nat) (se : Nat) (rs : Nat) (sw : Nat) (sp : Nat) (ss : Nat) (ew : Int) (wc : Int64) (tr : Int) (lf : Int) (sg1 : Nat) (sg2 : Nat) (sg3 : Nat) (sg4 : Nat) (sg5 : Nat) (scn : Int) (sbo : Int) (sru : Int) (sg6 : Nat) (sg7 : Nat) (scg1 : ClassId) (sf1 : Nat → Int32) (scg2 : ClassId) (sf2 : Nat → Int32) (scg3 : ClassId) (sf3 : Nat → Int32) (scg4 : ClassId) (sf4 : Nat → Int32) (scg5 : ClassId) (sf5 : Nat → Int32) (scg6 : ClassId) (sf6 : Nat → Int32) (scg7 : ClassId) (sfo : Nat → Option Nat) (o3 : Nat) (sw1 : Nat) (swn : Int) (csw1 : ClassId) (fsw : Nat → Int32) (w1 : Nat) (wn : Int) (cw1 : ClassId) (fw : Nat → Int32) (k1 : Nat) (k2 : Nat) (k3 : Nat) (fn : Int) (ck3 : ClassId) (fh : Nat → Int32) (p1 : Nat) (pn : Int) (cp1 : ClassId) (fp : Nat → Int32) (pr : Nat → Nat) (gp : Nat → Nat → Int32) (cy : ClassId) (q0 : rg x) (q1 : rg w) (q2 : 0 ≤ scn ∧ scn ≤ 24) (q3 : 0 ≤ sbo ∧ sbo ≤ 24) (q4 : 0 ≤ sru ∧ sru ≤ scn) (q5 : kOut sfo pr o3 24) (q6 : o3 + 24 ≤ 56) (q7 : 0 ≤ swn ∧ swn ≤ 24) (q8 : 0 ≤ wn ∧ wn ≤ 24) (q9 : 0 ≤ fn ∧ fn ≤ 4) (q10 : 0 ≤ pn ∧ pn ≤ 4) (q11 : kPr fp) : Met l yX8_odds wsX8_odds ({ frames := 4, cells := 0, slots := 0, locals := 98 }) (kPre [.ref h0, .int (zI x), .int (zI w)] D (([(h0, .inr (8, [.ref sh, .ref rd, .ref fr, .ref wr, .ref pf, .ref rc, .ref se, .ref rs, .ref sw, .ref sp, .ref ss, .int (zI ew), .long wc, .int (zI tr), .int (zI lf)])), (ss, .inr (4, [.ref sg1, .ref sg2, .ref sg3, .ref sg4, .ref sg5, .int (zI scn), .int (zI sbo), .int (zI sru), .ref sg6, .ref sg7])), (sg1, .inl (scg1, 24, .inl sf1)), (sg2, .inl (scg2, 24, .inl sf2)), (sg3, .inl (scg3, 24, .inl sf3)), (sg4, .inl (scg4, 24, .inl sf4)), (sg5, .inl (scg5, 24, .inl sf5)), (sg6, .inl (scg6, 24, .inl sf6)), (sg7, .inl (scg7, 24, .inr (.inr (.inr (.inr (sfo)))))), (sw, .inr (7, [.ref sw1, .int (zI swn)])), (sw1, .inl (csw1, 24, .inl fsw)), (wr, .inr (7, [.ref w1, .int (zI wn)])), (w1, .inl (cw1, 24, .inl fw)), (fr, .inr (0, [.ref k1, .ref k2, .ref k3, .int (zI fn)])), (k3, .inl (ck3, 4, .inl fh)), (pf, .inr (1, [.ref p1, .int (zI pn)])), (p1, .inl (cp1, 4, .inl fp))] : va_W) ++ kRows pr gp cy) [(scg1, .int), (scg2, .int), (scg3, .int), (scg4, .int), (scg5, .int), (scg6, .int), (scg7, .array .int), (csw1, .int), (cw1, .int), (ck3, .int), (cp1, .int), (cy, .int)] sz) (kQL (fun rz t => ∃ (u_swn : Int) (u_fsw : Nat → Int32) (u_scn : Int) (u_sbo : Int) (u_sru : Int) (u_sf1 : Nat → Int32) (u_sf2 : Nat → Int32) (u_sf3 : Nat → Int32) (u_sf4 : Nat → Int32) (u_sf5 : Nat → Int32) (u_sf6 : Nat → Int32) (u_gp : Nat → Nat → Int32), (0 ≤ u_scn ∧ u_scn ≤ 24) ∧ (0 ≤ u_sbo ∧ u_sbo ≤ 24) ∧ (0 ≤ u_sru ∧ u_sru ≤ u_scn) ∧ (0 ≤ u_swn ∧ u_swn ≤ 24) ∧ va_P D vwCl (([(h0, .inr (8, [.ref sh, .ref rd, .ref fr, .ref wr, .ref pf, .ref rc, .ref se, .ref rs, .ref sw, .ref sp, .ref ss, .int (zI ew), .long wc, .int (zI tr), .int (zI lf)])), (ss, .inr (4, [.ref sg1, .ref sg2, .ref sg3, .ref sg4, .ref sg5, .int (zI u_scn), .int (zI u_sbo), .int (zI u_sru), .ref sg6, .ref sg7])), (sg1, .inl (scg1, 24, .inl u_sf1)), (sg2, .inl (scg2, 24, .inl u_sf2)), (sg3, .inl (scg3, 24, .inl u_sf3)), (sg4, .inl (scg4, 24, .inl u_sf4)), (sg5, .inl (scg5, 24, .inl u_sf5)), (sg6, .inl (scg6, 24, .inl u_sf6)), (sg7, .inl (scg7, 24, .inr (.inr (.inr (.inr (sfo)))))), (sw, .inr (7, [.ref sw1, .int (zI u_swn)])), (sw1, .inl (csw1, 24, .inl u_fsw)), (wr, .inr (7, [.ref w1, .int (zI wn)])), (w1, .inl (cw1, 24, .inl fw)), (fr, .inr (0, [.ref k1, .ref k2, .ref k3, .int (zI fn)])), (k3, .inl (ck3, 4, .inl fh)), (pf, .inr (1, [.ref p1, .int (zI pn)])), (p1, .inl (cp1, 4, .inl fp))] : va_W) ++ kRows pr u_gp cy) t.heap ∧ va_D (va_A (([(h0, .inr (8, [.ref sh, .ref rd, .ref fr, .ref wr, .ref pf, .ref rc, .ref se, .ref rs, .ref sw, .ref sp, .ref ss, .int (zI ew), .long wc, .int (zI tr), .int (zI lf)])), (ss, .inr (4, [.ref sg1, .ref sg2, .ref sg3, .ref sg4, .ref sg5, .int (zI scn), .int (zI sbo), .int (zI sru), .ref sg6, .ref sg7])), (sg1, .inl (scg1, 24, .inl sf1)), (sg2, .inl (scg2, 24, .inl sf2)), (sg3, .inl (scg3, 24, .inl sf3)), (sg4, .inl (scg4, 24, .inl sf4)), (sg5, .inl (scg5, 24, .inl sf5)), (sg6, .inl (scg6, 24, .inl sf6)), (sg7, .inl (scg7, 24, .inr (.inr (.inr (.inr (sfo)))))), (sw, .inr (7, [.ref sw1, .int (zI swn)])), (sw1, .inl (csw1, 24, .inl fsw)), (wr, .inr (7, [.ref w1, .int (zI wn)])), (w1, .inl (cw1, 24, .inl fw)), (fr, .inr (0, [.ref k1, .ref k2, .ref k3, .int (zI fn)])), (k3, .inl (ck3, 4, .inl fh)), (pf, .inr (1, [.ref p1, .int (zI pn)])), (p1, .inl (cp1, 4, .inl fp))] : va_W) ++ kRows pr gp cy) sz) (([(h0, .inr (8, [.ref sh, .ref rd, .ref fr, .ref wr, .ref pf, .ref rc, .ref se, .ref rs, .ref sw, .ref sp, .ref ss, .int (zI ew), .long wc, .int (zI tr), .int (zI lf)])), (ss, .inr (4, [.ref sg1, .ref sg2, .ref sg3, .ref sg4, .ref sg5, .int (zI u_scn), .int (zI u_sbo), .int (zI u_sru), .ref sg6, .ref sg7])), (sg1, .inl (scg1, 24, .inl u_sf1)), (sg2, .inl (scg2, 24, .inl u_sf2)), (sg3, .inl (scg3, 24, .inl u_sf3)), (sg4, .inl (scg4, 24, .inl u_sf4)), (sg5, .inl (scg5, 24, .inl u_sf5)), (sg6, .inl (scg6, 24, .inl u_sf6)), (sg7, .inl (scg7, 24, .inr (.inr (.inr (.inr (sfo)))))), (sw, .inr (7, [.ref sw1, .int (zI u_swn)])), (sw1, .inl (csw1, 24, .inl u_fsw)), (wr, .inr (7, [.ref w1, .int (zI wn)])), (w1, .inl (cw1, 24, .inl fw)), (fr, .inr (0, [.ref k1, .ref k2, .ref k3, .int (zI fn)])), (k3, .inl (ck3, 4, .inl fh)), (pf, .inr (1, [.ref p1, .int (zI pn)])), (p1, .inl (cp1, 4, .inl fp))] : va_W) ++ kRows pr u_gp cy)) (va_A (([(h0, .inr (8, [.ref sh, .ref rd, .ref fr, .ref wr, .ref pf, .ref rc, .ref se, .ref rs, .ref sw, .ref sp, .ref ss, .int (zI ew), .long wc, .int (zI tr), .int (zI lf)])), (ss, .inr (4, [.ref sg1, .ref sg2, .ref sg3, .ref sg4, .ref sg5, .int (zI scn), .int (zI sbo), .int (zI sru), .ref sg6, .ref sg7])), (sg1, .inl (scg1, 24, .inl sf1)), (sg2, .inl (scg2, 24, .inl sf2)), (sg3, .inl (scg3, 24, .inl sf3)), (sg4, .inl (scg4, 24, .inl sf4)), (sg5, .inl (scg5, 24, .inl sf5)), (sg6, .inl (scg6, 24, .inl sf6)), (sg7, .inl (scg7, 24, .inr (.inr (.inr (.inr (sfo)))))), (sw, .inr (7, [.ref sw1, .int (zI swn)])), (sw1, .inl (csw1, 24, .inl fsw)), (wr, .inr (7, [.ref w1, .int (zI wn)])), (w1, .inl (cw1, 24, .inl fw)), (fr, .inr (0, [.ref k1, .ref k2, .ref k3, .int (zI fn)])), (k3, .inl (ck3, 4, .inl fh)), (pf, .inr (1, [.ref p1, .int (zI pn)])), (p1, .inl (cp1, 4, .inl fp))] : va_W) ++ kRows pr gp cy) sz)) 0 0 (va_A (([(h0, .inr (8, [.ref sh, .ref rd, .ref fr, .ref wr, .ref pf, .ref rc, .ref se, .ref rs, .ref sw, .ref sp, .ref ss, .int (zI ew), .long wc, .int (zI tr), .int (zI lf)])), (ss, .inr (4, [.ref sg1, .ref sg2, .ref sg3, .ref sg4, .ref sg5, .int (zI scn), .int (zI sbo), .int (zI sru), .ref sg6, .ref sg7])), (sg1, .inl (scg1, 24, .inl sf1)), (sg2, .inl (scg2, 24, .inl sf2)), (sg3, .inl (scg3, 24, .inl sf3)), (sg4, .inl (scg4, 24, .inl sf4)), (sg5, .inl (scg5, 24, .inl sf5)), (sg6, .inl (scg6, 24, .inl sf6)), (sg7, .inl (scg7, 24, .inr (.inr (.inr (.inr (sfo)))))), (sw, .inr (7, [.ref sw1, .int (zI swn)])), (sw1, .inl (csw1, 24, .inl fsw)), (wr, .inr (7, [.ref w1, .int (zI wn)])), (w1, .inl (cw1, 24, .inl fw)), (fr, .inr (0, [.ref k1, .ref k2, .ref k3, .int (zI fn)])), (k3, .inl (ck3, 4, .inl fh)), (pf, .inr (1, [.ref p1, .int (zI pn)])), (p1, .inl (cp1, 4, .inl fp))] : va_W) ++ kRows pr gp cy) sz) := by
  refine Met.ofW (cc := cX8_odds) (maxL := 5) (ret := (some .long)) (by decide) rfl ?_
  intro p e s m args below meth c s₁ B hml hv
  obtain ⟨rfl, hsz, hP, hK, hD0, hN⟩ := hv
  have hx := B.exec
  have hb := B.bytes
  have hr := B.returns
  have hts := atoms_spec (ws := wsX8_odds) B.pre
  have hown : s.vm.findClass RX8 = some m.cls := findClass_of_methodNamed B.named
  have hlocks := B.notSynchronized
  subst hsz
  have hD := hD0.self (sz := s.heap.size)
  generalize hAe : va_A (([(h0, .inr (8, [.ref sh, .ref rd, .ref fr, .ref wr, .ref pf, .ref rc, .ref se, .ref rs, .ref sw, .ref sp, .ref ss, .int (zI ew), .long wc, .int (zI tr), .int (zI lf)])), (ss, .inr (4, [.ref sg1, .ref sg2, .ref sg3, .ref sg4, .ref sg5, .int (zI scn), .int (zI sbo), .int (zI sru), .ref sg6, .ref sg7])), (sg1, .inl (scg1, 24, .inl sf1)), (sg2, .inl (scg2, 24, .inl sf2)), (sg3, .inl (scg3, 24, .inl sf3)), (sg4, .inl (scg4, 24, .inl sf4)), (sg5, .inl (scg5, 24, .inl sf5)), (sg6, .inl (scg6, 24, .inl sf6)), (sg7, .inl (scg7, 24, .inr (.inr (.inr (.inr (sfo)))))), (sw, .inr (7, [.ref sw1, .int (zI swn)])), (sw1, .inl (csw1, 24, .inl fsw)), (wr, .inr (7, [.ref w1, .int (zI wn)])), (w1, .inl (cw1, 24, .inl fw)), (fr, .inr (0, [.ref k1, .ref k2, .ref k3, .int (zI fn)])), (k3, .inl (ck3, 4, .inl fh)), (pf, .inr (1, [.ref p1, .int (zI pn)])), (p1, .inl (cp1, 4, .inl fp))] : va_W) ++ kRows pr gp cy) s.heap.size = A at hD ⊢
  have hA : ∀ q : Nat, s.heap.size ≤ q → A q := fun q h => by rw [← hAe]; exact Or.inr h
  have hS : va_S A s.heap s.heap [] := va_S.rf
  have hP : va_P D vwCl (([(h0, .inr (8, [.ref sh, .ref rd, .ref fr, .ref wr, .ref pf, .ref rc, .ref se, .ref rs, .ref sw, .ref sp, .ref ss, .int (zI ew), .long wc, .int (zI tr), .int (zI lf)])), (ss, .inr (4, [.ref sg1, .ref sg2, .ref sg3, .ref sg4, .ref sg5, .int (zI scn), .int (zI sbo), .int (zI sru), .ref sg6, .ref sg7])), (sg1, .inl (scg1, 24, .inl sf1)), (sg2, .inl (scg2, 24, .inl sf2)), (sg3, .inl (scg3, 24, .inl sf3)), (sg4, .inl (scg4, 24, .inl sf4)), (sg5, .inl (scg5, 24, .inl sf5)), (sg6, .inl (scg6, 24, .inl sf6)), (sg7, .inl (scg7, 24, .inr (.inr (.inr (.inr (sfo)))))), (sw, .inr (7, [.ref sw1, .int (zI swn)])), (sw1, .inl (csw1, 24, .inl fsw)), (wr, .inr (7, [.ref w1, .int (zI wn)])), (w1, .inl (cw1, 24, .inl fw)), (fr, .inr (0, [.ref k1, .ref k2, .ref k3, .int (zI fn)])), (k3, .inl (ck3, 4, .inl fh)), (pf, .inr (1, [.ref p1, .int (zI pn)])), (p1, .inl (cp1, 4, .inl fp))] : va_W) ++ kRows pr gp cy) s.heap := hP
  have hl := lv_entry ([.ref h0, .int (zI x), .int (zI w)]) (n := 5) (Nat.le_of_ble_eq_true rfl)
  rw [lg_entry_eq]
  generalize (lg_sl ([.ref h0, .int (zI x), .int (zI w)]) ++ List.replicate (5 - (lg_sl ([.ref h0, .int (zI x), .int (zI w)])).length) Slot.unset).toArray = ls at hl ⊢
  have hl : lv_has ls 5 [(0, .ref h0), (1, .int (zI x)), (2, .int (zI w))] := hl
  refine lv_iload_n hx hb dX8_odds_0 rfl (lv_at hl 1 rfl) ?_
  refine lv_iconst (v := zI 0) hx hb dX8_odds_1 rfl ?_
  refine lv_bipush (v := zI 24) hx hb dX8_odds_2 (by decide) ?_
  refine k_callR (va_runS (As := [.int (zI x), .int (zI 0), .int (zI 24)]) (rest := []) ⟨hx, hb, hml, hown, hts⟩ (c_X8_isWithin l D s.heap.size (v := x) (a := 0) (b := 24) q0 (by omega) (by omega)) (va_cwS 3 hts gX8_odds_X8_isWithin rfl rfl rfl (by decide +kernel) ⟨Nat.le_of_ble_eq_true rfl, Nat.le_of_ble_eq_true rfl⟩) (kPreS hP (kD0 hD) hK hN [] [] ax_X8_odds_0 rfl (by decide +kernel)) rfl rfl hl.1 rfl (lv_room (Nat.le_of_ble_eq_true rfl)) dX8_odds_4 ⟨Nat.le_of_ble_eq_true rfl, Nat.le_of_ble_eq_true rfl⟩) ?_
  refine lv_if_eq (tgt := 19) hx hb dX8_odds_7 (by decide) (fun c_1 => ?_) (fun c_1 => ?_)
  · have c_1 : ¬ (0 ≤ x ∧ x ≤ 24) := b01f c_1
    refine lv_ldc2 (v := (-9223372036854775808)) hx hb hown (hts (.constantLong RX8 280 (-9223372036854775808)) mw_X8_odds_0) dX8_odds_19 ?_
    have hP9 : va_P D vwCl (([(h0, .inr (8, [.ref sh, .ref rd, .ref fr, .ref wr, .ref pf, .ref rc, .ref se, .ref rs, .ref sw, .ref sp, .ref ss, .int (zI ew), .long wc, .int (zI tr), .int (zI lf)])), (ss, .inr (4, [.ref sg1, .ref sg2, .ref sg3, .ref sg4, .ref sg5, .int (zI scn), .int (zI sbo), .int (zI sru), .ref sg6, .ref sg7])), (sg1, .inl (scg1, 24, .inl sf1)), (sg2, .inl (scg2, 24, .inl sf2)), (sg3, .inl (scg3, 24, .inl sf3)), (sg4, .inl (scg4, 24, .inl sf4)), (sg5, .inl (scg5, 24, .inl sf5)), (sg6, .inl (scg6, 24, .inl sf6)), (sg7, .inl (scg7, 24, .inr (.inr (.inr (.inr (sfo)))))), (sw, .inr (7, [.ref sw1, .int (zI swn)])), (sw1, .inl (csw1, 24, .inl fsw)), (wr, .inr (7, [.ref w1, .int (zI wn)])), (w1, .inl (cw1, 24, .inl fw)), (fr, .inr (0, [.ref k1, .ref k2, .ref k3, .int (zI fn)])), (k3, .inl (ck3, 4, .inl fh)), (pf, .inr (1, [.ref p1, .int (zI pn)])), (p1, .inl (cp1, 4, .inl fp))] : va_W) ++ kRows pr gp cy) s.heap := hP.part [0, 1, 2, 3, 4, 5, 6, 7, 8, 9, 10, 11, 12, 13, 14, 15, 16] ax_X8_odds_1
    have hD9 : va_D A (([(h0, .inr (8, [.ref sh, .ref rd, .ref fr, .ref wr, .ref pf, .ref rc, .ref se, .ref rs, .ref sw, .ref sp, .ref ss, .int (zI ew), .long wc, .int (zI tr), .int (zI lf)])), (ss, .inr (4, [.ref sg1, .ref sg2, .ref sg3, .ref sg4, .ref sg5, .int (zI scn), .int (zI sbo), .int (zI sru), .ref sg6, .ref sg7])), (sg1, .inl (scg1, 24, .inl sf1)), (sg2, .inl (scg2, 24, .inl sf2)), (sg3, .inl (scg3, 24, .inl sf3)), (sg4, .inl (scg4, 24, .inl sf4)), (sg5, .inl (scg5, 24, .inl sf5)), (sg6, .inl (scg6, 24, .inl sf6)), (sg7, .inl (scg7, 24, .inr (.inr (.inr (.inr (sfo)))))), (sw, .inr (7, [.ref sw1, .int (zI swn)])), (sw1, .inl (csw1, 24, .inl fsw)), (wr, .inr (7, [.ref w1, .int (zI wn)])), (w1, .inl (cw1, 24, .inl fw)), (fr, .inr (0, [.ref k1, .ref k2, .ref k3, .int (zI fn)])), (k3, .inl (ck3, 4, .inl fh)), (pf, .inr (1, [.ref p1, .int (zI pn)])), (p1, .inl (cp1, 4, .inl fp))] : va_W) ++ kRows pr gp cy) := hD.part [0, 1, 2, 3, 4, 5, 6, 7, 8, 9, 10, 11, 12, 13, 14, 15, 16] (by decide +kernel) ax_X8_odds_1
    exact W.lret (v := (-9223372036854775808)) hx hb hr (fun t ht hW => kQL_of ⟨swn, fsw, scn, sbo, sru, sf1, sf2, sf3, sf4, sf5, sf6, gp, q2, q3, q4, q7, by rw [ht]; exact hP9, hD9⟩ (hS.F ht)) hS.2.2 dX8_odds_22
  · have c_1 : 0 ≤ x ∧ x ≤ 24 := b01t c_1
    refine lv_iload_n hx hb dX8_odds_10 rfl (lv_at hl 2 rfl) ?_
    refine lv_iconst (v := zI 0) hx hb dX8_odds_11 rfl ?_
    refine lv_iconst (v := zI 1) hx hb dX8_odds_12 rfl ?_
    refine k_callR (va_runS (As := [.int (zI w), .int (zI 0), .int (zI 1)]) (rest := []) ⟨hx, hb, hml, hown, hts⟩ (c_X8_isWithin l D s.heap.size (v := w) (a := 0) (b := 1) q1 (by omega) (by omega)) (va_cwS 3 hts gX8_odds_X8_isWithin rfl rfl rfl (by decide +kernel) ⟨Nat.le_of_ble_eq_true rfl, Nat.le_of_ble_eq_true rfl⟩) (kPreS hP (kD0 hD) hK hN [] [] ax_X8_odds_0 rfl (by decide +kernel)) rfl rfl hl.1 rfl (lv_room (Nat.le_of_ble_eq_true rfl)) dX8_odds_13 ⟨Nat.le_of_ble_eq_true rfl, Nat.le_of_ble_eq_true rfl⟩) ?_
    refine lv_if_ne (tgt := 23) hx hb dX8_odds_16 (by decide) (fun c_2 => ?_) (fun c_2 => ?_)
    · have c_2 : 0 ≤ w ∧ w ≤ 1 := b01t c_2
      refine lv_aload_n hx hb dX8_odds_23 rfl (lv_at hl 0 rfl) ?_
      refine va_get (D := D) (ci := 8) (v := .ref fr) (C := RX8) (T := TX8) (N := 15) hx hb hts (fun _ h9 => List.mem_cons_of_mem _ (List.mem_append_left _ (List.mem_append_left _ (List.mem_append_left _ (List.mem_append_left _ (List.mem_append_right _ h9)))))) hown hK hP 0 rfl rfl 2 (by decide) (hts (.fieldLink RX8 28 "FontRuns" "fontRow" "LFontRuns$FontRow;") mw_X8_odds_1) (fun _ h9 => h9) rfl dX8_odds_24 ?_
      refine va_get (D := D) (ci := 0) (v := .int (zI fn)) (C := RX0) (T := TX0) (N := 4) hx hb hts (fun _ h9 => List.mem_cons_of_mem _ (List.mem_append_left _ (List.mem_append_left _ (List.mem_append_left _ (List.mem_append_right _ h9))))) hown hK hP 13 rfl rfl 3 (by decide) (hts (.fieldLink RX8 106 "FontRuns$FontRow" "count" "I") mw_X8_odds_2) (fun _ h9 => h9) rfl dX8_odds_27 ?_
      refine kz_if_eq (tgt := 45) hx hb dX8_odds_30 (by decide) (by omega) (fun c_3 => ?_) (fun c_3 => ?_)
      · refine lv_ldc2 (v := (-9223372036854775808)) hx hb hown (hts (.constantLong RX8 280 (-9223372036854775808)) mw_X8_odds_0) dX8_odds_45 ?_
        have hP9 : va_P D vwCl (([(h0, .inr (8, [.ref sh, .ref rd, .ref fr, .ref wr, .ref pf, .ref rc, .ref se, .ref rs, .ref sw, .ref sp, .ref ss, .int (zI ew), .long wc, .int (zI tr), .int (zI lf)])), (ss, .inr (4, [.ref sg1, .ref sg2, .ref sg3, .ref sg4, .ref sg5, .int (zI scn), .int (zI sbo), .int (zI sru), .ref sg6, .ref sg7])), (sg1, .inl (scg1, 24, .inl sf1)), (sg2, .inl (scg2, 24, .inl sf2)), (sg3, .inl (scg3, 24, .inl sf3)), (sg4, .inl (scg4, 24, .inl sf4)), (sg5, .inl (scg5, 24, .inl sf5)), (sg6, .inl (scg6, 24, .inl sf6)), (sg7, .inl (scg7, 24, .inr (.inr (.inr (.inr (sfo)))))), (sw, .inr (7, [.ref sw1, .int (zI swn)])), (sw1, .inl (csw1, 24, .inl fsw)), (wr, .inr (7, [.ref w1, .int (zI wn)])), (w1, .inl (cw1, 24, .inl fw)), (fr, .inr (0, [.ref k1, .ref k2, .ref k3, .int (zI fn)])), (k3, .inl (ck3, 4, .inl fh)), (pf, .inr (1, [.ref p1, .int (zI pn)])), (p1, .inl (cp1, 4, .inl fp))] : va_W) ++ kRows pr gp cy) s.heap := hP.part [0, 1, 2, 3, 4, 5, 6, 7, 8, 9, 10, 11, 12, 13, 14, 15, 16] ax_X8_odds_1
        have hD9 : va_D A (([(h0, .inr (8, [.ref sh, .ref rd, .ref fr, .ref wr, .ref pf, .ref rc, .ref se, .ref rs, .ref sw, .ref sp, .ref ss, .int (zI ew), .long wc, .int (zI tr), .int (zI lf)])), (ss, .inr (4, [.ref sg1, .ref sg2, .ref sg3, .ref sg4, .ref sg5, .int (zI scn), .int (zI sbo), .int (zI sru), .ref sg6, .ref sg7])), (sg1, .inl (scg1, 24, .inl sf1)), (sg2, .inl (scg2, 24, .inl sf2)), (sg3, .inl (scg3, 24, .inl sf3)), (sg4, .inl (scg4, 24, .inl sf4)), (sg5, .inl (scg5, 24, .inl sf5)), (sg6, .inl (scg6, 24, .inl sf6)), (sg7, .inl (scg7, 24, .inr (.inr (.inr (.inr (sfo)))))), (sw, .inr (7, [.ref sw1, .int (zI swn)])), (sw1, .inl (csw1, 24, .inl fsw)), (wr, .inr (7, [.ref w1, .int (zI wn)])), (w1, .inl (cw1, 24, .inl fw)), (fr, .inr (0, [.ref k1, .ref k2, .ref k3, .int (zI fn)])), (k3, .inl (ck3, 4, .inl fh)), (pf, .inr (1, [.ref p1, .int (zI pn)])), (p1, .inl (cp1, 4, .inl fp))] : va_W) ++ kRows pr gp cy) := hD.part [0, 1, 2, 3, 4, 5, 6, 7, 8, 9, 10, 11, 12, 13, 14, 15, 16] (by decide +kernel) ax_X8_odds_1
        exact W.lret (v := (-9223372036854775808)) hx hb hr (fun t ht hW => kQL_of ⟨swn, fsw, scn, sbo, sru, sf1, sf2, sf3, sf4, sf5, sf6, gp, q2, q3, q4, q7, by rw [ht]; exact hP9, hD9⟩ (hS.F ht)) hS.2.2 dX8_odds_48
      · refine lv_aload_n hx hb dX8_odds_33 rfl (lv_at hl 0 rfl) ?_
        refine va_get (D := D) (ci := 8) (v := .ref wr) (C := RX8) (T := TX8) (N := 15) hx hb hts (fun _ h9 => List.mem_cons_of_mem _ (List.mem_append_left _ (List.mem_append_left _ (List.mem_append_left _ (List.mem_append_left _ (List.mem_append_right _ h9)))))) hown hK hP 0 rfl rfl 3 (by decide) (hts (.fieldLink RX8 35 "FontRuns" "writing" "LFontRuns$Writing;") mw_X8_odds_3) (fun _ h9 => h9) rfl dX8_odds_34 ?_
        refine va_get (D := D) (ci := 7) (v := .int (zI wn)) (C := RX7) (T := TX7) (N := 2) hx hb hts (fun _ h9 => List.mem_cons_of_mem _ (List.mem_append_left _ (List.mem_append_left _ (List.mem_append_right _ h9)))) hown hK hP 11 rfl rfl 1 (by decide) (hts (.fieldLink RX8 139 "FontRuns$Writing" "count" "I") mw_X8_odds_4) (fun _ h9 => h9) rfl dX8_odds_37 ?_
        refine lv_bipush (v := zI 24) hx hb dX8_odds_40 (by decide) ?_
        refine kz_icmp_lt (tgt := 49) hx hb dX8_odds_42 (by decide) (by omega) (by omega) (fun c_4 => ?_) (fun c_4 => ?_)
        · refine lv_aload_n hx hb dX8_odds_49 rfl (lv_at hl 0 rfl) ?_
          refine lv_iload_n hx hb dX8_odds_50 rfl (lv_at hl 1 rfl) ?_
          have hFc := va_freeP (cx := [(h0, .inr (8, [.ref sh, .ref rd, .ref fr, .ref wr, .ref pf, .ref rc, .ref se, .ref rs, .ref sw, .ref sp, .ref ss, .int (zI ew), .long wc, .int (zI tr), .int (zI lf)])), (ss, .inr (4, [.ref sg1, .ref sg2, .ref sg3, .ref sg4, .ref sg5, .int (zI scn), .int (zI sbo), .int (zI sru), .ref sg6, .ref sg7])), (sg1, .inl (scg1, 24, .inl sf1)), (sg2, .inl (scg2, 24, .inl sf2)), (sg3, .inl (scg3, 24, .inl sf3)), (sg4, .inl (scg4, 24, .inl sf4)), (sg5, .inl (scg5, 24, .inl sf5)), (sg6, .inl (scg6, 24, .inl sf6)), (sg7, .inl (scg7, 24, .inr (.inr (.inr (.inr (sfo)))))), (sw, .inr (7, [.ref sw1, .int (zI swn)])), (sw1, .inl (csw1, 24, .inl fsw)), (wr, .inr (7, [.ref w1, .int (zI wn)])), (w1, .inl (cw1, 24, .inl fw)), (fr, .inr (0, [.ref k1, .ref k2, .ref k3, .int (zI fn)])), (k3, .inl (ck3, 4, .inl fh)), (pf, .inr (1, [.ref p1, .int (zI pn)])), (p1, .inl (cp1, 4, .inl fp))]) hD hS hA [0, 1, 2, 3, 4, 5, 6, 7, 8, 9, 10, 11, 12, 13, 14, 15, 16] ax_X8_odds_1
          refine va_calli (va_runV (As := [.int (zI x)]) (rest := []) ⟨hx, hb, hml, hown, hts⟩ (c_X8_lettersWithChanges l D s.heap.size (x := x) (h0 := h0) (sh := sh) (rd := rd) (fr := fr) (wr := wr) (pf := pf) (rc := rc) (se := se) (rs := rs) (sw := sw) (sp := sp) (ss := ss) (ew := ew) (wc := wc) (tr := tr) (lf := lf) (sg1 := sg1) (sg2 := sg2) (sg3 := sg3) (sg4 := sg4) (sg5 := sg5) (scn := scn) (sbo := sbo) (sru := sru) (sg6 := sg6) (sg7 := sg7) (scg1 := scg1) (sf1 := sf1) (scg2 := scg2) (sf2 := sf2) (scg3 := scg3) (sf3 := sf3) (scg4 := scg4) (sf4 := sf4) (scg5 := scg5) (sf5 := sf5) (scg6 := scg6) (sf6 := sf6) (scg7 := scg7) (sfo := sfo) (o3 := o3) (sw1 := sw1) (swn := swn) (csw1 := csw1) (fsw := fsw) (w1 := w1) (wn := wn) (cw1 := cw1) (fw := fw) (k1 := k1) (k2 := k2) (k3 := k3) (fn := fn) (ck3 := ck3) (fh := fh) (p1 := p1) (pn := pn) (cp1 := cp1) (fp := fp) (pr := pr) (gp := gp) (cy := cy) q0 q7 q8 q9 q10 q11 q2 q3 q4 q5 q6) (cwV 1 hts gX8_odds_X8_lettersWithChanges rfl rfl rfl (by decide +kernel) ⟨Nat.le_of_ble_eq_true rfl, Nat.le_of_ble_eq_true rfl⟩) (kPreVP hP (kD0 hD) hK hN [0, 1, 2, 3, 4, 5, 6, 7, 8, 9, 10, 11, 12, 13, 14, 15, 16] [0, 1, 2, 3, 4, 5, 6, 7, 8, 9, 10, 11] ax_X8_odds_1 rfl (by decide +kernel) 0 8 rfl rfl) rfl rfl hl.1 rfl (lv_room (Nat.le_of_ble_eq_true rfl)) dX8_odds_51 ⟨Nat.le_of_ble_eq_true rfl, Nat.le_of_ble_eq_true rfl⟩) hS (fun q _ h => hFc q h) hFc (fun r u t H1 locs ht hvm hw hB hz1 hk1 hS => ?_)
          obtain ⟨z_17, e9⟩ : ∃ z, z = u := ⟨_, rfl⟩
          subst e9
          obtain ⟨rfl, rz_17⟩ := hw
          refine Exists.elim hB (fun un_5 hB1 => Exists.elim hB1 (fun uw_6 hB2 => Exists.elim hB2 (fun uc_7 hB3 => Exists.elim hB3 (fun ub_8 hB4 => Exists.elim hB4 (fun ur_9 hB5 => Exists.elim hB5 (fun v1_10 hB6 => Exists.elim hB6 (fun v2_11 hB7 => Exists.elim hB7 (fun v3_12 hB8 => Exists.elim hB8 (fun v4_13 hB9 => Exists.elim hB9 (fun v5_14 hB10 => Exists.elim hB10 (fun v6_15 hB11 => Exists.elim hB11 (fun ug_16 hB12 => ?_))))))))))))
          have h_18 := hB12.1
          have h_19 := hB12.2.1
          have h_20 := hB12.2.2.1
          have h_21 := hB12.2.2.2.1
          have h_22 := hB12.2.2.2.2.1
          have hP1 := hB12.2.2.2.2.2.1
          have hD1 := hB12.2.2.2.2.2.2
          clear hB hB1 hB2 hB3 hB4 hB5 hB6 hB7 hB8 hB9 hB10 hB11 hB12
          rw [ht] at hP1
          obtain ⟨hP, hD⟩ := va_joinP (X := [(h0, .inr (8, [.ref sh, .ref rd, .ref fr, .ref wr, .ref pf, .ref rc, .ref se, .ref rs, .ref sw, .ref sp, .ref ss, .int (zI ew), .long wc, .int (zI tr), .int (zI lf)])), (ss, .inr (4, [.ref sg1, .ref sg2, .ref sg3, .ref sg4, .ref sg5, .int (zI scn), .int (zI sbo), .int (zI sru), .ref sg6, .ref sg7])), (sg1, .inl (scg1, 24, .inl sf1)), (sg2, .inl (scg2, 24, .inl sf2)), (sg3, .inl (scg3, 24, .inl sf3)), (sg4, .inl (scg4, 24, .inl sf4)), (sg5, .inl (scg5, 24, .inl sf5)), (sg6, .inl (scg6, 24, .inl sf6)), (sg7, .inl (scg7, 24, .inr (.inr (.inr (.inr (sfo)))))), (sw, .inr (7, [.ref sw1, .int (zI swn)])), (sw1, .inl (csw1, 24, .inl fsw)), (wr, .inr (7, [.ref w1, .int (zI wn)])), (w1, .inl (cw1, 24, .inl fw)), (fr, .inr (0, [.ref k1, .ref k2, .ref k3, .int (zI fn)])), (k3, .inl (ck3, 4, .inl fh)), (pf, .inr (1, [.ref p1, .int (zI pn)])), (p1, .inl (cp1, 4, .inl fp))]) (wr := []) (rx := [(h0, .inr (8, [.ref sh, .ref rd, .ref fr, .ref wr, .ref pf, .ref rc, .ref se, .ref rs, .ref sw, .ref sp, .ref ss, .int (zI ew), .long wc, .int (zI tr), .int (zI lf)])), (ss, .inr (4, [.ref sg1, .ref sg2, .ref sg3, .ref sg4, .ref sg5, .int (zI uc_7), .int (zI ub_8), .int (zI ur_9), .ref sg6, .ref sg7])), (sg1, .inl (scg1, 24, .inl v1_10)), (sg2, .inl (scg2, 24, .inl v2_11)), (sg3, .inl (scg3, 24, .inl v3_12)), (sg4, .inl (scg4, 24, .inl v4_13)), (sg5, .inl (scg5, 24, .inl v5_14)), (sg6, .inl (scg6, 24, .inl v6_15)), (sg7, .inl (scg7, 24, .inr (.inr (.inr (.inr (sfo)))))), (sw, .inr (7, [.ref sw1, .int (zI un_5)])), (sw1, .inl (csw1, 24, .inl uw_6)), (wr, .inr (7, [.ref w1, .int (zI wn)])), (w1, .inl (cw1, 24, .inl fw)), (fr, .inr (0, [.ref k1, .ref k2, .ref k3, .int (zI fn)])), (k3, .inl (ck3, 4, .inl fh)), (pf, .inr (1, [.ref p1, .int (zI pn)])), (p1, .inl (cp1, 4, .inl fp))]) hP hD [0, 1, 2, 3, 4, 5, 6, 7, 8, 9, 10, 11, 12, 13, 14, 15, 16] [] ax_X8_odds_1 ax_X8_odds_2 (by decide +kernel) (by decide +kernel) hk1 hFc hP1 hD1
          have hP := ax_X8_odds_3 hP
          have hD := ax_X8_odds_4 hD
          generalize H1 = H at hP hS ⊢
          have hP : va_P D vwCl (([(h0, .inr (8, [.ref sh, .ref rd, .ref fr, .ref wr, .ref pf, .ref rc, .ref se, .ref rs, .ref sw, .ref sp, .ref ss, .int (zI ew), .long wc, .int (zI tr), .int (zI lf)])), (ss, .inr (4, [.ref sg1, .ref sg2, .ref sg3, .ref sg4, .ref sg5, .int (zI uc_7), .int (zI ub_8), .int (zI ur_9), .ref sg6, .ref sg7])), (sg1, .inl (scg1, 24, .inl v1_10)), (sg2, .inl (scg2, 24, .inl v2_11)), (sg3, .inl (scg3, 24, .inl v3_12)), (sg4, .inl (scg4, 24, .inl v4_13)), (sg5, .inl (scg5, 24, .inl v5_14)), (sg6, .inl (scg6, 24, .inl v6_15)), (sg7, .inl (scg7, 24, .inr (.inr (.inr (.inr (sfo)))))), (sw, .inr (7, [.ref sw1, .int (zI un_5)])), (sw1, .inl (csw1, 24, .inl uw_6)), (wr, .inr (7, [.ref w1, .int (zI wn)])), (w1, .inl (cw1, 24, .inl fw)), (fr, .inr (0, [.ref k1, .ref k2, .ref k3, .int (zI fn)])), (k3, .inl (ck3, 4, .inl fh)), (pf, .inr (1, [.ref p1, .int (zI pn)])), (p1, .inl (cp1, 4, .inl fp))] : va_W) ++ kRows pr ug_16 cy) H := hP
          have hD : va_D A (([(h0, .inr (8, [.ref sh, .ref rd, .ref fr, .ref wr, .ref pf, .ref rc, .ref se, .ref rs, .ref sw, .ref sp, .ref ss, .int (zI ew), .long wc, .int (zI tr), .int (zI lf)])), (ss, .inr (4, [.ref sg1, .ref sg2, .ref sg3, .ref sg4, .ref sg5, .int (zI uc_7), .int (zI ub_8), .int (zI ur_9), .ref sg6, .ref sg7])), (sg1, .inl (scg1, 24, .inl v1_10)), (sg2, .inl (scg2, 24, .inl v2_11)), (sg3, .inl (scg3, 24, .inl v3_12)), (sg4, .inl (scg4, 24, .inl v4_13)), (sg5, .inl (scg5, 24, .inl v5_14)), (sg6, .inl (scg6, 24, .inl v6_15)), (sg7, .inl (scg7, 24, .inr (.inr (.inr (.inr (sfo)))))), (sw, .inr (7, [.ref sw1, .int (zI un_5)])), (sw1, .inl (csw1, 24, .inl uw_6)), (wr, .inr (7, [.ref w1, .int (zI wn)])), (w1, .inl (cw1, 24, .inl fw)), (fr, .inr (0, [.ref k1, .ref k2, .ref k3, .int (zI fn)])), (k3, .inl (ck3, 4, .inl fh)), (pf, .inr (1, [.ref p1, .int (zI pn)])), (p1, .inl (cp1, 4, .inl fp))] : va_W) ++ kRows pr ug_16 cy) := hD
          refine lv_istore_n (lv' := [(3, .int (zI z_17)), (0, .ref h0), (1, .int (zI x)), (2, .int (zI w))]) hx hb dX8_odds_54 rfl hl (by decide) rfl (fun ls hl => ?_)
          refine lv_bipush (v := zI 16) hx hb dX8_odds_55 (by decide) ?_
          refine lv_istore (lv' := [(4, .int (zI 16)), (3, .int (zI z_17)), (0, .ref h0), (1, .int (zI x)), (2, .int (zI w))]) hx hb dX8_odds_57 hl (by decide) rfl (fun ls hl => ?_)
          refine k_loopM (I := fun n9 H locs ls => ∃ (ju : Int) (jl : Int), n9 = (jl).toNat ∧ (0 ≤ ju ∧ ju ≤ 16) ∧ (1 ≤ jl ∧ jl ≤ 16) ∧ va_P D vwCl (([(h0, .inr (8, [.ref sh, .ref rd, .ref fr, .ref wr, .ref pf, .ref rc, .ref se, .ref rs, .ref sw, .ref sp, .ref ss, .int (zI ew), .long wc, .int (zI tr), .int (zI lf)])), (ss, .inr (4, [.ref sg1, .ref sg2, .ref sg3, .ref sg4, .ref sg5, .int (zI uc_7), .int (zI ub_8), .int (zI ur_9), .ref sg6, .ref sg7])), (sg1, .inl (scg1, 24, .inl v1_10)), (sg2, .inl (scg2, 24, .inl v2_11)), (sg3, .inl (scg3, 24, .inl v3_12)), (sg4, .inl (scg4, 24, .inl v4_13)), (sg5, .inl (scg5, 24, .inl v5_14)), (sg6, .inl (scg6, 24, .inl v6_15)), (sg7, .inl (scg7, 24, .inr (.inr (.inr (.inr (sfo)))))), (sw, .inr (7, [.ref sw1, .int (zI un_5)])), (sw1, .inl (csw1, 24, .inl uw_6)), (wr, .inr (7, [.ref w1, .int (zI wn)])), (w1, .inl (cw1, 24, .inl fw)), (fr, .inr (0, [.ref k1, .ref k2, .ref k3, .int (zI fn)])), (k3, .inl (ck3, 4, .inl fh)), (pf, .inr (1, [.ref p1, .int (zI pn)])), (p1, .inl (cp1, 4, .inl fp))] : va_W) ++ kRows pr ug_16 cy) H ∧ va_D A (([(h0, .inr (8, [.ref sh, .ref rd, .ref fr, .ref wr, .ref pf, .ref rc, .ref se, .ref rs, .ref sw, .ref sp, .ref ss, .int (zI ew), .long wc, .int (zI tr), .int (zI lf)])), (ss, .inr (4, [.ref sg1, .ref sg2, .ref sg3, .ref sg4, .ref sg5, .int (zI uc_7), .int (zI ub_8), .int (zI ur_9), .ref sg6, .ref sg7])), (sg1, .inl (scg1, 24, .inl v1_10)), (sg2, .inl (scg2, 24, .inl v2_11)), (sg3, .inl (scg3, 24, .inl v3_12)), (sg4, .inl (scg4, 24, .inl v4_13)), (sg5, .inl (scg5, 24, .inl v5_14)), (sg6, .inl (scg6, 24, .inl v6_15)), (sg7, .inl (scg7, 24, .inr (.inr (.inr (.inr (sfo)))))), (sw, .inr (7, [.ref sw1, .int (zI un_5)])), (sw1, .inl (csw1, 24, .inl uw_6)), (wr, .inr (7, [.ref w1, .int (zI wn)])), (w1, .inl (cw1, 24, .inl fw)), (fr, .inr (0, [.ref k1, .ref k2, .ref k3, .int (zI fn)])), (k3, .inl (ck3, 4, .inl fh)), (pf, .inr (1, [.ref p1, .int (zI pn)])), (p1, .inl (cp1, 4, .inl fp))] : va_W) ++ kRows pr ug_16 cy) ∧ va_S A s.heap H locs ∧ lv_has ls 5 [(4, .int (zI jl)), (3, .int (zI ju)), (0, .ref h0), (1, .int (zI x)), (2, .int (zI w))]) ?_ _ ⟨z_17, 16, rfl, h_22, (by omega), hP, hD, hS, hl⟩
          intro n59 ih59 H locs ls hI
          obtain ⟨ju, jl, en59, v_590, v_591, hP, hD, hS, hl⟩ := hI
          refine lv_iload hx hb dX8_odds_59 (lv_at hl 0 rfl) ?_
          refine lv_iconst (v := zI 1) hx hb dX8_odds_61 rfl ?_
          refine kz_icmp_le (tgt := 84) hx hb dX8_odds_62 (by decide) (by omega) (by omega) (fun c_23 => ?_) (fun c_23 => ?_)
          · refine lv_iload_n hx hb dX8_odds_84 rfl (lv_at hl 4 rfl) ?_
            refine kz_if_ne (tgt := 93) hx hb dX8_odds_85 (by decide) (by omega) (fun c_24 => ?_) (fun c_24 => ?_)
            · refine lv_iload hx hb dX8_odds_93 (lv_at hl 0 rfl) ?_
              refine lv_i2l (v := (zI jl).toInt64) hx hb dX8_odds_95 rfl ?_
              have hP9 : va_P D vwCl (([(h0, .inr (8, [.ref sh, .ref rd, .ref fr, .ref wr, .ref pf, .ref rc, .ref se, .ref rs, .ref sw, .ref sp, .ref ss, .int (zI ew), .long wc, .int (zI tr), .int (zI lf)])), (ss, .inr (4, [.ref sg1, .ref sg2, .ref sg3, .ref sg4, .ref sg5, .int (zI uc_7), .int (zI ub_8), .int (zI ur_9), .ref sg6, .ref sg7])), (sg1, .inl (scg1, 24, .inl v1_10)), (sg2, .inl (scg2, 24, .inl v2_11)), (sg3, .inl (scg3, 24, .inl v3_12)), (sg4, .inl (scg4, 24, .inl v4_13)), (sg5, .inl (scg5, 24, .inl v5_14)), (sg6, .inl (scg6, 24, .inl v6_15)), (sg7, .inl (scg7, 24, .inr (.inr (.inr (.inr (sfo)))))), (sw, .inr (7, [.ref sw1, .int (zI un_5)])), (sw1, .inl (csw1, 24, .inl uw_6)), (wr, .inr (7, [.ref w1, .int (zI wn)])), (w1, .inl (cw1, 24, .inl fw)), (fr, .inr (0, [.ref k1, .ref k2, .ref k3, .int (zI fn)])), (k3, .inl (ck3, 4, .inl fh)), (pf, .inr (1, [.ref p1, .int (zI pn)])), (p1, .inl (cp1, 4, .inl fp))] : va_W) ++ kRows pr ug_16 cy) H := hP.part [0, 1, 2, 3, 4, 5, 6, 7, 8, 9, 10, 11, 12, 13, 14, 15, 16] ax_X8_odds_1
              have hD9 : va_D A (([(h0, .inr (8, [.ref sh, .ref rd, .ref fr, .ref wr, .ref pf, .ref rc, .ref se, .ref rs, .ref sw, .ref sp, .ref ss, .int (zI ew), .long wc, .int (zI tr), .int (zI lf)])), (ss, .inr (4, [.ref sg1, .ref sg2, .ref sg3, .ref sg4, .ref sg5, .int (zI uc_7), .int (zI ub_8), .int (zI ur_9), .ref sg6, .ref sg7])), (sg1, .inl (scg1, 24, .inl v1_10)), (sg2, .inl (scg2, 24, .inl v2_11)), (sg3, .inl (scg3, 24, .inl v3_12)), (sg4, .inl (scg4, 24, .inl v4_13)), (sg5, .inl (scg5, 24, .inl v5_14)), (sg6, .inl (scg6, 24, .inl v6_15)), (sg7, .inl (scg7, 24, .inr (.inr (.inr (.inr (sfo)))))), (sw, .inr (7, [.ref sw1, .int (zI un_5)])), (sw1, .inl (csw1, 24, .inl uw_6)), (wr, .inr (7, [.ref w1, .int (zI wn)])), (w1, .inl (cw1, 24, .inl fw)), (fr, .inr (0, [.ref k1, .ref k2, .ref k3, .int (zI fn)])), (k3, .inl (ck3, 4, .inl fh)), (pf, .inr (1, [.ref p1, .int (zI pn)])), (p1, .inl (cp1, 4, .inl fp))] : va_W) ++ kRows pr ug_16 cy) := hD.part [0, 1, 2, 3, 4, 5, 6, 7, 8, 9, 10, 11, 12, 13, 14, 15, 16] (by decide +kernel) ax_X8_odds_1
              exact W.lret (v := ((zI jl).toInt64)) hx hb hr (fun t ht hW => kQL_of ⟨un_5, uw_6, uc_7, ub_8, ur_9, v1_10, v2_11, v3_12, v4_13, v5_14, v6_15, ug_16, h_19, h_20, h_21, h_18, by rw [ht]; exact hP9, hD9⟩ (hS.F ht)) hS.2.2 dX8_odds_96
            · refine lv_iload_n hx hb dX8_odds_88 rfl (lv_at hl 1 rfl) ?_
              refine lv_i2l (v := (zI ju).toInt64) hx hb dX8_odds_89 rfl ?_
              refine lv_goto (tgt := 96) hx hb dX8_odds_90 (by decide) ?_
              have hP9 : va_P D vwCl (([(h0, .inr (8, [.ref sh, .ref rd, .ref fr, .ref wr, .ref pf, .ref rc, .ref se, .ref rs, .ref sw, .ref sp, .ref ss, .int (zI ew), .long wc, .int (zI tr), .int (zI lf)])), (ss, .inr (4, [.ref sg1, .ref sg2, .ref sg3, .ref sg4, .ref sg5, .int (zI uc_7), .int (zI ub_8), .int (zI ur_9), .ref sg6, .ref sg7])), (sg1, .inl (scg1, 24, .inl v1_10)), (sg2, .inl (scg2, 24, .inl v2_11)), (sg3, .inl (scg3, 24, .inl v3_12)), (sg4, .inl (scg4, 24, .inl v4_13)), (sg5, .inl (scg5, 24, .inl v5_14)), (sg6, .inl (scg6, 24, .inl v6_15)), (sg7, .inl (scg7, 24, .inr (.inr (.inr (.inr (sfo)))))), (sw, .inr (7, [.ref sw1, .int (zI un_5)])), (sw1, .inl (csw1, 24, .inl uw_6)), (wr, .inr (7, [.ref w1, .int (zI wn)])), (w1, .inl (cw1, 24, .inl fw)), (fr, .inr (0, [.ref k1, .ref k2, .ref k3, .int (zI fn)])), (k3, .inl (ck3, 4, .inl fh)), (pf, .inr (1, [.ref p1, .int (zI pn)])), (p1, .inl (cp1, 4, .inl fp))] : va_W) ++ kRows pr ug_16 cy) H := hP.part [0, 1, 2, 3, 4, 5, 6, 7, 8, 9, 10, 11, 12, 13, 14, 15, 16] ax_X8_odds_1
              have hD9 : va_D A (([(h0, .inr (8, [.ref sh, .ref rd, .ref fr, .ref wr, .ref pf, .ref rc, .ref se, .ref rs, .ref sw, .ref sp, .ref ss, .int (zI ew), .long wc, .int (zI tr), .int (zI lf)])), (ss, .inr (4, [.ref sg1, .ref sg2, .ref sg3, .ref sg4, .ref sg5, .int (zI uc_7), .int (zI ub_8), .int (zI ur_9), .ref sg6, .ref sg7])), (sg1, .inl (scg1, 24, .inl v1_10)), (sg2, .inl (scg2, 24, .inl v2_11)), (sg3, .inl (scg3, 24, .inl v3_12)), (sg4, .inl (scg4, 24, .inl v4_13)), (sg5, .inl (scg5, 24, .inl v5_14)), (sg6, .inl (scg6, 24, .inl v6_15)), (sg7, .inl (scg7, 24, .inr (.inr (.inr (.inr (sfo)))))), (sw, .inr (7, [.ref sw1, .int (zI un_5)])), (sw1, .inl (csw1, 24, .inl uw_6)), (wr, .inr (7, [.ref w1, .int (zI wn)])), (w1, .inl (cw1, 24, .inl fw)), (fr, .inr (0, [.ref k1, .ref k2, .ref k3, .int (zI fn)])), (k3, .inl (ck3, 4, .inl fh)), (pf, .inr (1, [.ref p1, .int (zI pn)])), (p1, .inl (cp1, 4, .inl fp))] : va_W) ++ kRows pr ug_16 cy) := hD.part [0, 1, 2, 3, 4, 5, 6, 7, 8, 9, 10, 11, 12, 13, 14, 15, 16] (by decide +kernel) ax_X8_odds_1
              exact W.lret (v := ((zI ju).toInt64)) hx hb hr (fun t ht hW => kQL_of ⟨un_5, uw_6, uc_7, ub_8, ur_9, v1_10, v2_11, v3_12, v4_13, v5_14, v6_15, ug_16, h_19, h_20, h_21, h_18, by rw [ht]; exact hP9, hD9⟩ (hS.F ht)) hS.2.2 dX8_odds_96
          · refine lv_iload_n hx hb dX8_odds_65 rfl (lv_at hl 1 rfl) ?_
            refine lv_iconst (v := zI 2) hx hb dX8_odds_66 rfl ?_
            refine lv_irem hx hb dX8_odds_67 (by decide) ?_
            refine kz_any (fun z_25 rz_25 ez_25 => ?_)
            refine kz_if_ne (tgt := 84) hx hb dX8_odds_68 (by decide) (by omega) (fun c_26 => ?_) (fun c_26 => ?_)
            · refine lv_iload_n hx hb dX8_odds_84 rfl (lv_at hl 4 rfl) ?_
              refine kz_if_ne (tgt := 93) hx hb dX8_odds_85 (by decide) (by omega) (fun c_27 => ?_) (fun c_27 => ?_)
              · refine lv_iload hx hb dX8_odds_93 (lv_at hl 0 rfl) ?_
                refine lv_i2l (v := (zI jl).toInt64) hx hb dX8_odds_95 rfl ?_
                have hP9 : va_P D vwCl (([(h0, .inr (8, [.ref sh, .ref rd, .ref fr, .ref wr, .ref pf, .ref rc, .ref se, .ref rs, .ref sw, .ref sp, .ref ss, .int (zI ew), .long wc, .int (zI tr), .int (zI lf)])), (ss, .inr (4, [.ref sg1, .ref sg2, .ref sg3, .ref sg4, .ref sg5, .int (zI uc_7), .int (zI ub_8), .int (zI ur_9), .ref sg6, .ref sg7])), (sg1, .inl (scg1, 24, .inl v1_10)), (sg2, .inl (scg2, 24, .inl v2_11)), (sg3, .inl (scg3, 24, .inl v3_12)), (sg4, .inl (scg4, 24, .inl v4_13)), (sg5, .inl (scg5, 24, .inl v5_14)), (sg6, .inl (scg6, 24, .inl v6_15)), (sg7, .inl (scg7, 24, .inr (.inr (.inr (.inr (sfo)))))), (sw, .inr (7, [.ref sw1, .int (zI un_5)])), (sw1, .inl (csw1, 24, .inl uw_6)), (wr, .inr (7, [.ref w1, .int (zI wn)])), (w1, .inl (cw1, 24, .inl fw)), (fr, .inr (0, [.ref k1, .ref k2, .ref k3, .int (zI fn)])), (k3, .inl (ck3, 4, .inl fh)), (pf, .inr (1, [.ref p1, .int (zI pn)])), (p1, .inl (cp1, 4, .inl fp))] : va_W) ++ kRows pr ug_16 cy) H := hP.part [0, 1, 2, 3, 4, 5, 6, 7, 8, 9, 10, 11, 12, 13, 14, 15, 16] ax_X8_odds_1
                have hD9 : va_D A (([(h0, .inr (8, [.ref sh, .ref rd, .ref fr, .ref wr, .ref pf, .ref rc, .ref se, .ref rs, .ref sw, .ref sp, .ref ss, .int (zI ew), .long wc, .int (zI tr), .int (zI lf)])), (ss, .inr (4, [.ref sg1, .ref sg2, .ref sg3, .ref sg4, .ref sg5, .int (zI uc_7), .int (zI ub_8), .int (zI ur_9), .ref sg6, .ref sg7])), (sg1, .inl (scg1, 24, .inl v1_10)), (sg2, .inl (scg2, 24, .inl v2_11)), (sg3, .inl (scg3, 24, .inl v3_12)), (sg4, .inl (scg4, 24, .inl v4_13)), (sg5, .inl (scg5, 24, .inl v5_14)), (sg6, .inl (scg6, 24, .inl v6_15)), (sg7, .inl (scg7, 24, .inr (.inr (.inr (.inr (sfo)))))), (sw, .inr (7, [.ref sw1, .int (zI un_5)])), (sw1, .inl (csw1, 24, .inl uw_6)), (wr, .inr (7, [.ref w1, .int (zI wn)])), (w1, .inl (cw1, 24, .inl fw)), (fr, .inr (0, [.ref k1, .ref k2, .ref k3, .int (zI fn)])), (k3, .inl (ck3, 4, .inl fh)), (pf, .inr (1, [.ref p1, .int (zI pn)])), (p1, .inl (cp1, 4, .inl fp))] : va_W) ++ kRows pr ug_16 cy) := hD.part [0, 1, 2, 3, 4, 5, 6, 7, 8, 9, 10, 11, 12, 13, 14, 15, 16] (by decide +kernel) ax_X8_odds_1
                exact W.lret (v := ((zI jl).toInt64)) hx hb hr (fun t ht hW => kQL_of ⟨un_5, uw_6, uc_7, ub_8, ur_9, v1_10, v2_11, v3_12, v4_13, v5_14, v6_15, ug_16, h_19, h_20, h_21, h_18, by rw [ht]; exact hP9, hD9⟩ (hS.F ht)) hS.2.2 dX8_odds_96
              · refine lv_iload_n hx hb dX8_odds_88 rfl (lv_at hl 1 rfl) ?_
                refine lv_i2l (v := (zI ju).toInt64) hx hb dX8_odds_89 rfl ?_
                refine lv_goto (tgt := 96) hx hb dX8_odds_90 (by decide) ?_
                have hP9 : va_P D vwCl (([(h0, .inr (8, [.ref sh, .ref rd, .ref fr, .ref wr, .ref pf, .ref rc, .ref se, .ref rs, .ref sw, .ref sp, .ref ss, .int (zI ew), .long wc, .int (zI tr), .int (zI lf)])), (ss, .inr (4, [.ref sg1, .ref sg2, .ref sg3, .ref sg4, .ref sg5, .int (zI uc_7), .int (zI ub_8), .int (zI ur_9), .ref sg6, .ref sg7])), (sg1, .inl (scg1, 24, .inl v1_10)), (sg2, .inl (scg2, 24, .inl v2_11)), (sg3, .inl (scg3, 24, .inl v3_12)), (sg4, .inl (scg4, 24, .inl v4_13)), (sg5, .inl (scg5, 24, .inl v5_14)), (sg6, .inl (scg6, 24, .inl v6_15)), (sg7, .inl (scg7, 24, .inr (.inr (.inr (.inr (sfo)))))), (sw, .inr (7, [.ref sw1, .int (zI un_5)])), (sw1, .inl (csw1, 24, .inl uw_6)), (wr, .inr (7, [.ref w1, .int (zI wn)])), (w1, .inl (cw1, 24, .inl fw)), (fr, .inr (0, [.ref k1, .ref k2, .ref k3, .int (zI fn)])), (k3, .inl (ck3, 4, .inl fh)), (pf, .inr (1, [.ref p1, .int (zI pn)])), (p1, .inl (cp1, 4, .inl fp))] : va_W) ++ kRows pr ug_16 cy) H := hP.part [0, 1, 2, 3, 4, 5, 6, 7, 8, 9, 10, 11, 12, 13, 14, 15, 16] ax_X8_odds_1
                have hD9 : va_D A (([(h0, .inr (8, [.ref sh, .ref rd, .ref fr, .ref wr, .ref pf, .ref rc, .ref se, .ref rs, .ref sw, .ref sp, .ref ss, .int (zI ew), .long wc, .int (zI tr), .int (zI lf)])), (ss, .inr (4, [.ref sg1, .ref sg2, .ref sg3, .ref sg4, .ref sg5, .int (zI uc_7), .int (zI ub_8), .int (zI ur_9), .ref sg6, .ref sg7])), (sg1, .inl (scg1, 24, .inl v1_10)), (sg2, .inl (scg2, 24, .inl v2_11)), (sg3, .inl (scg3, 24, .inl v3_12)), (sg4, .inl (scg4, 24, .inl v4_13)), (sg5, .inl (scg5, 24, .inl v5_14)), (sg6, .inl (scg6, 24, .inl v6_15)), (sg7, .inl (scg7, 24, .inr (.inr (.inr (.inr (sfo)))))), (sw, .inr (7, [.ref sw1, .int (zI un_5)])), (sw1, .inl (csw1, 24, .inl uw_6)), (wr, .inr (7, [.ref w1, .int (zI wn)])), (w1, .inl (cw1, 24, .inl fw)), (fr, .inr (0, [.ref k1, .ref k2, .ref k3, .int (zI fn)])), (k3, .inl (ck3, 4, .inl fh)), (pf, .inr (1, [.ref p1, .int (zI pn)])), (p1, .inl (cp1, 4, .inl fp))] : va_W) ++ kRows pr ug_16 cy) := hD.part [0, 1, 2, 3, 4, 5, 6, 7, 8, 9, 10, 11, 12, 13, 14, 15, 16] (by decide +kernel) ax_X8_odds_1
                exact W.lret (v := ((zI ju).toInt64)) hx hb hr (fun t ht hW => kQL_of ⟨un_5, uw_6, uc_7, ub_8, ur_9, v1_10, v2_11, v3_12, v4_13, v5_14, v6_15, ug_16, h_19, h_20, h_21, h_18, by rw [ht]; exact hP9, hD9⟩ (hS.F ht)) hS.2.2 dX8_odds_96
            · refine lv_iload_n hx hb dX8_odds_71 rfl (lv_at hl 1 rfl) ?_
              refine lv_iconst (v := zI 2) hx hb dX8_odds_72 rfl ?_
              refine kz_idiv2 hx hb dX8_odds_73 (by omega) ?_
              refine lv_istore_n (lv' := [(3, .int (zI (ju / 2))), (4, .int (zI jl)), (0, .ref h0), (1, .int (zI x)), (2, .int (zI w))]) hx hb dX8_odds_74 rfl hl (by decide) rfl (fun ls hl => ?_)
              refine lv_iload hx hb dX8_odds_75 (lv_at hl 1 rfl) ?_
              refine lv_iconst (v := zI 2) hx hb dX8_odds_77 rfl ?_
              refine kz_idiv2 hx hb dX8_odds_78 (by omega) ?_
              refine lv_istore (lv' := [(4, .int (zI (jl / 2))), (3, .int (zI (ju / 2))), (0, .ref h0), (1, .int (zI x)), (2, .int (zI w))]) hx hb dX8_odds_79 hl (by decide) rfl (fun ls hl => ?_)
              refine lv_goto (tgt := 59) hx hb dX8_odds_81 (by decide) ?_
              exact ih59 _ (by omega) _ _ _ ⟨(ju / 2), (jl / 2), rfl, (by omega), (by omega), hP, hD, hS, lv_sub hl [0, 1, 2, 3, 4] rfl⟩
        · refine lv_ldc2 (v := (-9223372036854775808)) hx hb hown (hts (.constantLong RX8 280 (-9223372036854775808)) mw_X8_odds_0) dX8_odds_45 ?_
          have hP9 : va_P D vwCl (([(h0, .inr (8, [.ref sh, .ref rd, .ref fr, .ref wr, .ref pf, .ref rc, .ref se, .ref rs, .ref sw, .ref sp, .ref ss, .int (zI ew), .long wc, .int (zI tr), .int (zI lf)])), (ss, .inr (4, [.ref sg1, .ref sg2, .ref sg3, .ref sg4, .ref sg5, .int (zI scn), .int (zI sbo), .int (zI sru), .ref sg6, .ref sg7])), (sg1, .inl (scg1, 24, .inl sf1)), (sg2, .inl (scg2, 24, .inl sf2)), (sg3, .inl (scg3, 24, .inl sf3)), (sg4, .inl (scg4, 24, .inl sf4)), (sg5, .inl (scg5, 24, .inl sf5)), (sg6, .inl (scg6, 24, .inl sf6)), (sg7, .inl (scg7, 24, .inr (.inr (.inr (.inr (sfo)))))), (sw, .inr (7, [.ref sw1, .int (zI swn)])), (sw1, .inl (csw1, 24, .inl fsw)), (wr, .inr (7, [.ref w1, .int (zI wn)])), (w1, .inl (cw1, 24, .inl fw)), (fr, .inr (0, [.ref k1, .ref k2, .ref k3, .int (zI fn)])), (k3, .inl (ck3, 4, .inl fh)), (pf, .inr (1, [.ref p1, .int (zI pn)])), (p1, .inl (cp1, 4, .inl fp))] : va_W) ++ kRows pr gp cy) s.heap := hP.part [0, 1, 2, 3, 4, 5, 6, 7, 8, 9, 10, 11, 12, 13, 14, 15, 16] ax_X8_odds_1
          have hD9 : va_D A (([(h0, .inr (8, [.ref sh, .ref rd, .ref fr, .ref wr, .ref pf, .ref rc, .ref se, .ref rs, .ref sw, .ref sp, .ref ss, .int (zI ew), .long wc, .int (zI tr), .int (zI lf)])), (ss, .inr (4, [.ref sg1, .ref sg2, .ref sg3, .ref sg4, .ref sg5, .int (zI scn), .int (zI sbo), .int (zI sru), .ref sg6, .ref sg7])), (sg1, .inl (scg1, 24, .inl sf1)), (sg2, .inl (scg2, 24, .inl sf2)), (sg3, .inl (scg3, 24, .inl sf3)), (sg4, .inl (scg4, 24, .inl sf4)), (sg5, .inl (scg5, 24, .inl sf5)), (sg6, .inl (scg6, 24, .inl sf6)), (sg7, .inl (scg7, 24, .inr (.inr (.inr (.inr (sfo)))))), (sw, .inr (7, [.ref sw1, .int (zI swn)])), (sw1, .inl (csw1, 24, .inl fsw)), (wr, .inr (7, [.ref w1, .int (zI wn)])), (w1, .inl (cw1, 24, .inl fw)), (fr, .inr (0, [.ref k1, .ref k2, .ref k3, .int (zI fn)])), (k3, .inl (ck3, 4, .inl fh)), (pf, .inr (1, [.ref p1, .int (zI pn)])), (p1, .inl (cp1, 4, .inl fp))] : va_W) ++ kRows pr gp cy) := hD.part [0, 1, 2, 3, 4, 5, 6, 7, 8, 9, 10, 11, 12, 13, 14, 15, 16] (by decide +kernel) ax_X8_odds_1
          exact W.lret (v := (-9223372036854775808)) hx hb hr (fun t ht hW => kQL_of ⟨swn, fsw, scn, sbo, sru, sf1, sf2, sf3, sf4, sf5, sf6, gp, q2, q3, q4, q7, by rw [ht]; exact hP9, hD9⟩ (hS.F ht)) hS.2.2 dX8_odds_48
    · have c_2 : ¬ (0 ≤ w ∧ w ≤ 1) := b01f c_2
      refine lv_ldc2 (v := (-9223372036854775808)) hx hb hown (hts (.constantLong RX8 280 (-9223372036854775808)) mw_X8_odds_0) dX8_odds_19 ?_
      have hP9 : va_P D vwCl (([(h0, .inr (8, [.ref sh, .ref rd, .ref fr, .ref wr, .ref pf, .ref rc, .ref se, .ref rs, .ref sw, .ref sp, .ref ss, .int (zI ew), .long wc, .int (zI tr), .int (zI lf)])), (ss, .inr (4, [.ref sg1, .ref sg2, .ref sg3, .ref sg4, .ref sg5, .int (zI scn), .int (zI sbo), .int (zI sru), .ref sg6, .ref sg7])), (sg1, .inl (scg1, 24, .inl sf1)), (sg2, .inl (scg2, 24, .inl sf2)), (sg3, .inl (scg3, 24, .inl sf3)), (sg4, .inl (scg4, 24, .inl sf4)), (sg5, .inl (scg5, 24, .inl sf5)), (sg6, .inl (scg6, 24, .inl sf6)), (sg7, .inl (scg7, 24, .inr (.inr (.inr (.inr (sfo)))))), (sw, .inr (7, [.ref sw1, .int (zI swn)])), (sw1, .inl (csw1, 24, .inl fsw)), (wr, .inr (7, [.ref w1, .int (zI wn)])), (w1, .inl (cw1, 24, .inl fw)), (fr, .inr (0, [.ref k1, .ref k2, .ref k3, .int (zI fn)])), (k3, .inl (ck3, 4, .inl fh)), (pf, .inr (1, [.ref p1, .int (zI pn)])), (p1, .inl (cp1, 4, .inl fp))] : va_W) ++ kRows pr gp cy) s.heap := hP.part [0, 1, 2, 3, 4, 5, 6, 7, 8, 9, 10, 11, 12, 13, 14, 15, 16] ax_X8_odds_1
      have hD9 : va_D A (([(h0, .inr (8, [.ref sh, .ref rd, .ref fr, .ref wr, .ref pf, .ref rc, .ref se, .ref rs, .ref sw, .ref sp, .ref ss, .int (zI ew), .long wc, .int (zI tr), .int (zI lf)])), (ss, .inr (4, [.ref sg1, .ref sg2, .ref sg3, .ref sg4, .ref sg5, .int (zI scn), .int (zI sbo), .int (zI sru), .ref sg6, .ref sg7])), (sg1, .inl (scg1, 24, .inl sf1)), (sg2, .inl (scg2, 24, .inl sf2)), (sg3, .inl (scg3, 24, .inl sf3)), (sg4, .inl (scg4, 24, .inl sf4)), (sg5, .inl (scg5, 24, .inl sf5)), (sg6, .inl (scg6, 24, .inl sf6)), (sg7, .inl (scg7, 24, .inr (.inr (.inr (.inr (sfo)))))), (sw, .inr (7, [.ref sw1, .int (zI swn)])), (sw1, .inl (csw1, 24, .inl fsw)), (wr, .inr (7, [.ref w1, .int (zI wn)])), (w1, .inl (cw1, 24, .inl fw)), (fr, .inr (0, [.ref k1, .ref k2, .ref k3, .int (zI fn)])), (k3, .inl (ck3, 4, .inl fh)), (pf, .inr (1, [.ref p1, .int (zI pn)])), (p1, .inl (cp1, 4, .inl fp))] : va_W) ++ kRows pr gp cy) := hD.part [0, 1, 2, 3, 4, 5, 6, 7, 8, 9, 10, 11, 12, 13, 14, 15, 16] (by decide +kernel) ax_X8_odds_1
      exact W.lret (v := (-9223372036854775808)) hx hb hr (fun t ht hW => kQL_of ⟨swn, fsw, scn, sbo, sru, sf1, sf2, sf3, sf4, sf5, sf6, gp, q2, q3, q4, q7, by rw [ht]; exact hP9, hD9⟩ (hS.F ht)) hS.2.2 dX8_odds_22
theorem dX8_many_0 : decode cX8_many 0 = .ok (.iload_n 1, 1) := by decide +kernel
theorem dX8_many_1 : decode cX8_many 1 = .ok (.tableswitch 63 0 3 #[31, 39, 47, 55], 31) := by decide +kernel
theorem dX8_many_32 : decode cX8_many 32 = .ok (.aload_n 0, 1) := by decide +kernel
theorem dX8_many_33 : decode cX8_many 33 = .ok (.getfield 28, 3) := by decide +kernel
theorem dX8_many_36 : decode cX8_many 36 = .ok (.getfield 106, 3) := by decide +kernel
theorem dX8_many_39 : decode cX8_many 39 = .ok (.ireturn, 1) := by decide +kernel
theorem dX8_many_40 : decode cX8_many 40 = .ok (.aload_n 0, 1) := by decide +kernel
theorem dX8_many_41 : decode cX8_many 41 = .ok (.getfield 35, 3) := by decide +kernel
theorem dX8_many_44 : decode cX8_many 44 = .ok (.getfield 139, 3) := by decide +kernel
theorem dX8_many_47 : decode cX8_many 47 = .ok (.ireturn, 1) := by decide +kernel
theorem dX8_many_48 : decode cX8_many 48 = .ok (.aload_n 0, 1) := by decide +kernel
theorem dX8_many_49 : decode cX8_many 49 = .ok (.getfield 56, 3) := by decide +kernel
theorem dX8_many_52 : decode cX8_many 52 = .ok (.getfield 250, 3) := by decide +kernel
theorem dX8_many_55 : decode cX8_many 55 = .ok (.ireturn, 1) := by decide +kernel
theorem dX8_many_56 : decode cX8_many 56 = .ok (.aload_n 0, 1) := by decide +kernel
theorem dX8_many_57 : decode cX8_many 57 = .ok (.getfield 63, 3) := by decide +kernel
theorem dX8_many_60 : decode cX8_many 60 = .ok (.getfield 145, 3) := by decide +kernel
theorem dX8_many_63 : decode cX8_many 63 = .ok (.ireturn, 1) := by decide +kernel
theorem dX8_many_64 : decode cX8_many 64 = .ok (.bipush (-2), 2) := by decide +kernel
theorem dX8_many_66 : decode cX8_many 66 = .ok (.ireturn, 1) := by decide +kernel
set_option maxRecDepth 20000 in
theorem mw_X8_many_0 : (.fieldLink RX8 28 "FontRuns" "fontRow" "LFontRuns$FontRow;" : Cond) ∈ wsX8_many := by decide +kernel
set_option maxRecDepth 20000 in
theorem mw_X8_many_1 : (.fieldLink RX8 106 "FontRuns$FontRow" "count" "I" : Cond) ∈ wsX8_many := by decide +kernel
set_option maxRecDepth 20000 in
theorem mw_X8_many_2 : (.fieldLink RX8 35 "FontRuns" "writing" "LFontRuns$Writing;" : Cond) ∈ wsX8_many := by decide +kernel
set_option maxRecDepth 20000 in
theorem mw_X8_many_3 : (.fieldLink RX8 139 "FontRuns$Writing" "count" "I" : Cond) ∈ wsX8_many := by decide +kernel
set_option maxRecDepth 20000 in
theorem mw_X8_many_4 : (.fieldLink RX8 56 "FontRuns" "setting" "LFontRuns$Setting;" : Cond) ∈ wsX8_many := by decide +kernel
set_option maxRecDepth 20000 in
theorem mw_X8_many_5 : (.fieldLink RX8 250 "FontRuns$Setting" "count" "I" : Cond) ∈ wsX8_many := by decide +kernel
set_option maxRecDepth 20000 in
theorem mw_X8_many_6 : (.fieldLink RX8 63 "FontRuns" "readings" "LFontRuns$Readings;" : Cond) ∈ wsX8_many := by decide +kernel
set_option maxRecDepth 20000 in
theorem mw_X8_many_7 : (.fieldLink RX8 145 "FontRuns$Readings" "count" "I" : Cond) ∈ wsX8_many := by decide +kernel
set_option maxHeartbeats 4000000 in
set_option maxRecDepth 100000 in
theorem c_X8_many (l : Launch) (D : va_G) (sz : Nat) (w : Int) (h0 : Nat) (sh : Nat) (rd : Nat) (fr : Nat) (wr : Nat) (pf : Nat) (rc : Nat) (se : Nat) (rs : Nat) (sw : Nat) (sp : Nat) (ss : Nat) (ew : Int) (wc : Int64) (tr : Int) (lf : Int) (k1 : Nat) (k2 : Nat) (k3 : Nat) (fn : Int) (w1 : Nat) (wn : Int) (g1 : Nat) (g2 : Nat) (g3 : Nat) (g4 : Nat) (g5 : Nat) (cn : Int) (bo : Int) (ru : Int) (g6 : Nat) (g7 : Nat) (dn : Int) (v1 : Nat) (v2 : Nat) (q0 : rg w) (q1 : 0 ≤ fn ∧ fn ≤ 4) (q2 : 0 ≤ wn ∧ wn ≤ 24) (q3 : 0 ≤ cn ∧ cn ≤ 24) (q4 : 0 ≤ bo ∧ bo ≤ 24) (q5 : 0 ≤ ru ∧ ru ≤ cn) (q6 : 0 ≤ dn ∧ dn ≤ 8) : Met l yX8_many wsX8_many ({ frames := 0, cells := 0, slots := 0, locals := 0 }) (kPre [.ref h0, .int (zI w)] D [(h0, .inr (8, [.ref sh, .ref rd, .ref fr, .ref wr, .ref pf, .ref rc, .ref se, .ref rs, .ref sw, .ref sp, .ref ss, .int (zI ew), .long wc, .int (zI tr), .int (zI lf)])), (fr, .inr (0, [.ref k1, .ref k2, .ref k3, .int (zI fn)])), (wr, .inr (7, [.ref w1, .int (zI wn)])), (se, .inr (4, [.ref g1, .ref g2, .ref g3, .ref g4, .ref g5, .int (zI cn), .int (zI bo), .int (zI ru), .ref g6, .ref g7])), (rs, .inr (2, [.int (zI dn), .ref v1, .ref v2]))] [] sz) (QcP (fun rz => True)) 0 0 (fun _ => False) := by
  refine Met.ofW (cc := cX8_many) (maxL := 2) (ret := (some .int)) (by decide) rfl ?_
  intro p e s m args below meth c s₁ B hml hv
  obtain ⟨rfl, hsz, hP, hK, hD0, hN⟩ := hv
  have hx := B.exec
  have hb := B.bytes
  have hr := B.returns
  have hts := atoms_spec (ws := wsX8_many) B.pre
  have hown : s.vm.findClass RX8 = some m.cls := findClass_of_methodNamed B.named
  have hlocks := B.notSynchronized
  subst hsz
  have hD := hD0
  have hP : va_P D vwCl [(h0, .inr (8, [.ref sh, .ref rd, .ref fr, .ref wr, .ref pf, .ref rc, .ref se, .ref rs, .ref sw, .ref sp, .ref ss, .int (zI ew), .long wc, .int (zI tr), .int (zI lf)])), (fr, .inr (0, [.ref k1, .ref k2, .ref k3, .int (zI fn)])), (wr, .inr (7, [.ref w1, .int (zI wn)])), (se, .inr (4, [.ref g1, .ref g2, .ref g3, .ref g4, .ref g5, .int (zI cn), .int (zI bo), .int (zI ru), .ref g6, .ref g7])), (rs, .inr (2, [.int (zI dn), .ref v1, .ref v2]))] s.heap := hP
  have hl := lv_entry ([.ref h0, .int (zI w)]) (n := 2) (Nat.le_of_ble_eq_true rfl)
  rw [lg_entry_eq]
  generalize (lg_sl ([.ref h0, .int (zI w)]) ++ List.replicate (2 - (lg_sl ([.ref h0, .int (zI w)])).length) Slot.unset).toArray = ls at hl ⊢
  have hl : lv_has ls 2 [(0, .ref h0), (1, .int (zI w))] := hl
  refine lv_iload_n hx hb dX8_many_0 rfl (lv_at hl 1 rfl) ?_
  rcases (show w = 0 ∨ w = 1 ∨ w = 2 ∨ w = 3 ∨ (¬ w = 0 ∧ ¬ w = 1 ∧ ¬ w = 2 ∧ ¬ w = 3) from by omega) with c_1 | c_1 | c_1 | c_1 | c_1
  · refine kz_tabIn (tgt := 32) (off := 31) hx hb dX8_many_1 0 (by omega) (by decide) (by decide) (by decide) (by decide) (by decide) ?_
    refine lv_aload_n hx hb dX8_many_32 rfl (lv_at hl 0 rfl) ?_
    refine va_get (D := D) (ci := 8) (v := .ref fr) (C := RX8) (T := TX8) (N := 15) hx hb hts (fun _ h9 => List.mem_cons_of_mem _ (List.mem_append_left _ (List.mem_append_left _ (List.mem_append_left _ (List.mem_append_left _ (List.mem_append_right _ h9)))))) hown hK hP 0 rfl rfl 2 (by decide) (hts (.fieldLink RX8 28 "FontRuns" "fontRow" "LFontRuns$FontRow;") mw_X8_many_0) (fun _ h9 => h9) rfl dX8_many_33 ?_
    refine va_get (D := D) (ci := 0) (v := .int (zI fn)) (C := RX0) (T := TX0) (N := 4) hx hb hts (fun _ h9 => List.mem_cons_of_mem _ (List.mem_append_left _ (List.mem_append_left _ (List.mem_append_left _ (List.mem_append_right _ h9))))) hown hK hP 1 rfl rfl 3 (by decide) (hts (.fieldLink RX8 106 "FontRuns$FontRow" "count" "I") mw_X8_many_1) (fun _ h9 => h9) rfl dX8_many_36 ?_
    exact W.iret (v := (zI fn)) hx hb hr (fun t ht hW => QcP_of (by omega) trivial ht) (fun _ h9 => by cases h9) dX8_many_39
  · refine kz_tabIn (tgt := 40) (off := 39) hx hb dX8_many_1 1 (by omega) (by decide) (by decide) (by decide) (by decide) (by decide) ?_
    refine lv_aload_n hx hb dX8_many_40 rfl (lv_at hl 0 rfl) ?_
    refine va_get (D := D) (ci := 8) (v := .ref wr) (C := RX8) (T := TX8) (N := 15) hx hb hts (fun _ h9 => List.mem_cons_of_mem _ (List.mem_append_left _ (List.mem_append_left _ (List.mem_append_left _ (List.mem_append_left _ (List.mem_append_right _ h9)))))) hown hK hP 0 rfl rfl 3 (by decide) (hts (.fieldLink RX8 35 "FontRuns" "writing" "LFontRuns$Writing;") mw_X8_many_2) (fun _ h9 => h9) rfl dX8_many_41 ?_
    refine va_get (D := D) (ci := 7) (v := .int (zI wn)) (C := RX7) (T := TX7) (N := 2) hx hb hts (fun _ h9 => List.mem_cons_of_mem _ (List.mem_append_left _ (List.mem_append_left _ (List.mem_append_right _ h9)))) hown hK hP 2 rfl rfl 1 (by decide) (hts (.fieldLink RX8 139 "FontRuns$Writing" "count" "I") mw_X8_many_3) (fun _ h9 => h9) rfl dX8_many_44 ?_
    exact W.iret (v := (zI wn)) hx hb hr (fun t ht hW => QcP_of (by omega) trivial ht) (fun _ h9 => by cases h9) dX8_many_47
  · refine kz_tabIn (tgt := 48) (off := 47) hx hb dX8_many_1 2 (by omega) (by decide) (by decide) (by decide) (by decide) (by decide) ?_
    refine lv_aload_n hx hb dX8_many_48 rfl (lv_at hl 0 rfl) ?_
    refine va_get (D := D) (ci := 8) (v := .ref se) (C := RX8) (T := TX8) (N := 15) hx hb hts (fun _ h9 => List.mem_cons_of_mem _ (List.mem_append_left _ (List.mem_append_left _ (List.mem_append_left _ (List.mem_append_left _ (List.mem_append_right _ h9)))))) hown hK hP 0 rfl rfl 6 (by decide) (hts (.fieldLink RX8 56 "FontRuns" "setting" "LFontRuns$Setting;") mw_X8_many_4) (fun _ h9 => h9) rfl dX8_many_49 ?_
    refine va_get (D := D) (ci := 4) (v := .int (zI cn)) (C := RX4) (T := TX4) (N := 10) hx hb hts (fun _ h9 => List.mem_cons_of_mem _ (List.mem_append_left _ (List.mem_append_right _ h9))) hown hK hP 3 rfl rfl 5 (by decide) (hts (.fieldLink RX8 250 "FontRuns$Setting" "count" "I") mw_X8_many_5) (fun _ h9 => h9) rfl dX8_many_52 ?_
    exact W.iret (v := (zI cn)) hx hb hr (fun t ht hW => QcP_of (by omega) trivial ht) (fun _ h9 => by cases h9) dX8_many_55
  · refine kz_tabIn (tgt := 56) (off := 55) hx hb dX8_many_1 3 (by omega) (by decide) (by decide) (by decide) (by decide) (by decide) ?_
    refine lv_aload_n hx hb dX8_many_56 rfl (lv_at hl 0 rfl) ?_
    refine va_get (D := D) (ci := 8) (v := .ref rs) (C := RX8) (T := TX8) (N := 15) hx hb hts (fun _ h9 => List.mem_cons_of_mem _ (List.mem_append_left _ (List.mem_append_left _ (List.mem_append_left _ (List.mem_append_left _ (List.mem_append_right _ h9)))))) hown hK hP 0 rfl rfl 7 (by decide) (hts (.fieldLink RX8 63 "FontRuns" "readings" "LFontRuns$Readings;") mw_X8_many_6) (fun _ h9 => h9) rfl dX8_many_57 ?_
    refine va_get (D := D) (ci := 2) (v := .int (zI dn)) (C := RX2) (T := TX2) (N := 3) hx hb hts (fun _ h9 => List.mem_cons_of_mem _ (List.mem_append_right _ h9)) hown hK hP 4 rfl rfl 0 (by decide) (hts (.fieldLink RX8 145 "FontRuns$Readings" "count" "I") mw_X8_many_7) (fun _ h9 => h9) rfl dX8_many_60 ?_
    exact W.iret (v := (zI dn)) hx hb hr (fun t ht hW => QcP_of (by omega) trivial ht) (fun _ h9 => by cases h9) dX8_many_63
  · refine kz_tabOut (tgt := 64) hx hb dX8_many_1 (by omega) (by omega) (by decide) ?_
    refine lv_bipush (v := zI (-2)) hx hb dX8_many_64 (by decide) ?_
    exact W.iret (v := (zI (-2))) hx hb hr (fun t ht hW => QcP_of (by omega) trivial ht) (fun _ h9 => by cases h9) dX8_many_66
