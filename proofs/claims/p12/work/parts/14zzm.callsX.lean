theorem dX8_ofFont_0 : decode cX8_ofFont 0 = .ok (.aload_n 0, 1) := by decide +kernel
theorem dX8_ofFont_1 : decode cX8_ofFont 1 = .ok (.getfield 28, 3) := by decide +kernel
theorem dX8_ofFont_4 : decode cX8_ofFont 4 = .ok (.iload_n 1, 1) := by decide +kernel
theorem dX8_ofFont_5 : decode cX8_ofFont 5 = .ok (.invokevirtual 109, 3) := by decide +kernel
theorem dX8_ofFont_8 : decode cX8_ofFont 8 = .ok (.ifCond .ne 5, 3) := by decide +kernel
theorem dX8_ofFont_11 : decode cX8_ofFont 11 = .ok (.iconst (-1), 1) := by decide +kernel
theorem dX8_ofFont_12 : decode cX8_ofFont 12 = .ok (.ireturn, 1) := by decide +kernel
theorem dX8_ofFont_13 : decode cX8_ofFont 13 = .ok (.iload_n 2, 1) := by decide +kernel
theorem dX8_ofFont_14 : decode cX8_ofFont 14 = .ok (.tableswitch 82 0 4 #[34, 44, 54, 63, 73], 34) := by decide +kernel
theorem dX8_ofFont_48 : decode cX8_ofFont 48 = .ok (.aload_n 0, 1) := by decide +kernel
theorem dX8_ofFont_49 : decode cX8_ofFont 49 = .ok (.getfield 28, 3) := by decide +kernel
theorem dX8_ofFont_52 : decode cX8_ofFont 52 = .ok (.getfield 112, 3) := by decide +kernel
theorem dX8_ofFont_55 : decode cX8_ofFont 55 = .ok (.iload_n 1, 1) := by decide +kernel
theorem dX8_ofFont_56 : decode cX8_ofFont 56 = .ok (.iaload, 1) := by decide +kernel
theorem dX8_ofFont_57 : decode cX8_ofFont 57 = .ok (.ireturn, 1) := by decide +kernel
theorem dX8_ofFont_58 : decode cX8_ofFont 58 = .ok (.aload_n 0, 1) := by decide +kernel
theorem dX8_ofFont_59 : decode cX8_ofFont 59 = .ok (.getfield 28, 3) := by decide +kernel
theorem dX8_ofFont_62 : decode cX8_ofFont 62 = .ok (.getfield 116, 3) := by decide +kernel
theorem dX8_ofFont_65 : decode cX8_ofFont 65 = .ok (.iload_n 1, 1) := by decide +kernel
theorem dX8_ofFont_66 : decode cX8_ofFont 66 = .ok (.iaload, 1) := by decide +kernel
theorem dX8_ofFont_67 : decode cX8_ofFont 67 = .ok (.ireturn, 1) := by decide +kernel
theorem dX8_ofFont_68 : decode cX8_ofFont 68 = .ok (.aload_n 0, 1) := by decide +kernel
theorem dX8_ofFont_69 : decode cX8_ofFont 69 = .ok (.getfield 28, 3) := by decide +kernel
theorem dX8_ofFont_72 : decode cX8_ofFont 72 = .ok (.iload_n 1, 1) := by decide +kernel
theorem dX8_ofFont_73 : decode cX8_ofFont 73 = .ok (.invokevirtual 119, 3) := by decide +kernel
theorem dX8_ofFont_76 : decode cX8_ofFont 76 = .ok (.ireturn, 1) := by decide +kernel
theorem dX8_ofFont_77 : decode cX8_ofFont 77 = .ok (.aload_n 0, 1) := by decide +kernel
theorem dX8_ofFont_78 : decode cX8_ofFont 78 = .ok (.getfield 28, 3) := by decide +kernel
theorem dX8_ofFont_81 : decode cX8_ofFont 81 = .ok (.getfield 122, 3) := by decide +kernel
theorem dX8_ofFont_84 : decode cX8_ofFont 84 = .ok (.iload_n 1, 1) := by decide +kernel
theorem dX8_ofFont_85 : decode cX8_ofFont 85 = .ok (.iaload, 1) := by decide +kernel
theorem dX8_ofFont_86 : decode cX8_ofFont 86 = .ok (.ireturn, 1) := by decide +kernel
theorem dX8_ofFont_87 : decode cX8_ofFont 87 = .ok (.aload_n 0, 1) := by decide +kernel
theorem dX8_ofFont_88 : decode cX8_ofFont 88 = .ok (.getfield 42, 3) := by decide +kernel
theorem dX8_ofFont_91 : decode cX8_ofFont 91 = .ok (.iload_n 1, 1) := by decide +kernel
theorem dX8_ofFont_92 : decode cX8_ofFont 92 = .ok (.invokevirtual 125, 3) := by decide +kernel
theorem dX8_ofFont_95 : decode cX8_ofFont 95 = .ok (.ireturn, 1) := by decide +kernel
theorem dX8_ofFont_96 : decode cX8_ofFont 96 = .ok (.bipush (-2), 2) := by decide +kernel
theorem dX8_ofFont_98 : decode cX8_ofFont 98 = .ok (.ireturn, 1) := by decide +kernel
set_option maxRecDepth 20000 in
theorem ggX8_ofFont_X0_isFont : GoodIn wsX8_ofFont wsX0_isFont := goodIn_r _ [10, 11, 12, 13, 14, 46, 47, 48, 49] (by decide +kernel) (by decide +kernel)
set_option maxRecDepth 20000 in
theorem gX8_ofFont_X0_isFont : GoodIn wsX8_ofFont (wsV RX8 109 RX0 yX0_isFont wsX0_isFont) := goodIn_app (goodIn_of _ (by decide +kernel)) ggX8_ofFont_X0_isFont
set_option maxRecDepth 20000 in
theorem ggX8_ofFont_X0_step : GoodIn wsX8_ofFont wsX0_step := goodIn_r _ [18, 19, 20, 21, 7, 8, 9, 10, 11, 12, 13, 14, 22, 23, 46, 47, 48, 49] (by decide +kernel) (by decide +kernel)
set_option maxRecDepth 20000 in
theorem gX8_ofFont_X0_step : GoodIn wsX8_ofFont (wsV RX8 119 RX0 yX0_step wsX0_step) := goodIn_app (goodIn_of _ (by decide +kernel)) ggX8_ofFont_X0_step
set_option maxRecDepth 20000 in
theorem ggX8_ofFont_X1_placeOf : GoodIn wsX8_ofFont wsX1_placeOf := goodIn_r _ [28, 29, 30, 50, 51] (by decide +kernel) (by decide +kernel)
set_option maxRecDepth 20000 in
theorem gX8_ofFont_X1_placeOf : GoodIn wsX8_ofFont (wsV RX8 125 RX1 yX1_placeOf wsX1_placeOf) := goodIn_app (goodIn_of _ (by decide +kernel)) ggX8_ofFont_X1_placeOf
set_option maxRecDepth 20000 in
theorem mw_X8_ofFont_0 : (.fieldLink RX8 28 "FontRuns" "fontRow" "LFontRuns$FontRow;" : Cond) ∈ wsX8_ofFont := by decide +kernel
set_option maxRecDepth 20000 in
theorem mw_X8_ofFont_1 : (.fieldLink RX8 112 "FontRuns$FontRow" "kind" "[I" : Cond) ∈ wsX8_ofFont := by decide +kernel
set_option maxRecDepth 20000 in
theorem mw_X8_ofFont_2 : (.fieldLink RX8 116 "FontRuns$FontRow" "breadth" "[I" : Cond) ∈ wsX8_ofFont := by decide +kernel
set_option maxRecDepth 20000 in
theorem mw_X8_ofFont_3 : (.fieldLink RX8 122 "FontRuns$FontRow" "has" "[I" : Cond) ∈ wsX8_ofFont := by decide +kernel
set_option maxRecDepth 20000 in
theorem mw_X8_ofFont_4 : (.fieldLink RX8 42 "FontRuns" "preference" "LFontRuns$Preference;" : Cond) ∈ wsX8_ofFont := by decide +kernel
theorem ax_X8_ofFont_0 {e0 e1 e2 e3 e4 e5 e6 : Nat × va_E} : ([1] : List Nat).map (fun i => ([e0, e1, e2, e3, e4, e5, e6] : va_W)[i]?) = ([e1] : va_W).map some := rfl
theorem ax_X8_ofFont_1 {e0 e1 e2 e3 e4 e5 e6 : Nat × va_E} : ([1, 2, 3] : List Nat).map (fun i => ([e0, e1, e2, e3, e4, e5, e6] : va_W)[i]?) = ([e1, e2, e3] : va_W).map some := rfl
theorem ax_X8_ofFont_2 {e0 e1 e2 e3 e4 e5 e6 : Nat × va_E} : ([5, 6] : List Nat).map (fun i => ([e0, e1, e2, e3, e4, e5, e6] : va_W)[i]?) = ([e5, e6] : va_W).map some := rfl
set_option maxHeartbeats 4000000 in
set_option maxRecDepth 100000 in
theorem c_X8_ofFont (l : Launch) (D : va_G) (sz : Nat) (f : Int) (w : Int) (h0 : Nat) (sh : Nat) (rd : Nat) (fr : Nat) (wr : Nat) (pf : Nat) (rc : Nat) (se : Nat) (rs : Nat) (sw : Nat) (sp : Nat) (ss : Nat) (ew : Int) (wc : Int64) (tr : Int) (lf : Int) (k1 : Nat) (k2 : Nat) (k3 : Nat) (fn : Int) (ck1 : ClassId) (fk : Nat → Int32) (ck2 : ClassId) (fb : Nat → Int32) (ck3 : ClassId) (fh : Nat → Int32) (p1 : Nat) (pn : Int) (cp1 : ClassId) (fp : Nat → Int32) (q0 : rg f) (q1 : rg w) (q2 : 0 ≤ fn ∧ fn ≤ 4) (q3 : 0 ≤ pn ∧ pn ≤ 4) (q4 : kPr fp) : Met l yX8_ofFont wsX8_ofFont ({ frames := 3, cells := 0, slots := 0, locals := 64 }) (kPre [.ref h0, .int (zI f), .int (zI w)] D [(h0, .inr (8, [.ref sh, .ref rd, .ref fr, .ref wr, .ref pf, .ref rc, .ref se, .ref rs, .ref sw, .ref sp, .ref ss, .int (zI ew), .long wc, .int (zI tr), .int (zI lf)])), (fr, .inr (0, [.ref k1, .ref k2, .ref k3, .int (zI fn)])), (k1, .inl (ck1, 4, .inl fk)), (k2, .inl (ck2, 4, .inl fb)), (k3, .inl (ck3, 4, .inl fh)), (pf, .inr (1, [.ref p1, .int (zI pn)])), (p1, .inl (cp1, 4, .inl fp))] [(ck1, .int), (ck2, .int), (ck3, .int), (cp1, .int)] sz) (QcP (fun rz => kOf f w fn fk fb fh (kStX (fk f.toNat) (fb f.toNat)) (kPl fp pn f) rz)) 0 0 (fun _ => False) := by
  refine Met.ofW (cc := cX8_ofFont) (maxL := 3) (ret := (some .int)) (by decide) rfl ?_
  intro p e s m args below meth c s₁ B hml hv
  obtain ⟨rfl, hsz, hP, hK, hD0, hN⟩ := hv
  have hx := B.exec
  have hb := B.bytes
  have hr := B.returns
  have hts := atoms_spec (ws := wsX8_ofFont) B.pre
  have hown : s.vm.findClass RX8 = some m.cls := findClass_of_methodNamed B.named
  have hlocks := B.notSynchronized
  subst hsz
  have hD := hD0
  have hP : va_P D vwCl [(h0, .inr (8, [.ref sh, .ref rd, .ref fr, .ref wr, .ref pf, .ref rc, .ref se, .ref rs, .ref sw, .ref sp, .ref ss, .int (zI ew), .long wc, .int (zI tr), .int (zI lf)])), (fr, .inr (0, [.ref k1, .ref k2, .ref k3, .int (zI fn)])), (k1, .inl (ck1, 4, .inl fk)), (k2, .inl (ck2, 4, .inl fb)), (k3, .inl (ck3, 4, .inl fh)), (pf, .inr (1, [.ref p1, .int (zI pn)])), (p1, .inl (cp1, 4, .inl fp))] s.heap := hP
  have hl := lv_entry ([.ref h0, .int (zI f), .int (zI w)]) (n := 3) (Nat.le_of_ble_eq_true rfl)
  rw [lg_entry_eq]
  generalize (lg_sl ([.ref h0, .int (zI f), .int (zI w)]) ++ List.replicate (3 - (lg_sl ([.ref h0, .int (zI f), .int (zI w)])).length) Slot.unset).toArray = ls at hl ⊢
  have hl : lv_has ls 3 [(0, .ref h0), (1, .int (zI f)), (2, .int (zI w))] := hl
  refine lv_aload_n hx hb dX8_ofFont_0 rfl (lv_at hl 0 rfl) ?_
  refine va_get (D := D) (ci := 8) (v := .ref fr) (C := RX8) (T := TX8) (N := 15) hx hb hts (fun _ h9 => List.mem_cons_of_mem _ (List.mem_append_left _ (List.mem_append_left _ (List.mem_append_right _ h9)))) hown hK hP 0 rfl rfl 2 (by decide) (hts (.fieldLink RX8 28 "FontRuns" "fontRow" "LFontRuns$FontRow;") mw_X8_ofFont_0) (fun _ h9 => h9) rfl dX8_ofFont_1 ?_
  refine lv_iload_n hx hb dX8_ofFont_4 rfl (lv_at hl 1 rfl) ?_
  refine k_callR (va_runV (As := [.int (zI f)]) (rest := []) ⟨hx, hb, hml, hown, hts⟩ (c_X0_isFont l D s.heap.size (f := f) (h0 := fr) (k1 := k1) (k2 := k2) (k3 := k3) (n := fn) q0 q2) (cwV 1 hts gX8_ofFont_X0_isFont rfl rfl rfl (by decide +kernel) ⟨Nat.le_of_ble_eq_true rfl, Nat.le_of_ble_eq_true rfl⟩) (kPreV hP (kD0 hD) hK hN [1] [] ax_X8_ofFont_0 rfl (by decide +kernel) 1 0 rfl rfl) rfl rfl hl.1 rfl (lv_room (Nat.le_of_ble_eq_true rfl)) dX8_ofFont_5 ⟨Nat.le_of_ble_eq_true rfl, Nat.le_of_ble_eq_true rfl⟩) ?_
  refine lv_if_ne (tgt := 13) hx hb dX8_ofFont_8 (by decide) (fun c_1 => ?_) (fun c_1 => ?_)
  · have c_1 : 0 ≤ f ∧ f ≤ fn - 1 := b01t c_1
    refine lv_iload_n hx hb dX8_ofFont_13 rfl (lv_at hl 2 rfl) ?_
    rcases (show w = 0 ∨ w = 1 ∨ w = 2 ∨ w = 3 ∨ w = 4 ∨ (¬ w = 0 ∧ ¬ w = 1 ∧ ¬ w = 2 ∧ ¬ w = 3 ∧ ¬ w = 4) from by omega) with c_2 | c_2 | c_2 | c_2 | c_2 | c_2
    · refine kz_tabIn (tgt := 48) (off := 34) hx hb dX8_ofFont_14 0 (by omega) (by decide) (by decide) (by decide) (by decide) (by decide) ?_
      refine lv_aload_n hx hb dX8_ofFont_48 rfl (lv_at hl 0 rfl) ?_
      refine va_get (D := D) (ci := 8) (v := .ref fr) (C := RX8) (T := TX8) (N := 15) hx hb hts (fun _ h9 => List.mem_cons_of_mem _ (List.mem_append_left _ (List.mem_append_left _ (List.mem_append_right _ h9)))) hown hK hP 0 rfl rfl 2 (by decide) (hts (.fieldLink RX8 28 "FontRuns" "fontRow" "LFontRuns$FontRow;") mw_X8_ofFont_0) (fun _ h9 => h9) rfl dX8_ofFont_49 ?_
      refine va_get (D := D) (ci := 0) (v := .ref k1) (C := RX0) (T := TX0) (N := 4) hx hb hts (fun _ h9 => List.mem_cons_of_mem _ (List.mem_append_left _ (List.mem_append_right _ h9))) hown hK hP 1 rfl rfl 0 (by decide) (hts (.fieldLink RX8 112 "FontRuns$FontRow" "kind" "[I") mw_X8_ofFont_1) (fun _ h9 => h9) rfl dX8_ofFont_52 ?_
      refine lv_iload_n hx hb dX8_ofFont_55 rfl (lv_at hl 1 rfl) ?_
      refine kz_iald hx hb hK hP 2 0 rfl rfl (by omega) dX8_ofFont_56 (fun z_3 rz_3 ez_3 => ?_)
      exact W.iret (v := (zI z_3)) hx hb hr (fun t ht hW => QcP_of (by omega) (Or.inr ⟨by omega, Or.inl ⟨by omega, ez_3.symm⟩⟩) ht) (fun _ h9 => by cases h9) dX8_ofFont_57
    · refine kz_tabIn (tgt := 58) (off := 44) hx hb dX8_ofFont_14 1 (by omega) (by decide) (by decide) (by decide) (by decide) (by decide) ?_
      refine lv_aload_n hx hb dX8_ofFont_58 rfl (lv_at hl 0 rfl) ?_
      refine va_get (D := D) (ci := 8) (v := .ref fr) (C := RX8) (T := TX8) (N := 15) hx hb hts (fun _ h9 => List.mem_cons_of_mem _ (List.mem_append_left _ (List.mem_append_left _ (List.mem_append_right _ h9)))) hown hK hP 0 rfl rfl 2 (by decide) (hts (.fieldLink RX8 28 "FontRuns" "fontRow" "LFontRuns$FontRow;") mw_X8_ofFont_0) (fun _ h9 => h9) rfl dX8_ofFont_59 ?_
      refine va_get (D := D) (ci := 0) (v := .ref k2) (C := RX0) (T := TX0) (N := 4) hx hb hts (fun _ h9 => List.mem_cons_of_mem _ (List.mem_append_left _ (List.mem_append_right _ h9))) hown hK hP 1 rfl rfl 1 (by decide) (hts (.fieldLink RX8 116 "FontRuns$FontRow" "breadth" "[I") mw_X8_ofFont_2) (fun _ h9 => h9) rfl dX8_ofFont_62 ?_
      refine lv_iload_n hx hb dX8_ofFont_65 rfl (lv_at hl 1 rfl) ?_
      refine kz_iald hx hb hK hP 3 1 rfl rfl (by omega) dX8_ofFont_66 (fun z_4 rz_4 ez_4 => ?_)
      exact W.iret (v := (zI z_4)) hx hb hr (fun t ht hW => QcP_of (by omega) (Or.inr ⟨by omega, Or.inr (Or.inl ⟨by omega, ez_4.symm⟩)⟩) ht) (fun _ h9 => by cases h9) dX8_ofFont_67
    · refine kz_tabIn (tgt := 68) (off := 54) hx hb dX8_ofFont_14 2 (by omega) (by decide) (by decide) (by decide) (by decide) (by decide) ?_
      refine lv_aload_n hx hb dX8_ofFont_68 rfl (lv_at hl 0 rfl) ?_
      refine va_get (D := D) (ci := 8) (v := .ref fr) (C := RX8) (T := TX8) (N := 15) hx hb hts (fun _ h9 => List.mem_cons_of_mem _ (List.mem_append_left _ (List.mem_append_left _ (List.mem_append_right _ h9)))) hown hK hP 0 rfl rfl 2 (by decide) (hts (.fieldLink RX8 28 "FontRuns" "fontRow" "LFontRuns$FontRow;") mw_X8_ofFont_0) (fun _ h9 => h9) rfl dX8_ofFont_69 ?_
      refine lv_iload_n hx hb dX8_ofFont_72 rfl (lv_at hl 1 rfl) ?_
      refine k_callP (va_runV (As := [.int (zI f)]) (rest := []) ⟨hx, hb, hml, hown, hts⟩ (c_X0_step_w l D s.heap.size (f := f) (h0 := fr) (k1 := k1) (k2 := k2) (k3 := k3) (n := fn) (ck1 := ck1) (fk := fk) (ck2 := ck2) (fb := fb) q0 q2) (cwV 1 hts gX8_ofFont_X0_step rfl rfl rfl (by decide +kernel) ⟨Nat.le_of_ble_eq_true rfl, Nat.le_of_ble_eq_true rfl⟩) (kPreV hP (kD0 hD) hK hN [1, 2, 3] [0, 1] ax_X8_ofFont_1 rfl (by decide +kernel) 1 0 rfl rfl) rfl rfl hl.1 rfl (lv_room (Nat.le_of_ble_eq_true rfl)) dX8_ofFont_73 ⟨Nat.le_of_ble_eq_true rfl, Nat.le_of_ble_eq_true rfl⟩) (fun z_5 rz_5 h_6 => ?_)
      exact W.iret (v := (zI z_5)) hx hb hr (fun t ht hW => QcP_of (by omega) (Or.inr ⟨by omega, Or.inr (Or.inr (Or.inl ⟨by omega, h_6 (by omega)⟩))⟩) ht) (fun _ h9 => by cases h9) dX8_ofFont_76
    · refine kz_tabIn (tgt := 77) (off := 63) hx hb dX8_ofFont_14 3 (by omega) (by decide) (by decide) (by decide) (by decide) (by decide) ?_
      refine lv_aload_n hx hb dX8_ofFont_77 rfl (lv_at hl 0 rfl) ?_
      refine va_get (D := D) (ci := 8) (v := .ref fr) (C := RX8) (T := TX8) (N := 15) hx hb hts (fun _ h9 => List.mem_cons_of_mem _ (List.mem_append_left _ (List.mem_append_left _ (List.mem_append_right _ h9)))) hown hK hP 0 rfl rfl 2 (by decide) (hts (.fieldLink RX8 28 "FontRuns" "fontRow" "LFontRuns$FontRow;") mw_X8_ofFont_0) (fun _ h9 => h9) rfl dX8_ofFont_78 ?_
      refine va_get (D := D) (ci := 0) (v := .ref k3) (C := RX0) (T := TX0) (N := 4) hx hb hts (fun _ h9 => List.mem_cons_of_mem _ (List.mem_append_left _ (List.mem_append_right _ h9))) hown hK hP 1 rfl rfl 2 (by decide) (hts (.fieldLink RX8 122 "FontRuns$FontRow" "has" "[I") mw_X8_ofFont_3) (fun _ h9 => h9) rfl dX8_ofFont_81 ?_
      refine lv_iload_n hx hb dX8_ofFont_84 rfl (lv_at hl 1 rfl) ?_
      refine kz_iald hx hb hK hP 4 2 rfl rfl (by omega) dX8_ofFont_85 (fun z_7 rz_7 ez_7 => ?_)
      exact W.iret (v := (zI z_7)) hx hb hr (fun t ht hW => QcP_of (by omega) (Or.inr ⟨by omega, Or.inr (Or.inr (Or.inr (Or.inl ⟨by omega, ez_7.symm⟩)))⟩) ht) (fun _ h9 => by cases h9) dX8_ofFont_86
    · refine kz_tabIn (tgt := 87) (off := 73) hx hb dX8_ofFont_14 4 (by omega) (by decide) (by decide) (by decide) (by decide) (by decide) ?_
      refine lv_aload_n hx hb dX8_ofFont_87 rfl (lv_at hl 0 rfl) ?_
      refine va_get (D := D) (ci := 8) (v := .ref pf) (C := RX8) (T := TX8) (N := 15) hx hb hts (fun _ h9 => List.mem_cons_of_mem _ (List.mem_append_left _ (List.mem_append_left _ (List.mem_append_right _ h9)))) hown hK hP 0 rfl rfl 4 (by decide) (hts (.fieldLink RX8 42 "FontRuns" "preference" "LFontRuns$Preference;") mw_X8_ofFont_4) (fun _ h9 => h9) rfl dX8_ofFont_88 ?_
      refine lv_iload_n hx hb dX8_ofFont_91 rfl (lv_at hl 1 rfl) ?_
      refine k_callP (va_runV (As := [.int (zI f)]) (rest := []) ⟨hx, hb, hml, hown, hts⟩ (c_X1_placeOf_w l D s.heap.size (f := f) (h0 := pf) (r1 := p1) (n := pn) (cr1 := cp1) (fr := fp) q0 q3 q4) (cwV 1 hts gX8_ofFont_X1_placeOf rfl rfl rfl (by decide +kernel) ⟨Nat.le_of_ble_eq_true rfl, Nat.le_of_ble_eq_true rfl⟩) (kPreV hP (kD0 hD) hK hN [5, 6] [3] ax_X8_ofFont_2 rfl (by decide +kernel) 5 1 rfl rfl) rfl rfl hl.1 rfl (lv_room (Nat.le_of_ble_eq_true rfl)) dX8_ofFont_92 ⟨Nat.le_of_ble_eq_true rfl, Nat.le_of_ble_eq_true rfl⟩) (fun z_8 rz_8 h_9 => ?_)
      exact W.iret (v := (zI z_8)) hx hb hr (fun t ht hW => QcP_of (by omega) (Or.inr ⟨by omega, Or.inr (Or.inr (Or.inr (Or.inr (Or.inl ⟨by omega, h_9.2⟩))))⟩) ht) (fun _ h9 => by cases h9) dX8_ofFont_95
    · refine kz_tabOut (tgt := 96) hx hb dX8_ofFont_14 (by omega) (by omega) (by decide) ?_
      refine lv_bipush (v := zI (-2)) hx hb dX8_ofFont_96 (by decide) ?_
      exact W.iret (v := (zI (-2))) hx hb hr (fun t ht hW => QcP_of (by omega) (Or.inr ⟨by omega, Or.inr (Or.inr (Or.inr (Or.inr (Or.inr (⟨by omega, by omega⟩)))))⟩) ht) (fun _ h9 => by cases h9) dX8_ofFont_98
  · have c_1 : ¬ (0 ≤ f ∧ f ≤ fn - 1) := b01f c_1
    refine lv_iconst (v := zI (-1)) hx hb dX8_ofFont_11 rfl ?_
    exact W.iret (v := (zI (-1))) hx hb hr (fun t ht hW => QcP_of (by omega) (Or.inl ⟨by omega, by omega⟩) ht) (fun _ h9 => by cases h9) dX8_ofFont_12
theorem dX8_width_0 : decode cX8_width 0 = .ok (.aload_n 0, 1) := by decide +kernel
theorem dX8_width_1 : decode cX8_width 1 = .ok (.getfield 28, 3) := by decide +kernel
theorem dX8_width_4 : decode cX8_width 4 = .ok (.iload_n 1, 1) := by decide +kernel
theorem dX8_width_5 : decode cX8_width 5 = .ok (.invokevirtual 109, 3) := by decide +kernel
theorem dX8_width_8 : decode cX8_width 8 = .ok (.ifCond .ne 5, 3) := by decide +kernel
theorem dX8_width_11 : decode cX8_width 11 = .ok (.iconst (-1), 1) := by decide +kernel
theorem dX8_width_12 : decode cX8_width 12 = .ok (.ireturn, 1) := by decide +kernel
theorem dX8_width_13 : decode cX8_width 13 = .ok (.iload_n 2, 1) := by decide +kernel
theorem dX8_width_14 : decode cX8_width 14 = .ok (.iconst 1, 1) := by decide +kernel
theorem dX8_width_15 : decode cX8_width 15 = .ok (.bipush 9, 2) := by decide +kernel
theorem dX8_width_17 : decode cX8_width 17 = .ok (.invokestatic 128, 3) := by decide +kernel
theorem dX8_width_20 : decode cX8_width 20 = .ok (.ifCond .ne 6, 3) := by decide +kernel
theorem dX8_width_23 : decode cX8_width 23 = .ok (.bipush (-2), 2) := by decide +kernel
theorem dX8_width_25 : decode cX8_width 25 = .ok (.ireturn, 1) := by decide +kernel
theorem dX8_width_26 : decode cX8_width 26 = .ok (.aload_n 0, 1) := by decide +kernel
theorem dX8_width_27 : decode cX8_width 27 = .ok (.getfield 28, 3) := by decide +kernel
theorem dX8_width_30 : decode cX8_width 30 = .ok (.getfield 116, 3) := by decide +kernel
theorem dX8_width_33 : decode cX8_width 33 = .ok (.iload_n 1, 1) := by decide +kernel
theorem dX8_width_34 : decode cX8_width 34 = .ok (.iaload, 1) := by decide +kernel
theorem dX8_width_35 : decode cX8_width 35 = .ok (.istore_n 3, 1) := by decide +kernel
theorem dX8_width_36 : decode cX8_width 36 = .ok (.aload_n 0, 1) := by decide +kernel
theorem dX8_width_37 : decode cX8_width 37 = .ok (.getfield 28, 3) := by decide +kernel
theorem dX8_width_40 : decode cX8_width 40 = .ok (.getfield 116, 3) := by decide +kernel
theorem dX8_width_43 : decode cX8_width 43 = .ok (.iload_n 1, 1) := by decide +kernel
theorem dX8_width_44 : decode cX8_width 44 = .ok (.iload_n 2, 1) := by decide +kernel
theorem dX8_width_45 : decode cX8_width 45 = .ok (.iastore, 1) := by decide +kernel
theorem dX8_width_46 : decode cX8_width 46 = .ok (.iload_n 3, 1) := by decide +kernel
theorem dX8_width_47 : decode cX8_width 47 = .ok (.ireturn, 1) := by decide +kernel
set_option maxRecDepth 20000 in
theorem ggX8_width_X0_isFont : GoodIn wsX8_width wsX0_isFont := goodIn_r _ [7, 8, 9, 10, 11, 28, 29, 30, 31] (by decide +kernel) (by decide +kernel)
set_option maxRecDepth 20000 in
theorem gX8_width_X0_isFont : GoodIn wsX8_width (wsV RX8 109 RX0 yX0_isFont wsX0_isFont) := goodIn_app (goodIn_of _ (by decide +kernel)) ggX8_width_X0_isFont
set_option maxRecDepth 20000 in
theorem ggX8_width_X8_isWithin : GoodIn wsX8_width wsX8_isWithin := goodIn_r _ [11] (by decide +kernel) (by decide +kernel)
set_option maxRecDepth 20000 in
theorem gX8_width_X8_isWithin : GoodIn wsX8_width (va_wsS RX8 128 yX8_isWithin wsX8_isWithin) := goodIn_app (goodIn_of _ (by decide +kernel)) ggX8_width_X8_isWithin
set_option maxRecDepth 20000 in
theorem mw_X8_width_0 : (.fieldLink RX8 28 "FontRuns" "fontRow" "LFontRuns$FontRow;" : Cond) ∈ wsX8_width := by decide +kernel
set_option maxRecDepth 20000 in
theorem mw_X8_width_1 : (.fieldLink RX8 116 "FontRuns$FontRow" "breadth" "[I" : Cond) ∈ wsX8_width := by decide +kernel
theorem ax_X8_width_0 {e0 e1 e2 : Nat × va_E} : ([1] : List Nat).map (fun i => ([e0, e1, e2] : va_W)[i]?) = ([e1] : va_W).map some := rfl
theorem ax_X8_width_1 {e0 e1 e2 : Nat × va_E} : ([] : List Nat).map (fun i => ([e0, e1, e2] : va_W)[i]?) = ([] : va_W).map some := rfl
theorem ax_X8_width_2 {e0 e1 e2 : Nat × va_E} : ([0, 1, 2] : List Nat).map (fun i => ([e0, e1, e2] : va_W)[i]?) = ([e0, e1, e2] : va_W).map some := rfl
set_option maxHeartbeats 4000000 in
set_option maxRecDepth 100000 in
theorem c_X8_width (l : Launch) (D : va_G) (sz : Nat) (f : Int) (x : Int) (h0 : Nat) (sh : Nat) (rd : Nat) (fr : Nat) (wr : Nat) (pf : Nat) (rc : Nat) (se : Nat) (rs : Nat) (sw : Nat) (sp : Nat) (ss : Nat) (ew : Int) (wc : Int64) (tr : Int) (lf : Int) (k1 : Nat) (k2 : Nat) (k3 : Nat) (fn : Int) (ck2 : ClassId) (fb : Nat → Int32) (q0 : rg f) (q1 : rg x) (q2 : 0 ≤ fn ∧ fn ≤ 4) : Met l yX8_width wsX8_width ({ frames := 2, cells := 0, slots := 0, locals := 43 }) (kPre [.ref h0, .int (zI f), .int (zI x)] D [(h0, .inr (8, [.ref sh, .ref rd, .ref fr, .ref wr, .ref pf, .ref rc, .ref se, .ref rs, .ref sw, .ref sp, .ref ss, .int (zI ew), .long wc, .int (zI tr), .int (zI lf)])), (fr, .inr (0, [.ref k1, .ref k2, .ref k3, .int (zI fn)])), (k2, .inl (ck2, 4, .inl fb))] [(ck2, .int)] sz) (kQS (fun rz t => ∃ (u_fb : Nat → Int32), (kWi f fn x fb u_fb rz) ∧ va_P D vwCl [(h0, .inr (8, [.ref sh, .ref rd, .ref fr, .ref wr, .ref pf, .ref rc, .ref se, .ref rs, .ref sw, .ref sp, .ref ss, .int (zI ew), .long wc, .int (zI tr), .int (zI lf)])), (fr, .inr (0, [.ref k1, .ref k2, .ref k3, .int (zI fn)])), (k2, .inl (ck2, 4, .inl u_fb))] t.heap ∧ va_D (va_A [(h0, .inr (8, [.ref sh, .ref rd, .ref fr, .ref wr, .ref pf, .ref rc, .ref se, .ref rs, .ref sw, .ref sp, .ref ss, .int (zI ew), .long wc, .int (zI tr), .int (zI lf)])), (fr, .inr (0, [.ref k1, .ref k2, .ref k3, .int (zI fn)])), (k2, .inl (ck2, 4, .inl fb))] sz) [(h0, .inr (8, [.ref sh, .ref rd, .ref fr, .ref wr, .ref pf, .ref rc, .ref se, .ref rs, .ref sw, .ref sp, .ref ss, .int (zI ew), .long wc, .int (zI tr), .int (zI lf)])), (fr, .inr (0, [.ref k1, .ref k2, .ref k3, .int (zI fn)])), (k2, .inl (ck2, 4, .inl u_fb))]) (va_A [(h0, .inr (8, [.ref sh, .ref rd, .ref fr, .ref wr, .ref pf, .ref rc, .ref se, .ref rs, .ref sw, .ref sp, .ref ss, .int (zI ew), .long wc, .int (zI tr), .int (zI lf)])), (fr, .inr (0, [.ref k1, .ref k2, .ref k3, .int (zI fn)])), (k2, .inl (ck2, 4, .inl fb))] sz)) 0 0 (va_A [(h0, .inr (8, [.ref sh, .ref rd, .ref fr, .ref wr, .ref pf, .ref rc, .ref se, .ref rs, .ref sw, .ref sp, .ref ss, .int (zI ew), .long wc, .int (zI tr), .int (zI lf)])), (fr, .inr (0, [.ref k1, .ref k2, .ref k3, .int (zI fn)])), (k2, .inl (ck2, 4, .inl fb))] sz) := by
  refine Met.ofW (cc := cX8_width) (maxL := 4) (ret := (some .int)) (by decide) rfl ?_
  intro p e s m args below meth c s₁ B hml hv
  obtain ⟨rfl, hsz, hP, hK, hD0, hN⟩ := hv
  have hx := B.exec
  have hb := B.bytes
  have hr := B.returns
  have hts := atoms_spec (ws := wsX8_width) B.pre
  have hown : s.vm.findClass RX8 = some m.cls := findClass_of_methodNamed B.named
  have hlocks := B.notSynchronized
  subst hsz
  have hD := hD0.self (sz := s.heap.size)
  generalize hAe : va_A [(h0, .inr (8, [.ref sh, .ref rd, .ref fr, .ref wr, .ref pf, .ref rc, .ref se, .ref rs, .ref sw, .ref sp, .ref ss, .int (zI ew), .long wc, .int (zI tr), .int (zI lf)])), (fr, .inr (0, [.ref k1, .ref k2, .ref k3, .int (zI fn)])), (k2, .inl (ck2, 4, .inl fb))] s.heap.size = A at hD ⊢
  have hA : ∀ q : Nat, s.heap.size ≤ q → A q := fun q h => by rw [← hAe]; exact Or.inr h
  have hS : va_S A s.heap s.heap [] := va_S.rf
  have hP : va_P D vwCl [(h0, .inr (8, [.ref sh, .ref rd, .ref fr, .ref wr, .ref pf, .ref rc, .ref se, .ref rs, .ref sw, .ref sp, .ref ss, .int (zI ew), .long wc, .int (zI tr), .int (zI lf)])), (fr, .inr (0, [.ref k1, .ref k2, .ref k3, .int (zI fn)])), (k2, .inl (ck2, 4, .inl fb))] s.heap := hP
  have hl := lv_entry ([.ref h0, .int (zI f), .int (zI x)]) (n := 4) (Nat.le_of_ble_eq_true rfl)
  rw [lg_entry_eq]
  generalize (lg_sl ([.ref h0, .int (zI f), .int (zI x)]) ++ List.replicate (4 - (lg_sl ([.ref h0, .int (zI f), .int (zI x)])).length) Slot.unset).toArray = ls at hl ⊢
  have hl : lv_has ls 4 [(0, .ref h0), (1, .int (zI f)), (2, .int (zI x))] := hl
  refine lv_aload_n hx hb dX8_width_0 rfl (lv_at hl 0 rfl) ?_
  refine va_get (D := D) (ci := 8) (v := .ref fr) (C := RX8) (T := TX8) (N := 15) hx hb hts (fun _ h9 => List.mem_cons_of_mem _ (List.mem_append_left _ (List.mem_append_right _ h9))) hown hK hP 0 rfl rfl 2 (by decide) (hts (.fieldLink RX8 28 "FontRuns" "fontRow" "LFontRuns$FontRow;") mw_X8_width_0) (fun _ h9 => h9) rfl dX8_width_1 ?_
  refine lv_iload_n hx hb dX8_width_4 rfl (lv_at hl 1 rfl) ?_
  refine k_callR (va_runV (As := [.int (zI f)]) (rest := []) ⟨hx, hb, hml, hown, hts⟩ (c_X0_isFont l D s.heap.size (f := f) (h0 := fr) (k1 := k1) (k2 := k2) (k3 := k3) (n := fn) q0 q2) (cwV 1 hts gX8_width_X0_isFont rfl rfl rfl (by decide +kernel) ⟨Nat.le_of_ble_eq_true rfl, Nat.le_of_ble_eq_true rfl⟩) (kPreV hP (kD0 hD) hK hN [1] [] ax_X8_width_0 rfl (by decide +kernel) 1 0 rfl rfl) rfl rfl hl.1 rfl (lv_room (Nat.le_of_ble_eq_true rfl)) dX8_width_5 ⟨Nat.le_of_ble_eq_true rfl, Nat.le_of_ble_eq_true rfl⟩) ?_
  refine lv_if_ne (tgt := 13) hx hb dX8_width_8 (by decide) (fun c_1 => ?_) (fun c_1 => ?_)
  · have c_1 : 0 ≤ f ∧ f ≤ fn - 1 := b01t c_1
    refine lv_iload_n hx hb dX8_width_13 rfl (lv_at hl 2 rfl) ?_
    refine lv_iconst (v := zI 1) hx hb dX8_width_14 rfl ?_
    refine lv_bipush (v := zI 9) hx hb dX8_width_15 (by decide) ?_
    refine k_callR (va_runS (As := [.int (zI x), .int (zI 1), .int (zI 9)]) (rest := []) ⟨hx, hb, hml, hown, hts⟩ (c_X8_isWithin l D s.heap.size (v := x) (a := 1) (b := 9) q1 (by omega) (by omega)) (va_cwS 3 hts gX8_width_X8_isWithin rfl rfl rfl (by decide +kernel) ⟨Nat.le_of_ble_eq_true rfl, Nat.le_of_ble_eq_true rfl⟩) (kPreS hP (kD0 hD) hK hN [] [] ax_X8_width_1 rfl (by decide +kernel)) rfl rfl hl.1 rfl (lv_room (Nat.le_of_ble_eq_true rfl)) dX8_width_17 ⟨Nat.le_of_ble_eq_true rfl, Nat.le_of_ble_eq_true rfl⟩) ?_
    refine lv_if_ne (tgt := 26) hx hb dX8_width_20 (by decide) (fun c_2 => ?_) (fun c_2 => ?_)
    · have c_2 : 1 ≤ x ∧ x ≤ 9 := b01t c_2
      refine lv_aload_n hx hb dX8_width_26 rfl (lv_at hl 0 rfl) ?_
      refine va_get (D := D) (ci := 8) (v := .ref fr) (C := RX8) (T := TX8) (N := 15) hx hb hts (fun _ h9 => List.mem_cons_of_mem _ (List.mem_append_left _ (List.mem_append_right _ h9))) hown hK hP 0 rfl rfl 2 (by decide) (hts (.fieldLink RX8 28 "FontRuns" "fontRow" "LFontRuns$FontRow;") mw_X8_width_0) (fun _ h9 => h9) rfl dX8_width_27 ?_
      refine va_get (D := D) (ci := 0) (v := .ref k2) (C := RX0) (T := TX0) (N := 4) hx hb hts (fun _ h9 => List.mem_cons_of_mem _ (List.mem_append_right _ h9)) hown hK hP 1 rfl rfl 1 (by decide) (hts (.fieldLink RX8 116 "FontRuns$FontRow" "breadth" "[I") mw_X8_width_1) (fun _ h9 => h9) rfl dX8_width_30 ?_
      refine lv_iload_n hx hb dX8_width_33 rfl (lv_at hl 1 rfl) ?_
      refine kz_iald hx hb hK hP 2 0 rfl rfl (by omega) dX8_width_34 (fun z_3 rz_3 ez_3 => ?_)
      refine lv_istore_n (lv' := [(3, .int (zI z_3)), (0, .ref h0), (1, .int (zI f)), (2, .int (zI x))]) hx hb dX8_width_35 rfl hl (by decide) rfl (fun ls hl => ?_)
      refine lv_aload_n hx hb dX8_width_36 rfl (lv_at hl 1 rfl) ?_
      refine va_get (D := D) (ci := 8) (v := .ref fr) (C := RX8) (T := TX8) (N := 15) hx hb hts (fun _ h9 => List.mem_cons_of_mem _ (List.mem_append_left _ (List.mem_append_right _ h9))) hown hK hP 0 rfl rfl 2 (by decide) (hts (.fieldLink RX8 28 "FontRuns" "fontRow" "LFontRuns$FontRow;") mw_X8_width_0) (fun _ h9 => h9) rfl dX8_width_37 ?_
      refine va_get (D := D) (ci := 0) (v := .ref k2) (C := RX0) (T := TX0) (N := 4) hx hb hts (fun _ h9 => List.mem_cons_of_mem _ (List.mem_append_right _ h9)) hown hK hP 1 rfl rfl 1 (by decide) (hts (.fieldLink RX8 116 "FontRuns$FontRow" "breadth" "[I") mw_X8_width_1) (fun _ h9 => h9) rfl dX8_width_40 ?_
      refine lv_iload_n hx hb dX8_width_43 rfl (lv_at hl 2 rfl) ?_
      refine lv_iload_n hx hb dX8_width_44 rfl (lv_at hl 3 rfl) ?_
      refine kz_iast hx hb hK hP hD hS 2 0 rfl rfl (by omega) dX8_width_45 (fun H locs hP hD hS => ?_)
      have hP : va_P D vwCl [(h0, .inr (8, [.ref sh, .ref rd, .ref fr, .ref wr, .ref pf, .ref rc, .ref se, .ref rs, .ref sw, .ref sp, .ref ss, .int (zI ew), .long wc, .int (zI tr), .int (zI lf)])), (fr, .inr (0, [.ref k1, .ref k2, .ref k3, .int (zI fn)])), (k2, .inl (ck2, 4, .inl (upd fb (f).toNat (zI x))))] H := hP
      have hD : va_D A [(h0, .inr (8, [.ref sh, .ref rd, .ref fr, .ref wr, .ref pf, .ref rc, .ref se, .ref rs, .ref sw, .ref sp, .ref ss, .int (zI ew), .long wc, .int (zI tr), .int (zI lf)])), (fr, .inr (0, [.ref k1, .ref k2, .ref k3, .int (zI fn)])), (k2, .inl (ck2, 4, .inl (upd fb (f).toNat (zI x))))] := hD
      generalize ef_4 : upd fb (f).toNat (zI x) = f_4 at hP hD
      refine lv_iload_n hx hb dX8_width_46 rfl (lv_at hl 0 rfl) ?_
      have hP9 := hP.sub (ws' := [(h0, .inr (8, [.ref sh, .ref rd, .ref fr, .ref wr, .ref pf, .ref rc, .ref se, .ref rs, .ref sw, .ref sp, .ref ss, .int (zI ew), .long wc, .int (zI tr), .int (zI lf)])), (fr, .inr (0, [.ref k1, .ref k2, .ref k3, .int (zI fn)])), (k2, .inl (ck2, 4, .inl f_4))]) [0, 1, 2] rfl
      have hD9 := hD.sub (ws' := [(h0, .inr (8, [.ref sh, .ref rd, .ref fr, .ref wr, .ref pf, .ref rc, .ref se, .ref rs, .ref sw, .ref sp, .ref ss, .int (zI ew), .long wc, .int (zI tr), .int (zI lf)])), (fr, .inr (0, [.ref k1, .ref k2, .ref k3, .int (zI fn)])), (k2, .inl (ck2, 4, .inl f_4))]) [0, 1, 2] (by decide +kernel) rfl
      exact W.iret (v := (zI z_3)) hx hb hr (fun t ht hW => kQS_of (by omega) ⟨f_4, (Or.inr (Or.inr ⟨by omega, by omega, ez_3.symm, ef_4.symm⟩)), by rw [ht]; exact hP9, hD9⟩ (hS.F ht)) hS.2.2 dX8_width_47
    · have c_2 : ¬ (1 ≤ x ∧ x ≤ 9) := b01f c_2
      refine lv_bipush (v := zI (-2)) hx hb dX8_width_23 (by decide) ?_
      have hP9 := hP.sub (ws' := [(h0, .inr (8, [.ref sh, .ref rd, .ref fr, .ref wr, .ref pf, .ref rc, .ref se, .ref rs, .ref sw, .ref sp, .ref ss, .int (zI ew), .long wc, .int (zI tr), .int (zI lf)])), (fr, .inr (0, [.ref k1, .ref k2, .ref k3, .int (zI fn)])), (k2, .inl (ck2, 4, .inl fb))]) [0, 1, 2] rfl
      have hD9 := hD.sub (ws' := [(h0, .inr (8, [.ref sh, .ref rd, .ref fr, .ref wr, .ref pf, .ref rc, .ref se, .ref rs, .ref sw, .ref sp, .ref ss, .int (zI ew), .long wc, .int (zI tr), .int (zI lf)])), (fr, .inr (0, [.ref k1, .ref k2, .ref k3, .int (zI fn)])), (k2, .inl (ck2, 4, .inl fb))]) [0, 1, 2] (by decide +kernel) rfl
      exact W.iret (v := (zI (-2))) hx hb hr (fun t ht hW => kQS_of (by omega) ⟨fb, (Or.inr (Or.inl ⟨by omega, by omega, by omega, rfl⟩)), by rw [ht]; exact hP9, hD9⟩ (hS.F ht)) hS.2.2 dX8_width_25
  · have c_1 : ¬ (0 ≤ f ∧ f ≤ fn - 1) := b01f c_1
    refine lv_iconst (v := zI (-1)) hx hb dX8_width_11 rfl ?_
    have hP9 := hP.sub (ws' := [(h0, .inr (8, [.ref sh, .ref rd, .ref fr, .ref wr, .ref pf, .ref rc, .ref se, .ref rs, .ref sw, .ref sp, .ref ss, .int (zI ew), .long wc, .int (zI tr), .int (zI lf)])), (fr, .inr (0, [.ref k1, .ref k2, .ref k3, .int (zI fn)])), (k2, .inl (ck2, 4, .inl fb))]) [0, 1, 2] rfl
    have hD9 := hD.sub (ws' := [(h0, .inr (8, [.ref sh, .ref rd, .ref fr, .ref wr, .ref pf, .ref rc, .ref se, .ref rs, .ref sw, .ref sp, .ref ss, .int (zI ew), .long wc, .int (zI tr), .int (zI lf)])), (fr, .inr (0, [.ref k1, .ref k2, .ref k3, .int (zI fn)])), (k2, .inl (ck2, 4, .inl fb))]) [0, 1, 2] (by decide +kernel) rfl
    exact W.iret (v := (zI (-1))) hx hb hr (fun t ht hW => kQS_of (by omega) ⟨fb, (Or.inl ⟨by omega, by omega, rfl⟩), by rw [ht]; exact hP9, hD9⟩ (hS.F ht)) hS.2.2 dX8_width_12
theorem dX8_erase_0 : decode cX8_erase 0 = .ok (.iload_n 1, 1) := by decide +kernel
theorem dX8_erase_1 : decode cX8_erase 1 = .ok (.iconst 0, 1) := by decide +kernel
theorem dX8_erase_2 : decode cX8_erase 2 = .ok (.aload_n 0, 1) := by decide +kernel
theorem dX8_erase_3 : decode cX8_erase 3 = .ok (.getfield 35, 3) := by decide +kernel
theorem dX8_erase_6 : decode cX8_erase 6 = .ok (.getfield 139, 3) := by decide +kernel
theorem dX8_erase_9 : decode cX8_erase 9 = .ok (.invokestatic 128, 3) := by decide +kernel
theorem dX8_erase_12 : decode cX8_erase 12 = .ok (.ifCond .ne 6, 3) := by decide +kernel
theorem dX8_erase_15 : decode cX8_erase 15 = .ok (.bipush (-2), 2) := by decide +kernel
theorem dX8_erase_17 : decode cX8_erase 17 = .ok (.ireturn, 1) := by decide +kernel
theorem dX8_erase_18 : decode cX8_erase 18 = .ok (.aload_n 0, 1) := by decide +kernel
theorem dX8_erase_19 : decode cX8_erase 19 = .ok (.getfield 35, 3) := by decide +kernel
theorem dX8_erase_22 : decode cX8_erase 22 = .ok (.iload_n 1, 1) := by decide +kernel
theorem dX8_erase_23 : decode cX8_erase 23 = .ok (.invokevirtual 163, 3) := by decide +kernel
theorem dX8_erase_26 : decode cX8_erase 26 = .ok (.pop, 1) := by decide +kernel
theorem dX8_erase_27 : decode cX8_erase 27 = .ok (.aload_n 0, 1) := by decide +kernel
theorem dX8_erase_28 : decode cX8_erase 28 = .ok (.invokevirtual 146, 3) := by decide +kernel
theorem dX8_erase_31 : decode cX8_erase 31 = .ok (.aload_n 0, 1) := by decide +kernel
theorem dX8_erase_32 : decode cX8_erase 32 = .ok (.getfield 35, 3) := by decide +kernel
theorem dX8_erase_35 : decode cX8_erase 35 = .ok (.getfield 139, 3) := by decide +kernel
theorem dX8_erase_38 : decode cX8_erase 38 = .ok (.ireturn, 1) := by decide +kernel
set_option maxRecDepth 20000 in
theorem ggX8_erase_X7_drop : GoodIn wsX8_erase wsX7_drop := goodIn_r _ [11, 12, 4, 5, 6, 89, 90] (by decide +kernel) (by decide +kernel)
set_option maxRecDepth 20000 in
theorem gX8_erase_X7_drop : GoodIn wsX8_erase (wsV RX8 163 RX7 yX7_drop wsX7_drop) := goodIn_app (goodIn_of _ (by decide +kernel)) ggX8_erase_X7_drop
set_option maxRecDepth 20000 in
theorem ggX8_erase_X8_isWithin : GoodIn wsX8_erase wsX8_isWithin := goodIn_r _ [6] (by decide +kernel) (by decide +kernel)
set_option maxRecDepth 20000 in
theorem gX8_erase_X8_isWithin : GoodIn wsX8_erase (va_wsS RX8 128 yX8_isWithin wsX8_isWithin) := goodIn_app (goodIn_of _ (by decide +kernel)) ggX8_erase_X8_isWithin
set_option maxRecDepth 20000 in
theorem ggX8_erase_X8_settle : GoodIn wsX8_erase wsX8_settle := goodIn_r _ [16, 17, 1, 18, 19, 20, 21, 22, 23, 24, 25, 26, 27, 28, 29, 30, 31, 32, 33, 34, 35, 36, 37, 38, 39, 40, 41, 42, 43, 44, 45, 46, 47, 48, 49, 50, 51, 52, 53, 54, 55, 56, 57, 58, 59, 60, 61, 62, 63, 64, 65, 66, 67, 68, 69, 70, 71, 72, 73, 74, 75, 76, 77, 78, 79, 80, 81, 82, 83, 84, 85, 86, 87, 88, 91, 92, 93, 94, 95, 96, 97, 98, 99, 100, 101, 102, 103, 104, 89, 90, 105, 106] (by decide +kernel) (by decide +kernel)
set_option maxRecDepth 20000 in
theorem gX8_erase_X8_settle : GoodIn wsX8_erase (wsV RX8 146 RX8 yX8_settle wsX8_settle) := goodIn_app (goodIn_of _ (by decide +kernel)) ggX8_erase_X8_settle
set_option maxRecDepth 20000 in
theorem mw_X8_erase_0 : (.fieldLink RX8 35 "FontRuns" "writing" "LFontRuns$Writing;" : Cond) ∈ wsX8_erase := by decide +kernel
set_option maxRecDepth 20000 in
theorem mw_X8_erase_1 : (.fieldLink RX8 139 "FontRuns$Writing" "count" "I" : Cond) ∈ wsX8_erase := by decide +kernel
theorem ax_X8_erase_0 {e0 e1 e2 e3 e4 e5 e6 e7 e8 e9 e10 e11 e12 e13 e14 : Nat × va_E} {k : va_W} : ([] : List Nat).map (fun i => (([e0, e1, e2, e3, e4, e5, e6, e7, e8, e9, e10, e11, e12, e13, e14] : va_W) ++ k)[i]?) = ([] : va_W).map some := rfl
theorem ax_X8_erase_1 {e0 e1 e2 e3 e4 e5 e6 e7 e8 e9 e10 e11 e12 e13 e14 : Nat × va_E} {k : va_W} : ([9] : List Nat).map (fun i => (([e0, e1, e2, e3, e4, e5, e6, e7, e8, e9, e10, e11, e12, e13, e14] : va_W) ++ k)[i]?) = ([e9] : va_W).map some := rfl
theorem ax_X8_erase_2 {e0 e1 e2 e3 e4 e5 e6 e7 e8 e9 e10 e11 e12 e13 e14 : Nat × va_E} : ([9] : List Nat).map (fun i => ([e0, e1, e2, e3, e4, e5, e6, e7, e8, e9, e10, e11, e12, e13, e14] : va_W)[i]?) = ([e9] : va_W).map some := rfl
theorem ax_X8_erase_3 {e0 e1 e2 e3 e4 e5 e6 e7 e8 e9 e10 e11 e12 e13 e14 : Nat × va_E} : ([0, 1, 2, 3, 4, 5, 6, 7, 8, 10, 11, 12, 13, 14] : List Nat).map (fun i => ([e0, e1, e2, e3, e4, e5, e6, e7, e8, e9, e10, e11, e12, e13, e14] : va_W)[i]?) = ([e0, e1, e2, e3, e4, e5, e6, e7, e8, e10, e11, e12, e13, e14] : va_W).map some := rfl
theorem ax_X8_erase_4 {D : va_G} {cl : List vw_C} {H : Heap} {e0 e1 e2 e3 e4 e5 e6 e7 e8 e9 e10 e11 e12 e13 f0 : Nat × va_E} {k : va_W} (h : va_P D cl ((([e0, e1, e2, e3, e4, e5, e6, e7, e8, e9, e10, e11, e12, e13] : va_W) ++ ([f0] : va_W)) ++ k) H) : va_P D cl (([e0, e1, e2, e3, e4, e5, e6, e7, e8, e9, e10, e11, e12, e13, f0] : va_W) ++ k) H := h
theorem ax_X8_erase_5 {A : Nat → Prop} {e0 e1 e2 e3 e4 e5 e6 e7 e8 e9 e10 e11 e12 e13 f0 : Nat × va_E} {k : va_W} (h : va_D A ((([e0, e1, e2, e3, e4, e5, e6, e7, e8, e9, e10, e11, e12, e13] : va_W) ++ ([f0] : va_W)) ++ k)) : va_D A (([e0, e1, e2, e3, e4, e5, e6, e7, e8, e9, e10, e11, e12, e13, f0] : va_W) ++ k) := h
theorem ax_X8_erase_6 {e0 e1 e2 e3 e4 e5 e6 e7 e8 e9 e10 e11 e12 e13 e14 : Nat × va_E} : ([0, 1, 2, 3, 4, 5, 6, 7, 8, 14, 9, 10, 11, 12, 13] : List Nat).map (fun i => ([e0, e1, e2, e3, e4, e5, e6, e7, e8, e9, e10, e11, e12, e13, e14] : va_W)[i]?) = ([e0, e1, e2, e3, e4, e5, e6, e7, e8, e14, e9, e10, e11, e12, e13] : va_W).map some := rfl
theorem ax_X8_erase_7 {e0 e1 e2 e3 e4 e5 e6 e7 e8 e9 e10 e11 e12 e13 e14 : Nat × va_E} : ([] : List Nat).map (fun i => ([e0, e1, e2, e3, e4, e5, e6, e7, e8, e9, e10, e11, e12, e13, e14] : va_W)[i]?) = ([] : va_W).map some := rfl
theorem ax_X8_erase_8 {D : va_G} {cl : List vw_C} {H : Heap} {f0 f1 f2 f3 f4 f5 f6 f7 f8 f9 f10 f11 f12 f13 f14 : Nat × va_E} {k : va_W} (h : va_P D cl ((([] : va_W) ++ ([f0, f1, f2, f3, f4, f5, f6, f7, f8, f9, f10, f11, f12, f13, f14] : va_W)) ++ k) H) : va_P D cl (([f0, f1, f2, f3, f4, f5, f6, f7, f8, f9, f10, f11, f12, f13, f14] : va_W) ++ k) H := h
theorem ax_X8_erase_9 {A : Nat → Prop} {f0 f1 f2 f3 f4 f5 f6 f7 f8 f9 f10 f11 f12 f13 f14 : Nat × va_E} {k : va_W} (h : va_D A ((([] : va_W) ++ ([f0, f1, f2, f3, f4, f5, f6, f7, f8, f9, f10, f11, f12, f13, f14] : va_W)) ++ k)) : va_D A (([f0, f1, f2, f3, f4, f5, f6, f7, f8, f9, f10, f11, f12, f13, f14] : va_W) ++ k) := h
theorem ax_X8_erase_10 {e0 e1 e2 e3 e4 e5 e6 e7 e8 e9 e10 e11 e12 e13 e14 : Nat × va_E} : ([0, 1, 2, 3, 4, 5, 6, 7, 8, 9, 10, 11, 12, 13, 14] : List Nat).map (fun i => ([e0, e1, e2, e3, e4, e5, e6, e7, e8, e9, e10, e11, e12, e13, e14] : va_W)[i]?) = ([e0, e1, e2, e3, e4, e5, e6, e7, e8, e9, e10, e11, e12, e13, e14] : va_W).map some := rfl
set_option maxHeartbeats 4000000 in
set_option maxRecDepth 100000 in
theorem c_X8_erase (l : Launch) (D : va_G) (sz : Nat) (x : Int) (h0 : Nat) (sh : Nat) (rd : Nat) (fr : Nat) (wr : Nat) (pf : Nat) (rc : Nat) (se : Nat) (rs : Nat) (sw : Nat) (sp : Nat) (ss : Nat) (ew : Int) (wc : Int64) (tr : Int) (lf : Int) (g1 : Nat) (g2 : Nat) (g3 : Nat) (g4 : Nat) (g5 : Nat) (cn : Int) (bo : Int) (ru : Int) (g6 : Nat) (g7 : Nat) (cg1 : ClassId) (f1 : Nat → Int32) (cg2 : ClassId) (f2 : Nat → Int32) (cg3 : ClassId) (f3 : Nat → Int32) (cg4 : ClassId) (f4 : Nat → Int32) (cg5 : ClassId) (f5 : Nat → Int32) (cg6 : ClassId) (f6 : Nat → Int32) (cg7 : ClassId) (fo : Nat → Option Nat) (o : Nat) (w1 : Nat) (wn : Int) (cw1 : ClassId) (fw : Nat → Int32) (k1 : Nat) (k2 : Nat) (k3 : Nat) (fn : Int) (ck3 : ClassId) (fh : Nat → Int32) (p1 : Nat) (pn : Int) (cp1 : ClassId) (fp : Nat → Int32) (pr : Nat → Nat) (gp : Nat → Nat → Int32) (cy : ClassId) (q0 : rg x) (q1 : 0 ≤ cn ∧ cn ≤ 24) (q2 : 0 ≤ bo ∧ bo ≤ 24) (q3 : 0 ≤ ru ∧ ru ≤ cn) (q4 : kOut fo pr o 24) (q5 : o + 24 ≤ 56) (q6 : 0 ≤ wn ∧ wn ≤ 24) (q7 : 0 ≤ fn ∧ fn ≤ 4) (q8 : 0 ≤ pn ∧ pn ≤ 4) (q9 : kPr fp) : Met l yX8_erase wsX8_erase ({ frames := 4, cells := 0, slots := 0, locals := 95 }) (kPre [.ref h0, .int (zI x)] D (([(h0, .inr (8, [.ref sh, .ref rd, .ref fr, .ref wr, .ref pf, .ref rc, .ref se, .ref rs, .ref sw, .ref sp, .ref ss, .int (zI ew), .long wc, .int (zI tr), .int (zI lf)])), (se, .inr (4, [.ref g1, .ref g2, .ref g3, .ref g4, .ref g5, .int (zI cn), .int (zI bo), .int (zI ru), .ref g6, .ref g7])), (g1, .inl (cg1, 24, .inl f1)), (g2, .inl (cg2, 24, .inl f2)), (g3, .inl (cg3, 24, .inl f3)), (g4, .inl (cg4, 24, .inl f4)), (g5, .inl (cg5, 24, .inl f5)), (g6, .inl (cg6, 24, .inl f6)), (g7, .inl (cg7, 24, .inr (.inr (.inr (.inr (fo)))))), (wr, .inr (7, [.ref w1, .int (zI wn)])), (w1, .inl (cw1, 24, .inl fw)), (fr, .inr (0, [.ref k1, .ref k2, .ref k3, .int (zI fn)])), (k3, .inl (ck3, 4, .inl fh)), (pf, .inr (1, [.ref p1, .int (zI pn)])), (p1, .inl (cp1, 4, .inl fp))] : va_W) ++ kRows pr gp cy) [(cg1, .int), (cg2, .int), (cg3, .int), (cg4, .int), (cg5, .int), (cg6, .int), (cg7, .array .int), (cw1, .int), (ck3, .int), (cp1, .int), (cy, .int)] sz) (kQS (fun rz t => ∃ (u_wn : Int) (u_cn : Int) (u_bo : Int) (u_ru : Int) (u_f1 : Nat → Int32) (u_f2 : Nat → Int32) (u_f3 : Nat → Int32) (u_f4 : Nat → Int32) (u_f5 : Nat → Int32) (u_f6 : Nat → Int32) (u_gp : Nat → Nat → Int32), (0 ≤ u_cn ∧ u_cn ≤ 24) ∧ (0 ≤ u_bo ∧ u_bo ≤ 24) ∧ (0 ≤ u_ru ∧ u_ru ≤ u_cn) ∧ (0 ≤ u_wn ∧ u_wn ≤ 24) ∧ (((0 ≤ x ∧ x ≤ wn) ∧ rz = wn - x ∧ u_wn = wn - x) ∨ (¬ (0 ≤ x ∧ x ≤ wn) ∧ rz = -2 ∧ u_wn = wn)) ∧ va_P D vwCl (([(h0, .inr (8, [.ref sh, .ref rd, .ref fr, .ref wr, .ref pf, .ref rc, .ref se, .ref rs, .ref sw, .ref sp, .ref ss, .int (zI ew), .long wc, .int (zI tr), .int (zI lf)])), (se, .inr (4, [.ref g1, .ref g2, .ref g3, .ref g4, .ref g5, .int (zI u_cn), .int (zI u_bo), .int (zI u_ru), .ref g6, .ref g7])), (g1, .inl (cg1, 24, .inl u_f1)), (g2, .inl (cg2, 24, .inl u_f2)), (g3, .inl (cg3, 24, .inl u_f3)), (g4, .inl (cg4, 24, .inl u_f4)), (g5, .inl (cg5, 24, .inl u_f5)), (g6, .inl (cg6, 24, .inl u_f6)), (g7, .inl (cg7, 24, .inr (.inr (.inr (.inr (fo)))))), (wr, .inr (7, [.ref w1, .int (zI u_wn)])), (w1, .inl (cw1, 24, .inl fw)), (fr, .inr (0, [.ref k1, .ref k2, .ref k3, .int (zI fn)])), (k3, .inl (ck3, 4, .inl fh)), (pf, .inr (1, [.ref p1, .int (zI pn)])), (p1, .inl (cp1, 4, .inl fp))] : va_W) ++ kRows pr u_gp cy) t.heap ∧ va_D (va_A (([(h0, .inr (8, [.ref sh, .ref rd, .ref fr, .ref wr, .ref pf, .ref rc, .ref se, .ref rs, .ref sw, .ref sp, .ref ss, .int (zI ew), .long wc, .int (zI tr), .int (zI lf)])), (se, .inr (4, [.ref g1, .ref g2, .ref g3, .ref g4, .ref g5, .int (zI cn), .int (zI bo), .int (zI ru), .ref g6, .ref g7])), (g1, .inl (cg1, 24, .inl f1)), (g2, .inl (cg2, 24, .inl f2)), (g3, .inl (cg3, 24, .inl f3)), (g4, .inl (cg4, 24, .inl f4)), (g5, .inl (cg5, 24, .inl f5)), (g6, .inl (cg6, 24, .inl f6)), (g7, .inl (cg7, 24, .inr (.inr (.inr (.inr (fo)))))), (wr, .inr (7, [.ref w1, .int (zI wn)])), (w1, .inl (cw1, 24, .inl fw)), (fr, .inr (0, [.ref k1, .ref k2, .ref k3, .int (zI fn)])), (k3, .inl (ck3, 4, .inl fh)), (pf, .inr (1, [.ref p1, .int (zI pn)])), (p1, .inl (cp1, 4, .inl fp))] : va_W) ++ kRows pr gp cy) sz) (([(h0, .inr (8, [.ref sh, .ref rd, .ref fr, .ref wr, .ref pf, .ref rc, .ref se, .ref rs, .ref sw, .ref sp, .ref ss, .int (zI ew), .long wc, .int (zI tr), .int (zI lf)])), (se, .inr (4, [.ref g1, .ref g2, .ref g3, .ref g4, .ref g5, .int (zI u_cn), .int (zI u_bo), .int (zI u_ru), .ref g6, .ref g7])), (g1, .inl (cg1, 24, .inl u_f1)), (g2, .inl (cg2, 24, .inl u_f2)), (g3, .inl (cg3, 24, .inl u_f3)), (g4, .inl (cg4, 24, .inl u_f4)), (g5, .inl (cg5, 24, .inl u_f5)), (g6, .inl (cg6, 24, .inl u_f6)), (g7, .inl (cg7, 24, .inr (.inr (.inr (.inr (fo)))))), (wr, .inr (7, [.ref w1, .int (zI u_wn)])), (w1, .inl (cw1, 24, .inl fw)), (fr, .inr (0, [.ref k1, .ref k2, .ref k3, .int (zI fn)])), (k3, .inl (ck3, 4, .inl fh)), (pf, .inr (1, [.ref p1, .int (zI pn)])), (p1, .inl (cp1, 4, .inl fp))] : va_W) ++ kRows pr u_gp cy)) (va_A (([(h0, .inr (8, [.ref sh, .ref rd, .ref fr, .ref wr, .ref pf, .ref rc, .ref se, .ref rs, .ref sw, .ref sp, .ref ss, .int (zI ew), .long wc, .int (zI tr), .int (zI lf)])), (se, .inr (4, [.ref g1, .ref g2, .ref g3, .ref g4, .ref g5, .int (zI cn), .int (zI bo), .int (zI ru), .ref g6, .ref g7])), (g1, .inl (cg1, 24, .inl f1)), (g2, .inl (cg2, 24, .inl f2)), (g3, .inl (cg3, 24, .inl f3)), (g4, .inl (cg4, 24, .inl f4)), (g5, .inl (cg5, 24, .inl f5)), (g6, .inl (cg6, 24, .inl f6)), (g7, .inl (cg7, 24, .inr (.inr (.inr (.inr (fo)))))), (wr, .inr (7, [.ref w1, .int (zI wn)])), (w1, .inl (cw1, 24, .inl fw)), (fr, .inr (0, [.ref k1, .ref k2, .ref k3, .int (zI fn)])), (k3, .inl (ck3, 4, .inl fh)), (pf, .inr (1, [.ref p1, .int (zI pn)])), (p1, .inl (cp1, 4, .inl fp))] : va_W) ++ kRows pr gp cy) sz)) 0 0 (va_A (([(h0, .inr (8, [.ref sh, .ref rd, .ref fr, .ref wr, .ref pf, .ref rc, .ref se, .ref rs, .ref sw, .ref sp, .ref ss, .int (zI ew), .long wc, .int (zI tr), .int (zI lf)])), (se, .inr (4, [.ref g1, .ref g2, .ref g3, .ref g4, .ref g5, .int (zI cn), .int (zI bo), .int (zI ru), .ref g6, .ref g7])), (g1, .inl (cg1, 24, .inl f1)), (g2, .inl (cg2, 24, .inl f2)), (g3, .inl (cg3, 24, .inl f3)), (g4, .inl (cg4, 24, .inl f4)), (g5, .inl (cg5, 24, .inl f5)), (g6, .inl (cg6, 24, .inl f6)), (g7, .inl (cg7, 24, .inr (.inr (.inr (.inr (fo)))))), (wr, .inr (7, [.ref w1, .int (zI wn)])), (w1, .inl (cw1, 24, .inl fw)), (fr, .inr (0, [.ref k1, .ref k2, .ref k3, .int (zI fn)])), (k3, .inl (ck3, 4, .inl fh)), (pf, .inr (1, [.ref p1, .int (zI pn)])), (p1, .inl (cp1, 4, .inl fp))] : va_W) ++ kRows pr gp cy) sz) := by
  refine Met.ofW (cc := cX8_erase) (maxL := 2) (ret := (some .int)) (by decide) rfl ?_
  intro p e s m args below meth c s₁ B hml hv
  obtain ⟨rfl, hsz, hP, hK, hD0, hN⟩ := hv
  have hx := B.exec
  have hb := B.bytes
  have hr := B.returns
  have hts := atoms_spec (ws := wsX8_erase) B.pre
  have hown : s.vm.findClass RX8 = some m.cls := findClass_of_methodNamed B.named
  have hlocks := B.notSynchronized
  subst hsz
  have hD := hD0.self (sz := s.heap.size)
  generalize hAe : va_A (([(h0, .inr (8, [.ref sh, .ref rd, .ref fr, .ref wr, .ref pf, .ref rc, .ref se, .ref rs, .ref sw, .ref sp, .ref ss, .int (zI ew), .long wc, .int (zI tr), .int (zI lf)])), (se, .inr (4, [.ref g1, .ref g2, .ref g3, .ref g4, .ref g5, .int (zI cn), .int (zI bo), .int (zI ru), .ref g6, .ref g7])), (g1, .inl (cg1, 24, .inl f1)), (g2, .inl (cg2, 24, .inl f2)), (g3, .inl (cg3, 24, .inl f3)), (g4, .inl (cg4, 24, .inl f4)), (g5, .inl (cg5, 24, .inl f5)), (g6, .inl (cg6, 24, .inl f6)), (g7, .inl (cg7, 24, .inr (.inr (.inr (.inr (fo)))))), (wr, .inr (7, [.ref w1, .int (zI wn)])), (w1, .inl (cw1, 24, .inl fw)), (fr, .inr (0, [.ref k1, .ref k2, .ref k3, .int (zI fn)])), (k3, .inl (ck3, 4, .inl fh)), (pf, .inr (1, [.ref p1, .int (zI pn)])), (p1, .inl (cp1, 4, .inl fp))] : va_W) ++ kRows pr gp cy) s.heap.size = A at hD ⊢
  have hA : ∀ q : Nat, s.heap.size ≤ q → A q := fun q h => by rw [← hAe]; exact Or.inr h
  have hS : va_S A s.heap s.heap [] := va_S.rf
  have hP : va_P D vwCl (([(h0, .inr (8, [.ref sh, .ref rd, .ref fr, .ref wr, .ref pf, .ref rc, .ref se, .ref rs, .ref sw, .ref sp, .ref ss, .int (zI ew), .long wc, .int (zI tr), .int (zI lf)])), (se, .inr (4, [.ref g1, .ref g2, .ref g3, .ref g4, .ref g5, .int (zI cn), .int (zI bo), .int (zI ru), .ref g6, .ref g7])), (g1, .inl (cg1, 24, .inl f1)), (g2, .inl (cg2, 24, .inl f2)), (g3, .inl (cg3, 24, .inl f3)), (g4, .inl (cg4, 24, .inl f4)), (g5, .inl (cg5, 24, .inl f5)), (g6, .inl (cg6, 24, .inl f6)), (g7, .inl (cg7, 24, .inr (.inr (.inr (.inr (fo)))))), (wr, .inr (7, [.ref w1, .int (zI wn)])), (w1, .inl (cw1, 24, .inl fw)), (fr, .inr (0, [.ref k1, .ref k2, .ref k3, .int (zI fn)])), (k3, .inl (ck3, 4, .inl fh)), (pf, .inr (1, [.ref p1, .int (zI pn)])), (p1, .inl (cp1, 4, .inl fp))] : va_W) ++ kRows pr gp cy) s.heap := hP
  have hl := lv_entry ([.ref h0, .int (zI x)]) (n := 2) (Nat.le_of_ble_eq_true rfl)
  rw [lg_entry_eq]
  generalize (lg_sl ([.ref h0, .int (zI x)]) ++ List.replicate (2 - (lg_sl ([.ref h0, .int (zI x)])).length) Slot.unset).toArray = ls at hl ⊢
  have hl : lv_has ls 2 [(0, .ref h0), (1, .int (zI x))] := hl
  refine lv_iload_n hx hb dX8_erase_0 rfl (lv_at hl 1 rfl) ?_
  refine lv_iconst (v := zI 0) hx hb dX8_erase_1 rfl ?_
  refine lv_aload_n hx hb dX8_erase_2 rfl (lv_at hl 0 rfl) ?_
  refine va_get (D := D) (ci := 8) (v := .ref wr) (C := RX8) (T := TX8) (N := 15) hx hb hts (fun _ h9 => List.mem_cons_of_mem _ (List.mem_append_left _ (List.mem_append_left _ (List.mem_append_left _ (List.mem_append_left _ (List.mem_append_right _ h9)))))) hown hK hP 0 rfl rfl 3 (by decide) (hts (.fieldLink RX8 35 "FontRuns" "writing" "LFontRuns$Writing;") mw_X8_erase_0) (fun _ h9 => h9) rfl dX8_erase_3 ?_
  refine va_get (D := D) (ci := 7) (v := .int (zI wn)) (C := RX7) (T := TX7) (N := 2) hx hb hts (fun _ h9 => List.mem_cons_of_mem _ (List.mem_append_left _ (List.mem_append_left _ (List.mem_append_left _ (List.mem_append_right _ h9))))) hown hK hP 9 rfl rfl 1 (by decide) (hts (.fieldLink RX8 139 "FontRuns$Writing" "count" "I") mw_X8_erase_1) (fun _ h9 => h9) rfl dX8_erase_6 ?_
  refine k_callR (va_runS (As := [.int (zI x), .int (zI 0), .int (zI wn)]) (rest := []) ⟨hx, hb, hml, hown, hts⟩ (c_X8_isWithin l D s.heap.size (v := x) (a := 0) (b := wn) q0 (by omega) (by omega)) (va_cwS 3 hts gX8_erase_X8_isWithin rfl rfl rfl (by decide +kernel) ⟨Nat.le_of_ble_eq_true rfl, Nat.le_of_ble_eq_true rfl⟩) (kPreS hP (kD0 hD) hK hN [] [] ax_X8_erase_0 rfl (by decide +kernel)) rfl rfl hl.1 rfl (lv_room (Nat.le_of_ble_eq_true rfl)) dX8_erase_9 ⟨Nat.le_of_ble_eq_true rfl, Nat.le_of_ble_eq_true rfl⟩) ?_
  refine lv_if_ne (tgt := 18) hx hb dX8_erase_12 (by decide) (fun c_1 => ?_) (fun c_1 => ?_)
  · have c_1 : 0 ≤ x ∧ x ≤ wn := b01t c_1
    refine lv_aload_n hx hb dX8_erase_18 rfl (lv_at hl 0 rfl) ?_
    refine va_get (D := D) (ci := 8) (v := .ref wr) (C := RX8) (T := TX8) (N := 15) hx hb hts (fun _ h9 => List.mem_cons_of_mem _ (List.mem_append_left _ (List.mem_append_left _ (List.mem_append_left _ (List.mem_append_left _ (List.mem_append_right _ h9)))))) hown hK hP 0 rfl rfl 3 (by decide) (hts (.fieldLink RX8 35 "FontRuns" "writing" "LFontRuns$Writing;") mw_X8_erase_0) (fun _ h9 => h9) rfl dX8_erase_19 ?_
    refine lv_iload_n hx hb dX8_erase_22 rfl (lv_at hl 1 rfl) ?_
    have hFc := va_free (wc := [(wr, .inr (7, [.ref w1, .int (zI wn)]))]) hD hS hA [9] ax_X8_erase_1
    refine va_calli (va_runV (As := [.int (zI x)]) (rest := []) ⟨hx, hb, hml, hown, hts⟩ (c_X7_drop_w l D s.heap.size (x := x) (h0 := wr) (r1 := w1) (n := wn) q0 q6) (cwV 1 hts gX8_erase_X7_drop rfl rfl rfl (by decide +kernel) ⟨Nat.le_of_ble_eq_true rfl, Nat.le_of_ble_eq_true rfl⟩) (kPreV hP (kD0 hD) hK hN [9] [] ax_X8_erase_1 rfl (by decide +kernel) 9 7 rfl rfl) rfl rfl hl.1 rfl (lv_room (Nat.le_of_ble_eq_true rfl)) dX8_erase_23 ⟨Nat.le_of_ble_eq_true rfl, Nat.le_of_ble_eq_true rfl⟩) hS (fun q _ h => hFc q h) hFc (fun r u t H1 locs ht hvm hw hB hz1 hk1 hS => ?_)
    obtain ⟨z_3, e9⟩ : ∃ z, z = u := ⟨_, rfl⟩
    subst e9
    obtain ⟨rfl, rz_3⟩ := hw
    refine Exists.elim hB (fun un_2 hB1 => ?_)
    have h_4 := hB1.1
    have h_5 := hB1.2.1
    have h_6 := hB1.2.2.1
    have hP1 := hB1.2.2.2.1
    have hD1 := hB1.2.2.2.2
    clear hB hB1
    rw [ht] at hP1
    obtain ⟨hP, hD⟩ := va_joinQ (X := [(h0, .inr (8, [.ref sh, .ref rd, .ref fr, .ref wr, .ref pf, .ref rc, .ref se, .ref rs, .ref sw, .ref sp, .ref ss, .int (zI ew), .long wc, .int (zI tr), .int (zI lf)])), (se, .inr (4, [.ref g1, .ref g2, .ref g3, .ref g4, .ref g5, .int (zI cn), .int (zI bo), .int (zI ru), .ref g6, .ref g7])), (g1, .inl (cg1, 24, .inl f1)), (g2, .inl (cg2, 24, .inl f2)), (g3, .inl (cg3, 24, .inl f3)), (g4, .inl (cg4, 24, .inl f4)), (g5, .inl (cg5, 24, .inl f5)), (g6, .inl (cg6, 24, .inl f6)), (g7, .inl (cg7, 24, .inr (.inr (.inr (.inr (fo)))))), (wr, .inr (7, [.ref w1, .int (zI wn)])), (w1, .inl (cw1, 24, .inl fw)), (fr, .inr (0, [.ref k1, .ref k2, .ref k3, .int (zI fn)])), (k3, .inl (ck3, 4, .inl fh)), (pf, .inr (1, [.ref p1, .int (zI pn)])), (p1, .inl (cp1, 4, .inl fp))]) (wr := [(h0, .inr (8, [.ref sh, .ref rd, .ref fr, .ref wr, .ref pf, .ref rc, .ref se, .ref rs, .ref sw, .ref sp, .ref ss, .int (zI ew), .long wc, .int (zI tr), .int (zI lf)])), (se, .inr (4, [.ref g1, .ref g2, .ref g3, .ref g4, .ref g5, .int (zI cn), .int (zI bo), .int (zI ru), .ref g6, .ref g7])), (g1, .inl (cg1, 24, .inl f1)), (g2, .inl (cg2, 24, .inl f2)), (g3, .inl (cg3, 24, .inl f3)), (g4, .inl (cg4, 24, .inl f4)), (g5, .inl (cg5, 24, .inl f5)), (g6, .inl (cg6, 24, .inl f6)), (g7, .inl (cg7, 24, .inr (.inr (.inr (.inr (fo)))))), (w1, .inl (cw1, 24, .inl fw)), (fr, .inr (0, [.ref k1, .ref k2, .ref k3, .int (zI fn)])), (k3, .inl (ck3, 4, .inl fh)), (pf, .inr (1, [.ref p1, .int (zI pn)])), (p1, .inl (cp1, 4, .inl fp))]) (w1 := [(wr, .inr (7, [.ref w1, .int (zI un_2)]))]) hP hD [9] [0, 1, 2, 3, 4, 5, 6, 7, 8, 10, 11, 12, 13, 14] ax_X8_erase_2 ax_X8_erase_3 (by decide +kernel) (by decide +kernel) hk1 hFc hP1 hD1
    have hP := ax_X8_erase_4 hP
    have hD := ax_X8_erase_5 hD
    generalize H1 = H at hP hS ⊢
    have hP : va_P D vwCl (([(h0, .inr (8, [.ref sh, .ref rd, .ref fr, .ref wr, .ref pf, .ref rc, .ref se, .ref rs, .ref sw, .ref sp, .ref ss, .int (zI ew), .long wc, .int (zI tr), .int (zI lf)])), (se, .inr (4, [.ref g1, .ref g2, .ref g3, .ref g4, .ref g5, .int (zI cn), .int (zI bo), .int (zI ru), .ref g6, .ref g7])), (g1, .inl (cg1, 24, .inl f1)), (g2, .inl (cg2, 24, .inl f2)), (g3, .inl (cg3, 24, .inl f3)), (g4, .inl (cg4, 24, .inl f4)), (g5, .inl (cg5, 24, .inl f5)), (g6, .inl (cg6, 24, .inl f6)), (g7, .inl (cg7, 24, .inr (.inr (.inr (.inr (fo)))))), (w1, .inl (cw1, 24, .inl fw)), (fr, .inr (0, [.ref k1, .ref k2, .ref k3, .int (zI fn)])), (k3, .inl (ck3, 4, .inl fh)), (pf, .inr (1, [.ref p1, .int (zI pn)])), (p1, .inl (cp1, 4, .inl fp)), (wr, .inr (7, [.ref w1, .int (zI un_2)]))] : va_W) ++ kRows pr gp cy) H := hP
    have hD : va_D A (([(h0, .inr (8, [.ref sh, .ref rd, .ref fr, .ref wr, .ref pf, .ref rc, .ref se, .ref rs, .ref sw, .ref sp, .ref ss, .int (zI ew), .long wc, .int (zI tr), .int (zI lf)])), (se, .inr (4, [.ref g1, .ref g2, .ref g3, .ref g4, .ref g5, .int (zI cn), .int (zI bo), .int (zI ru), .ref g6, .ref g7])), (g1, .inl (cg1, 24, .inl f1)), (g2, .inl (cg2, 24, .inl f2)), (g3, .inl (cg3, 24, .inl f3)), (g4, .inl (cg4, 24, .inl f4)), (g5, .inl (cg5, 24, .inl f5)), (g6, .inl (cg6, 24, .inl f6)), (g7, .inl (cg7, 24, .inr (.inr (.inr (.inr (fo)))))), (w1, .inl (cw1, 24, .inl fw)), (fr, .inr (0, [.ref k1, .ref k2, .ref k3, .int (zI fn)])), (k3, .inl (ck3, 4, .inl fh)), (pf, .inr (1, [.ref p1, .int (zI pn)])), (p1, .inl (cp1, 4, .inl fp)), (wr, .inr (7, [.ref w1, .int (zI un_2)]))] : va_W) ++ kRows pr gp cy) := hD
    refine lv_pop hx hb dX8_erase_26 rfl ?_
    refine lv_aload_n hx hb dX8_erase_27 rfl (lv_at hl 0 rfl) ?_
    have hFc := va_freeP (cx := [(h0, .inr (8, [.ref sh, .ref rd, .ref fr, .ref wr, .ref pf, .ref rc, .ref se, .ref rs, .ref sw, .ref sp, .ref ss, .int (zI ew), .long wc, .int (zI tr), .int (zI lf)])), (se, .inr (4, [.ref g1, .ref g2, .ref g3, .ref g4, .ref g5, .int (zI cn), .int (zI bo), .int (zI ru), .ref g6, .ref g7])), (g1, .inl (cg1, 24, .inl f1)), (g2, .inl (cg2, 24, .inl f2)), (g3, .inl (cg3, 24, .inl f3)), (g4, .inl (cg4, 24, .inl f4)), (g5, .inl (cg5, 24, .inl f5)), (g6, .inl (cg6, 24, .inl f6)), (g7, .inl (cg7, 24, .inr (.inr (.inr (.inr (fo)))))), (wr, .inr (7, [.ref w1, .int (zI un_2)])), (w1, .inl (cw1, 24, .inl fw)), (fr, .inr (0, [.ref k1, .ref k2, .ref k3, .int (zI fn)])), (k3, .inl (ck3, 4, .inl fh)), (pf, .inr (1, [.ref p1, .int (zI pn)])), (p1, .inl (cp1, 4, .inl fp))]) hD hS hA [0, 1, 2, 3, 4, 5, 6, 7, 8, 14, 9, 10, 11, 12, 13] ax_X8_erase_6
    refine va_callv (va_runV (As := []) (rest := []) ⟨hx, hb, hml, hown, hts⟩ (c_X8_settle l D H.size (h0 := h0) (sh := sh) (rd := rd) (fr := fr) (wr := wr) (pf := pf) (rc := rc) (se := se) (rs := rs) (sw := sw) (sp := sp) (ss := ss) (ew := ew) (wc := wc) (tr := tr) (lf := lf) (g1 := g1) (g2 := g2) (g3 := g3) (g4 := g4) (g5 := g5) (cn := cn) (bo := bo) (ru := ru) (g6 := g6) (g7 := g7) (cg1 := cg1) (f1 := f1) (cg2 := cg2) (f2 := f2) (cg3 := cg3) (f3 := f3) (cg4 := cg4) (f4 := f4) (cg5 := cg5) (f5 := f5) (cg6 := cg6) (f6 := f6) (cg7 := cg7) (fo := fo) (o := o) (w1 := w1) (wn := un_2) (cw1 := cw1) (fw := fw) (k1 := k1) (k2 := k2) (k3 := k3) (fn := fn) (ck3 := ck3) (fh := fh) (p1 := p1) (pn := pn) (cp1 := cp1) (fp := fp) (pr := pr) (gp := gp) (cy := cy) h_4 q7 q8 q9 q4 q5) (cwV 0 hts gX8_erase_X8_settle rfl rfl rfl (by decide +kernel) ⟨Nat.le_of_ble_eq_true rfl, Nat.le_of_ble_eq_true rfl⟩) (kPreVP hP (kD0 hD) hK hN [0, 1, 2, 3, 4, 5, 6, 7, 8, 14, 9, 10, 11, 12, 13] [0, 1, 2, 3, 4, 5, 6, 7, 8, 9, 10] ax_X8_erase_6 rfl (by decide +kernel) 0 8 rfl rfl) rfl rfl hl.1 rfl (lv_room (Nat.le_of_ble_eq_true rfl)) dX8_erase_28 ⟨Nat.le_of_ble_eq_true rfl, Nat.le_of_ble_eq_true rfl⟩) hS (fun q _ h => hFc q h) hFc (fun u t H1 locs ht hvm hw hB hz1 hk1 hS => ?_)
    refine Exists.elim hB (fun uc_7 hB1 => Exists.elim hB1 (fun ub_8 hB2 => Exists.elim hB2 (fun ur_9 hB3 => Exists.elim hB3 (fun v1_10 hB4 => Exists.elim hB4 (fun v2_11 hB5 => Exists.elim hB5 (fun v3_12 hB6 => Exists.elim hB6 (fun v4_13 hB7 => Exists.elim hB7 (fun v5_14 hB8 => Exists.elim hB8 (fun v6_15 hB9 => Exists.elim hB9 (fun ug_16 hB10 => ?_))))))))))
    have h_17 := hB10.1
    have h_18 := hB10.2.1
    have h_19 := hB10.2.2.1
    have hP1 := hB10.2.2.2.1
    have hD1 := hB10.2.2.2.2
    clear hB hB1 hB2 hB3 hB4 hB5 hB6 hB7 hB8 hB9 hB10
    rw [ht] at hP1
    obtain ⟨hP, hD⟩ := va_joinP (X := [(h0, .inr (8, [.ref sh, .ref rd, .ref fr, .ref wr, .ref pf, .ref rc, .ref se, .ref rs, .ref sw, .ref sp, .ref ss, .int (zI ew), .long wc, .int (zI tr), .int (zI lf)])), (se, .inr (4, [.ref g1, .ref g2, .ref g3, .ref g4, .ref g5, .int (zI cn), .int (zI bo), .int (zI ru), .ref g6, .ref g7])), (g1, .inl (cg1, 24, .inl f1)), (g2, .inl (cg2, 24, .inl f2)), (g3, .inl (cg3, 24, .inl f3)), (g4, .inl (cg4, 24, .inl f4)), (g5, .inl (cg5, 24, .inl f5)), (g6, .inl (cg6, 24, .inl f6)), (g7, .inl (cg7, 24, .inr (.inr (.inr (.inr (fo)))))), (w1, .inl (cw1, 24, .inl fw)), (fr, .inr (0, [.ref k1, .ref k2, .ref k3, .int (zI fn)])), (k3, .inl (ck3, 4, .inl fh)), (pf, .inr (1, [.ref p1, .int (zI pn)])), (p1, .inl (cp1, 4, .inl fp)), (wr, .inr (7, [.ref w1, .int (zI un_2)]))]) (wr := []) (rx := [(h0, .inr (8, [.ref sh, .ref rd, .ref fr, .ref wr, .ref pf, .ref rc, .ref se, .ref rs, .ref sw, .ref sp, .ref ss, .int (zI ew), .long wc, .int (zI tr), .int (zI lf)])), (se, .inr (4, [.ref g1, .ref g2, .ref g3, .ref g4, .ref g5, .int (zI uc_7), .int (zI ub_8), .int (zI ur_9), .ref g6, .ref g7])), (g1, .inl (cg1, 24, .inl v1_10)), (g2, .inl (cg2, 24, .inl v2_11)), (g3, .inl (cg3, 24, .inl v3_12)), (g4, .inl (cg4, 24, .inl v4_13)), (g5, .inl (cg5, 24, .inl v5_14)), (g6, .inl (cg6, 24, .inl v6_15)), (g7, .inl (cg7, 24, .inr (.inr (.inr (.inr (fo)))))), (wr, .inr (7, [.ref w1, .int (zI un_2)])), (w1, .inl (cw1, 24, .inl fw)), (fr, .inr (0, [.ref k1, .ref k2, .ref k3, .int (zI fn)])), (k3, .inl (ck3, 4, .inl fh)), (pf, .inr (1, [.ref p1, .int (zI pn)])), (p1, .inl (cp1, 4, .inl fp))]) hP hD [0, 1, 2, 3, 4, 5, 6, 7, 8, 14, 9, 10, 11, 12, 13] [] ax_X8_erase_6 ax_X8_erase_7 (by decide +kernel) (by decide +kernel) hk1 hFc hP1 hD1
    have hP := ax_X8_erase_8 hP
    have hD := ax_X8_erase_9 hD
    generalize H1 = H at hP hS ⊢
    have hP : va_P D vwCl (([(h0, .inr (8, [.ref sh, .ref rd, .ref fr, .ref wr, .ref pf, .ref rc, .ref se, .ref rs, .ref sw, .ref sp, .ref ss, .int (zI ew), .long wc, .int (zI tr), .int (zI lf)])), (se, .inr (4, [.ref g1, .ref g2, .ref g3, .ref g4, .ref g5, .int (zI uc_7), .int (zI ub_8), .int (zI ur_9), .ref g6, .ref g7])), (g1, .inl (cg1, 24, .inl v1_10)), (g2, .inl (cg2, 24, .inl v2_11)), (g3, .inl (cg3, 24, .inl v3_12)), (g4, .inl (cg4, 24, .inl v4_13)), (g5, .inl (cg5, 24, .inl v5_14)), (g6, .inl (cg6, 24, .inl v6_15)), (g7, .inl (cg7, 24, .inr (.inr (.inr (.inr (fo)))))), (wr, .inr (7, [.ref w1, .int (zI un_2)])), (w1, .inl (cw1, 24, .inl fw)), (fr, .inr (0, [.ref k1, .ref k2, .ref k3, .int (zI fn)])), (k3, .inl (ck3, 4, .inl fh)), (pf, .inr (1, [.ref p1, .int (zI pn)])), (p1, .inl (cp1, 4, .inl fp))] : va_W) ++ kRows pr ug_16 cy) H := hP
    have hD : va_D A (([(h0, .inr (8, [.ref sh, .ref rd, .ref fr, .ref wr, .ref pf, .ref rc, .ref se, .ref rs, .ref sw, .ref sp, .ref ss, .int (zI ew), .long wc, .int (zI tr), .int (zI lf)])), (se, .inr (4, [.ref g1, .ref g2, .ref g3, .ref g4, .ref g5, .int (zI uc_7), .int (zI ub_8), .int (zI ur_9), .ref g6, .ref g7])), (g1, .inl (cg1, 24, .inl v1_10)), (g2, .inl (cg2, 24, .inl v2_11)), (g3, .inl (cg3, 24, .inl v3_12)), (g4, .inl (cg4, 24, .inl v4_13)), (g5, .inl (cg5, 24, .inl v5_14)), (g6, .inl (cg6, 24, .inl v6_15)), (g7, .inl (cg7, 24, .inr (.inr (.inr (.inr (fo)))))), (wr, .inr (7, [.ref w1, .int (zI un_2)])), (w1, .inl (cw1, 24, .inl fw)), (fr, .inr (0, [.ref k1, .ref k2, .ref k3, .int (zI fn)])), (k3, .inl (ck3, 4, .inl fh)), (pf, .inr (1, [.ref p1, .int (zI pn)])), (p1, .inl (cp1, 4, .inl fp))] : va_W) ++ kRows pr ug_16 cy) := hD
    refine lv_aload_n hx hb dX8_erase_31 rfl (lv_at hl 0 rfl) ?_
    refine va_get (D := D) (ci := 8) (v := .ref wr) (C := RX8) (T := TX8) (N := 15) hx hb hts (fun _ h9 => List.mem_cons_of_mem _ (List.mem_append_left _ (List.mem_append_left _ (List.mem_append_left _ (List.mem_append_left _ (List.mem_append_right _ h9)))))) hown hK hP 0 rfl rfl 3 (by decide) (hts (.fieldLink RX8 35 "FontRuns" "writing" "LFontRuns$Writing;") mw_X8_erase_0) (fun _ h9 => h9) rfl dX8_erase_32 ?_
    refine va_get (D := D) (ci := 7) (v := .int (zI un_2)) (C := RX7) (T := TX7) (N := 2) hx hb hts (fun _ h9 => List.mem_cons_of_mem _ (List.mem_append_left _ (List.mem_append_left _ (List.mem_append_left _ (List.mem_append_right _ h9))))) hown hK hP 9 rfl rfl 1 (by decide) (hts (.fieldLink RX8 139 "FontRuns$Writing" "count" "I") mw_X8_erase_1) (fun _ h9 => h9) rfl dX8_erase_35 ?_
    have hP9 : va_P D vwCl (([(h0, .inr (8, [.ref sh, .ref rd, .ref fr, .ref wr, .ref pf, .ref rc, .ref se, .ref rs, .ref sw, .ref sp, .ref ss, .int (zI ew), .long wc, .int (zI tr), .int (zI lf)])), (se, .inr (4, [.ref g1, .ref g2, .ref g3, .ref g4, .ref g5, .int (zI uc_7), .int (zI ub_8), .int (zI ur_9), .ref g6, .ref g7])), (g1, .inl (cg1, 24, .inl v1_10)), (g2, .inl (cg2, 24, .inl v2_11)), (g3, .inl (cg3, 24, .inl v3_12)), (g4, .inl (cg4, 24, .inl v4_13)), (g5, .inl (cg5, 24, .inl v5_14)), (g6, .inl (cg6, 24, .inl v6_15)), (g7, .inl (cg7, 24, .inr (.inr (.inr (.inr (fo)))))), (wr, .inr (7, [.ref w1, .int (zI un_2)])), (w1, .inl (cw1, 24, .inl fw)), (fr, .inr (0, [.ref k1, .ref k2, .ref k3, .int (zI fn)])), (k3, .inl (ck3, 4, .inl fh)), (pf, .inr (1, [.ref p1, .int (zI pn)])), (p1, .inl (cp1, 4, .inl fp))] : va_W) ++ kRows pr ug_16 cy) H := hP.part [0, 1, 2, 3, 4, 5, 6, 7, 8, 9, 10, 11, 12, 13, 14] ax_X8_erase_10
    have hD9 : va_D A (([(h0, .inr (8, [.ref sh, .ref rd, .ref fr, .ref wr, .ref pf, .ref rc, .ref se, .ref rs, .ref sw, .ref sp, .ref ss, .int (zI ew), .long wc, .int (zI tr), .int (zI lf)])), (se, .inr (4, [.ref g1, .ref g2, .ref g3, .ref g4, .ref g5, .int (zI uc_7), .int (zI ub_8), .int (zI ur_9), .ref g6, .ref g7])), (g1, .inl (cg1, 24, .inl v1_10)), (g2, .inl (cg2, 24, .inl v2_11)), (g3, .inl (cg3, 24, .inl v3_12)), (g4, .inl (cg4, 24, .inl v4_13)), (g5, .inl (cg5, 24, .inl v5_14)), (g6, .inl (cg6, 24, .inl v6_15)), (g7, .inl (cg7, 24, .inr (.inr (.inr (.inr (fo)))))), (wr, .inr (7, [.ref w1, .int (zI un_2)])), (w1, .inl (cw1, 24, .inl fw)), (fr, .inr (0, [.ref k1, .ref k2, .ref k3, .int (zI fn)])), (k3, .inl (ck3, 4, .inl fh)), (pf, .inr (1, [.ref p1, .int (zI pn)])), (p1, .inl (cp1, 4, .inl fp))] : va_W) ++ kRows pr ug_16 cy) := hD.part [0, 1, 2, 3, 4, 5, 6, 7, 8, 9, 10, 11, 12, 13, 14] (by decide +kernel) ax_X8_erase_10
    exact W.iret (v := (zI un_2)) hx hb hr (fun t ht hW => kQS_of (by omega) ⟨un_2, uc_7, ub_8, ur_9, v1_10, v2_11, v3_12, v4_13, v5_14, v6_15, ug_16, h_17, h_18, h_19, h_4, (by omega), by rw [ht]; exact hP9, hD9⟩ (hS.F ht)) hS.2.2 dX8_erase_38
  · have c_1 : ¬ (0 ≤ x ∧ x ≤ wn) := b01f c_1
    refine lv_bipush (v := zI (-2)) hx hb dX8_erase_15 (by decide) ?_
    have hP9 : va_P D vwCl (([(h0, .inr (8, [.ref sh, .ref rd, .ref fr, .ref wr, .ref pf, .ref rc, .ref se, .ref rs, .ref sw, .ref sp, .ref ss, .int (zI ew), .long wc, .int (zI tr), .int (zI lf)])), (se, .inr (4, [.ref g1, .ref g2, .ref g3, .ref g4, .ref g5, .int (zI cn), .int (zI bo), .int (zI ru), .ref g6, .ref g7])), (g1, .inl (cg1, 24, .inl f1)), (g2, .inl (cg2, 24, .inl f2)), (g3, .inl (cg3, 24, .inl f3)), (g4, .inl (cg4, 24, .inl f4)), (g5, .inl (cg5, 24, .inl f5)), (g6, .inl (cg6, 24, .inl f6)), (g7, .inl (cg7, 24, .inr (.inr (.inr (.inr (fo)))))), (wr, .inr (7, [.ref w1, .int (zI wn)])), (w1, .inl (cw1, 24, .inl fw)), (fr, .inr (0, [.ref k1, .ref k2, .ref k3, .int (zI fn)])), (k3, .inl (ck3, 4, .inl fh)), (pf, .inr (1, [.ref p1, .int (zI pn)])), (p1, .inl (cp1, 4, .inl fp))] : va_W) ++ kRows pr gp cy) s.heap := hP.part [0, 1, 2, 3, 4, 5, 6, 7, 8, 9, 10, 11, 12, 13, 14] ax_X8_erase_10
    have hD9 : va_D A (([(h0, .inr (8, [.ref sh, .ref rd, .ref fr, .ref wr, .ref pf, .ref rc, .ref se, .ref rs, .ref sw, .ref sp, .ref ss, .int (zI ew), .long wc, .int (zI tr), .int (zI lf)])), (se, .inr (4, [.ref g1, .ref g2, .ref g3, .ref g4, .ref g5, .int (zI cn), .int (zI bo), .int (zI ru), .ref g6, .ref g7])), (g1, .inl (cg1, 24, .inl f1)), (g2, .inl (cg2, 24, .inl f2)), (g3, .inl (cg3, 24, .inl f3)), (g4, .inl (cg4, 24, .inl f4)), (g5, .inl (cg5, 24, .inl f5)), (g6, .inl (cg6, 24, .inl f6)), (g7, .inl (cg7, 24, .inr (.inr (.inr (.inr (fo)))))), (wr, .inr (7, [.ref w1, .int (zI wn)])), (w1, .inl (cw1, 24, .inl fw)), (fr, .inr (0, [.ref k1, .ref k2, .ref k3, .int (zI fn)])), (k3, .inl (ck3, 4, .inl fh)), (pf, .inr (1, [.ref p1, .int (zI pn)])), (p1, .inl (cp1, 4, .inl fp))] : va_W) ++ kRows pr gp cy) := hD.part [0, 1, 2, 3, 4, 5, 6, 7, 8, 9, 10, 11, 12, 13, 14] (by decide +kernel) ax_X8_erase_10
    exact W.iret (v := (zI (-2))) hx hb hr (fun t ht hW => kQS_of (by omega) ⟨wn, cn, bo, ru, f1, f2, f3, f4, f5, f6, gp, q1, q2, q3, q6, (by omega), by rw [ht]; exact hP9, hD9⟩ (hS.F ht)) hS.2.2 dX8_erase_17
theorem dX8_letter_0 : decode cX8_letter 0 = .ok (.iload_n 1, 1) := by decide +kernel
theorem dX8_letter_1 : decode cX8_letter 1 = .ok (.iconst 0, 1) := by decide +kernel
theorem dX8_letter_2 : decode cX8_letter 2 = .ok (.aload_n 0, 1) := by decide +kernel
theorem dX8_letter_3 : decode cX8_letter 3 = .ok (.getfield 35, 3) := by decide +kernel
theorem dX8_letter_6 : decode cX8_letter 6 = .ok (.getfield 139, 3) := by decide +kernel
theorem dX8_letter_9 : decode cX8_letter 9 = .ok (.iconst 1, 1) := by decide +kernel
theorem dX8_letter_10 : decode cX8_letter 10 = .ok (.isub, 1) := by decide +kernel
theorem dX8_letter_11 : decode cX8_letter 11 = .ok (.invokestatic 128, 3) := by decide +kernel
theorem dX8_letter_14 : decode cX8_letter 14 = .ok (.ifCond .eq 15, 3) := by decide +kernel
theorem dX8_letter_17 : decode cX8_letter 17 = .ok (.aload_n 0, 1) := by decide +kernel
theorem dX8_letter_18 : decode cX8_letter 18 = .ok (.getfield 35, 3) := by decide +kernel
theorem dX8_letter_21 : decode cX8_letter 21 = .ok (.getfield 166, 3) := by decide +kernel
theorem dX8_letter_24 : decode cX8_letter 24 = .ok (.iload_n 1, 1) := by decide +kernel
theorem dX8_letter_25 : decode cX8_letter 25 = .ok (.iaload, 1) := by decide +kernel
theorem dX8_letter_26 : decode cX8_letter 26 = .ok (.goto 4, 3) := by decide +kernel
theorem dX8_letter_29 : decode cX8_letter 29 = .ok (.iconst (-1), 1) := by decide +kernel
theorem dX8_letter_30 : decode cX8_letter 30 = .ok (.ireturn, 1) := by decide +kernel
set_option maxRecDepth 20000 in
theorem ggX8_letter_X8_isWithin : GoodIn wsX8_letter wsX8_isWithin := goodIn_r _ [7] (by decide +kernel) (by decide +kernel)
set_option maxRecDepth 20000 in
theorem gX8_letter_X8_isWithin : GoodIn wsX8_letter (va_wsS RX8 128 yX8_isWithin wsX8_isWithin) := goodIn_app (goodIn_of _ (by decide +kernel)) ggX8_letter_X8_isWithin
set_option maxRecDepth 20000 in
theorem mw_X8_letter_0 : (.fieldLink RX8 35 "FontRuns" "writing" "LFontRuns$Writing;" : Cond) ∈ wsX8_letter := by decide +kernel
set_option maxRecDepth 20000 in
theorem mw_X8_letter_1 : (.fieldLink RX8 139 "FontRuns$Writing" "count" "I" : Cond) ∈ wsX8_letter := by decide +kernel
set_option maxRecDepth 20000 in
theorem mw_X8_letter_2 : (.fieldLink RX8 166 "FontRuns$Writing" "row" "[I" : Cond) ∈ wsX8_letter := by decide +kernel
theorem ax_X8_letter_0 {e0 e1 e2 : Nat × va_E} : ([] : List Nat).map (fun i => ([e0, e1, e2] : va_W)[i]?) = ([] : va_W).map some := rfl
set_option maxHeartbeats 4000000 in
set_option maxRecDepth 100000 in
theorem c_X8_letter (l : Launch) (D : va_G) (sz : Nat) (k : Int) (h0 : Nat) (sh : Nat) (rd : Nat) (fr : Nat) (wr : Nat) (pf : Nat) (rc : Nat) (se : Nat) (rs : Nat) (sw : Nat) (sp : Nat) (ss : Nat) (ew : Int) (wc : Int64) (tr : Int) (lf : Int) (w1 : Nat) (wn : Int) (cw1 : ClassId) (fw : Nat → Int32) (q0 : rg k) (q1 : 0 ≤ wn ∧ wn ≤ 24) : Met l yX8_letter wsX8_letter ({ frames := 1, cells := 0, slots := 0, locals := 22 }) (kPre [.ref h0, .int (zI k)] D [(h0, .inr (8, [.ref sh, .ref rd, .ref fr, .ref wr, .ref pf, .ref rc, .ref se, .ref rs, .ref sw, .ref sp, .ref ss, .int (zI ew), .long wc, .int (zI tr), .int (zI lf)])), (wr, .inr (7, [.ref w1, .int (zI wn)])), (w1, .inl (cw1, 24, .inl fw))] [(cw1, .int)] sz) (QcP (fun rz => kLe k wn fw rz)) 0 0 (fun _ => False) := by
  refine Met.ofW (cc := cX8_letter) (maxL := 2) (ret := (some .int)) (by decide) rfl ?_
  intro p e s m args below meth c s₁ B hml hv
  obtain ⟨rfl, hsz, hP, hK, hD0, hN⟩ := hv
  have hx := B.exec
  have hb := B.bytes
  have hr := B.returns
  have hts := atoms_spec (ws := wsX8_letter) B.pre
  have hown : s.vm.findClass RX8 = some m.cls := findClass_of_methodNamed B.named
  have hlocks := B.notSynchronized
  subst hsz
  have hD := hD0
  have hP : va_P D vwCl [(h0, .inr (8, [.ref sh, .ref rd, .ref fr, .ref wr, .ref pf, .ref rc, .ref se, .ref rs, .ref sw, .ref sp, .ref ss, .int (zI ew), .long wc, .int (zI tr), .int (zI lf)])), (wr, .inr (7, [.ref w1, .int (zI wn)])), (w1, .inl (cw1, 24, .inl fw))] s.heap := hP
  have hl := lv_entry ([.ref h0, .int (zI k)]) (n := 2) (Nat.le_of_ble_eq_true rfl)
  rw [lg_entry_eq]
  generalize (lg_sl ([.ref h0, .int (zI k)]) ++ List.replicate (2 - (lg_sl ([.ref h0, .int (zI k)])).length) Slot.unset).toArray = ls at hl ⊢
  have hl : lv_has ls 2 [(0, .ref h0), (1, .int (zI k))] := hl
  refine lv_iload_n hx hb dX8_letter_0 rfl (lv_at hl 1 rfl) ?_
  refine lv_iconst (v := zI 0) hx hb dX8_letter_1 rfl ?_
  refine lv_aload_n hx hb dX8_letter_2 rfl (lv_at hl 0 rfl) ?_
  refine va_get (D := D) (ci := 8) (v := .ref wr) (C := RX8) (T := TX8) (N := 15) hx hb hts (fun _ h9 => List.mem_cons_of_mem _ (List.mem_append_left _ (List.mem_append_right _ h9))) hown hK hP 0 rfl rfl 3 (by decide) (hts (.fieldLink RX8 35 "FontRuns" "writing" "LFontRuns$Writing;") mw_X8_letter_0) (fun _ h9 => h9) rfl dX8_letter_3 ?_
  refine va_get (D := D) (ci := 7) (v := .int (zI wn)) (C := RX7) (T := TX7) (N := 2) hx hb hts (fun _ h9 => List.mem_cons_of_mem _ (List.mem_append_right _ h9)) hown hK hP 1 rfl rfl 1 (by decide) (hts (.fieldLink RX8 139 "FontRuns$Writing" "count" "I") mw_X8_letter_1) (fun _ h9 => h9) rfl dX8_letter_6 ?_
  refine lv_iconst (v := zI 1) hx hb dX8_letter_9 rfl ?_
  refine kz_isub hx hb dX8_letter_10 ?_
  refine k_callR (va_runS (As := [.int (zI k), .int (zI 0), .int (zI (wn - 1))]) (rest := []) ⟨hx, hb, hml, hown, hts⟩ (c_X8_isWithin l D s.heap.size (v := k) (a := 0) (b := (wn - 1)) q0 (by omega) (by omega)) (va_cwS 3 hts gX8_letter_X8_isWithin rfl rfl rfl (by decide +kernel) ⟨Nat.le_of_ble_eq_true rfl, Nat.le_of_ble_eq_true rfl⟩) (kPreS hP (kD0 hD) hK hN [] [] ax_X8_letter_0 rfl (by decide +kernel)) rfl rfl hl.1 rfl (lv_room (Nat.le_of_ble_eq_true rfl)) dX8_letter_11 ⟨Nat.le_of_ble_eq_true rfl, Nat.le_of_ble_eq_true rfl⟩) ?_
  refine lv_if_eq (tgt := 29) hx hb dX8_letter_14 (by decide) (fun c_1 => ?_) (fun c_1 => ?_)
  · have c_1 : ¬ (0 ≤ k ∧ k ≤ (wn - 1)) := b01f c_1
    refine lv_iconst (v := zI (-1)) hx hb dX8_letter_29 rfl ?_
    exact W.iret (v := (zI (-1))) hx hb hr (fun t ht hW => QcP_of (by omega) (Or.inl ⟨by omega, by omega⟩) ht) (fun _ h9 => by cases h9) dX8_letter_30
  · have c_1 : 0 ≤ k ∧ k ≤ (wn - 1) := b01t c_1
    refine lv_aload_n hx hb dX8_letter_17 rfl (lv_at hl 0 rfl) ?_
    refine va_get (D := D) (ci := 8) (v := .ref wr) (C := RX8) (T := TX8) (N := 15) hx hb hts (fun _ h9 => List.mem_cons_of_mem _ (List.mem_append_left _ (List.mem_append_right _ h9))) hown hK hP 0 rfl rfl 3 (by decide) (hts (.fieldLink RX8 35 "FontRuns" "writing" "LFontRuns$Writing;") mw_X8_letter_0) (fun _ h9 => h9) rfl dX8_letter_18 ?_
    refine va_get (D := D) (ci := 7) (v := .ref w1) (C := RX7) (T := TX7) (N := 2) hx hb hts (fun _ h9 => List.mem_cons_of_mem _ (List.mem_append_right _ h9)) hown hK hP 1 rfl rfl 0 (by decide) (hts (.fieldLink RX8 166 "FontRuns$Writing" "row" "[I") mw_X8_letter_2) (fun _ h9 => h9) rfl dX8_letter_21 ?_
    refine lv_iload_n hx hb dX8_letter_24 rfl (lv_at hl 1 rfl) ?_
    refine kz_iald hx hb hK hP 2 0 rfl rfl (by omega) dX8_letter_25 (fun z_2 rz_2 ez_2 => ?_)
    refine lv_goto (tgt := 30) hx hb dX8_letter_26 (by decide) ?_
    exact W.iret (v := (zI z_2)) hx hb hr (fun t ht hW => QcP_of (by omega) (Or.inr ⟨by omega, ez_2.symm⟩) ht) (fun _ h9 => by cases h9) dX8_letter_30
theorem dX8_prefer_0 : decode cX8_prefer 0 = .ok (.aload_n 0, 1) := by decide +kernel
theorem dX8_prefer_1 : decode cX8_prefer 1 = .ok (.getfield 28, 3) := by decide +kernel
theorem dX8_prefer_4 : decode cX8_prefer 4 = .ok (.iload_n 1, 1) := by decide +kernel
theorem dX8_prefer_5 : decode cX8_prefer 5 = .ok (.invokevirtual 109, 3) := by decide +kernel
theorem dX8_prefer_8 : decode cX8_prefer 8 = .ok (.ifCond .ne 5, 3) := by decide +kernel
theorem dX8_prefer_11 : decode cX8_prefer 11 = .ok (.iconst (-1), 1) := by decide +kernel
theorem dX8_prefer_12 : decode cX8_prefer 12 = .ok (.ireturn, 1) := by decide +kernel
theorem dX8_prefer_13 : decode cX8_prefer 13 = .ok (.aload_n 0, 1) := by decide +kernel
theorem dX8_prefer_14 : decode cX8_prefer 14 = .ok (.getfield 42, 3) := by decide +kernel
theorem dX8_prefer_17 : decode cX8_prefer 17 = .ok (.iload_n 1, 1) := by decide +kernel
theorem dX8_prefer_18 : decode cX8_prefer 18 = .ok (.invokevirtual 125, 3) := by decide +kernel
theorem dX8_prefer_21 : decode cX8_prefer 21 = .ok (.istore_n 2, 1) := by decide +kernel
theorem dX8_prefer_22 : decode cX8_prefer 22 = .ok (.aload_n 0, 1) := by decide +kernel
theorem dX8_prefer_23 : decode cX8_prefer 23 = .ok (.getfield 42, 3) := by decide +kernel
theorem dX8_prefer_26 : decode cX8_prefer 26 = .ok (.iload_n 1, 1) := by decide +kernel
theorem dX8_prefer_27 : decode cX8_prefer 27 = .ok (.invokevirtual 196, 3) := by decide +kernel
theorem dX8_prefer_30 : decode cX8_prefer 30 = .ok (.pop, 1) := by decide +kernel
theorem dX8_prefer_31 : decode cX8_prefer 31 = .ok (.aload_n 0, 1) := by decide +kernel
theorem dX8_prefer_32 : decode cX8_prefer 32 = .ok (.getfield 49, 3) := by decide +kernel
theorem dX8_prefer_35 : decode cX8_prefer 35 = .ok (.iload_n 1, 1) := by decide +kernel
theorem dX8_prefer_36 : decode cX8_prefer 36 = .ok (.invokevirtual 199, 3) := by decide +kernel
theorem dX8_prefer_39 : decode cX8_prefer 39 = .ok (.aload_n 0, 1) := by decide +kernel
theorem dX8_prefer_40 : decode cX8_prefer 40 = .ok (.invokevirtual 146, 3) := by decide +kernel
theorem dX8_prefer_43 : decode cX8_prefer 43 = .ok (.iload_n 2, 1) := by decide +kernel
theorem dX8_prefer_44 : decode cX8_prefer 44 = .ok (.ireturn, 1) := by decide +kernel
set_option maxRecDepth 20000 in
theorem ggX8_prefer_X0_isFont : GoodIn wsX8_prefer wsX0_isFont := goodIn_r _ [8, 9, 10, 11, 12, 106, 107, 108, 109] (by decide +kernel) (by decide +kernel)
set_option maxRecDepth 20000 in
theorem gX8_prefer_X0_isFont : GoodIn wsX8_prefer (wsV RX8 109 RX0 yX0_isFont wsX0_isFont) := goodIn_app (goodIn_of _ (by decide +kernel)) ggX8_prefer_X0_isFont
set_option maxRecDepth 20000 in
theorem ggX8_prefer_X1_lead : GoodIn wsX8_prefer wsX1_lead := goodIn_r _ [23, 19, 24, 14, 15, 16, 17, 18, 110, 111] (by decide +kernel) (by decide +kernel)
set_option maxRecDepth 20000 in
theorem gX8_prefer_X1_lead : GoodIn wsX8_prefer (wsV RX8 196 RX1 yX1_lead wsX1_lead) := goodIn_app (goodIn_of _ (by decide +kernel)) ggX8_prefer_X1_lead
set_option maxRecDepth 20000 in
theorem ggX8_prefer_X1_placeOf : GoodIn wsX8_prefer wsX1_placeOf := goodIn_r _ [17, 18, 19, 110, 111] (by decide +kernel) (by decide +kernel)
set_option maxRecDepth 20000 in
theorem gX8_prefer_X1_placeOf : GoodIn wsX8_prefer (wsV RX8 125 RX1 yX1_placeOf wsX1_placeOf) := goodIn_app (goodIn_of _ (by decide +kernel)) ggX8_prefer_X1_placeOf
set_option maxRecDepth 20000 in
theorem ggX8_prefer_X3_keep : GoodIn wsX8_prefer wsX3_keep := goodIn_r _ [29, 30, 31, 32, 33, 34, 35, 112, 113] (by decide +kernel) (by decide +kernel)
set_option maxRecDepth 20000 in
theorem gX8_prefer_X3_keep : GoodIn wsX8_prefer (wsV RX8 199 RX3 yX3_keep wsX3_keep) := goodIn_app (goodIn_of _ (by decide +kernel)) ggX8_prefer_X3_keep
set_option maxRecDepth 20000 in
theorem ggX8_prefer_X8_settle : GoodIn wsX8_prefer wsX8_settle := goodIn_r _ [39, 40, 41, 1, 2, 42, 43, 44, 7, 45, 9, 46, 47, 48, 49, 50, 51, 52, 53, 54, 55, 56, 57, 58, 59, 60, 61, 62, 63, 64, 65, 66, 67, 68, 69, 70, 71, 72, 73, 74, 75, 76, 77, 33, 34, 35, 78, 79, 80, 81, 82, 83, 84, 85, 86, 87, 88, 89, 90, 91, 92, 93, 94, 95, 96, 97, 98, 99, 100, 101, 102, 103, 104, 105, 106, 107, 108, 109, 114, 115, 116, 117, 118, 119, 120, 121, 122, 123, 124, 125, 110, 111] (by decide +kernel) (by decide +kernel)
set_option maxRecDepth 20000 in
theorem gX8_prefer_X8_settle : GoodIn wsX8_prefer (wsV RX8 146 RX8 yX8_settle wsX8_settle) := goodIn_app (goodIn_of _ (by decide +kernel)) ggX8_prefer_X8_settle
set_option maxRecDepth 20000 in
theorem mw_X8_prefer_0 : (.fieldLink RX8 28 "FontRuns" "fontRow" "LFontRuns$FontRow;" : Cond) ∈ wsX8_prefer := by decide +kernel
set_option maxRecDepth 20000 in
theorem mw_X8_prefer_1 : (.fieldLink RX8 42 "FontRuns" "preference" "LFontRuns$Preference;" : Cond) ∈ wsX8_prefer := by decide +kernel
set_option maxRecDepth 20000 in
theorem mw_X8_prefer_2 : (.fieldLink RX8 49 "FontRuns" "recent" "LFontRuns$Recent;" : Cond) ∈ wsX8_prefer := by decide +kernel
theorem ax_X8_prefer_0 {e0 e1 e2 e3 e4 e5 e6 e7 e8 e9 e10 e11 e12 e13 e14 e15 e16 : Nat × va_E} {k : va_W} : ([11] : List Nat).map (fun i => (([e0, e1, e2, e3, e4, e5, e6, e7, e8, e9, e10, e11, e12, e13, e14, e15, e16] : va_W) ++ k)[i]?) = ([e11] : va_W).map some := rfl
theorem ax_X8_prefer_1 {e0 e1 e2 e3 e4 e5 e6 e7 e8 e9 e10 e11 e12 e13 e14 e15 e16 : Nat × va_E} {k : va_W} : ([13, 14] : List Nat).map (fun i => (([e0, e1, e2, e3, e4, e5, e6, e7, e8, e9, e10, e11, e12, e13, e14, e15, e16] : va_W) ++ k)[i]?) = ([e13, e14] : va_W).map some := rfl
theorem ax_X8_prefer_2 {e0 e1 e2 e3 e4 e5 e6 e7 e8 e9 e10 e11 e12 e13 e14 e15 e16 : Nat × va_E} : ([13, 14] : List Nat).map (fun i => ([e0, e1, e2, e3, e4, e5, e6, e7, e8, e9, e10, e11, e12, e13, e14, e15, e16] : va_W)[i]?) = ([e13, e14] : va_W).map some := rfl
theorem ax_X8_prefer_3 {e0 e1 e2 e3 e4 e5 e6 e7 e8 e9 e10 e11 e12 e13 e14 e15 e16 : Nat × va_E} : ([0, 1, 2, 3, 4, 5, 6, 7, 8, 9, 10, 11, 12, 15, 16] : List Nat).map (fun i => ([e0, e1, e2, e3, e4, e5, e6, e7, e8, e9, e10, e11, e12, e13, e14, e15, e16] : va_W)[i]?) = ([e0, e1, e2, e3, e4, e5, e6, e7, e8, e9, e10, e11, e12, e15, e16] : va_W).map some := rfl
theorem ax_X8_prefer_4 {D : va_G} {cl : List vw_C} {H : Heap} {e0 e1 e2 e3 e4 e5 e6 e7 e8 e9 e10 e11 e12 e13 e14 f0 f1 : Nat × va_E} {k : va_W} (h : va_P D cl ((([e0, e1, e2, e3, e4, e5, e6, e7, e8, e9, e10, e11, e12, e13, e14] : va_W) ++ ([f0, f1] : va_W)) ++ k) H) : va_P D cl (([e0, e1, e2, e3, e4, e5, e6, e7, e8, e9, e10, e11, e12, e13, e14, f0, f1] : va_W) ++ k) H := h
theorem ax_X8_prefer_5 {A : Nat → Prop} {e0 e1 e2 e3 e4 e5 e6 e7 e8 e9 e10 e11 e12 e13 e14 f0 f1 : Nat × va_E} {k : va_W} (h : va_D A ((([e0, e1, e2, e3, e4, e5, e6, e7, e8, e9, e10, e11, e12, e13, e14] : va_W) ++ ([f0, f1] : va_W)) ++ k)) : va_D A (([e0, e1, e2, e3, e4, e5, e6, e7, e8, e9, e10, e11, e12, e13, e14, f0, f1] : va_W) ++ k) := h
theorem ax_X8_prefer_6 {e0 e1 e2 e3 e4 e5 e6 e7 e8 e9 e10 e11 e12 e13 e14 e15 e16 : Nat × va_E} : ([0, 1, 2, 3, 4, 5, 6, 7, 8, 9, 10, 11, 12, 13, 14] : List Nat).map (fun i => ([e0, e1, e2, e3, e4, e5, e6, e7, e8, e9, e10, e11, e12, e13, e14, e15, e16] : va_W)[i]?) = ([e0, e1, e2, e3, e4, e5, e6, e7, e8, e9, e10, e11, e12, e13, e14] : va_W).map some := rfl
theorem ax_X8_prefer_7 {e0 e1 e2 e3 e4 e5 e6 e7 e8 e9 e10 e11 e12 e13 e14 e15 e16 : Nat × va_E} : ([15, 16] : List Nat).map (fun i => ([e0, e1, e2, e3, e4, e5, e6, e7, e8, e9, e10, e11, e12, e13, e14, e15, e16] : va_W)[i]?) = ([e15, e16] : va_W).map some := rfl
theorem ax_X8_prefer_8 {D : va_G} {cl : List vw_C} {H : Heap} {e0 e1 f0 f1 f2 f3 f4 f5 f6 f7 f8 f9 f10 f11 f12 f13 f14 : Nat × va_E} {k : va_W} (h : va_P D cl ((([e0, e1] : va_W) ++ ([f0, f1, f2, f3, f4, f5, f6, f7, f8, f9, f10, f11, f12, f13, f14] : va_W)) ++ k) H) : va_P D cl (([e0, e1, f0, f1, f2, f3, f4, f5, f6, f7, f8, f9, f10, f11, f12, f13, f14] : va_W) ++ k) H := h
theorem ax_X8_prefer_9 {A : Nat → Prop} {e0 e1 f0 f1 f2 f3 f4 f5 f6 f7 f8 f9 f10 f11 f12 f13 f14 : Nat × va_E} {k : va_W} (h : va_D A ((([e0, e1] : va_W) ++ ([f0, f1, f2, f3, f4, f5, f6, f7, f8, f9, f10, f11, f12, f13, f14] : va_W)) ++ k)) : va_D A (([e0, e1, f0, f1, f2, f3, f4, f5, f6, f7, f8, f9, f10, f11, f12, f13, f14] : va_W) ++ k) := h
theorem ax_X8_prefer_10 {e0 e1 e2 e3 e4 e5 e6 e7 e8 e9 e10 e11 e12 e13 e14 e15 e16 : Nat × va_E} : ([2, 3, 4, 5, 6, 7, 8, 9, 10, 11, 12, 13, 14, 15, 16, 0, 1] : List Nat).map (fun i => ([e0, e1, e2, e3, e4, e5, e6, e7, e8, e9, e10, e11, e12, e13, e14, e15, e16] : va_W)[i]?) = ([e2, e3, e4, e5, e6, e7, e8, e9, e10, e11, e12, e13, e14, e15, e16, e0, e1] : va_W).map some := rfl
theorem ax_X8_prefer_11 {e0 e1 e2 e3 e4 e5 e6 e7 e8 e9 e10 e11 e12 e13 e14 e15 e16 : Nat × va_E} : ([0, 1, 2, 3, 4, 5, 6, 7, 8, 9, 10, 11, 12, 13, 14, 15, 16] : List Nat).map (fun i => ([e0, e1, e2, e3, e4, e5, e6, e7, e8, e9, e10, e11, e12, e13, e14, e15, e16] : va_W)[i]?) = ([e0, e1, e2, e3, e4, e5, e6, e7, e8, e9, e10, e11, e12, e13, e14, e15, e16] : va_W).map some := rfl
set_option maxHeartbeats 4000000 in
set_option maxRecDepth 100000 in
theorem c_X8_prefer (l : Launch) (D : va_G) (sz : Nat) (f : Int) (h0 : Nat) (sh : Nat) (rd : Nat) (fr : Nat) (wr : Nat) (pf : Nat) (rc : Nat) (se : Nat) (rs : Nat) (sw : Nat) (sp : Nat) (ss : Nat) (ew : Int) (wc : Int64) (tr : Int) (lf : Int) (g1 : Nat) (g2 : Nat) (g3 : Nat) (g4 : Nat) (g5 : Nat) (cn : Int) (bo : Int) (ru : Int) (g6 : Nat) (g7 : Nat) (cg1 : ClassId) (f1 : Nat → Int32) (cg2 : ClassId) (f2 : Nat → Int32) (cg3 : ClassId) (f3 : Nat → Int32) (cg4 : ClassId) (f4 : Nat → Int32) (cg5 : ClassId) (f5 : Nat → Int32) (cg6 : ClassId) (f6 : Nat → Int32) (cg7 : ClassId) (fo : Nat → Option Nat) (o : Nat) (w1 : Nat) (wn : Int) (cw1 : ClassId) (fw : Nat → Int32) (k1 : Nat) (k2 : Nat) (k3 : Nat) (fn : Int) (ck3 : ClassId) (fh : Nat → Int32) (p1 : Nat) (pn : Int) (cp1 : ClassId) (fp : Nat → Int32) (y1 : Nat) (rn : Int) (cy1 : ClassId) (fy : Nat → Int32) (pr : Nat → Nat) (gp : Nat → Nat → Int32) (cy : ClassId) (q0 : rg f) (q1 : 0 ≤ cn ∧ cn ≤ 24) (q2 : 0 ≤ bo ∧ bo ≤ 24) (q3 : 0 ≤ ru ∧ ru ≤ cn) (q4 : kOut fo pr o 24) (q5 : o + 24 ≤ 56) (q6 : 0 ≤ wn ∧ wn ≤ 24) (q7 : 0 ≤ fn ∧ fn ≤ 4) (q8 : 0 ≤ pn ∧ pn ≤ 4) (q9 : kPr fp) (q10 : 0 ≤ rn ∧ rn ≤ 5) : Met l yX8_prefer wsX8_prefer ({ frames := 4, cells := 0, slots := 0, locals := 95 }) (kPre [.ref h0, .int (zI f)] D (([(h0, .inr (8, [.ref sh, .ref rd, .ref fr, .ref wr, .ref pf, .ref rc, .ref se, .ref rs, .ref sw, .ref sp, .ref ss, .int (zI ew), .long wc, .int (zI tr), .int (zI lf)])), (se, .inr (4, [.ref g1, .ref g2, .ref g3, .ref g4, .ref g5, .int (zI cn), .int (zI bo), .int (zI ru), .ref g6, .ref g7])), (g1, .inl (cg1, 24, .inl f1)), (g2, .inl (cg2, 24, .inl f2)), (g3, .inl (cg3, 24, .inl f3)), (g4, .inl (cg4, 24, .inl f4)), (g5, .inl (cg5, 24, .inl f5)), (g6, .inl (cg6, 24, .inl f6)), (g7, .inl (cg7, 24, .inr (.inr (.inr (.inr (fo)))))), (wr, .inr (7, [.ref w1, .int (zI wn)])), (w1, .inl (cw1, 24, .inl fw)), (fr, .inr (0, [.ref k1, .ref k2, .ref k3, .int (zI fn)])), (k3, .inl (ck3, 4, .inl fh)), (pf, .inr (1, [.ref p1, .int (zI pn)])), (p1, .inl (cp1, 4, .inl fp)), (rc, .inr (3, [.ref y1, .int (zI rn)])), (y1, .inl (cy1, 5, .inl fy))] : va_W) ++ kRows pr gp cy) [(cg1, .int), (cg2, .int), (cg3, .int), (cg4, .int), (cg5, .int), (cg6, .int), (cg7, .array .int), (cw1, .int), (ck3, .int), (cp1, .int), (cy1, .int), (cy, .int)] sz) (kQS (fun rz t => ∃ (u_fp : Nat → Int32) (u_rn : Int) (u_fy : Nat → Int32) (u_cn : Int) (u_bo : Int) (u_ru : Int) (u_f1 : Nat → Int32) (u_f2 : Nat → Int32) (u_f3 : Nat → Int32) (u_f4 : Nat → Int32) (u_f5 : Nat → Int32) (u_f6 : Nat → Int32) (u_gp : Nat → Nat → Int32), (0 ≤ u_cn ∧ u_cn ≤ 24) ∧ (0 ≤ u_bo ∧ u_bo ≤ 24) ∧ (0 ≤ u_ru ∧ u_ru ≤ u_cn) ∧ (kPr u_fp) ∧ (0 ≤ u_rn ∧ u_rn ≤ 5) ∧ (kPrX f fn pn fp u_fp rn u_rn fy u_fy rz) ∧ va_P D vwCl (([(h0, .inr (8, [.ref sh, .ref rd, .ref fr, .ref wr, .ref pf, .ref rc, .ref se, .ref rs, .ref sw, .ref sp, .ref ss, .int (zI ew), .long wc, .int (zI tr), .int (zI lf)])), (se, .inr (4, [.ref g1, .ref g2, .ref g3, .ref g4, .ref g5, .int (zI u_cn), .int (zI u_bo), .int (zI u_ru), .ref g6, .ref g7])), (g1, .inl (cg1, 24, .inl u_f1)), (g2, .inl (cg2, 24, .inl u_f2)), (g3, .inl (cg3, 24, .inl u_f3)), (g4, .inl (cg4, 24, .inl u_f4)), (g5, .inl (cg5, 24, .inl u_f5)), (g6, .inl (cg6, 24, .inl u_f6)), (g7, .inl (cg7, 24, .inr (.inr (.inr (.inr (fo)))))), (wr, .inr (7, [.ref w1, .int (zI wn)])), (w1, .inl (cw1, 24, .inl fw)), (fr, .inr (0, [.ref k1, .ref k2, .ref k3, .int (zI fn)])), (k3, .inl (ck3, 4, .inl fh)), (pf, .inr (1, [.ref p1, .int (zI pn)])), (p1, .inl (cp1, 4, .inl u_fp)), (rc, .inr (3, [.ref y1, .int (zI u_rn)])), (y1, .inl (cy1, 5, .inl u_fy))] : va_W) ++ kRows pr u_gp cy) t.heap ∧ va_D (va_A (([(h0, .inr (8, [.ref sh, .ref rd, .ref fr, .ref wr, .ref pf, .ref rc, .ref se, .ref rs, .ref sw, .ref sp, .ref ss, .int (zI ew), .long wc, .int (zI tr), .int (zI lf)])), (se, .inr (4, [.ref g1, .ref g2, .ref g3, .ref g4, .ref g5, .int (zI cn), .int (zI bo), .int (zI ru), .ref g6, .ref g7])), (g1, .inl (cg1, 24, .inl f1)), (g2, .inl (cg2, 24, .inl f2)), (g3, .inl (cg3, 24, .inl f3)), (g4, .inl (cg4, 24, .inl f4)), (g5, .inl (cg5, 24, .inl f5)), (g6, .inl (cg6, 24, .inl f6)), (g7, .inl (cg7, 24, .inr (.inr (.inr (.inr (fo)))))), (wr, .inr (7, [.ref w1, .int (zI wn)])), (w1, .inl (cw1, 24, .inl fw)), (fr, .inr (0, [.ref k1, .ref k2, .ref k3, .int (zI fn)])), (k3, .inl (ck3, 4, .inl fh)), (pf, .inr (1, [.ref p1, .int (zI pn)])), (p1, .inl (cp1, 4, .inl fp)), (rc, .inr (3, [.ref y1, .int (zI rn)])), (y1, .inl (cy1, 5, .inl fy))] : va_W) ++ kRows pr gp cy) sz) (([(h0, .inr (8, [.ref sh, .ref rd, .ref fr, .ref wr, .ref pf, .ref rc, .ref se, .ref rs, .ref sw, .ref sp, .ref ss, .int (zI ew), .long wc, .int (zI tr), .int (zI lf)])), (se, .inr (4, [.ref g1, .ref g2, .ref g3, .ref g4, .ref g5, .int (zI u_cn), .int (zI u_bo), .int (zI u_ru), .ref g6, .ref g7])), (g1, .inl (cg1, 24, .inl u_f1)), (g2, .inl (cg2, 24, .inl u_f2)), (g3, .inl (cg3, 24, .inl u_f3)), (g4, .inl (cg4, 24, .inl u_f4)), (g5, .inl (cg5, 24, .inl u_f5)), (g6, .inl (cg6, 24, .inl u_f6)), (g7, .inl (cg7, 24, .inr (.inr (.inr (.inr (fo)))))), (wr, .inr (7, [.ref w1, .int (zI wn)])), (w1, .inl (cw1, 24, .inl fw)), (fr, .inr (0, [.ref k1, .ref k2, .ref k3, .int (zI fn)])), (k3, .inl (ck3, 4, .inl fh)), (pf, .inr (1, [.ref p1, .int (zI pn)])), (p1, .inl (cp1, 4, .inl u_fp)), (rc, .inr (3, [.ref y1, .int (zI u_rn)])), (y1, .inl (cy1, 5, .inl u_fy))] : va_W) ++ kRows pr u_gp cy)) (va_A (([(h0, .inr (8, [.ref sh, .ref rd, .ref fr, .ref wr, .ref pf, .ref rc, .ref se, .ref rs, .ref sw, .ref sp, .ref ss, .int (zI ew), .long wc, .int (zI tr), .int (zI lf)])), (se, .inr (4, [.ref g1, .ref g2, .ref g3, .ref g4, .ref g5, .int (zI cn), .int (zI bo), .int (zI ru), .ref g6, .ref g7])), (g1, .inl (cg1, 24, .inl f1)), (g2, .inl (cg2, 24, .inl f2)), (g3, .inl (cg3, 24, .inl f3)), (g4, .inl (cg4, 24, .inl f4)), (g5, .inl (cg5, 24, .inl f5)), (g6, .inl (cg6, 24, .inl f6)), (g7, .inl (cg7, 24, .inr (.inr (.inr (.inr (fo)))))), (wr, .inr (7, [.ref w1, .int (zI wn)])), (w1, .inl (cw1, 24, .inl fw)), (fr, .inr (0, [.ref k1, .ref k2, .ref k3, .int (zI fn)])), (k3, .inl (ck3, 4, .inl fh)), (pf, .inr (1, [.ref p1, .int (zI pn)])), (p1, .inl (cp1, 4, .inl fp)), (rc, .inr (3, [.ref y1, .int (zI rn)])), (y1, .inl (cy1, 5, .inl fy))] : va_W) ++ kRows pr gp cy) sz)) 0 0 (va_A (([(h0, .inr (8, [.ref sh, .ref rd, .ref fr, .ref wr, .ref pf, .ref rc, .ref se, .ref rs, .ref sw, .ref sp, .ref ss, .int (zI ew), .long wc, .int (zI tr), .int (zI lf)])), (se, .inr (4, [.ref g1, .ref g2, .ref g3, .ref g4, .ref g5, .int (zI cn), .int (zI bo), .int (zI ru), .ref g6, .ref g7])), (g1, .inl (cg1, 24, .inl f1)), (g2, .inl (cg2, 24, .inl f2)), (g3, .inl (cg3, 24, .inl f3)), (g4, .inl (cg4, 24, .inl f4)), (g5, .inl (cg5, 24, .inl f5)), (g6, .inl (cg6, 24, .inl f6)), (g7, .inl (cg7, 24, .inr (.inr (.inr (.inr (fo)))))), (wr, .inr (7, [.ref w1, .int (zI wn)])), (w1, .inl (cw1, 24, .inl fw)), (fr, .inr (0, [.ref k1, .ref k2, .ref k3, .int (zI fn)])), (k3, .inl (ck3, 4, .inl fh)), (pf, .inr (1, [.ref p1, .int (zI pn)])), (p1, .inl (cp1, 4, .inl fp)), (rc, .inr (3, [.ref y1, .int (zI rn)])), (y1, .inl (cy1, 5, .inl fy))] : va_W) ++ kRows pr gp cy) sz) := by
  refine Met.ofW (cc := cX8_prefer) (maxL := 3) (ret := (some .int)) (by decide) rfl ?_
  intro p e s m args below meth c s₁ B hml hv
  obtain ⟨rfl, hsz, hP, hK, hD0, hN⟩ := hv
  have hx := B.exec
  have hb := B.bytes
  have hr := B.returns
  have hts := atoms_spec (ws := wsX8_prefer) B.pre
  have hown : s.vm.findClass RX8 = some m.cls := findClass_of_methodNamed B.named
  have hlocks := B.notSynchronized
  subst hsz
  have hD := hD0.self (sz := s.heap.size)
  generalize hAe : va_A (([(h0, .inr (8, [.ref sh, .ref rd, .ref fr, .ref wr, .ref pf, .ref rc, .ref se, .ref rs, .ref sw, .ref sp, .ref ss, .int (zI ew), .long wc, .int (zI tr), .int (zI lf)])), (se, .inr (4, [.ref g1, .ref g2, .ref g3, .ref g4, .ref g5, .int (zI cn), .int (zI bo), .int (zI ru), .ref g6, .ref g7])), (g1, .inl (cg1, 24, .inl f1)), (g2, .inl (cg2, 24, .inl f2)), (g3, .inl (cg3, 24, .inl f3)), (g4, .inl (cg4, 24, .inl f4)), (g5, .inl (cg5, 24, .inl f5)), (g6, .inl (cg6, 24, .inl f6)), (g7, .inl (cg7, 24, .inr (.inr (.inr (.inr (fo)))))), (wr, .inr (7, [.ref w1, .int (zI wn)])), (w1, .inl (cw1, 24, .inl fw)), (fr, .inr (0, [.ref k1, .ref k2, .ref k3, .int (zI fn)])), (k3, .inl (ck3, 4, .inl fh)), (pf, .inr (1, [.ref p1, .int (zI pn)])), (p1, .inl (cp1, 4, .inl fp)), (rc, .inr (3, [.ref y1, .int (zI rn)])), (y1, .inl (cy1, 5, .inl fy))] : va_W) ++ kRows pr gp cy) s.heap.size = A at hD ⊢
  have hA : ∀ q : Nat, s.heap.size ≤ q → A q := fun q h => by rw [← hAe]; exact Or.inr h
  have hS : va_S A s.heap s.heap [] := va_S.rf
  have hP : va_P D vwCl (([(h0, .inr (8, [.ref sh, .ref rd, .ref fr, .ref wr, .ref pf, .ref rc, .ref se, .ref rs, .ref sw, .ref sp, .ref ss, .int (zI ew), .long wc, .int (zI tr), .int (zI lf)])), (se, .inr (4, [.ref g1, .ref g2, .ref g3, .ref g4, .ref g5, .int (zI cn), .int (zI bo), .int (zI ru), .ref g6, .ref g7])), (g1, .inl (cg1, 24, .inl f1)), (g2, .inl (cg2, 24, .inl f2)), (g3, .inl (cg3, 24, .inl f3)), (g4, .inl (cg4, 24, .inl f4)), (g5, .inl (cg5, 24, .inl f5)), (g6, .inl (cg6, 24, .inl f6)), (g7, .inl (cg7, 24, .inr (.inr (.inr (.inr (fo)))))), (wr, .inr (7, [.ref w1, .int (zI wn)])), (w1, .inl (cw1, 24, .inl fw)), (fr, .inr (0, [.ref k1, .ref k2, .ref k3, .int (zI fn)])), (k3, .inl (ck3, 4, .inl fh)), (pf, .inr (1, [.ref p1, .int (zI pn)])), (p1, .inl (cp1, 4, .inl fp)), (rc, .inr (3, [.ref y1, .int (zI rn)])), (y1, .inl (cy1, 5, .inl fy))] : va_W) ++ kRows pr gp cy) s.heap := hP
  have hl := lv_entry ([.ref h0, .int (zI f)]) (n := 3) (Nat.le_of_ble_eq_true rfl)
  rw [lg_entry_eq]
  generalize (lg_sl ([.ref h0, .int (zI f)]) ++ List.replicate (3 - (lg_sl ([.ref h0, .int (zI f)])).length) Slot.unset).toArray = ls at hl ⊢
  have hl : lv_has ls 3 [(0, .ref h0), (1, .int (zI f))] := hl
  refine lv_aload_n hx hb dX8_prefer_0 rfl (lv_at hl 0 rfl) ?_
  refine va_get (D := D) (ci := 8) (v := .ref fr) (C := RX8) (T := TX8) (N := 15) hx hb hts (fun _ h9 => List.mem_cons_of_mem _ (List.mem_append_left _ (List.mem_append_left _ (List.mem_append_left _ (List.mem_append_left _ (List.mem_append_left _ (List.mem_append_right _ h9))))))) hown hK hP 0 rfl rfl 2 (by decide) (hts (.fieldLink RX8 28 "FontRuns" "fontRow" "LFontRuns$FontRow;") mw_X8_prefer_0) (fun _ h9 => h9) rfl dX8_prefer_1 ?_
  refine lv_iload_n hx hb dX8_prefer_4 rfl (lv_at hl 1 rfl) ?_
  refine k_callR (va_runV (As := [.int (zI f)]) (rest := []) ⟨hx, hb, hml, hown, hts⟩ (c_X0_isFont l D s.heap.size (f := f) (h0 := fr) (k1 := k1) (k2 := k2) (k3 := k3) (n := fn) q0 q7) (cwV 1 hts gX8_prefer_X0_isFont rfl rfl rfl (by decide +kernel) ⟨Nat.le_of_ble_eq_true rfl, Nat.le_of_ble_eq_true rfl⟩) (kPreV hP (kD0 hD) hK hN [11] [] ax_X8_prefer_0 rfl (by decide +kernel) 11 0 rfl rfl) rfl rfl hl.1 rfl (lv_room (Nat.le_of_ble_eq_true rfl)) dX8_prefer_5 ⟨Nat.le_of_ble_eq_true rfl, Nat.le_of_ble_eq_true rfl⟩) ?_
  refine lv_if_ne (tgt := 13) hx hb dX8_prefer_8 (by decide) (fun c_1 => ?_) (fun c_1 => ?_)
  · have c_1 : 0 ≤ f ∧ f ≤ fn - 1 := b01t c_1
    refine lv_aload_n hx hb dX8_prefer_13 rfl (lv_at hl 0 rfl) ?_
    refine va_get (D := D) (ci := 8) (v := .ref pf) (C := RX8) (T := TX8) (N := 15) hx hb hts (fun _ h9 => List.mem_cons_of_mem _ (List.mem_append_left _ (List.mem_append_left _ (List.mem_append_left _ (List.mem_append_left _ (List.mem_append_left _ (List.mem_append_right _ h9))))))) hown hK hP 0 rfl rfl 4 (by decide) (hts (.fieldLink RX8 42 "FontRuns" "preference" "LFontRuns$Preference;") mw_X8_prefer_1) (fun _ h9 => h9) rfl dX8_prefer_14 ?_
    refine lv_iload_n hx hb dX8_prefer_17 rfl (lv_at hl 1 rfl) ?_
    refine k_callP (va_runV (As := [.int (zI f)]) (rest := []) ⟨hx, hb, hml, hown, hts⟩ (c_X1_placeOf_w l D s.heap.size (f := f) (h0 := pf) (r1 := p1) (n := pn) (cr1 := cp1) (fr := fp) q0 q8 q9) (cwV 1 hts gX8_prefer_X1_placeOf rfl rfl rfl (by decide +kernel) ⟨Nat.le_of_ble_eq_true rfl, Nat.le_of_ble_eq_true rfl⟩) (kPreV hP (kD0 hD) hK hN [13, 14] [9] ax_X8_prefer_1 rfl (by decide +kernel) 13 1 rfl rfl) rfl rfl hl.1 rfl (lv_room (Nat.le_of_ble_eq_true rfl)) dX8_prefer_18 ⟨Nat.le_of_ble_eq_true rfl, Nat.le_of_ble_eq_true rfl⟩) (fun z_2 rz_2 h_3 => ?_)
    refine lv_istore_n (lv' := [(2, .int (zI z_2)), (0, .ref h0), (1, .int (zI f))]) hx hb dX8_prefer_21 rfl hl (by decide) rfl (fun ls hl => ?_)
    refine lv_aload_n hx hb dX8_prefer_22 rfl (lv_at hl 1 rfl) ?_
    refine va_get (D := D) (ci := 8) (v := .ref pf) (C := RX8) (T := TX8) (N := 15) hx hb hts (fun _ h9 => List.mem_cons_of_mem _ (List.mem_append_left _ (List.mem_append_left _ (List.mem_append_left _ (List.mem_append_left _ (List.mem_append_left _ (List.mem_append_right _ h9))))))) hown hK hP 0 rfl rfl 4 (by decide) (hts (.fieldLink RX8 42 "FontRuns" "preference" "LFontRuns$Preference;") mw_X8_prefer_1) (fun _ h9 => h9) rfl dX8_prefer_23 ?_
    refine lv_iload_n hx hb dX8_prefer_26 rfl (lv_at hl 2 rfl) ?_
    have hFc := va_free (wc := [(pf, .inr (1, [.ref p1, .int (zI pn)])), (p1, .inl (cp1, 4, .inl fp))]) hD hS hA [13, 14] ax_X8_prefer_1
    refine va_calli (va_runV (As := [.int (zI f)]) (rest := []) ⟨hx, hb, hml, hown, hts⟩ (c_X1_lead_w l D s.heap.size (f := f) (h0 := pf) (r1 := p1) (n := pn) (cr1 := cp1) (fr := fp) q0 q8 q9) (cwV 1 hts gX8_prefer_X1_lead rfl rfl rfl (by decide +kernel) ⟨Nat.le_of_ble_eq_true rfl, Nat.le_of_ble_eq_true rfl⟩) (kPreV hP (kD0 hD) hK hN [13, 14] [9] ax_X8_prefer_1 rfl (by decide +kernel) 13 1 rfl rfl) rfl rfl hl.1 rfl (lv_room (Nat.le_of_ble_eq_true rfl)) dX8_prefer_27 ⟨Nat.le_of_ble_eq_true rfl, Nat.le_of_ble_eq_true rfl⟩) hS (fun q _ h => hFc q h) hFc (fun r u t H1 locs ht hvm hw hB hz1 hk1 hS => ?_)
    obtain ⟨z_5, e9⟩ : ∃ z, z = u := ⟨_, rfl⟩
    subst e9
    obtain ⟨rfl, rz_5⟩ := hw
    refine Exists.elim hB (fun uf_4 hB1 => ?_)
    have h_6 := hB1.1
    have h_7 := hB1.2.1
    have h_8 := hB1.2.2.1
    have hP1 := hB1.2.2.2.1
    have hD1 := hB1.2.2.2.2
    clear hB hB1
    rw [ht] at hP1
    obtain ⟨hP, hD⟩ := va_joinQ (X := [(h0, .inr (8, [.ref sh, .ref rd, .ref fr, .ref wr, .ref pf, .ref rc, .ref se, .ref rs, .ref sw, .ref sp, .ref ss, .int (zI ew), .long wc, .int (zI tr), .int (zI lf)])), (se, .inr (4, [.ref g1, .ref g2, .ref g3, .ref g4, .ref g5, .int (zI cn), .int (zI bo), .int (zI ru), .ref g6, .ref g7])), (g1, .inl (cg1, 24, .inl f1)), (g2, .inl (cg2, 24, .inl f2)), (g3, .inl (cg3, 24, .inl f3)), (g4, .inl (cg4, 24, .inl f4)), (g5, .inl (cg5, 24, .inl f5)), (g6, .inl (cg6, 24, .inl f6)), (g7, .inl (cg7, 24, .inr (.inr (.inr (.inr (fo)))))), (wr, .inr (7, [.ref w1, .int (zI wn)])), (w1, .inl (cw1, 24, .inl fw)), (fr, .inr (0, [.ref k1, .ref k2, .ref k3, .int (zI fn)])), (k3, .inl (ck3, 4, .inl fh)), (pf, .inr (1, [.ref p1, .int (zI pn)])), (p1, .inl (cp1, 4, .inl fp)), (rc, .inr (3, [.ref y1, .int (zI rn)])), (y1, .inl (cy1, 5, .inl fy))]) (wr := [(h0, .inr (8, [.ref sh, .ref rd, .ref fr, .ref wr, .ref pf, .ref rc, .ref se, .ref rs, .ref sw, .ref sp, .ref ss, .int (zI ew), .long wc, .int (zI tr), .int (zI lf)])), (se, .inr (4, [.ref g1, .ref g2, .ref g3, .ref g4, .ref g5, .int (zI cn), .int (zI bo), .int (zI ru), .ref g6, .ref g7])), (g1, .inl (cg1, 24, .inl f1)), (g2, .inl (cg2, 24, .inl f2)), (g3, .inl (cg3, 24, .inl f3)), (g4, .inl (cg4, 24, .inl f4)), (g5, .inl (cg5, 24, .inl f5)), (g6, .inl (cg6, 24, .inl f6)), (g7, .inl (cg7, 24, .inr (.inr (.inr (.inr (fo)))))), (wr, .inr (7, [.ref w1, .int (zI wn)])), (w1, .inl (cw1, 24, .inl fw)), (fr, .inr (0, [.ref k1, .ref k2, .ref k3, .int (zI fn)])), (k3, .inl (ck3, 4, .inl fh)), (rc, .inr (3, [.ref y1, .int (zI rn)])), (y1, .inl (cy1, 5, .inl fy))]) (w1 := [(pf, .inr (1, [.ref p1, .int (zI pn)])), (p1, .inl (cp1, 4, .inl uf_4))]) hP hD [13, 14] [0, 1, 2, 3, 4, 5, 6, 7, 8, 9, 10, 11, 12, 15, 16] ax_X8_prefer_2 ax_X8_prefer_3 (by decide +kernel) (by decide +kernel) hk1 hFc hP1 hD1
    have hP := ax_X8_prefer_4 hP
    have hD := ax_X8_prefer_5 hD
    generalize H1 = H at hP hS ⊢
    have hP : va_P D vwCl (([(h0, .inr (8, [.ref sh, .ref rd, .ref fr, .ref wr, .ref pf, .ref rc, .ref se, .ref rs, .ref sw, .ref sp, .ref ss, .int (zI ew), .long wc, .int (zI tr), .int (zI lf)])), (se, .inr (4, [.ref g1, .ref g2, .ref g3, .ref g4, .ref g5, .int (zI cn), .int (zI bo), .int (zI ru), .ref g6, .ref g7])), (g1, .inl (cg1, 24, .inl f1)), (g2, .inl (cg2, 24, .inl f2)), (g3, .inl (cg3, 24, .inl f3)), (g4, .inl (cg4, 24, .inl f4)), (g5, .inl (cg5, 24, .inl f5)), (g6, .inl (cg6, 24, .inl f6)), (g7, .inl (cg7, 24, .inr (.inr (.inr (.inr (fo)))))), (wr, .inr (7, [.ref w1, .int (zI wn)])), (w1, .inl (cw1, 24, .inl fw)), (fr, .inr (0, [.ref k1, .ref k2, .ref k3, .int (zI fn)])), (k3, .inl (ck3, 4, .inl fh)), (rc, .inr (3, [.ref y1, .int (zI rn)])), (y1, .inl (cy1, 5, .inl fy)), (pf, .inr (1, [.ref p1, .int (zI pn)])), (p1, .inl (cp1, 4, .inl uf_4))] : va_W) ++ kRows pr gp cy) H := hP
    have hD : va_D A (([(h0, .inr (8, [.ref sh, .ref rd, .ref fr, .ref wr, .ref pf, .ref rc, .ref se, .ref rs, .ref sw, .ref sp, .ref ss, .int (zI ew), .long wc, .int (zI tr), .int (zI lf)])), (se, .inr (4, [.ref g1, .ref g2, .ref g3, .ref g4, .ref g5, .int (zI cn), .int (zI bo), .int (zI ru), .ref g6, .ref g7])), (g1, .inl (cg1, 24, .inl f1)), (g2, .inl (cg2, 24, .inl f2)), (g3, .inl (cg3, 24, .inl f3)), (g4, .inl (cg4, 24, .inl f4)), (g5, .inl (cg5, 24, .inl f5)), (g6, .inl (cg6, 24, .inl f6)), (g7, .inl (cg7, 24, .inr (.inr (.inr (.inr (fo)))))), (wr, .inr (7, [.ref w1, .int (zI wn)])), (w1, .inl (cw1, 24, .inl fw)), (fr, .inr (0, [.ref k1, .ref k2, .ref k3, .int (zI fn)])), (k3, .inl (ck3, 4, .inl fh)), (rc, .inr (3, [.ref y1, .int (zI rn)])), (y1, .inl (cy1, 5, .inl fy)), (pf, .inr (1, [.ref p1, .int (zI pn)])), (p1, .inl (cp1, 4, .inl uf_4))] : va_W) ++ kRows pr gp cy) := hD
    refine lv_pop hx hb dX8_prefer_30 rfl ?_
    refine lv_aload_n hx hb dX8_prefer_31 rfl (lv_at hl 1 rfl) ?_
    refine va_get (D := D) (ci := 8) (v := .ref rc) (C := RX8) (T := TX8) (N := 15) hx hb hts (fun _ h9 => List.mem_cons_of_mem _ (List.mem_append_left _ (List.mem_append_left _ (List.mem_append_left _ (List.mem_append_left _ (List.mem_append_left _ (List.mem_append_right _ h9))))))) hown hK hP 0 rfl rfl 5 (by decide) (hts (.fieldLink RX8 49 "FontRuns" "recent" "LFontRuns$Recent;") mw_X8_prefer_2) (fun _ h9 => h9) rfl dX8_prefer_32 ?_
    refine lv_iload_n hx hb dX8_prefer_35 rfl (lv_at hl 2 rfl) ?_
    have hFc := va_free (wc := [(rc, .inr (3, [.ref y1, .int (zI rn)])), (y1, .inl (cy1, 5, .inl fy))]) hD hS hA [13, 14] ax_X8_prefer_1
    refine va_callv (va_runV (As := [.int (zI f)]) (rest := []) ⟨hx, hb, hml, hown, hts⟩ (c_X3_keep_w l D H.size (f := f) (h0 := rc) (r1 := y1) (n := rn) (cr1 := cy1) (fr := fy) q0 q10) (cwV 1 hts gX8_prefer_X3_keep rfl rfl rfl (by decide +kernel) ⟨Nat.le_of_ble_eq_true rfl, Nat.le_of_ble_eq_true rfl⟩) (kPreV hP (kD0 hD) hK hN [13, 14] [10] ax_X8_prefer_1 rfl (by decide +kernel) 13 3 rfl rfl) rfl rfl hl.1 rfl (lv_room (Nat.le_of_ble_eq_true rfl)) dX8_prefer_36 ⟨Nat.le_of_ble_eq_true rfl, Nat.le_of_ble_eq_true rfl⟩) hS (fun q _ h => hFc q h) hFc (fun u t H1 locs ht hvm hw hB hz1 hk1 hS => ?_)
    refine Exists.elim hB (fun un_9 hB1 => Exists.elim hB1 (fun uf_10 hB2 => ?_))
    have h_11 := hB2.1
    have h_12 := hB2.2.1
    have h_13 := hB2.2.2.1
    have hP1 := hB2.2.2.2.1
    have hD1 := hB2.2.2.2.2
    clear hB hB1 hB2
    rw [ht] at hP1
    obtain ⟨hP, hD⟩ := va_joinQ (X := [(h0, .inr (8, [.ref sh, .ref rd, .ref fr, .ref wr, .ref pf, .ref rc, .ref se, .ref rs, .ref sw, .ref sp, .ref ss, .int (zI ew), .long wc, .int (zI tr), .int (zI lf)])), (se, .inr (4, [.ref g1, .ref g2, .ref g3, .ref g4, .ref g5, .int (zI cn), .int (zI bo), .int (zI ru), .ref g6, .ref g7])), (g1, .inl (cg1, 24, .inl f1)), (g2, .inl (cg2, 24, .inl f2)), (g3, .inl (cg3, 24, .inl f3)), (g4, .inl (cg4, 24, .inl f4)), (g5, .inl (cg5, 24, .inl f5)), (g6, .inl (cg6, 24, .inl f6)), (g7, .inl (cg7, 24, .inr (.inr (.inr (.inr (fo)))))), (wr, .inr (7, [.ref w1, .int (zI wn)])), (w1, .inl (cw1, 24, .inl fw)), (fr, .inr (0, [.ref k1, .ref k2, .ref k3, .int (zI fn)])), (k3, .inl (ck3, 4, .inl fh)), (rc, .inr (3, [.ref y1, .int (zI rn)])), (y1, .inl (cy1, 5, .inl fy)), (pf, .inr (1, [.ref p1, .int (zI pn)])), (p1, .inl (cp1, 4, .inl uf_4))]) (wr := [(h0, .inr (8, [.ref sh, .ref rd, .ref fr, .ref wr, .ref pf, .ref rc, .ref se, .ref rs, .ref sw, .ref sp, .ref ss, .int (zI ew), .long wc, .int (zI tr), .int (zI lf)])), (se, .inr (4, [.ref g1, .ref g2, .ref g3, .ref g4, .ref g5, .int (zI cn), .int (zI bo), .int (zI ru), .ref g6, .ref g7])), (g1, .inl (cg1, 24, .inl f1)), (g2, .inl (cg2, 24, .inl f2)), (g3, .inl (cg3, 24, .inl f3)), (g4, .inl (cg4, 24, .inl f4)), (g5, .inl (cg5, 24, .inl f5)), (g6, .inl (cg6, 24, .inl f6)), (g7, .inl (cg7, 24, .inr (.inr (.inr (.inr (fo)))))), (wr, .inr (7, [.ref w1, .int (zI wn)])), (w1, .inl (cw1, 24, .inl fw)), (fr, .inr (0, [.ref k1, .ref k2, .ref k3, .int (zI fn)])), (k3, .inl (ck3, 4, .inl fh)), (pf, .inr (1, [.ref p1, .int (zI pn)])), (p1, .inl (cp1, 4, .inl uf_4))]) (w1 := [(rc, .inr (3, [.ref y1, .int (zI un_9)])), (y1, .inl (cy1, 5, .inl uf_10))]) hP hD [13, 14] [0, 1, 2, 3, 4, 5, 6, 7, 8, 9, 10, 11, 12, 15, 16] ax_X8_prefer_2 ax_X8_prefer_3 (by decide +kernel) (by decide +kernel) hk1 hFc hP1 hD1
    have hP := ax_X8_prefer_4 hP
    have hD := ax_X8_prefer_5 hD
    generalize H1 = H at hP hS ⊢
    have hP : va_P D vwCl (([(h0, .inr (8, [.ref sh, .ref rd, .ref fr, .ref wr, .ref pf, .ref rc, .ref se, .ref rs, .ref sw, .ref sp, .ref ss, .int (zI ew), .long wc, .int (zI tr), .int (zI lf)])), (se, .inr (4, [.ref g1, .ref g2, .ref g3, .ref g4, .ref g5, .int (zI cn), .int (zI bo), .int (zI ru), .ref g6, .ref g7])), (g1, .inl (cg1, 24, .inl f1)), (g2, .inl (cg2, 24, .inl f2)), (g3, .inl (cg3, 24, .inl f3)), (g4, .inl (cg4, 24, .inl f4)), (g5, .inl (cg5, 24, .inl f5)), (g6, .inl (cg6, 24, .inl f6)), (g7, .inl (cg7, 24, .inr (.inr (.inr (.inr (fo)))))), (wr, .inr (7, [.ref w1, .int (zI wn)])), (w1, .inl (cw1, 24, .inl fw)), (fr, .inr (0, [.ref k1, .ref k2, .ref k3, .int (zI fn)])), (k3, .inl (ck3, 4, .inl fh)), (pf, .inr (1, [.ref p1, .int (zI pn)])), (p1, .inl (cp1, 4, .inl uf_4)), (rc, .inr (3, [.ref y1, .int (zI un_9)])), (y1, .inl (cy1, 5, .inl uf_10))] : va_W) ++ kRows pr gp cy) H := hP
    have hD : va_D A (([(h0, .inr (8, [.ref sh, .ref rd, .ref fr, .ref wr, .ref pf, .ref rc, .ref se, .ref rs, .ref sw, .ref sp, .ref ss, .int (zI ew), .long wc, .int (zI tr), .int (zI lf)])), (se, .inr (4, [.ref g1, .ref g2, .ref g3, .ref g4, .ref g5, .int (zI cn), .int (zI bo), .int (zI ru), .ref g6, .ref g7])), (g1, .inl (cg1, 24, .inl f1)), (g2, .inl (cg2, 24, .inl f2)), (g3, .inl (cg3, 24, .inl f3)), (g4, .inl (cg4, 24, .inl f4)), (g5, .inl (cg5, 24, .inl f5)), (g6, .inl (cg6, 24, .inl f6)), (g7, .inl (cg7, 24, .inr (.inr (.inr (.inr (fo)))))), (wr, .inr (7, [.ref w1, .int (zI wn)])), (w1, .inl (cw1, 24, .inl fw)), (fr, .inr (0, [.ref k1, .ref k2, .ref k3, .int (zI fn)])), (k3, .inl (ck3, 4, .inl fh)), (pf, .inr (1, [.ref p1, .int (zI pn)])), (p1, .inl (cp1, 4, .inl uf_4)), (rc, .inr (3, [.ref y1, .int (zI un_9)])), (y1, .inl (cy1, 5, .inl uf_10))] : va_W) ++ kRows pr gp cy) := hD
    refine lv_aload_n hx hb dX8_prefer_39 rfl (lv_at hl 1 rfl) ?_
    have hFc := va_freeP (cx := [(h0, .inr (8, [.ref sh, .ref rd, .ref fr, .ref wr, .ref pf, .ref rc, .ref se, .ref rs, .ref sw, .ref sp, .ref ss, .int (zI ew), .long wc, .int (zI tr), .int (zI lf)])), (se, .inr (4, [.ref g1, .ref g2, .ref g3, .ref g4, .ref g5, .int (zI cn), .int (zI bo), .int (zI ru), .ref g6, .ref g7])), (g1, .inl (cg1, 24, .inl f1)), (g2, .inl (cg2, 24, .inl f2)), (g3, .inl (cg3, 24, .inl f3)), (g4, .inl (cg4, 24, .inl f4)), (g5, .inl (cg5, 24, .inl f5)), (g6, .inl (cg6, 24, .inl f6)), (g7, .inl (cg7, 24, .inr (.inr (.inr (.inr (fo)))))), (wr, .inr (7, [.ref w1, .int (zI wn)])), (w1, .inl (cw1, 24, .inl fw)), (fr, .inr (0, [.ref k1, .ref k2, .ref k3, .int (zI fn)])), (k3, .inl (ck3, 4, .inl fh)), (pf, .inr (1, [.ref p1, .int (zI pn)])), (p1, .inl (cp1, 4, .inl uf_4))]) hD hS hA [0, 1, 2, 3, 4, 5, 6, 7, 8, 9, 10, 11, 12, 13, 14] ax_X8_prefer_6
    refine va_callv (va_runV (As := []) (rest := []) ⟨hx, hb, hml, hown, hts⟩ (c_X8_settle l D H.size (h0 := h0) (sh := sh) (rd := rd) (fr := fr) (wr := wr) (pf := pf) (rc := rc) (se := se) (rs := rs) (sw := sw) (sp := sp) (ss := ss) (ew := ew) (wc := wc) (tr := tr) (lf := lf) (g1 := g1) (g2 := g2) (g3 := g3) (g4 := g4) (g5 := g5) (cn := cn) (bo := bo) (ru := ru) (g6 := g6) (g7 := g7) (cg1 := cg1) (f1 := f1) (cg2 := cg2) (f2 := f2) (cg3 := cg3) (f3 := f3) (cg4 := cg4) (f4 := f4) (cg5 := cg5) (f5 := f5) (cg6 := cg6) (f6 := f6) (cg7 := cg7) (fo := fo) (o := o) (w1 := w1) (wn := wn) (cw1 := cw1) (fw := fw) (k1 := k1) (k2 := k2) (k3 := k3) (fn := fn) (ck3 := ck3) (fh := fh) (p1 := p1) (pn := pn) (cp1 := cp1) (fp := uf_4) (pr := pr) (gp := gp) (cy := cy) q6 q7 q8 h_6 q4 q5) (cwV 0 hts gX8_prefer_X8_settle rfl rfl rfl (by decide +kernel) ⟨Nat.le_of_ble_eq_true rfl, Nat.le_of_ble_eq_true rfl⟩) (kPreVP hP (kD0 hD) hK hN [0, 1, 2, 3, 4, 5, 6, 7, 8, 9, 10, 11, 12, 13, 14] [0, 1, 2, 3, 4, 5, 6, 7, 8, 9, 11] ax_X8_prefer_6 rfl (by decide +kernel) 0 8 rfl rfl) rfl rfl hl.1 rfl (lv_room (Nat.le_of_ble_eq_true rfl)) dX8_prefer_40 ⟨Nat.le_of_ble_eq_true rfl, Nat.le_of_ble_eq_true rfl⟩) hS (fun q _ h => hFc q h) hFc (fun u t H1 locs ht hvm hw hB hz1 hk1 hS => ?_)
    refine Exists.elim hB (fun uc_14 hB1 => Exists.elim hB1 (fun ub_15 hB2 => Exists.elim hB2 (fun ur_16 hB3 => Exists.elim hB3 (fun v1_17 hB4 => Exists.elim hB4 (fun v2_18 hB5 => Exists.elim hB5 (fun v3_19 hB6 => Exists.elim hB6 (fun v4_20 hB7 => Exists.elim hB7 (fun v5_21 hB8 => Exists.elim hB8 (fun v6_22 hB9 => Exists.elim hB9 (fun ug_23 hB10 => ?_))))))))))
    have h_24 := hB10.1
    have h_25 := hB10.2.1
    have h_26 := hB10.2.2.1
    have hP1 := hB10.2.2.2.1
    have hD1 := hB10.2.2.2.2
    clear hB hB1 hB2 hB3 hB4 hB5 hB6 hB7 hB8 hB9 hB10
    rw [ht] at hP1
    obtain ⟨hP, hD⟩ := va_joinP (X := [(h0, .inr (8, [.ref sh, .ref rd, .ref fr, .ref wr, .ref pf, .ref rc, .ref se, .ref rs, .ref sw, .ref sp, .ref ss, .int (zI ew), .long wc, .int (zI tr), .int (zI lf)])), (se, .inr (4, [.ref g1, .ref g2, .ref g3, .ref g4, .ref g5, .int (zI cn), .int (zI bo), .int (zI ru), .ref g6, .ref g7])), (g1, .inl (cg1, 24, .inl f1)), (g2, .inl (cg2, 24, .inl f2)), (g3, .inl (cg3, 24, .inl f3)), (g4, .inl (cg4, 24, .inl f4)), (g5, .inl (cg5, 24, .inl f5)), (g6, .inl (cg6, 24, .inl f6)), (g7, .inl (cg7, 24, .inr (.inr (.inr (.inr (fo)))))), (wr, .inr (7, [.ref w1, .int (zI wn)])), (w1, .inl (cw1, 24, .inl fw)), (fr, .inr (0, [.ref k1, .ref k2, .ref k3, .int (zI fn)])), (k3, .inl (ck3, 4, .inl fh)), (pf, .inr (1, [.ref p1, .int (zI pn)])), (p1, .inl (cp1, 4, .inl uf_4)), (rc, .inr (3, [.ref y1, .int (zI un_9)])), (y1, .inl (cy1, 5, .inl uf_10))]) (wr := [(rc, .inr (3, [.ref y1, .int (zI un_9)])), (y1, .inl (cy1, 5, .inl uf_10))]) (rx := [(h0, .inr (8, [.ref sh, .ref rd, .ref fr, .ref wr, .ref pf, .ref rc, .ref se, .ref rs, .ref sw, .ref sp, .ref ss, .int (zI ew), .long wc, .int (zI tr), .int (zI lf)])), (se, .inr (4, [.ref g1, .ref g2, .ref g3, .ref g4, .ref g5, .int (zI uc_14), .int (zI ub_15), .int (zI ur_16), .ref g6, .ref g7])), (g1, .inl (cg1, 24, .inl v1_17)), (g2, .inl (cg2, 24, .inl v2_18)), (g3, .inl (cg3, 24, .inl v3_19)), (g4, .inl (cg4, 24, .inl v4_20)), (g5, .inl (cg5, 24, .inl v5_21)), (g6, .inl (cg6, 24, .inl v6_22)), (g7, .inl (cg7, 24, .inr (.inr (.inr (.inr (fo)))))), (wr, .inr (7, [.ref w1, .int (zI wn)])), (w1, .inl (cw1, 24, .inl fw)), (fr, .inr (0, [.ref k1, .ref k2, .ref k3, .int (zI fn)])), (k3, .inl (ck3, 4, .inl fh)), (pf, .inr (1, [.ref p1, .int (zI pn)])), (p1, .inl (cp1, 4, .inl uf_4))]) hP hD [0, 1, 2, 3, 4, 5, 6, 7, 8, 9, 10, 11, 12, 13, 14] [15, 16] ax_X8_prefer_6 ax_X8_prefer_7 (by decide +kernel) (by decide +kernel) hk1 hFc hP1 hD1
    have hP := ax_X8_prefer_8 hP
    have hD := ax_X8_prefer_9 hD
    generalize H1 = H at hP hS ⊢
    have hP : va_P D vwCl (([(rc, .inr (3, [.ref y1, .int (zI un_9)])), (y1, .inl (cy1, 5, .inl uf_10)), (h0, .inr (8, [.ref sh, .ref rd, .ref fr, .ref wr, .ref pf, .ref rc, .ref se, .ref rs, .ref sw, .ref sp, .ref ss, .int (zI ew), .long wc, .int (zI tr), .int (zI lf)])), (se, .inr (4, [.ref g1, .ref g2, .ref g3, .ref g4, .ref g5, .int (zI uc_14), .int (zI ub_15), .int (zI ur_16), .ref g6, .ref g7])), (g1, .inl (cg1, 24, .inl v1_17)), (g2, .inl (cg2, 24, .inl v2_18)), (g3, .inl (cg3, 24, .inl v3_19)), (g4, .inl (cg4, 24, .inl v4_20)), (g5, .inl (cg5, 24, .inl v5_21)), (g6, .inl (cg6, 24, .inl v6_22)), (g7, .inl (cg7, 24, .inr (.inr (.inr (.inr (fo)))))), (wr, .inr (7, [.ref w1, .int (zI wn)])), (w1, .inl (cw1, 24, .inl fw)), (fr, .inr (0, [.ref k1, .ref k2, .ref k3, .int (zI fn)])), (k3, .inl (ck3, 4, .inl fh)), (pf, .inr (1, [.ref p1, .int (zI pn)])), (p1, .inl (cp1, 4, .inl uf_4))] : va_W) ++ kRows pr ug_23 cy) H := hP
    have hD : va_D A (([(rc, .inr (3, [.ref y1, .int (zI un_9)])), (y1, .inl (cy1, 5, .inl uf_10)), (h0, .inr (8, [.ref sh, .ref rd, .ref fr, .ref wr, .ref pf, .ref rc, .ref se, .ref rs, .ref sw, .ref sp, .ref ss, .int (zI ew), .long wc, .int (zI tr), .int (zI lf)])), (se, .inr (4, [.ref g1, .ref g2, .ref g3, .ref g4, .ref g5, .int (zI uc_14), .int (zI ub_15), .int (zI ur_16), .ref g6, .ref g7])), (g1, .inl (cg1, 24, .inl v1_17)), (g2, .inl (cg2, 24, .inl v2_18)), (g3, .inl (cg3, 24, .inl v3_19)), (g4, .inl (cg4, 24, .inl v4_20)), (g5, .inl (cg5, 24, .inl v5_21)), (g6, .inl (cg6, 24, .inl v6_22)), (g7, .inl (cg7, 24, .inr (.inr (.inr (.inr (fo)))))), (wr, .inr (7, [.ref w1, .int (zI wn)])), (w1, .inl (cw1, 24, .inl fw)), (fr, .inr (0, [.ref k1, .ref k2, .ref k3, .int (zI fn)])), (k3, .inl (ck3, 4, .inl fh)), (pf, .inr (1, [.ref p1, .int (zI pn)])), (p1, .inl (cp1, 4, .inl uf_4))] : va_W) ++ kRows pr ug_23 cy) := hD
    refine lv_iload_n hx hb dX8_prefer_43 rfl (lv_at hl 0 rfl) ?_
    have hP9 : va_P D vwCl (([(h0, .inr (8, [.ref sh, .ref rd, .ref fr, .ref wr, .ref pf, .ref rc, .ref se, .ref rs, .ref sw, .ref sp, .ref ss, .int (zI ew), .long wc, .int (zI tr), .int (zI lf)])), (se, .inr (4, [.ref g1, .ref g2, .ref g3, .ref g4, .ref g5, .int (zI uc_14), .int (zI ub_15), .int (zI ur_16), .ref g6, .ref g7])), (g1, .inl (cg1, 24, .inl v1_17)), (g2, .inl (cg2, 24, .inl v2_18)), (g3, .inl (cg3, 24, .inl v3_19)), (g4, .inl (cg4, 24, .inl v4_20)), (g5, .inl (cg5, 24, .inl v5_21)), (g6, .inl (cg6, 24, .inl v6_22)), (g7, .inl (cg7, 24, .inr (.inr (.inr (.inr (fo)))))), (wr, .inr (7, [.ref w1, .int (zI wn)])), (w1, .inl (cw1, 24, .inl fw)), (fr, .inr (0, [.ref k1, .ref k2, .ref k3, .int (zI fn)])), (k3, .inl (ck3, 4, .inl fh)), (pf, .inr (1, [.ref p1, .int (zI pn)])), (p1, .inl (cp1, 4, .inl uf_4)), (rc, .inr (3, [.ref y1, .int (zI un_9)])), (y1, .inl (cy1, 5, .inl uf_10))] : va_W) ++ kRows pr ug_23 cy) H := hP.part [2, 3, 4, 5, 6, 7, 8, 9, 10, 11, 12, 13, 14, 15, 16, 0, 1] ax_X8_prefer_10
    have hD9 : va_D A (([(h0, .inr (8, [.ref sh, .ref rd, .ref fr, .ref wr, .ref pf, .ref rc, .ref se, .ref rs, .ref sw, .ref sp, .ref ss, .int (zI ew), .long wc, .int (zI tr), .int (zI lf)])), (se, .inr (4, [.ref g1, .ref g2, .ref g3, .ref g4, .ref g5, .int (zI uc_14), .int (zI ub_15), .int (zI ur_16), .ref g6, .ref g7])), (g1, .inl (cg1, 24, .inl v1_17)), (g2, .inl (cg2, 24, .inl v2_18)), (g3, .inl (cg3, 24, .inl v3_19)), (g4, .inl (cg4, 24, .inl v4_20)), (g5, .inl (cg5, 24, .inl v5_21)), (g6, .inl (cg6, 24, .inl v6_22)), (g7, .inl (cg7, 24, .inr (.inr (.inr (.inr (fo)))))), (wr, .inr (7, [.ref w1, .int (zI wn)])), (w1, .inl (cw1, 24, .inl fw)), (fr, .inr (0, [.ref k1, .ref k2, .ref k3, .int (zI fn)])), (k3, .inl (ck3, 4, .inl fh)), (pf, .inr (1, [.ref p1, .int (zI pn)])), (p1, .inl (cp1, 4, .inl uf_4)), (rc, .inr (3, [.ref y1, .int (zI un_9)])), (y1, .inl (cy1, 5, .inl uf_10))] : va_W) ++ kRows pr ug_23 cy) := hD.part [2, 3, 4, 5, 6, 7, 8, 9, 10, 11, 12, 13, 14, 15, 16, 0, 1] (by decide +kernel) ax_X8_prefer_10
    exact W.iret (v := (zI z_2)) hx hb hr (fun t ht hW => kQS_of (by omega) ⟨uf_4, un_9, uf_10, uc_14, ub_15, ur_16, v1_17, v2_18, v3_19, v4_20, v5_21, v6_22, ug_23, h_24, h_25, h_26, h_6, h_11, (Or.inr ⟨by omega, h_3.2, ⟨_, h_8⟩, by omega, h_13⟩), by rw [ht]; exact hP9, hD9⟩ (hS.F ht)) hS.2.2 dX8_prefer_44
  · have c_1 : ¬ (0 ≤ f ∧ f ≤ fn - 1) := b01f c_1
    refine lv_iconst (v := zI (-1)) hx hb dX8_prefer_11 rfl ?_
    have hP9 : va_P D vwCl (([(h0, .inr (8, [.ref sh, .ref rd, .ref fr, .ref wr, .ref pf, .ref rc, .ref se, .ref rs, .ref sw, .ref sp, .ref ss, .int (zI ew), .long wc, .int (zI tr), .int (zI lf)])), (se, .inr (4, [.ref g1, .ref g2, .ref g3, .ref g4, .ref g5, .int (zI cn), .int (zI bo), .int (zI ru), .ref g6, .ref g7])), (g1, .inl (cg1, 24, .inl f1)), (g2, .inl (cg2, 24, .inl f2)), (g3, .inl (cg3, 24, .inl f3)), (g4, .inl (cg4, 24, .inl f4)), (g5, .inl (cg5, 24, .inl f5)), (g6, .inl (cg6, 24, .inl f6)), (g7, .inl (cg7, 24, .inr (.inr (.inr (.inr (fo)))))), (wr, .inr (7, [.ref w1, .int (zI wn)])), (w1, .inl (cw1, 24, .inl fw)), (fr, .inr (0, [.ref k1, .ref k2, .ref k3, .int (zI fn)])), (k3, .inl (ck3, 4, .inl fh)), (pf, .inr (1, [.ref p1, .int (zI pn)])), (p1, .inl (cp1, 4, .inl fp)), (rc, .inr (3, [.ref y1, .int (zI rn)])), (y1, .inl (cy1, 5, .inl fy))] : va_W) ++ kRows pr gp cy) s.heap := hP.part [0, 1, 2, 3, 4, 5, 6, 7, 8, 9, 10, 11, 12, 13, 14, 15, 16] ax_X8_prefer_11
    have hD9 : va_D A (([(h0, .inr (8, [.ref sh, .ref rd, .ref fr, .ref wr, .ref pf, .ref rc, .ref se, .ref rs, .ref sw, .ref sp, .ref ss, .int (zI ew), .long wc, .int (zI tr), .int (zI lf)])), (se, .inr (4, [.ref g1, .ref g2, .ref g3, .ref g4, .ref g5, .int (zI cn), .int (zI bo), .int (zI ru), .ref g6, .ref g7])), (g1, .inl (cg1, 24, .inl f1)), (g2, .inl (cg2, 24, .inl f2)), (g3, .inl (cg3, 24, .inl f3)), (g4, .inl (cg4, 24, .inl f4)), (g5, .inl (cg5, 24, .inl f5)), (g6, .inl (cg6, 24, .inl f6)), (g7, .inl (cg7, 24, .inr (.inr (.inr (.inr (fo)))))), (wr, .inr (7, [.ref w1, .int (zI wn)])), (w1, .inl (cw1, 24, .inl fw)), (fr, .inr (0, [.ref k1, .ref k2, .ref k3, .int (zI fn)])), (k3, .inl (ck3, 4, .inl fh)), (pf, .inr (1, [.ref p1, .int (zI pn)])), (p1, .inl (cp1, 4, .inl fp)), (rc, .inr (3, [.ref y1, .int (zI rn)])), (y1, .inl (cy1, 5, .inl fy))] : va_W) ++ kRows pr gp cy) := hD.part [0, 1, 2, 3, 4, 5, 6, 7, 8, 9, 10, 11, 12, 13, 14, 15, 16] (by decide +kernel) ax_X8_prefer_11
    exact W.iret (v := (zI (-1))) hx hb hr (fun t ht hW => kQS_of (by omega) ⟨fp, rn, fy, cn, bo, ru, f1, f2, f3, f4, f5, f6, gp, q1, q2, q3, q9, q10, (Or.inl ⟨by omega, by omega, rfl, rfl, rfl⟩), by rw [ht]; exact hP9, hD9⟩ (hS.F ht)) hS.2.2 dX8_prefer_12
theorem dX8_latest_0 : decode cX8_latest 0 = .ok (.iload_n 1, 1) := by decide +kernel
theorem dX8_latest_1 : decode cX8_latest 1 = .ok (.iconst 0, 1) := by decide +kernel
theorem dX8_latest_2 : decode cX8_latest 2 = .ok (.iconst 4, 1) := by decide +kernel
theorem dX8_latest_3 : decode cX8_latest 3 = .ok (.invokestatic 128, 3) := by decide +kernel
theorem dX8_latest_6 : decode cX8_latest 6 = .ok (.ifCond .ne 6, 3) := by decide +kernel
theorem dX8_latest_9 : decode cX8_latest 9 = .ok (.bipush (-2), 2) := by decide +kernel
theorem dX8_latest_11 : decode cX8_latest 11 = .ok (.ireturn, 1) := by decide +kernel
theorem dX8_latest_12 : decode cX8_latest 12 = .ok (.iload_n 1, 1) := by decide +kernel
theorem dX8_latest_13 : decode cX8_latest 13 = .ok (.aload_n 0, 1) := by decide +kernel
theorem dX8_latest_14 : decode cX8_latest 14 = .ok (.getfield 49, 3) := by decide +kernel
theorem dX8_latest_17 : decode cX8_latest 17 = .ok (.getfield 144, 3) := by decide +kernel
theorem dX8_latest_20 : decode cX8_latest 20 = .ok (.if_icmp .ge 15, 3) := by decide +kernel
theorem dX8_latest_23 : decode cX8_latest 23 = .ok (.aload_n 0, 1) := by decide +kernel
theorem dX8_latest_24 : decode cX8_latest 24 = .ok (.getfield 49, 3) := by decide +kernel
theorem dX8_latest_27 : decode cX8_latest 27 = .ok (.getfield 202, 3) := by decide +kernel
theorem dX8_latest_30 : decode cX8_latest 30 = .ok (.iload_n 1, 1) := by decide +kernel
theorem dX8_latest_31 : decode cX8_latest 31 = .ok (.iaload, 1) := by decide +kernel
theorem dX8_latest_32 : decode cX8_latest 32 = .ok (.goto 5, 3) := by decide +kernel
theorem dX8_latest_35 : decode cX8_latest 35 = .ok (.bipush (-9), 2) := by decide +kernel
theorem dX8_latest_37 : decode cX8_latest 37 = .ok (.ireturn, 1) := by decide +kernel
set_option maxRecDepth 20000 in
theorem ggX8_latest_X8_isWithin : GoodIn wsX8_latest wsX8_isWithin := goodIn_r _ [7] (by decide +kernel) (by decide +kernel)
set_option maxRecDepth 20000 in
theorem gX8_latest_X8_isWithin : GoodIn wsX8_latest (va_wsS RX8 128 yX8_isWithin wsX8_isWithin) := goodIn_app (goodIn_of _ (by decide +kernel)) ggX8_latest_X8_isWithin
set_option maxRecDepth 20000 in
theorem mw_X8_latest_0 : (.fieldLink RX8 49 "FontRuns" "recent" "LFontRuns$Recent;" : Cond) ∈ wsX8_latest := by decide +kernel
set_option maxRecDepth 20000 in
theorem mw_X8_latest_1 : (.fieldLink RX8 144 "FontRuns$Recent" "count" "I" : Cond) ∈ wsX8_latest := by decide +kernel
set_option maxRecDepth 20000 in
theorem mw_X8_latest_2 : (.fieldLink RX8 202 "FontRuns$Recent" "row" "[I" : Cond) ∈ wsX8_latest := by decide +kernel
theorem ax_X8_latest_0 {e0 e1 e2 : Nat × va_E} : ([] : List Nat).map (fun i => ([e0, e1, e2] : va_W)[i]?) = ([] : va_W).map some := rfl
set_option maxHeartbeats 4000000 in
set_option maxRecDepth 100000 in
theorem c_X8_latest (l : Launch) (D : va_G) (sz : Nat) (k : Int) (h0 : Nat) (sh : Nat) (rd : Nat) (fr : Nat) (wr : Nat) (pf : Nat) (rc : Nat) (se : Nat) (rs : Nat) (sw : Nat) (sp : Nat) (ss : Nat) (ew : Int) (wc : Int64) (tr : Int) (lf : Int) (y1 : Nat) (rn : Int) (cy1 : ClassId) (fy : Nat → Int32) (q0 : rg k) (q1 : 0 ≤ rn ∧ rn ≤ 5) : Met l yX8_latest wsX8_latest ({ frames := 1, cells := 0, slots := 0, locals := 22 }) (kPre [.ref h0, .int (zI k)] D [(h0, .inr (8, [.ref sh, .ref rd, .ref fr, .ref wr, .ref pf, .ref rc, .ref se, .ref rs, .ref sw, .ref sp, .ref ss, .int (zI ew), .long wc, .int (zI tr), .int (zI lf)])), (rc, .inr (3, [.ref y1, .int (zI rn)])), (y1, .inl (cy1, 5, .inl fy))] [(cy1, .int)] sz) (QcP (fun rz => kLaX k rn fy rz)) 0 0 (fun _ => False) := by
  refine Met.ofW (cc := cX8_latest) (maxL := 2) (ret := (some .int)) (by decide) rfl ?_
  intro p e s m args below meth c s₁ B hml hv
  obtain ⟨rfl, hsz, hP, hK, hD0, hN⟩ := hv
  have hx := B.exec
  have hb := B.bytes
  have hr := B.returns
  have hts := atoms_spec (ws := wsX8_latest) B.pre
  have hown : s.vm.findClass RX8 = some m.cls := findClass_of_methodNamed B.named
  have hlocks := B.notSynchronized
  subst hsz
  have hD := hD0
  have hP : va_P D vwCl [(h0, .inr (8, [.ref sh, .ref rd, .ref fr, .ref wr, .ref pf, .ref rc, .ref se, .ref rs, .ref sw, .ref sp, .ref ss, .int (zI ew), .long wc, .int (zI tr), .int (zI lf)])), (rc, .inr (3, [.ref y1, .int (zI rn)])), (y1, .inl (cy1, 5, .inl fy))] s.heap := hP
  have hl := lv_entry ([.ref h0, .int (zI k)]) (n := 2) (Nat.le_of_ble_eq_true rfl)
  rw [lg_entry_eq]
  generalize (lg_sl ([.ref h0, .int (zI k)]) ++ List.replicate (2 - (lg_sl ([.ref h0, .int (zI k)])).length) Slot.unset).toArray = ls at hl ⊢
  have hl : lv_has ls 2 [(0, .ref h0), (1, .int (zI k))] := hl
  refine lv_iload_n hx hb dX8_latest_0 rfl (lv_at hl 1 rfl) ?_
  refine lv_iconst (v := zI 0) hx hb dX8_latest_1 rfl ?_
  refine lv_iconst (v := zI 4) hx hb dX8_latest_2 rfl ?_
  refine k_callR (va_runS (As := [.int (zI k), .int (zI 0), .int (zI 4)]) (rest := []) ⟨hx, hb, hml, hown, hts⟩ (c_X8_isWithin l D s.heap.size (v := k) (a := 0) (b := 4) q0 (by omega) (by omega)) (va_cwS 3 hts gX8_latest_X8_isWithin rfl rfl rfl (by decide +kernel) ⟨Nat.le_of_ble_eq_true rfl, Nat.le_of_ble_eq_true rfl⟩) (kPreS hP (kD0 hD) hK hN [] [] ax_X8_latest_0 rfl (by decide +kernel)) rfl rfl hl.1 rfl (lv_room (Nat.le_of_ble_eq_true rfl)) dX8_latest_3 ⟨Nat.le_of_ble_eq_true rfl, Nat.le_of_ble_eq_true rfl⟩) ?_
  refine lv_if_ne (tgt := 12) hx hb dX8_latest_6 (by decide) (fun c_1 => ?_) (fun c_1 => ?_)
  · have c_1 : 0 ≤ k ∧ k ≤ 4 := b01t c_1
    refine lv_iload_n hx hb dX8_latest_12 rfl (lv_at hl 1 rfl) ?_
    refine lv_aload_n hx hb dX8_latest_13 rfl (lv_at hl 0 rfl) ?_
    refine va_get (D := D) (ci := 8) (v := .ref rc) (C := RX8) (T := TX8) (N := 15) hx hb hts (fun _ h9 => List.mem_cons_of_mem _ (List.mem_append_left _ (List.mem_append_right _ h9))) hown hK hP 0 rfl rfl 5 (by decide) (hts (.fieldLink RX8 49 "FontRuns" "recent" "LFontRuns$Recent;") mw_X8_latest_0) (fun _ h9 => h9) rfl dX8_latest_14 ?_
    refine va_get (D := D) (ci := 3) (v := .int (zI rn)) (C := RX3) (T := TX3) (N := 2) hx hb hts (fun _ h9 => List.mem_cons_of_mem _ (List.mem_append_right _ h9)) hown hK hP 1 rfl rfl 1 (by decide) (hts (.fieldLink RX8 144 "FontRuns$Recent" "count" "I") mw_X8_latest_1) (fun _ h9 => h9) rfl dX8_latest_17 ?_
    refine kz_icmp_ge (tgt := 35) hx hb dX8_latest_20 (by decide) (by omega) (by omega) (fun c_2 => ?_) (fun c_2 => ?_)
    · refine lv_bipush (v := zI (-9)) hx hb dX8_latest_35 (by decide) ?_
      exact W.iret (v := (zI (-9))) hx hb hr (fun t ht hW => QcP_of (by omega) (Or.inr ⟨by omega, Or.inr ⟨by omega, by omega⟩⟩) ht) (fun _ h9 => by cases h9) dX8_latest_37
    · refine lv_aload_n hx hb dX8_latest_23 rfl (lv_at hl 0 rfl) ?_
      refine va_get (D := D) (ci := 8) (v := .ref rc) (C := RX8) (T := TX8) (N := 15) hx hb hts (fun _ h9 => List.mem_cons_of_mem _ (List.mem_append_left _ (List.mem_append_right _ h9))) hown hK hP 0 rfl rfl 5 (by decide) (hts (.fieldLink RX8 49 "FontRuns" "recent" "LFontRuns$Recent;") mw_X8_latest_0) (fun _ h9 => h9) rfl dX8_latest_24 ?_
      refine va_get (D := D) (ci := 3) (v := .ref y1) (C := RX3) (T := TX3) (N := 2) hx hb hts (fun _ h9 => List.mem_cons_of_mem _ (List.mem_append_right _ h9)) hown hK hP 1 rfl rfl 0 (by decide) (hts (.fieldLink RX8 202 "FontRuns$Recent" "row" "[I") mw_X8_latest_2) (fun _ h9 => h9) rfl dX8_latest_27 ?_
      refine lv_iload_n hx hb dX8_latest_30 rfl (lv_at hl 1 rfl) ?_
      refine kz_iald hx hb hK hP 2 0 rfl rfl (by omega) dX8_latest_31 (fun z_3 rz_3 ez_3 => ?_)
      refine lv_goto (tgt := 37) hx hb dX8_latest_32 (by decide) ?_
      exact W.iret (v := (zI z_3)) hx hb hr (fun t ht hW => QcP_of (by omega) (Or.inr ⟨by omega, Or.inl ⟨by omega, ez_3.symm⟩⟩) ht) (fun _ h9 => by cases h9) dX8_latest_37
  · have c_1 : ¬ (0 ≤ k ∧ k ≤ 4) := b01f c_1
    refine lv_bipush (v := zI (-2)) hx hb dX8_latest_9 (by decide) ?_
    exact W.iret (v := (zI (-2))) hx hb hr (fun t ht hW => QcP_of (by omega) (Or.inl ⟨by omega, by omega⟩) ht) (fun _ h9 => by cases h9) dX8_latest_11
set_option maxRecDepth 20000 in
theorem mw_X2_add_w_0 : (.fieldLink RX2 20 "FontRuns$Readings" "count" "I" : Cond) ∈ wsX2_add := by decide +kernel
set_option maxRecDepth 20000 in
theorem mw_X2_add_w_1 : (.initialized RX8 : Cond) ∈ wsX2_add := by decide +kernel
set_option maxRecDepth 20000 in
theorem mw_X2_add_w_2 : (.static yX8_isWithin : Cond) ∈ wsX2_add := by decide +kernel
set_option maxRecDepth 20000 in
theorem mw_X2_add_w_3 : (.fieldLink RX2 9 "FontRuns$Readings" "value" "[I" : Cond) ∈ wsX2_add := by decide +kernel
set_option maxRecDepth 20000 in
theorem mw_X2_add_w_4 : (.fieldLink RX2 17 "FontRuns$Readings" "clusters" "[[I" : Cond) ∈ wsX2_add := by decide +kernel
theorem ax_X2_add_w_0 {e0 e1 e2 e3 e4 : Nat × va_E} {k : va_W} : ([] : List Nat).map (fun i => (([e0, e1, e2, e3, e4] : va_W) ++ k)[i]?) = ([] : va_W).map some := rfl
theorem ax_X2_add_w_1 {e0 e1 e2 e3 e4 : Nat × va_E} : ([0, 1, 2, 3, 4] : List Nat).map (fun i => ([e0, e1, e2, e3, e4] : va_W)[i]?) = ([e0, e1, e2, e3, e4] : va_W).map some := rfl
theorem ax_X2_add_w_2 {e0 e1 e2 e3 e4 : Nat × va_E} {k : va_W} : ([3, 4] : List Nat).map (fun i => (([e0, e1, e2, e3, e4] : va_W) ++ k)[i]?) = ([e3, e4] : va_W).map some := rfl
set_option maxHeartbeats 4000000 in
set_option maxRecDepth 100000 in
theorem c_X2_add_w (l : Launch) (D : va_G) (sz : Nat) (se : Nat) (x : Int) (h0 : Nat) (n : Int) (v1 : Nat) (v2 : Nat) (cv1 : ClassId) (fv : Nat → Int32) (cv2 : ClassId) (fq : Nat → Option Nat) (o2 : Nat) (g1 : Nat) (g2 : Nat) (g3 : Nat) (g4 : Nat) (g5 : Nat) (cn : Int) (bo : Int) (ru : Int) (g6 : Nat) (g7 : Nat) (cg4 : ClassId) (f4 : Nat → Int32) (pr : Nat → Nat) (gp : Nat → Nat → Int32) (cy : ClassId) (q0 : rg x) (q1 : 0 ≤ n ∧ n ≤ 8) (q2 : 0 ≤ cn ∧ cn ≤ 24) (q3 : 0 ≤ bo ∧ bo ≤ 24) (q4 : 0 ≤ ru ∧ ru ≤ cn) (q5 : kOut fq pr o2 8) (q6 : o2 + 8 ≤ 56) : Met l yX2_add wsX2_add ({ frames := 1, cells := 0, slots := 0, locals := 23 }) (kPre [.ref h0, .ref se, .int (zI x)] D (([(h0, .inr (2, [.int (zI n), .ref v1, .ref v2])), (v1, .inl (cv1, 8, .inl fv)), (v2, .inl (cv2, 8, .inr (.inr (.inr (.inr (fq)))))), (se, .inr (4, [.ref g1, .ref g2, .ref g3, .ref g4, .ref g5, .int (zI cn), .int (zI bo), .int (zI ru), .ref g6, .ref g7])), (g4, .inl (cg4, 24, .inl f4))] : va_W) ++ kRows pr gp cy) [(cv1, .int), (cv2, .array .int), (cg4, .int), (cy, .int)] sz) (kQS (fun rz t => ∃ (un : Int) (uf : Nat → Int32) (ug : Nat → Nat → Int32), (0 ≤ un ∧ un ≤ 8) ∧ (rz = 0 ∨ rz = 1) ∧ ((n ≤ 7 ∧ rz = 1 ∧ un = n + 1) ∨ (n = 8 ∧ rz = 0 ∧ un = n)) ∧ va_P D vwCl (([(h0, .inr (2, [.int (zI un), .ref v1, .ref v2])), (v1, .inl (cv1, 8, .inl uf)), (v2, .inl (cv2, 8, .inr (.inr (.inr (.inr (fq)))))), (se, .inr (4, [.ref g1, .ref g2, .ref g3, .ref g4, .ref g5, .int (zI cn), .int (zI bo), .int (zI ru), .ref g6, .ref g7])), (g4, .inl (cg4, 24, .inl f4))] : va_W) ++ kRows pr ug cy) t.heap ∧ va_D (va_A (([(h0, .inr (2, [.int (zI n), .ref v1, .ref v2])), (v1, .inl (cv1, 8, .inl fv)), (v2, .inl (cv2, 8, .inr (.inr (.inr (.inr (fq)))))), (se, .inr (4, [.ref g1, .ref g2, .ref g3, .ref g4, .ref g5, .int (zI cn), .int (zI bo), .int (zI ru), .ref g6, .ref g7])), (g4, .inl (cg4, 24, .inl f4))] : va_W) ++ kRows pr gp cy) sz) (([(h0, .inr (2, [.int (zI un), .ref v1, .ref v2])), (v1, .inl (cv1, 8, .inl uf)), (v2, .inl (cv2, 8, .inr (.inr (.inr (.inr (fq)))))), (se, .inr (4, [.ref g1, .ref g2, .ref g3, .ref g4, .ref g5, .int (zI cn), .int (zI bo), .int (zI ru), .ref g6, .ref g7])), (g4, .inl (cg4, 24, .inl f4))] : va_W) ++ kRows pr ug cy)) (va_A (([(h0, .inr (2, [.int (zI n), .ref v1, .ref v2])), (v1, .inl (cv1, 8, .inl fv)), (v2, .inl (cv2, 8, .inr (.inr (.inr (.inr (fq)))))), (se, .inr (4, [.ref g1, .ref g2, .ref g3, .ref g4, .ref g5, .int (zI cn), .int (zI bo), .int (zI ru), .ref g6, .ref g7])), (g4, .inl (cg4, 24, .inl f4))] : va_W) ++ kRows pr gp cy) sz)) 0 0 (va_A (([(h0, .inr (2, [.int (zI n), .ref v1, .ref v2])), (v1, .inl (cv1, 8, .inl fv)), (v2, .inl (cv2, 8, .inr (.inr (.inr (.inr (fq)))))), (se, .inr (4, [.ref g1, .ref g2, .ref g3, .ref g4, .ref g5, .int (zI cn), .int (zI bo), .int (zI ru), .ref g6, .ref g7])), (g4, .inl (cg4, 24, .inl f4))] : va_W) ++ kRows pr gp cy) sz) := by
  refine Met.ofW (cc := cX2_add) (maxL := 4) (ret := (some .boolean)) (by decide) rfl ?_
  intro p e s m args below meth c s₁ B hml hv
  obtain ⟨rfl, hsz, hP, hK, hD0, hN⟩ := hv
  have hx := B.exec
  have hb := B.bytes
  have hr := B.returns
  have hts := atoms_spec (ws := wsX2_add) B.pre
  have hown : s.vm.findClass RX2 = some m.cls := findClass_of_methodNamed B.named
  have hlocks := B.notSynchronized
  subst hsz
  have hD := hD0.self (sz := s.heap.size)
  generalize hAe : va_A (([(h0, .inr (2, [.int (zI n), .ref v1, .ref v2])), (v1, .inl (cv1, 8, .inl fv)), (v2, .inl (cv2, 8, .inr (.inr (.inr (.inr (fq)))))), (se, .inr (4, [.ref g1, .ref g2, .ref g3, .ref g4, .ref g5, .int (zI cn), .int (zI bo), .int (zI ru), .ref g6, .ref g7])), (g4, .inl (cg4, 24, .inl f4))] : va_W) ++ kRows pr gp cy) s.heap.size = A at hD ⊢
  have hA : ∀ q : Nat, s.heap.size ≤ q → A q := fun q h => by rw [← hAe]; exact Or.inr h
  have hS : va_S A s.heap s.heap [] := va_S.rf
  have hP : va_P D vwCl (([(h0, .inr (2, [.int (zI n), .ref v1, .ref v2])), (v1, .inl (cv1, 8, .inl fv)), (v2, .inl (cv2, 8, .inr (.inr (.inr (.inr (fq)))))), (se, .inr (4, [.ref g1, .ref g2, .ref g3, .ref g4, .ref g5, .int (zI cn), .int (zI bo), .int (zI ru), .ref g6, .ref g7])), (g4, .inl (cg4, 24, .inl f4))] : va_W) ++ kRows pr gp cy) s.heap := hP
  have hl := lv_entry ([.ref h0, .ref se, .int (zI x)]) (n := 4) (Nat.le_of_ble_eq_true rfl)
  rw [lg_entry_eq]
  generalize (lg_sl ([.ref h0, .ref se, .int (zI x)]) ++ List.replicate (4 - (lg_sl ([.ref h0, .ref se, .int (zI x)])).length) Slot.unset).toArray = ls at hl ⊢
  have hl : lv_has ls 4 [(0, .ref h0), (1, .ref se), (2, .int (zI x))] := hl
  refine lv_aload_n hx hb dX2_add_0 rfl (lv_at hl 0 rfl) ?_
  refine va_get (D := D) (ci := 2) (v := .int (zI n)) (C := RX2) (T := TX2) (N := 3) hx hb hts (fun _ h9 => List.mem_cons_of_mem _ (List.mem_append_left _ (List.mem_append_right _ h9))) hown hK hP 0 rfl rfl 0 (by decide) (hts (.fieldLink RX2 20 "FontRuns$Readings" "count" "I") mw_X2_add_w_0) (fun _ h9 => h9) rfl dX2_add_1 ?_
  refine lv_iconst (v := zI 0) hx hb dX2_add_4 rfl ?_
  refine lv_bipush (v := zI 7) hx hb dX2_add_5 (by decide) ?_
  refine k_callR (va_runSN (As := [.int (zI n), .int (zI 0), .int (zI 7)]) (rest := []) ⟨hx, hb, hml, hown, hts⟩ (c_X8_isWithin l D s.heap.size (v := n) (a := 0) (b := 7) (by omega) (by omega) (by omega)) (⟨va_cnB 3 hts gX2_add_X8_isWithin_n24 rfl rfl rfl (hN.1 (RX2, 24, yX8_isWithin) (by decide +kernel)) (hts (.initialized RX8) mw_X2_add_w_1) (by decide +kernel) ⟨Nat.le_of_ble_eq_true rfl, Nat.le_of_ble_eq_true rfl⟩, (hts (.static yX8_isWithin) mw_X2_add_w_2), trivial⟩) (kPreS hP (kD0 hD) hK hN [] [] ax_X2_add_w_0 rfl (by decide +kernel)) rfl rfl hl.1 rfl (lv_room (Nat.le_of_ble_eq_true rfl)) dX2_add_7 ⟨Nat.le_of_ble_eq_true rfl, Nat.le_of_ble_eq_true rfl⟩) ?_
  refine lv_if_ne (tgt := 15) hx hb dX2_add_10 (by decide) (fun c_1 => ?_) (fun c_1 => ?_)
  · have c_1 : 0 ≤ n ∧ n ≤ 7 := b01t c_1
    refine lv_aload_n hx hb dX2_add_15 rfl (lv_at hl 0 rfl) ?_
    refine va_get (D := D) (ci := 2) (v := .ref v1) (C := RX2) (T := TX2) (N := 3) hx hb hts (fun _ h9 => List.mem_cons_of_mem _ (List.mem_append_left _ (List.mem_append_right _ h9))) hown hK hP 0 rfl rfl 1 (by decide) (hts (.fieldLink RX2 9 "FontRuns$Readings" "value" "[I") mw_X2_add_w_3) (fun _ h9 => h9) rfl dX2_add_16 ?_
    refine lv_aload_n hx hb dX2_add_19 rfl (lv_at hl 0 rfl) ?_
    refine va_get (D := D) (ci := 2) (v := .int (zI n)) (C := RX2) (T := TX2) (N := 3) hx hb hts (fun _ h9 => List.mem_cons_of_mem _ (List.mem_append_left _ (List.mem_append_right _ h9))) hown hK hP 0 rfl rfl 0 (by decide) (hts (.fieldLink RX2 20 "FontRuns$Readings" "count" "I") mw_X2_add_w_0) (fun _ h9 => h9) rfl dX2_add_20 ?_
    refine lv_iload_n hx hb dX2_add_23 rfl (lv_at hl 2 rfl) ?_
    refine kz_iast hx hb hK hP hD hS 1 0 rfl rfl (by omega) dX2_add_24 (fun H locs hP hD hS => ?_)
    have hP : va_P D vwCl (([(h0, .inr (2, [.int (zI n), .ref v1, .ref v2])), (v1, .inl (cv1, 8, .inl (upd fv (n).toNat (zI x)))), (v2, .inl (cv2, 8, .inr (.inr (.inr (.inr (fq)))))), (se, .inr (4, [.ref g1, .ref g2, .ref g3, .ref g4, .ref g5, .int (zI cn), .int (zI bo), .int (zI ru), .ref g6, .ref g7])), (g4, .inl (cg4, 24, .inl f4))] : va_W) ++ kRows pr gp cy) H := hP
    have hD : va_D A (([(h0, .inr (2, [.int (zI n), .ref v1, .ref v2])), (v1, .inl (cv1, 8, .inl (upd fv (n).toNat (zI x)))), (v2, .inl (cv2, 8, .inr (.inr (.inr (.inr (fq)))))), (se, .inr (4, [.ref g1, .ref g2, .ref g3, .ref g4, .ref g5, .int (zI cn), .int (zI bo), .int (zI ru), .ref g6, .ref g7])), (g4, .inl (cg4, 24, .inl f4))] : va_W) ++ kRows pr gp cy) := hD
    generalize ef_2 : upd fv (n).toNat (zI x) = f_2 at hP hD
    refine lv_iconst (v := zI 0) hx hb dX2_add_25 rfl ?_
    refine lv_istore_n (lv' := [(3, .int (zI 0)), (0, .ref h0), (1, .ref se), (2, .int (zI x))]) hx hb dX2_add_26 rfl hl (by decide) rfl (fun ls hl => ?_)
    refine k_loopM (I := fun n9 H locs ls => ∃ (jk : Int) (jp : Nat → Nat → Int32), n9 = (4 - jk).toNat ∧ (0 ≤ jk ∧ jk ≤ 4) ∧ va_P D vwCl (([(h0, .inr (2, [.int (zI n), .ref v1, .ref v2])), (v1, .inl (cv1, 8, .inl f_2)), (v2, .inl (cv2, 8, .inr (.inr (.inr (.inr (fq)))))), (se, .inr (4, [.ref g1, .ref g2, .ref g3, .ref g4, .ref g5, .int (zI cn), .int (zI bo), .int (zI ru), .ref g6, .ref g7])), (g4, .inl (cg4, 24, .inl f4))] : va_W) ++ kRows pr jp cy) H ∧ va_D A (([(h0, .inr (2, [.int (zI n), .ref v1, .ref v2])), (v1, .inl (cv1, 8, .inl f_2)), (v2, .inl (cv2, 8, .inr (.inr (.inr (.inr (fq)))))), (se, .inr (4, [.ref g1, .ref g2, .ref g3, .ref g4, .ref g5, .int (zI cn), .int (zI bo), .int (zI ru), .ref g6, .ref g7])), (g4, .inl (cg4, 24, .inl f4))] : va_W) ++ kRows pr jp cy) ∧ va_S A s.heap H locs ∧ lv_has ls 4 [(3, .int (zI jk)), (0, .ref h0), (1, .ref se), (2, .int (zI x))]) ?_ _ ⟨0, gp, rfl, (by omega), hP, hD, hS, hl⟩
    intro n27 ih27 H locs ls hI
    obtain ⟨jk, jp, en27, v_270, hP, hD, hS, hl⟩ := hI
    refine lv_iload_n hx hb dX2_add_27 rfl (lv_at hl 0 rfl) ?_
    refine lv_iconst (v := zI 4) hx hb dX2_add_28 rfl ?_
    refine kz_icmp_ge (tgt := 54) hx hb dX2_add_29 (by decide) (by omega) (by omega) (fun c_3 => ?_) (fun c_3 => ?_)
    · refine lv_aload_n hx hb dX2_add_54 rfl (lv_at hl 1 rfl) ?_
      refine lv_dup hx hb dX2_add_55 rfl ?_
      refine va_get (D := D) (ci := 2) (v := .int (zI n)) (C := RX2) (T := TX2) (N := 3) hx hb hts (fun _ h9 => List.mem_cons_of_mem _ (List.mem_append_left _ (List.mem_append_right _ h9))) hown hK hP 0 rfl rfl 0 (by decide) (hts (.fieldLink RX2 20 "FontRuns$Readings" "count" "I") mw_X2_add_w_0) (fun _ h9 => h9) rfl dX2_add_56 ?_
      refine lv_iconst (v := zI 1) hx hb dX2_add_59 rfl ?_
      refine kz_iadd hx hb dX2_add_60 ?_
      refine va_put (D := D) (ci := 2) (v := .int (zI (n + 1))) (ty := .int) (C := RX2) (T := TX2) (N := 3) hx hb hts (fun _ h9 => List.mem_cons_of_mem _ (List.mem_append_left _ (List.mem_append_right _ h9))) tyX2 tyX2_ok nmX2 hown hK hP hD hS 0 rfl rfl 0 (by decide) (hts (.fieldLink RX2 20 "FontRuns$Readings" "count" "I") mw_X2_add_w_0) (fun _ h9 => h9) rfl (by decide +kernel) rfl rfl (Nat.le_of_ble_eq_true rfl) dX2_add_61 (fun H locs hP hD hS => ?_)
      have hP : va_P D vwCl (([(h0, .inr (2, [.int (zI (n + 1)), .ref v1, .ref v2])), (v1, .inl (cv1, 8, .inl f_2)), (v2, .inl (cv2, 8, .inr (.inr (.inr (.inr (fq)))))), (se, .inr (4, [.ref g1, .ref g2, .ref g3, .ref g4, .ref g5, .int (zI cn), .int (zI bo), .int (zI ru), .ref g6, .ref g7])), (g4, .inl (cg4, 24, .inl f4))] : va_W) ++ kRows pr jp cy) H := hP
      have hD : va_D A (([(h0, .inr (2, [.int (zI (n + 1)), .ref v1, .ref v2])), (v1, .inl (cv1, 8, .inl f_2)), (v2, .inl (cv2, 8, .inr (.inr (.inr (.inr (fq)))))), (se, .inr (4, [.ref g1, .ref g2, .ref g3, .ref g4, .ref g5, .int (zI cn), .int (zI bo), .int (zI ru), .ref g6, .ref g7])), (g4, .inl (cg4, 24, .inl f4))] : va_W) ++ kRows pr jp cy) := hD
      refine lv_iconst (v := zI 1) hx hb dX2_add_64 rfl ?_
      have hP9 : va_P D vwCl (([(h0, .inr (2, [.int (zI (n + 1)), .ref v1, .ref v2])), (v1, .inl (cv1, 8, .inl f_2)), (v2, .inl (cv2, 8, .inr (.inr (.inr (.inr (fq)))))), (se, .inr (4, [.ref g1, .ref g2, .ref g3, .ref g4, .ref g5, .int (zI cn), .int (zI bo), .int (zI ru), .ref g6, .ref g7])), (g4, .inl (cg4, 24, .inl f4))] : va_W) ++ kRows pr jp cy) H := hP.part [0, 1, 2, 3, 4] ax_X2_add_w_1
      have hD9 : va_D A (([(h0, .inr (2, [.int (zI (n + 1)), .ref v1, .ref v2])), (v1, .inl (cv1, 8, .inl f_2)), (v2, .inl (cv2, 8, .inr (.inr (.inr (.inr (fq)))))), (se, .inr (4, [.ref g1, .ref g2, .ref g3, .ref g4, .ref g5, .int (zI cn), .int (zI bo), .int (zI ru), .ref g6, .ref g7])), (g4, .inl (cg4, 24, .inl f4))] : va_W) ++ kRows pr jp cy) := hD.part [0, 1, 2, 3, 4] (by decide +kernel) ax_X2_add_w_1
      exact W.zret (v := (zI 1)) hx hb hr rfl (fun t ht hW => kQS_of (by omega) ⟨(n + 1), f_2, jp, (by omega), (by omega), (by omega), by rw [ht]; exact hP9, hD9⟩ (hS.F ht)) hS.2.2 dX2_add_65
    · refine lv_aload_n hx hb dX2_add_32 rfl (lv_at hl 1 rfl) ?_
      refine va_get (D := D) (ci := 2) (v := .ref v2) (C := RX2) (T := TX2) (N := 3) hx hb hts (fun _ h9 => List.mem_cons_of_mem _ (List.mem_append_left _ (List.mem_append_right _ h9))) hown hK hP 0 rfl rfl 2 (by decide) (hts (.fieldLink RX2 17 "FontRuns$Readings" "clusters" "[[I") mw_X2_add_w_4) (fun _ h9 => h9) rfl dX2_add_33 ?_
      refine lv_aload_n hx hb dX2_add_36 rfl (lv_at hl 1 rfl) ?_
      refine va_get (D := D) (ci := 2) (v := .int (zI n)) (C := RX2) (T := TX2) (N := 3) hx hb hts (fun _ h9 => List.mem_cons_of_mem _ (List.mem_append_left _ (List.mem_append_right _ h9))) hown hK hP 0 rfl rfl 0 (by decide) (hts (.fieldLink RX2 20 "FontRuns$Readings" "count" "I") mw_X2_add_w_0) (fun _ h9 => h9) rfl dX2_add_37 ?_
      refine kz_aald hx hb hK hP 2 1 rfl rfl (by omega) dX2_add_40 (q5 _ (by omega)) ?_
      refine lv_iload_n hx hb dX2_add_41 rfl (lv_at hl 0 rfl) ?_
      refine lv_aload_n hx hb dX2_add_42 rfl (lv_at hl 2 rfl) ?_
      refine lv_iload_n hx hb dX2_add_43 rfl (lv_at hl 0 rfl) ?_
      refine k_callP (va_runV (As := [.int (zI jk)]) (rest := [.int (zI jk), .ref (pr (o2 + (n).toNat))]) ⟨hx, hb, hml, hown, hts⟩ (c_X4_clustersIn l D H.size (f := jk) (h0 := se) (g1 := g1) (g2 := g2) (g3 := g3) (g4 := g4) (g5 := g5) (cn := cn) (bo := bo) (ru := ru) (g6 := g6) (g7 := g7) (cg4 := cg4) (f4 := f4) (by omega) q2 q3 q4) (cwV 1 hts gX2_add_X4_clustersIn rfl rfl rfl (by decide +kernel) ⟨Nat.le_of_ble_eq_true rfl, Nat.le_of_ble_eq_true rfl⟩) (kPreV hP (kD0 hD) hK hN [3, 4] [2] ax_X2_add_w_2 rfl (by decide +kernel) 3 4 rfl rfl) rfl rfl hl.1 rfl (lv_room (Nat.le_of_ble_eq_true rfl)) dX2_add_44 ⟨Nat.le_of_ble_eq_true rfl, Nat.le_of_ble_eq_true rfl⟩) (fun z_4 rz_4 h_5 => ?_)
      refine kz_rowst (X := [(h0, .inr (2, [.int (zI n), .ref v1, .ref v2])), (v1, .inl (cv1, 8, .inl f_2)), (v2, .inl (cv2, 8, .inr (.inr (.inr (.inr (fq)))))), (se, .inr (4, [.ref g1, .ref g2, .ref g3, .ref g4, .ref g5, .int (zI cn), .int (zI bo), .int (zI ru), .ref g6, .ref g7])), (g4, .inl (cg4, 24, .inl f4))]) hx hb hK hP hD hS 3 rfl (by omega) (by omega) dX2_add_47 (fun H locs hP hD hS => ?_)
      generalize va_up jp (o2 + (n).toNat) (upd (jp (o2 + (n).toNat)) (jk).toNat (zI z_4)) = gp_6 at hP hD
      have hP : va_P D vwCl (([(h0, .inr (2, [.int (zI n), .ref v1, .ref v2])), (v1, .inl (cv1, 8, .inl f_2)), (v2, .inl (cv2, 8, .inr (.inr (.inr (.inr (fq)))))), (se, .inr (4, [.ref g1, .ref g2, .ref g3, .ref g4, .ref g5, .int (zI cn), .int (zI bo), .int (zI ru), .ref g6, .ref g7])), (g4, .inl (cg4, 24, .inl f4))] : va_W) ++ kRows pr gp_6 cy) H := hP
      have hD : va_D A (([(h0, .inr (2, [.int (zI n), .ref v1, .ref v2])), (v1, .inl (cv1, 8, .inl f_2)), (v2, .inl (cv2, 8, .inr (.inr (.inr (.inr (fq)))))), (se, .inr (4, [.ref g1, .ref g2, .ref g3, .ref g4, .ref g5, .int (zI cn), .int (zI bo), .int (zI ru), .ref g6, .ref g7])), (g4, .inl (cg4, 24, .inl f4))] : va_W) ++ kRows pr gp_6 cy) := hD
      refine lv_iinc (v := (zI (jk + 1))) (lv' := [(3, .int (zI (jk + 1))), (0, .ref h0), (1, .ref se), (2, .int (zI x))]) hx hb dX2_add_48 hl (k := 0) rfl (kz_inc _ 1) (by decide) rfl (fun ls hl => ?_)
      refine lv_goto (tgt := 27) hx hb dX2_add_51 (by decide) ?_
      exact ih27 _ (by omega) _ _ _ ⟨(jk + 1), gp_6, rfl, (by omega), hP, hD, hS, lv_sub hl [0, 1, 2, 3] rfl⟩
  · have c_1 : ¬ (0 ≤ n ∧ n ≤ 7) := b01f c_1
    refine lv_iconst (v := zI 0) hx hb dX2_add_13 rfl ?_
    have hP9 : va_P D vwCl (([(h0, .inr (2, [.int (zI n), .ref v1, .ref v2])), (v1, .inl (cv1, 8, .inl fv)), (v2, .inl (cv2, 8, .inr (.inr (.inr (.inr (fq)))))), (se, .inr (4, [.ref g1, .ref g2, .ref g3, .ref g4, .ref g5, .int (zI cn), .int (zI bo), .int (zI ru), .ref g6, .ref g7])), (g4, .inl (cg4, 24, .inl f4))] : va_W) ++ kRows pr gp cy) s.heap := hP.part [0, 1, 2, 3, 4] ax_X2_add_w_1
    have hD9 : va_D A (([(h0, .inr (2, [.int (zI n), .ref v1, .ref v2])), (v1, .inl (cv1, 8, .inl fv)), (v2, .inl (cv2, 8, .inr (.inr (.inr (.inr (fq)))))), (se, .inr (4, [.ref g1, .ref g2, .ref g3, .ref g4, .ref g5, .int (zI cn), .int (zI bo), .int (zI ru), .ref g6, .ref g7])), (g4, .inl (cg4, 24, .inl f4))] : va_W) ++ kRows pr gp cy) := hD.part [0, 1, 2, 3, 4] (by decide +kernel) ax_X2_add_w_1
    exact W.zret (v := (zI 0)) hx hb hr rfl (fun t ht hW => kQS_of (by omega) ⟨n, fv, gp, q1, (by omega), (by omega), by rw [ht]; exact hP9, hD9⟩ (hS.F ht)) hS.2.2 dX2_add_14
theorem dX8_reading_0 : decode cX8_reading 0 = .ok (.aload_n 0, 1) := by decide +kernel
theorem dX8_reading_1 : decode cX8_reading 1 = .ok (.getfield 28, 3) := by decide +kernel
theorem dX8_reading_4 : decode cX8_reading 4 = .ok (.getfield 106, 3) := by decide +kernel
theorem dX8_reading_7 : decode cX8_reading 7 = .ok (.ifCond .ne 6, 3) := by decide +kernel
theorem dX8_reading_10 : decode cX8_reading 10 = .ok (.bipush (-3), 2) := by decide +kernel
theorem dX8_reading_12 : decode cX8_reading 12 = .ok (.ireturn, 1) := by decide +kernel
theorem dX8_reading_13 : decode cX8_reading 13 = .ok (.iload_n 1, 1) := by decide +kernel
theorem dX8_reading_14 : decode cX8_reading 14 = .ok (.iconst 0, 1) := by decide +kernel
theorem dX8_reading_15 : decode cX8_reading 15 = .ok (.sipush 500, 3) := by decide +kernel
theorem dX8_reading_18 : decode cX8_reading 18 = .ok (.invokestatic 128, 3) := by decide +kernel
theorem dX8_reading_21 : decode cX8_reading 21 = .ok (.ifCond .ne 6, 3) := by decide +kernel
theorem dX8_reading_24 : decode cX8_reading 24 = .ok (.bipush (-2), 2) := by decide +kernel
theorem dX8_reading_26 : decode cX8_reading 26 = .ok (.ireturn, 1) := by decide +kernel
theorem dX8_reading_27 : decode cX8_reading 27 = .ok (.aload_n 0, 1) := by decide +kernel
theorem dX8_reading_28 : decode cX8_reading 28 = .ok (.getfield 63, 3) := by decide +kernel
theorem dX8_reading_31 : decode cX8_reading 31 = .ok (.getfield 145, 3) := by decide +kernel
theorem dX8_reading_34 : decode cX8_reading 34 = .ok (.istore_n 2, 1) := by decide +kernel
theorem dX8_reading_35 : decode cX8_reading 35 = .ok (.aload_n 0, 1) := by decide +kernel
theorem dX8_reading_36 : decode cX8_reading 36 = .ok (.getfield 63, 3) := by decide +kernel
theorem dX8_reading_39 : decode cX8_reading 39 = .ok (.aload_n 0, 1) := by decide +kernel
theorem dX8_reading_40 : decode cX8_reading 40 = .ok (.getfield 56, 3) := by decide +kernel
theorem dX8_reading_43 : decode cX8_reading 43 = .ok (.iload_n 1, 1) := by decide +kernel
theorem dX8_reading_44 : decode cX8_reading 44 = .ok (.invokevirtual 269, 3) := by decide +kernel
theorem dX8_reading_47 : decode cX8_reading 47 = .ok (.ifCond .eq 7, 3) := by decide +kernel
theorem dX8_reading_50 : decode cX8_reading 50 = .ok (.iload_n 2, 1) := by decide +kernel
theorem dX8_reading_51 : decode cX8_reading 51 = .ok (.goto 5, 3) := by decide +kernel
theorem dX8_reading_54 : decode cX8_reading 54 = .ok (.bipush (-4), 2) := by decide +kernel
theorem dX8_reading_56 : decode cX8_reading 56 = .ok (.ireturn, 1) := by decide +kernel
set_option maxRecDepth 20000 in
theorem ggX8_reading_X2_add : GoodIn wsX8_reading wsX2_add := goodIn_r _ [14, 15, 16, 17, 7, 8, 9, 18, 19, 20, 21, 22, 23, 24, 44, 45, 46, 47, 48, 49, 50, 51, 52, 53, 54, 55, 56] (by decide +kernel) (by decide +kernel)
set_option maxRecDepth 20000 in
theorem gX8_reading_X2_add : GoodIn wsX8_reading (wsV RX8 269 RX2 yX2_add wsX2_add) := goodIn_app (goodIn_of _ (by decide +kernel)) ggX8_reading_X2_add
set_option maxRecDepth 20000 in
theorem ggX8_reading_X8_isWithin : GoodIn wsX8_reading wsX8_isWithin := goodIn_r _ [9] (by decide +kernel) (by decide +kernel)
set_option maxRecDepth 20000 in
theorem gX8_reading_X8_isWithin : GoodIn wsX8_reading (va_wsS RX8 128 yX8_isWithin wsX8_isWithin) := goodIn_app (goodIn_of _ (by decide +kernel)) ggX8_reading_X8_isWithin
set_option maxRecDepth 20000 in
theorem mw_X8_reading_0 : (.fieldLink RX8 28 "FontRuns" "fontRow" "LFontRuns$FontRow;" : Cond) ∈ wsX8_reading := by decide +kernel
set_option maxRecDepth 20000 in
theorem mw_X8_reading_1 : (.fieldLink RX8 106 "FontRuns$FontRow" "count" "I" : Cond) ∈ wsX8_reading := by decide +kernel
set_option maxRecDepth 20000 in
theorem mw_X8_reading_2 : (.fieldLink RX8 63 "FontRuns" "readings" "LFontRuns$Readings;" : Cond) ∈ wsX8_reading := by decide +kernel
set_option maxRecDepth 20000 in
theorem mw_X8_reading_3 : (.fieldLink RX8 145 "FontRuns$Readings" "count" "I" : Cond) ∈ wsX8_reading := by decide +kernel
set_option maxRecDepth 20000 in
theorem mw_X8_reading_4 : (.fieldLink RX8 56 "FontRuns" "setting" "LFontRuns$Setting;" : Cond) ∈ wsX8_reading := by decide +kernel
theorem ax_X8_reading_0 {e0 e1 e2 e3 e4 e5 e6 : Nat × va_E} {k : va_W} : ([] : List Nat).map (fun i => (([e0, e1, e2, e3, e4, e5, e6] : va_W) ++ k)[i]?) = ([] : va_W).map some := rfl
theorem ax_X8_reading_1 {e0 e1 e2 e3 e4 e5 e6 : Nat × va_E} : ([2, 3, 4, 5, 6] : List Nat).map (fun i => ([e0, e1, e2, e3, e4, e5, e6] : va_W)[i]?) = ([e2, e3, e4, e5, e6] : va_W).map some := rfl
theorem ax_X8_reading_2 {e0 e1 e2 e3 e4 e5 e6 : Nat × va_E} : ([0, 1] : List Nat).map (fun i => ([e0, e1, e2, e3, e4, e5, e6] : va_W)[i]?) = ([e0, e1] : va_W).map some := rfl
theorem ax_X8_reading_3 {D : va_G} {cl : List vw_C} {H : Heap} {e0 e1 f0 f1 f2 f3 f4 : Nat × va_E} {k : va_W} (h : va_P D cl ((([e0, e1] : va_W) ++ ([f0, f1, f2, f3, f4] : va_W)) ++ k) H) : va_P D cl (([e0, e1, f0, f1, f2, f3, f4] : va_W) ++ k) H := h
theorem ax_X8_reading_4 {A : Nat → Prop} {e0 e1 f0 f1 f2 f3 f4 : Nat × va_E} {k : va_W} (h : va_D A ((([e0, e1] : va_W) ++ ([f0, f1, f2, f3, f4] : va_W)) ++ k)) : va_D A (([e0, e1, f0, f1, f2, f3, f4] : va_W) ++ k) := h
theorem ax_X8_reading_5 {e0 e1 e2 e3 e4 e5 e6 : Nat × va_E} : ([0, 1, 2, 3, 4, 5, 6] : List Nat).map (fun i => ([e0, e1, e2, e3, e4, e5, e6] : va_W)[i]?) = ([e0, e1, e2, e3, e4, e5, e6] : va_W).map some := rfl
set_option maxHeartbeats 4000000 in
set_option maxRecDepth 100000 in
theorem c_X8_reading (l : Launch) (D : va_G) (sz : Nat) (x : Int) (h0 : Nat) (sh : Nat) (rd : Nat) (fr : Nat) (wr : Nat) (pf : Nat) (rc : Nat) (se : Nat) (rs : Nat) (sw : Nat) (sp : Nat) (ss : Nat) (ew : Int) (wc : Int64) (tr : Int) (lf : Int) (k1 : Nat) (k2 : Nat) (k3 : Nat) (fn : Int) (dn : Int) (v1 : Nat) (v2 : Nat) (cv1 : ClassId) (fv : Nat → Int32) (cv2 : ClassId) (fq : Nat → Option Nat) (o2 : Nat) (g1 : Nat) (g2 : Nat) (g3 : Nat) (g4 : Nat) (g5 : Nat) (cn : Int) (bo : Int) (ru : Int) (g6 : Nat) (g7 : Nat) (cg4 : ClassId) (f4 : Nat → Int32) (pr : Nat → Nat) (gp : Nat → Nat → Int32) (cy : ClassId) (q0 : rg x) (q1 : 0 ≤ fn ∧ fn ≤ 4) (q2 : 0 ≤ dn ∧ dn ≤ 8) (q3 : kOut fq pr o2 8) (q4 : o2 + 8 ≤ 56) (q5 : 0 ≤ cn ∧ cn ≤ 24) (q6 : 0 ≤ bo ∧ bo ≤ 24) (q7 : 0 ≤ ru ∧ ru ≤ cn) : Met l yX8_reading wsX8_reading ({ frames := 2, cells := 0, slots := 0, locals := 46 }) (kPre [.ref h0, .int (zI x)] D (([(h0, .inr (8, [.ref sh, .ref rd, .ref fr, .ref wr, .ref pf, .ref rc, .ref se, .ref rs, .ref sw, .ref sp, .ref ss, .int (zI ew), .long wc, .int (zI tr), .int (zI lf)])), (fr, .inr (0, [.ref k1, .ref k2, .ref k3, .int (zI fn)])), (rs, .inr (2, [.int (zI dn), .ref v1, .ref v2])), (v1, .inl (cv1, 8, .inl fv)), (v2, .inl (cv2, 8, .inr (.inr (.inr (.inr (fq)))))), (se, .inr (4, [.ref g1, .ref g2, .ref g3, .ref g4, .ref g5, .int (zI cn), .int (zI bo), .int (zI ru), .ref g6, .ref g7])), (g4, .inl (cg4, 24, .inl f4))] : va_W) ++ kRows pr gp cy) [(cv1, .int), (cv2, .array .int), (cg4, .int), (cy, .int)] sz) (kQS (fun rz t => ∃ (u_dn : Int) (u_fv : Nat → Int32) (u_gp : Nat → Nat → Int32), (0 ≤ u_dn ∧ u_dn ≤ 8) ∧ ((fn = 0 ∧ rz = -3 ∧ u_dn = dn) ∨ (¬ fn = 0 ∧ ¬ (0 ≤ x ∧ x ≤ 500) ∧ rz = -2 ∧ u_dn = dn) ∨ (¬ fn = 0 ∧ (0 ≤ x ∧ x ≤ 500) ∧ dn = 8 ∧ rz = -4 ∧ u_dn = dn) ∨ (¬ fn = 0 ∧ (0 ≤ x ∧ x ≤ 500) ∧ dn ≤ 7 ∧ rz = dn ∧ u_dn = dn + 1)) ∧ va_P D vwCl (([(h0, .inr (8, [.ref sh, .ref rd, .ref fr, .ref wr, .ref pf, .ref rc, .ref se, .ref rs, .ref sw, .ref sp, .ref ss, .int (zI ew), .long wc, .int (zI tr), .int (zI lf)])), (fr, .inr (0, [.ref k1, .ref k2, .ref k3, .int (zI fn)])), (rs, .inr (2, [.int (zI u_dn), .ref v1, .ref v2])), (v1, .inl (cv1, 8, .inl u_fv)), (v2, .inl (cv2, 8, .inr (.inr (.inr (.inr (fq)))))), (se, .inr (4, [.ref g1, .ref g2, .ref g3, .ref g4, .ref g5, .int (zI cn), .int (zI bo), .int (zI ru), .ref g6, .ref g7])), (g4, .inl (cg4, 24, .inl f4))] : va_W) ++ kRows pr u_gp cy) t.heap ∧ va_D (va_A (([(h0, .inr (8, [.ref sh, .ref rd, .ref fr, .ref wr, .ref pf, .ref rc, .ref se, .ref rs, .ref sw, .ref sp, .ref ss, .int (zI ew), .long wc, .int (zI tr), .int (zI lf)])), (fr, .inr (0, [.ref k1, .ref k2, .ref k3, .int (zI fn)])), (rs, .inr (2, [.int (zI dn), .ref v1, .ref v2])), (v1, .inl (cv1, 8, .inl fv)), (v2, .inl (cv2, 8, .inr (.inr (.inr (.inr (fq)))))), (se, .inr (4, [.ref g1, .ref g2, .ref g3, .ref g4, .ref g5, .int (zI cn), .int (zI bo), .int (zI ru), .ref g6, .ref g7])), (g4, .inl (cg4, 24, .inl f4))] : va_W) ++ kRows pr gp cy) sz) (([(h0, .inr (8, [.ref sh, .ref rd, .ref fr, .ref wr, .ref pf, .ref rc, .ref se, .ref rs, .ref sw, .ref sp, .ref ss, .int (zI ew), .long wc, .int (zI tr), .int (zI lf)])), (fr, .inr (0, [.ref k1, .ref k2, .ref k3, .int (zI fn)])), (rs, .inr (2, [.int (zI u_dn), .ref v1, .ref v2])), (v1, .inl (cv1, 8, .inl u_fv)), (v2, .inl (cv2, 8, .inr (.inr (.inr (.inr (fq)))))), (se, .inr (4, [.ref g1, .ref g2, .ref g3, .ref g4, .ref g5, .int (zI cn), .int (zI bo), .int (zI ru), .ref g6, .ref g7])), (g4, .inl (cg4, 24, .inl f4))] : va_W) ++ kRows pr u_gp cy)) (va_A (([(h0, .inr (8, [.ref sh, .ref rd, .ref fr, .ref wr, .ref pf, .ref rc, .ref se, .ref rs, .ref sw, .ref sp, .ref ss, .int (zI ew), .long wc, .int (zI tr), .int (zI lf)])), (fr, .inr (0, [.ref k1, .ref k2, .ref k3, .int (zI fn)])), (rs, .inr (2, [.int (zI dn), .ref v1, .ref v2])), (v1, .inl (cv1, 8, .inl fv)), (v2, .inl (cv2, 8, .inr (.inr (.inr (.inr (fq)))))), (se, .inr (4, [.ref g1, .ref g2, .ref g3, .ref g4, .ref g5, .int (zI cn), .int (zI bo), .int (zI ru), .ref g6, .ref g7])), (g4, .inl (cg4, 24, .inl f4))] : va_W) ++ kRows pr gp cy) sz)) 0 0 (va_A (([(h0, .inr (8, [.ref sh, .ref rd, .ref fr, .ref wr, .ref pf, .ref rc, .ref se, .ref rs, .ref sw, .ref sp, .ref ss, .int (zI ew), .long wc, .int (zI tr), .int (zI lf)])), (fr, .inr (0, [.ref k1, .ref k2, .ref k3, .int (zI fn)])), (rs, .inr (2, [.int (zI dn), .ref v1, .ref v2])), (v1, .inl (cv1, 8, .inl fv)), (v2, .inl (cv2, 8, .inr (.inr (.inr (.inr (fq)))))), (se, .inr (4, [.ref g1, .ref g2, .ref g3, .ref g4, .ref g5, .int (zI cn), .int (zI bo), .int (zI ru), .ref g6, .ref g7])), (g4, .inl (cg4, 24, .inl f4))] : va_W) ++ kRows pr gp cy) sz) := by
  refine Met.ofW (cc := cX8_reading) (maxL := 3) (ret := (some .int)) (by decide) rfl ?_
  intro p e s m args below meth c s₁ B hml hv
  obtain ⟨rfl, hsz, hP, hK, hD0, hN⟩ := hv
  have hx := B.exec
  have hb := B.bytes
  have hr := B.returns
  have hts := atoms_spec (ws := wsX8_reading) B.pre
  have hown : s.vm.findClass RX8 = some m.cls := findClass_of_methodNamed B.named
  have hlocks := B.notSynchronized
  subst hsz
  have hD := hD0.self (sz := s.heap.size)
  generalize hAe : va_A (([(h0, .inr (8, [.ref sh, .ref rd, .ref fr, .ref wr, .ref pf, .ref rc, .ref se, .ref rs, .ref sw, .ref sp, .ref ss, .int (zI ew), .long wc, .int (zI tr), .int (zI lf)])), (fr, .inr (0, [.ref k1, .ref k2, .ref k3, .int (zI fn)])), (rs, .inr (2, [.int (zI dn), .ref v1, .ref v2])), (v1, .inl (cv1, 8, .inl fv)), (v2, .inl (cv2, 8, .inr (.inr (.inr (.inr (fq)))))), (se, .inr (4, [.ref g1, .ref g2, .ref g3, .ref g4, .ref g5, .int (zI cn), .int (zI bo), .int (zI ru), .ref g6, .ref g7])), (g4, .inl (cg4, 24, .inl f4))] : va_W) ++ kRows pr gp cy) s.heap.size = A at hD ⊢
  have hA : ∀ q : Nat, s.heap.size ≤ q → A q := fun q h => by rw [← hAe]; exact Or.inr h
  have hS : va_S A s.heap s.heap [] := va_S.rf
  have hP : va_P D vwCl (([(h0, .inr (8, [.ref sh, .ref rd, .ref fr, .ref wr, .ref pf, .ref rc, .ref se, .ref rs, .ref sw, .ref sp, .ref ss, .int (zI ew), .long wc, .int (zI tr), .int (zI lf)])), (fr, .inr (0, [.ref k1, .ref k2, .ref k3, .int (zI fn)])), (rs, .inr (2, [.int (zI dn), .ref v1, .ref v2])), (v1, .inl (cv1, 8, .inl fv)), (v2, .inl (cv2, 8, .inr (.inr (.inr (.inr (fq)))))), (se, .inr (4, [.ref g1, .ref g2, .ref g3, .ref g4, .ref g5, .int (zI cn), .int (zI bo), .int (zI ru), .ref g6, .ref g7])), (g4, .inl (cg4, 24, .inl f4))] : va_W) ++ kRows pr gp cy) s.heap := hP
  have hl := lv_entry ([.ref h0, .int (zI x)]) (n := 3) (Nat.le_of_ble_eq_true rfl)
  rw [lg_entry_eq]
  generalize (lg_sl ([.ref h0, .int (zI x)]) ++ List.replicate (3 - (lg_sl ([.ref h0, .int (zI x)])).length) Slot.unset).toArray = ls at hl ⊢
  have hl : lv_has ls 3 [(0, .ref h0), (1, .int (zI x))] := hl
  refine lv_aload_n hx hb dX8_reading_0 rfl (lv_at hl 0 rfl) ?_
  refine va_get (D := D) (ci := 8) (v := .ref fr) (C := RX8) (T := TX8) (N := 15) hx hb hts (fun _ h9 => List.mem_cons_of_mem _ (List.mem_append_left _ (List.mem_append_left _ (List.mem_append_left _ (List.mem_append_right _ h9))))) hown hK hP 0 rfl rfl 2 (by decide) (hts (.fieldLink RX8 28 "FontRuns" "fontRow" "LFontRuns$FontRow;") mw_X8_reading_0) (fun _ h9 => h9) rfl dX8_reading_1 ?_
  refine va_get (D := D) (ci := 0) (v := .int (zI fn)) (C := RX0) (T := TX0) (N := 4) hx hb hts (fun _ h9 => List.mem_cons_of_mem _ (List.mem_append_left _ (List.mem_append_left _ (List.mem_append_right _ h9)))) hown hK hP 1 rfl rfl 3 (by decide) (hts (.fieldLink RX8 106 "FontRuns$FontRow" "count" "I") mw_X8_reading_1) (fun _ h9 => h9) rfl dX8_reading_4 ?_
  refine kz_if_ne (tgt := 13) hx hb dX8_reading_7 (by decide) (by omega) (fun c_1 => ?_) (fun c_1 => ?_)
  · refine lv_iload_n hx hb dX8_reading_13 rfl (lv_at hl 1 rfl) ?_
    refine lv_iconst (v := zI 0) hx hb dX8_reading_14 rfl ?_
    refine lv_sipush (v := zI 500) hx hb dX8_reading_15 (by decide) ?_
    refine k_callR (va_runS (As := [.int (zI x), .int (zI 0), .int (zI 500)]) (rest := []) ⟨hx, hb, hml, hown, hts⟩ (c_X8_isWithin l D s.heap.size (v := x) (a := 0) (b := 500) q0 (by omega) (by omega)) (va_cwS 3 hts gX8_reading_X8_isWithin rfl rfl rfl (by decide +kernel) ⟨Nat.le_of_ble_eq_true rfl, Nat.le_of_ble_eq_true rfl⟩) (kPreS hP (kD0 hD) hK hN [] [] ax_X8_reading_0 rfl (by decide +kernel)) rfl rfl hl.1 rfl (lv_room (Nat.le_of_ble_eq_true rfl)) dX8_reading_18 ⟨Nat.le_of_ble_eq_true rfl, Nat.le_of_ble_eq_true rfl⟩) ?_
    refine lv_if_ne (tgt := 27) hx hb dX8_reading_21 (by decide) (fun c_2 => ?_) (fun c_2 => ?_)
    · have c_2 : 0 ≤ x ∧ x ≤ 500 := b01t c_2
      refine lv_aload_n hx hb dX8_reading_27 rfl (lv_at hl 0 rfl) ?_
      refine va_get (D := D) (ci := 8) (v := .ref rs) (C := RX8) (T := TX8) (N := 15) hx hb hts (fun _ h9 => List.mem_cons_of_mem _ (List.mem_append_left _ (List.mem_append_left _ (List.mem_append_left _ (List.mem_append_right _ h9))))) hown hK hP 0 rfl rfl 7 (by decide) (hts (.fieldLink RX8 63 "FontRuns" "readings" "LFontRuns$Readings;") mw_X8_reading_2) (fun _ h9 => h9) rfl dX8_reading_28 ?_
      refine va_get (D := D) (ci := 2) (v := .int (zI dn)) (C := RX2) (T := TX2) (N := 3) hx hb hts (fun _ h9 => List.mem_cons_of_mem _ (List.mem_append_left _ (List.mem_append_right _ h9))) hown hK hP 2 rfl rfl 0 (by decide) (hts (.fieldLink RX8 145 "FontRuns$Readings" "count" "I") mw_X8_reading_3) (fun _ h9 => h9) rfl dX8_reading_31 ?_
      refine lv_istore_n (lv' := [(2, .int (zI dn)), (0, .ref h0), (1, .int (zI x))]) hx hb dX8_reading_34 rfl hl (by decide) rfl (fun ls hl => ?_)
      refine lv_aload_n hx hb dX8_reading_35 rfl (lv_at hl 1 rfl) ?_
      refine va_get (D := D) (ci := 8) (v := .ref rs) (C := RX8) (T := TX8) (N := 15) hx hb hts (fun _ h9 => List.mem_cons_of_mem _ (List.mem_append_left _ (List.mem_append_left _ (List.mem_append_left _ (List.mem_append_right _ h9))))) hown hK hP 0 rfl rfl 7 (by decide) (hts (.fieldLink RX8 63 "FontRuns" "readings" "LFontRuns$Readings;") mw_X8_reading_2) (fun _ h9 => h9) rfl dX8_reading_36 ?_
      refine lv_aload_n hx hb dX8_reading_39 rfl (lv_at hl 1 rfl) ?_
      refine va_get (D := D) (ci := 8) (v := .ref se) (C := RX8) (T := TX8) (N := 15) hx hb hts (fun _ h9 => List.mem_cons_of_mem _ (List.mem_append_left _ (List.mem_append_left _ (List.mem_append_left _ (List.mem_append_right _ h9))))) hown hK hP 0 rfl rfl 6 (by decide) (hts (.fieldLink RX8 56 "FontRuns" "setting" "LFontRuns$Setting;") mw_X8_reading_4) (fun _ h9 => h9) rfl dX8_reading_40 ?_
      refine lv_iload_n hx hb dX8_reading_43 rfl (lv_at hl 2 rfl) ?_
      have hFc := va_freeP (cx := [(rs, .inr (2, [.int (zI dn), .ref v1, .ref v2])), (v1, .inl (cv1, 8, .inl fv)), (v2, .inl (cv2, 8, .inr (.inr (.inr (.inr (fq)))))), (se, .inr (4, [.ref g1, .ref g2, .ref g3, .ref g4, .ref g5, .int (zI cn), .int (zI bo), .int (zI ru), .ref g6, .ref g7])), (g4, .inl (cg4, 24, .inl f4))]) hD hS hA [2, 3, 4, 5, 6] ax_X8_reading_1
      refine va_calli (va_runV (As := [.ref se, .int (zI x)]) (rest := []) ⟨hx, hb, hml, hown, hts⟩ (c_X2_add_w l D s.heap.size (se := se) (x := x) (h0 := rs) (n := dn) (v1 := v1) (v2 := v2) (cv1 := cv1) (fv := fv) (cv2 := cv2) (fq := fq) (o2 := o2) (g1 := g1) (g2 := g2) (g3 := g3) (g4 := g4) (g5 := g5) (cn := cn) (bo := bo) (ru := ru) (g6 := g6) (g7 := g7) (cg4 := cg4) (f4 := f4) (pr := pr) (gp := gp) (cy := cy) q0 q2 q5 q6 q7 q3 q4) (cwV 2 hts gX8_reading_X2_add rfl rfl rfl (by decide +kernel) ⟨Nat.le_of_ble_eq_true rfl, Nat.le_of_ble_eq_true rfl⟩) (kPreVP hP (kD0 hD) hK hN [2, 3, 4, 5, 6] [0, 1, 2, 3] ax_X8_reading_1 rfl (by decide +kernel) 2 2 rfl rfl) rfl rfl hl.1 rfl (lv_room (Nat.le_of_ble_eq_true rfl)) dX8_reading_44 ⟨Nat.le_of_ble_eq_true rfl, Nat.le_of_ble_eq_true rfl⟩) hS (fun q _ h => hFc q h) hFc (fun r u t H1 locs ht hvm hw hB hz1 hk1 hS => ?_)
      obtain ⟨z_6, e9⟩ : ∃ z, z = u := ⟨_, rfl⟩
      subst e9
      obtain ⟨rfl, rz_6⟩ := hw
      refine Exists.elim hB (fun un_3 hB1 => Exists.elim hB1 (fun uf_4 hB2 => Exists.elim hB2 (fun ug_5 hB3 => ?_)))
      have h_7 := hB3.1
      have h_8 := hB3.2.1
      have h_9 := hB3.2.2.1
      have hP1 := hB3.2.2.2.1
      have hD1 := hB3.2.2.2.2
      clear hB hB1 hB2 hB3
      rw [ht] at hP1
      obtain ⟨hP, hD⟩ := va_joinP (X := [(h0, .inr (8, [.ref sh, .ref rd, .ref fr, .ref wr, .ref pf, .ref rc, .ref se, .ref rs, .ref sw, .ref sp, .ref ss, .int (zI ew), .long wc, .int (zI tr), .int (zI lf)])), (fr, .inr (0, [.ref k1, .ref k2, .ref k3, .int (zI fn)])), (rs, .inr (2, [.int (zI dn), .ref v1, .ref v2])), (v1, .inl (cv1, 8, .inl fv)), (v2, .inl (cv2, 8, .inr (.inr (.inr (.inr (fq)))))), (se, .inr (4, [.ref g1, .ref g2, .ref g3, .ref g4, .ref g5, .int (zI cn), .int (zI bo), .int (zI ru), .ref g6, .ref g7])), (g4, .inl (cg4, 24, .inl f4))]) (wr := [(h0, .inr (8, [.ref sh, .ref rd, .ref fr, .ref wr, .ref pf, .ref rc, .ref se, .ref rs, .ref sw, .ref sp, .ref ss, .int (zI ew), .long wc, .int (zI tr), .int (zI lf)])), (fr, .inr (0, [.ref k1, .ref k2, .ref k3, .int (zI fn)]))]) (rx := [(rs, .inr (2, [.int (zI un_3), .ref v1, .ref v2])), (v1, .inl (cv1, 8, .inl uf_4)), (v2, .inl (cv2, 8, .inr (.inr (.inr (.inr (fq)))))), (se, .inr (4, [.ref g1, .ref g2, .ref g3, .ref g4, .ref g5, .int (zI cn), .int (zI bo), .int (zI ru), .ref g6, .ref g7])), (g4, .inl (cg4, 24, .inl f4))]) hP hD [2, 3, 4, 5, 6] [0, 1] ax_X8_reading_1 ax_X8_reading_2 (by decide +kernel) (by decide +kernel) hk1 hFc hP1 hD1
      have hP := ax_X8_reading_3 hP
      have hD := ax_X8_reading_4 hD
      generalize H1 = H at hP hS ⊢
      have hP : va_P D vwCl (([(h0, .inr (8, [.ref sh, .ref rd, .ref fr, .ref wr, .ref pf, .ref rc, .ref se, .ref rs, .ref sw, .ref sp, .ref ss, .int (zI ew), .long wc, .int (zI tr), .int (zI lf)])), (fr, .inr (0, [.ref k1, .ref k2, .ref k3, .int (zI fn)])), (rs, .inr (2, [.int (zI un_3), .ref v1, .ref v2])), (v1, .inl (cv1, 8, .inl uf_4)), (v2, .inl (cv2, 8, .inr (.inr (.inr (.inr (fq)))))), (se, .inr (4, [.ref g1, .ref g2, .ref g3, .ref g4, .ref g5, .int (zI cn), .int (zI bo), .int (zI ru), .ref g6, .ref g7])), (g4, .inl (cg4, 24, .inl f4))] : va_W) ++ kRows pr ug_5 cy) H := hP
      have hD : va_D A (([(h0, .inr (8, [.ref sh, .ref rd, .ref fr, .ref wr, .ref pf, .ref rc, .ref se, .ref rs, .ref sw, .ref sp, .ref ss, .int (zI ew), .long wc, .int (zI tr), .int (zI lf)])), (fr, .inr (0, [.ref k1, .ref k2, .ref k3, .int (zI fn)])), (rs, .inr (2, [.int (zI un_3), .ref v1, .ref v2])), (v1, .inl (cv1, 8, .inl uf_4)), (v2, .inl (cv2, 8, .inr (.inr (.inr (.inr (fq)))))), (se, .inr (4, [.ref g1, .ref g2, .ref g3, .ref g4, .ref g5, .int (zI cn), .int (zI bo), .int (zI ru), .ref g6, .ref g7])), (g4, .inl (cg4, 24, .inl f4))] : va_W) ++ kRows pr ug_5 cy) := hD
      refine kz_if_eq (tgt := 54) hx hb dX8_reading_47 (by decide) (by omega) (fun c_10 => ?_) (fun c_10 => ?_)
      · refine lv_bipush (v := zI (-4)) hx hb dX8_reading_54 (by decide) ?_
        have hP9 : va_P D vwCl (([(h0, .inr (8, [.ref sh, .ref rd, .ref fr, .ref wr, .ref pf, .ref rc, .ref se, .ref rs, .ref sw, .ref sp, .ref ss, .int (zI ew), .long wc, .int (zI tr), .int (zI lf)])), (fr, .inr (0, [.ref k1, .ref k2, .ref k3, .int (zI fn)])), (rs, .inr (2, [.int (zI un_3), .ref v1, .ref v2])), (v1, .inl (cv1, 8, .inl uf_4)), (v2, .inl (cv2, 8, .inr (.inr (.inr (.inr (fq)))))), (se, .inr (4, [.ref g1, .ref g2, .ref g3, .ref g4, .ref g5, .int (zI cn), .int (zI bo), .int (zI ru), .ref g6, .ref g7])), (g4, .inl (cg4, 24, .inl f4))] : va_W) ++ kRows pr ug_5 cy) H := hP.part [0, 1, 2, 3, 4, 5, 6] ax_X8_reading_5
        have hD9 : va_D A (([(h0, .inr (8, [.ref sh, .ref rd, .ref fr, .ref wr, .ref pf, .ref rc, .ref se, .ref rs, .ref sw, .ref sp, .ref ss, .int (zI ew), .long wc, .int (zI tr), .int (zI lf)])), (fr, .inr (0, [.ref k1, .ref k2, .ref k3, .int (zI fn)])), (rs, .inr (2, [.int (zI un_3), .ref v1, .ref v2])), (v1, .inl (cv1, 8, .inl uf_4)), (v2, .inl (cv2, 8, .inr (.inr (.inr (.inr (fq)))))), (se, .inr (4, [.ref g1, .ref g2, .ref g3, .ref g4, .ref g5, .int (zI cn), .int (zI bo), .int (zI ru), .ref g6, .ref g7])), (g4, .inl (cg4, 24, .inl f4))] : va_W) ++ kRows pr ug_5 cy) := hD.part [0, 1, 2, 3, 4, 5, 6] (by decide +kernel) ax_X8_reading_5
        exact W.iret (v := (zI (-4))) hx hb hr (fun t ht hW => kQS_of (by omega) ⟨un_3, uf_4, ug_5, h_7, (by omega), by rw [ht]; exact hP9, hD9⟩ (hS.F ht)) hS.2.2 dX8_reading_56
      · refine lv_iload_n hx hb dX8_reading_50 rfl (lv_at hl 0 rfl) ?_
        refine lv_goto (tgt := 56) hx hb dX8_reading_51 (by decide) ?_
        have hP9 : va_P D vwCl (([(h0, .inr (8, [.ref sh, .ref rd, .ref fr, .ref wr, .ref pf, .ref rc, .ref se, .ref rs, .ref sw, .ref sp, .ref ss, .int (zI ew), .long wc, .int (zI tr), .int (zI lf)])), (fr, .inr (0, [.ref k1, .ref k2, .ref k3, .int (zI fn)])), (rs, .inr (2, [.int (zI un_3), .ref v1, .ref v2])), (v1, .inl (cv1, 8, .inl uf_4)), (v2, .inl (cv2, 8, .inr (.inr (.inr (.inr (fq)))))), (se, .inr (4, [.ref g1, .ref g2, .ref g3, .ref g4, .ref g5, .int (zI cn), .int (zI bo), .int (zI ru), .ref g6, .ref g7])), (g4, .inl (cg4, 24, .inl f4))] : va_W) ++ kRows pr ug_5 cy) H := hP.part [0, 1, 2, 3, 4, 5, 6] ax_X8_reading_5
        have hD9 : va_D A (([(h0, .inr (8, [.ref sh, .ref rd, .ref fr, .ref wr, .ref pf, .ref rc, .ref se, .ref rs, .ref sw, .ref sp, .ref ss, .int (zI ew), .long wc, .int (zI tr), .int (zI lf)])), (fr, .inr (0, [.ref k1, .ref k2, .ref k3, .int (zI fn)])), (rs, .inr (2, [.int (zI un_3), .ref v1, .ref v2])), (v1, .inl (cv1, 8, .inl uf_4)), (v2, .inl (cv2, 8, .inr (.inr (.inr (.inr (fq)))))), (se, .inr (4, [.ref g1, .ref g2, .ref g3, .ref g4, .ref g5, .int (zI cn), .int (zI bo), .int (zI ru), .ref g6, .ref g7])), (g4, .inl (cg4, 24, .inl f4))] : va_W) ++ kRows pr ug_5 cy) := hD.part [0, 1, 2, 3, 4, 5, 6] (by decide +kernel) ax_X8_reading_5
        exact W.iret (v := (zI dn)) hx hb hr (fun t ht hW => kQS_of (by omega) ⟨un_3, uf_4, ug_5, h_7, (by omega), by rw [ht]; exact hP9, hD9⟩ (hS.F ht)) hS.2.2 dX8_reading_56
    · have c_2 : ¬ (0 ≤ x ∧ x ≤ 500) := b01f c_2
      refine lv_bipush (v := zI (-2)) hx hb dX8_reading_24 (by decide) ?_
      have hP9 : va_P D vwCl (([(h0, .inr (8, [.ref sh, .ref rd, .ref fr, .ref wr, .ref pf, .ref rc, .ref se, .ref rs, .ref sw, .ref sp, .ref ss, .int (zI ew), .long wc, .int (zI tr), .int (zI lf)])), (fr, .inr (0, [.ref k1, .ref k2, .ref k3, .int (zI fn)])), (rs, .inr (2, [.int (zI dn), .ref v1, .ref v2])), (v1, .inl (cv1, 8, .inl fv)), (v2, .inl (cv2, 8, .inr (.inr (.inr (.inr (fq)))))), (se, .inr (4, [.ref g1, .ref g2, .ref g3, .ref g4, .ref g5, .int (zI cn), .int (zI bo), .int (zI ru), .ref g6, .ref g7])), (g4, .inl (cg4, 24, .inl f4))] : va_W) ++ kRows pr gp cy) s.heap := hP.part [0, 1, 2, 3, 4, 5, 6] ax_X8_reading_5
      have hD9 : va_D A (([(h0, .inr (8, [.ref sh, .ref rd, .ref fr, .ref wr, .ref pf, .ref rc, .ref se, .ref rs, .ref sw, .ref sp, .ref ss, .int (zI ew), .long wc, .int (zI tr), .int (zI lf)])), (fr, .inr (0, [.ref k1, .ref k2, .ref k3, .int (zI fn)])), (rs, .inr (2, [.int (zI dn), .ref v1, .ref v2])), (v1, .inl (cv1, 8, .inl fv)), (v2, .inl (cv2, 8, .inr (.inr (.inr (.inr (fq)))))), (se, .inr (4, [.ref g1, .ref g2, .ref g3, .ref g4, .ref g5, .int (zI cn), .int (zI bo), .int (zI ru), .ref g6, .ref g7])), (g4, .inl (cg4, 24, .inl f4))] : va_W) ++ kRows pr gp cy) := hD.part [0, 1, 2, 3, 4, 5, 6] (by decide +kernel) ax_X8_reading_5
      exact W.iret (v := (zI (-2))) hx hb hr (fun t ht hW => kQS_of (by omega) ⟨dn, fv, gp, q2, (by omega), by rw [ht]; exact hP9, hD9⟩ (hS.F ht)) hS.2.2 dX8_reading_26
  · refine lv_bipush (v := zI (-3)) hx hb dX8_reading_10 (by decide) ?_
    have hP9 : va_P D vwCl (([(h0, .inr (8, [.ref sh, .ref rd, .ref fr, .ref wr, .ref pf, .ref rc, .ref se, .ref rs, .ref sw, .ref sp, .ref ss, .int (zI ew), .long wc, .int (zI tr), .int (zI lf)])), (fr, .inr (0, [.ref k1, .ref k2, .ref k3, .int (zI fn)])), (rs, .inr (2, [.int (zI dn), .ref v1, .ref v2])), (v1, .inl (cv1, 8, .inl fv)), (v2, .inl (cv2, 8, .inr (.inr (.inr (.inr (fq)))))), (se, .inr (4, [.ref g1, .ref g2, .ref g3, .ref g4, .ref g5, .int (zI cn), .int (zI bo), .int (zI ru), .ref g6, .ref g7])), (g4, .inl (cg4, 24, .inl f4))] : va_W) ++ kRows pr gp cy) s.heap := hP.part [0, 1, 2, 3, 4, 5, 6] ax_X8_reading_5
    have hD9 : va_D A (([(h0, .inr (8, [.ref sh, .ref rd, .ref fr, .ref wr, .ref pf, .ref rc, .ref se, .ref rs, .ref sw, .ref sp, .ref ss, .int (zI ew), .long wc, .int (zI tr), .int (zI lf)])), (fr, .inr (0, [.ref k1, .ref k2, .ref k3, .int (zI fn)])), (rs, .inr (2, [.int (zI dn), .ref v1, .ref v2])), (v1, .inl (cv1, 8, .inl fv)), (v2, .inl (cv2, 8, .inr (.inr (.inr (.inr (fq)))))), (se, .inr (4, [.ref g1, .ref g2, .ref g3, .ref g4, .ref g5, .int (zI cn), .int (zI bo), .int (zI ru), .ref g6, .ref g7])), (g4, .inl (cg4, 24, .inl f4))] : va_W) ++ kRows pr gp cy) := hD.part [0, 1, 2, 3, 4, 5, 6] (by decide +kernel) ax_X8_reading_5
    exact W.iret (v := (zI (-3))) hx hb hr (fun t ht hW => kQS_of (by omega) ⟨dn, fv, gp, q2, (by omega), by rw [ht]; exact hP9, hD9⟩ (hS.F ht)) hS.2.2 dX8_reading_12
theorem dX8_back_0 : decode cX8_back 0 = .ok (.iload_n 1, 1) := by decide +kernel
theorem dX8_back_1 : decode cX8_back 1 = .ok (.iconst 0, 1) := by decide +kernel
theorem dX8_back_2 : decode cX8_back 2 = .ok (.aload_n 0, 1) := by decide +kernel
theorem dX8_back_3 : decode cX8_back 3 = .ok (.getfield 63, 3) := by decide +kernel
theorem dX8_back_6 : decode cX8_back 6 = .ok (.getfield 145, 3) := by decide +kernel
theorem dX8_back_9 : decode cX8_back 9 = .ok (.invokestatic 128, 3) := by decide +kernel
theorem dX8_back_12 : decode cX8_back 12 = .ok (.ifCond .ne 6, 3) := by decide +kernel
theorem dX8_back_15 : decode cX8_back 15 = .ok (.bipush (-2), 2) := by decide +kernel
theorem dX8_back_17 : decode cX8_back 17 = .ok (.ireturn, 1) := by decide +kernel
theorem dX8_back_18 : decode cX8_back 18 = .ok (.aload_n 0, 1) := by decide +kernel
theorem dX8_back_19 : decode cX8_back 19 = .ok (.getfield 63, 3) := by decide +kernel
theorem dX8_back_22 : decode cX8_back 22 = .ok (.dup, 1) := by decide +kernel
theorem dX8_back_23 : decode cX8_back 23 = .ok (.getfield 145, 3) := by decide +kernel
theorem dX8_back_26 : decode cX8_back 26 = .ok (.iload_n 1, 1) := by decide +kernel
theorem dX8_back_27 : decode cX8_back 27 = .ok (.isub, 1) := by decide +kernel
theorem dX8_back_28 : decode cX8_back 28 = .ok (.putfield 145, 3) := by decide +kernel
theorem dX8_back_31 : decode cX8_back 31 = .ok (.aload_n 0, 1) := by decide +kernel
theorem dX8_back_32 : decode cX8_back 32 = .ok (.getfield 63, 3) := by decide +kernel
theorem dX8_back_35 : decode cX8_back 35 = .ok (.getfield 145, 3) := by decide +kernel
theorem dX8_back_38 : decode cX8_back 38 = .ok (.ireturn, 1) := by decide +kernel
set_option maxRecDepth 20000 in
theorem ggX8_back_X8_isWithin : GoodIn wsX8_back wsX8_isWithin := goodIn_r _ [6] (by decide +kernel) (by decide +kernel)
set_option maxRecDepth 20000 in
theorem gX8_back_X8_isWithin : GoodIn wsX8_back (va_wsS RX8 128 yX8_isWithin wsX8_isWithin) := goodIn_app (goodIn_of _ (by decide +kernel)) ggX8_back_X8_isWithin
set_option maxRecDepth 20000 in
theorem mw_X8_back_0 : (.fieldLink RX8 63 "FontRuns" "readings" "LFontRuns$Readings;" : Cond) ∈ wsX8_back := by decide +kernel
set_option maxRecDepth 20000 in
theorem mw_X8_back_1 : (.fieldLink RX8 145 "FontRuns$Readings" "count" "I" : Cond) ∈ wsX8_back := by decide +kernel
theorem ax_X8_back_0 {e0 e1 : Nat × va_E} : ([] : List Nat).map (fun i => ([e0, e1] : va_W)[i]?) = ([] : va_W).map some := rfl
theorem ax_X8_back_1 {e0 e1 : Nat × va_E} : ([0, 1] : List Nat).map (fun i => ([e0, e1] : va_W)[i]?) = ([e0, e1] : va_W).map some := rfl
set_option maxHeartbeats 4000000 in
set_option maxRecDepth 100000 in
theorem c_X8_back (l : Launch) (D : va_G) (sz : Nat) (x : Int) (h0 : Nat) (sh : Nat) (rd : Nat) (fr : Nat) (wr : Nat) (pf : Nat) (rc : Nat) (se : Nat) (rs : Nat) (sw : Nat) (sp : Nat) (ss : Nat) (ew : Int) (wc : Int64) (tr : Int) (lf : Int) (dn : Int) (v1 : Nat) (v2 : Nat) (q0 : rg x) (q1 : 0 ≤ dn ∧ dn ≤ 8) : Met l yX8_back wsX8_back ({ frames := 1, cells := 0, slots := 0, locals := 22 }) (kPre [.ref h0, .int (zI x)] D [(h0, .inr (8, [.ref sh, .ref rd, .ref fr, .ref wr, .ref pf, .ref rc, .ref se, .ref rs, .ref sw, .ref sp, .ref ss, .int (zI ew), .long wc, .int (zI tr), .int (zI lf)])), (rs, .inr (2, [.int (zI dn), .ref v1, .ref v2]))] [] sz) (kQS (fun rz t => ∃ (u_dn : Int), (0 ≤ u_dn ∧ u_dn ≤ 8) ∧ (((0 ≤ x ∧ x ≤ dn) ∧ rz = dn - x ∧ u_dn = dn - x) ∨ (¬ (0 ≤ x ∧ x ≤ dn) ∧ rz = -2 ∧ u_dn = dn)) ∧ va_P D vwCl [(h0, .inr (8, [.ref sh, .ref rd, .ref fr, .ref wr, .ref pf, .ref rc, .ref se, .ref rs, .ref sw, .ref sp, .ref ss, .int (zI ew), .long wc, .int (zI tr), .int (zI lf)])), (rs, .inr (2, [.int (zI u_dn), .ref v1, .ref v2]))] t.heap ∧ va_D (va_A [(h0, .inr (8, [.ref sh, .ref rd, .ref fr, .ref wr, .ref pf, .ref rc, .ref se, .ref rs, .ref sw, .ref sp, .ref ss, .int (zI ew), .long wc, .int (zI tr), .int (zI lf)])), (rs, .inr (2, [.int (zI dn), .ref v1, .ref v2]))] sz) [(h0, .inr (8, [.ref sh, .ref rd, .ref fr, .ref wr, .ref pf, .ref rc, .ref se, .ref rs, .ref sw, .ref sp, .ref ss, .int (zI ew), .long wc, .int (zI tr), .int (zI lf)])), (rs, .inr (2, [.int (zI u_dn), .ref v1, .ref v2]))]) (va_A [(h0, .inr (8, [.ref sh, .ref rd, .ref fr, .ref wr, .ref pf, .ref rc, .ref se, .ref rs, .ref sw, .ref sp, .ref ss, .int (zI ew), .long wc, .int (zI tr), .int (zI lf)])), (rs, .inr (2, [.int (zI dn), .ref v1, .ref v2]))] sz)) 0 0 (va_A [(h0, .inr (8, [.ref sh, .ref rd, .ref fr, .ref wr, .ref pf, .ref rc, .ref se, .ref rs, .ref sw, .ref sp, .ref ss, .int (zI ew), .long wc, .int (zI tr), .int (zI lf)])), (rs, .inr (2, [.int (zI dn), .ref v1, .ref v2]))] sz) := by
  refine Met.ofW (cc := cX8_back) (maxL := 2) (ret := (some .int)) (by decide) rfl ?_
  intro p e s m args below meth c s₁ B hml hv
  obtain ⟨rfl, hsz, hP, hK, hD0, hN⟩ := hv
  have hx := B.exec
  have hb := B.bytes
  have hr := B.returns
  have hts := atoms_spec (ws := wsX8_back) B.pre
  have hown : s.vm.findClass RX8 = some m.cls := findClass_of_methodNamed B.named
  have hlocks := B.notSynchronized
  subst hsz
  have hD := hD0.self (sz := s.heap.size)
  generalize hAe : va_A [(h0, .inr (8, [.ref sh, .ref rd, .ref fr, .ref wr, .ref pf, .ref rc, .ref se, .ref rs, .ref sw, .ref sp, .ref ss, .int (zI ew), .long wc, .int (zI tr), .int (zI lf)])), (rs, .inr (2, [.int (zI dn), .ref v1, .ref v2]))] s.heap.size = A at hD ⊢
  have hA : ∀ q : Nat, s.heap.size ≤ q → A q := fun q h => by rw [← hAe]; exact Or.inr h
  have hS : va_S A s.heap s.heap [] := va_S.rf
  have hP : va_P D vwCl [(h0, .inr (8, [.ref sh, .ref rd, .ref fr, .ref wr, .ref pf, .ref rc, .ref se, .ref rs, .ref sw, .ref sp, .ref ss, .int (zI ew), .long wc, .int (zI tr), .int (zI lf)])), (rs, .inr (2, [.int (zI dn), .ref v1, .ref v2]))] s.heap := hP
  have hl := lv_entry ([.ref h0, .int (zI x)]) (n := 2) (Nat.le_of_ble_eq_true rfl)
  rw [lg_entry_eq]
  generalize (lg_sl ([.ref h0, .int (zI x)]) ++ List.replicate (2 - (lg_sl ([.ref h0, .int (zI x)])).length) Slot.unset).toArray = ls at hl ⊢
  have hl : lv_has ls 2 [(0, .ref h0), (1, .int (zI x))] := hl
  refine lv_iload_n hx hb dX8_back_0 rfl (lv_at hl 1 rfl) ?_
  refine lv_iconst (v := zI 0) hx hb dX8_back_1 rfl ?_
  refine lv_aload_n hx hb dX8_back_2 rfl (lv_at hl 0 rfl) ?_
  refine va_get (D := D) (ci := 8) (v := .ref rs) (C := RX8) (T := TX8) (N := 15) hx hb hts (fun _ h9 => List.mem_cons_of_mem _ (List.mem_append_left _ (List.mem_append_right _ h9))) hown hK hP 0 rfl rfl 7 (by decide) (hts (.fieldLink RX8 63 "FontRuns" "readings" "LFontRuns$Readings;") mw_X8_back_0) (fun _ h9 => h9) rfl dX8_back_3 ?_
  refine va_get (D := D) (ci := 2) (v := .int (zI dn)) (C := RX2) (T := TX2) (N := 3) hx hb hts (fun _ h9 => List.mem_cons_of_mem _ (List.mem_append_right _ h9)) hown hK hP 1 rfl rfl 0 (by decide) (hts (.fieldLink RX8 145 "FontRuns$Readings" "count" "I") mw_X8_back_1) (fun _ h9 => h9) rfl dX8_back_6 ?_
  refine k_callR (va_runS (As := [.int (zI x), .int (zI 0), .int (zI dn)]) (rest := []) ⟨hx, hb, hml, hown, hts⟩ (c_X8_isWithin l D s.heap.size (v := x) (a := 0) (b := dn) q0 (by omega) (by omega)) (va_cwS 3 hts gX8_back_X8_isWithin rfl rfl rfl (by decide +kernel) ⟨Nat.le_of_ble_eq_true rfl, Nat.le_of_ble_eq_true rfl⟩) (kPreS hP (kD0 hD) hK hN [] [] ax_X8_back_0 rfl (by decide +kernel)) rfl rfl hl.1 rfl (lv_room (Nat.le_of_ble_eq_true rfl)) dX8_back_9 ⟨Nat.le_of_ble_eq_true rfl, Nat.le_of_ble_eq_true rfl⟩) ?_
  refine lv_if_ne (tgt := 18) hx hb dX8_back_12 (by decide) (fun c_1 => ?_) (fun c_1 => ?_)
  · have c_1 : 0 ≤ x ∧ x ≤ dn := b01t c_1
    refine lv_aload_n hx hb dX8_back_18 rfl (lv_at hl 0 rfl) ?_
    refine va_get (D := D) (ci := 8) (v := .ref rs) (C := RX8) (T := TX8) (N := 15) hx hb hts (fun _ h9 => List.mem_cons_of_mem _ (List.mem_append_left _ (List.mem_append_right _ h9))) hown hK hP 0 rfl rfl 7 (by decide) (hts (.fieldLink RX8 63 "FontRuns" "readings" "LFontRuns$Readings;") mw_X8_back_0) (fun _ h9 => h9) rfl dX8_back_19 ?_
    refine lv_dup hx hb dX8_back_22 rfl ?_
    refine va_get (D := D) (ci := 2) (v := .int (zI dn)) (C := RX2) (T := TX2) (N := 3) hx hb hts (fun _ h9 => List.mem_cons_of_mem _ (List.mem_append_right _ h9)) hown hK hP 1 rfl rfl 0 (by decide) (hts (.fieldLink RX8 145 "FontRuns$Readings" "count" "I") mw_X8_back_1) (fun _ h9 => h9) rfl dX8_back_23 ?_
    refine lv_iload_n hx hb dX8_back_26 rfl (lv_at hl 1 rfl) ?_
    refine kz_isub hx hb dX8_back_27 ?_
    refine va_put (D := D) (ci := 2) (v := .int (zI (dn - x))) (ty := .int) (C := RX2) (T := TX2) (N := 3) hx hb hts (fun _ h9 => List.mem_cons_of_mem _ (List.mem_append_right _ h9)) tyX2 tyX2_ok nmX2 hown hK hP hD hS 1 rfl rfl 0 (by decide) (hts (.fieldLink RX8 145 "FontRuns$Readings" "count" "I") mw_X8_back_1) (fun _ h9 => h9) rfl (by decide +kernel) rfl rfl (Nat.le_of_ble_eq_true rfl) dX8_back_28 (fun H locs hP hD hS => ?_)
    have hP : va_P D vwCl [(h0, .inr (8, [.ref sh, .ref rd, .ref fr, .ref wr, .ref pf, .ref rc, .ref se, .ref rs, .ref sw, .ref sp, .ref ss, .int (zI ew), .long wc, .int (zI tr), .int (zI lf)])), (rs, .inr (2, [.int (zI (dn - x)), .ref v1, .ref v2]))] H := hP
    have hD : va_D A [(h0, .inr (8, [.ref sh, .ref rd, .ref fr, .ref wr, .ref pf, .ref rc, .ref se, .ref rs, .ref sw, .ref sp, .ref ss, .int (zI ew), .long wc, .int (zI tr), .int (zI lf)])), (rs, .inr (2, [.int (zI (dn - x)), .ref v1, .ref v2]))] := hD
    refine lv_aload_n hx hb dX8_back_31 rfl (lv_at hl 0 rfl) ?_
    refine va_get (D := D) (ci := 8) (v := .ref rs) (C := RX8) (T := TX8) (N := 15) hx hb hts (fun _ h9 => List.mem_cons_of_mem _ (List.mem_append_left _ (List.mem_append_right _ h9))) hown hK hP 0 rfl rfl 7 (by decide) (hts (.fieldLink RX8 63 "FontRuns" "readings" "LFontRuns$Readings;") mw_X8_back_0) (fun _ h9 => h9) rfl dX8_back_32 ?_
    refine va_get (D := D) (ci := 2) (v := .int (zI (dn - x))) (C := RX2) (T := TX2) (N := 3) hx hb hts (fun _ h9 => List.mem_cons_of_mem _ (List.mem_append_right _ h9)) hown hK hP 1 rfl rfl 0 (by decide) (hts (.fieldLink RX8 145 "FontRuns$Readings" "count" "I") mw_X8_back_1) (fun _ h9 => h9) rfl dX8_back_35 ?_
    have hP9 := hP.sub (ws' := [(h0, .inr (8, [.ref sh, .ref rd, .ref fr, .ref wr, .ref pf, .ref rc, .ref se, .ref rs, .ref sw, .ref sp, .ref ss, .int (zI ew), .long wc, .int (zI tr), .int (zI lf)])), (rs, .inr (2, [.int (zI (dn - x)), .ref v1, .ref v2]))]) [0, 1] rfl
    have hD9 := hD.sub (ws' := [(h0, .inr (8, [.ref sh, .ref rd, .ref fr, .ref wr, .ref pf, .ref rc, .ref se, .ref rs, .ref sw, .ref sp, .ref ss, .int (zI ew), .long wc, .int (zI tr), .int (zI lf)])), (rs, .inr (2, [.int (zI (dn - x)), .ref v1, .ref v2]))]) [0, 1] (by decide +kernel) rfl
    exact W.iret (v := (zI (dn - x))) hx hb hr (fun t ht hW => kQS_of (by omega) ⟨(dn - x), (by omega), (by omega), by rw [ht]; exact hP9, hD9⟩ (hS.F ht)) hS.2.2 dX8_back_38
  · have c_1 : ¬ (0 ≤ x ∧ x ≤ dn) := b01f c_1
    refine lv_bipush (v := zI (-2)) hx hb dX8_back_15 (by decide) ?_
    have hP9 := hP.sub (ws' := [(h0, .inr (8, [.ref sh, .ref rd, .ref fr, .ref wr, .ref pf, .ref rc, .ref se, .ref rs, .ref sw, .ref sp, .ref ss, .int (zI ew), .long wc, .int (zI tr), .int (zI lf)])), (rs, .inr (2, [.int (zI dn), .ref v1, .ref v2]))]) [0, 1] rfl
    have hD9 := hD.sub (ws' := [(h0, .inr (8, [.ref sh, .ref rd, .ref fr, .ref wr, .ref pf, .ref rc, .ref se, .ref rs, .ref sw, .ref sp, .ref ss, .int (zI ew), .long wc, .int (zI tr), .int (zI lf)])), (rs, .inr (2, [.int (zI dn), .ref v1, .ref v2]))]) [0, 1] (by decide +kernel) rfl
    exact W.iret (v := (zI (-2))) hx hb hr (fun t ht hW => kQS_of (by omega) ⟨dn, q1, (by omega), by rw [ht]; exact hP9, hD9⟩ (hS.F ht)) hS.2.2 dX8_back_17
