



theorem dX8_ofCluster_0 : decode cX8_ofCluster 0 = .ok (.aload_n 0, 1) := by decide +kernel
theorem dX8_ofCluster_1 : decode cX8_ofCluster 1 = .ok (.getfield 56, 3) := by decide +kernel
theorem dX8_ofCluster_4 : decode cX8_ofCluster 4 = .ok (.iload_n 1, 1) := by decide +kernel
theorem dX8_ofCluster_5 : decode cX8_ofCluster 5 = .ok (.invokevirtual 169, 3) := by decide +kernel
theorem dX8_ofCluster_8 : decode cX8_ofCluster 8 = .ok (.ifCond .ne 5, 3) := by decide +kernel
theorem dX8_ofCluster_11 : decode cX8_ofCluster 11 = .ok (.iconst (-1), 1) := by decide +kernel
theorem dX8_ofCluster_12 : decode cX8_ofCluster 12 = .ok (.ireturn, 1) := by decide +kernel
theorem dX8_ofCluster_13 : decode cX8_ofCluster 13 = .ok (.iload_n 2, 1) := by decide +kernel
theorem dX8_ofCluster_14 : decode cX8_ofCluster 14 = .ok (.tableswitch 84 0 4 #[34, 44, 54, 64, 74], 34) := by decide +kernel
theorem dX8_ofCluster_48 : decode cX8_ofCluster 48 = .ok (.aload_n 0, 1) := by decide +kernel
theorem dX8_ofCluster_49 : decode cX8_ofCluster 49 = .ok (.getfield 56, 3) := by decide +kernel
theorem dX8_ofCluster_52 : decode cX8_ofCluster 52 = .ok (.getfield 172, 3) := by decide +kernel
theorem dX8_ofCluster_55 : decode cX8_ofCluster 55 = .ok (.iload_n 1, 1) := by decide +kernel
theorem dX8_ofCluster_56 : decode cX8_ofCluster 56 = .ok (.iaload, 1) := by decide +kernel
theorem dX8_ofCluster_57 : decode cX8_ofCluster 57 = .ok (.ireturn, 1) := by decide +kernel
theorem dX8_ofCluster_58 : decode cX8_ofCluster 58 = .ok (.aload_n 0, 1) := by decide +kernel
theorem dX8_ofCluster_59 : decode cX8_ofCluster 59 = .ok (.getfield 56, 3) := by decide +kernel
theorem dX8_ofCluster_62 : decode cX8_ofCluster 62 = .ok (.getfield 175, 3) := by decide +kernel
theorem dX8_ofCluster_65 : decode cX8_ofCluster 65 = .ok (.iload_n 1, 1) := by decide +kernel
theorem dX8_ofCluster_66 : decode cX8_ofCluster 66 = .ok (.iaload, 1) := by decide +kernel
theorem dX8_ofCluster_67 : decode cX8_ofCluster 67 = .ok (.ireturn, 1) := by decide +kernel
theorem dX8_ofCluster_68 : decode cX8_ofCluster 68 = .ok (.aload_n 0, 1) := by decide +kernel
theorem dX8_ofCluster_69 : decode cX8_ofCluster 69 = .ok (.getfield 56, 3) := by decide +kernel
theorem dX8_ofCluster_72 : decode cX8_ofCluster 72 = .ok (.getfield 178, 3) := by decide +kernel
theorem dX8_ofCluster_75 : decode cX8_ofCluster 75 = .ok (.iload_n 1, 1) := by decide +kernel
theorem dX8_ofCluster_76 : decode cX8_ofCluster 76 = .ok (.iaload, 1) := by decide +kernel
theorem dX8_ofCluster_77 : decode cX8_ofCluster 77 = .ok (.ireturn, 1) := by decide +kernel
theorem dX8_ofCluster_78 : decode cX8_ofCluster 78 = .ok (.aload_n 0, 1) := by decide +kernel
theorem dX8_ofCluster_79 : decode cX8_ofCluster 79 = .ok (.getfield 56, 3) := by decide +kernel
theorem dX8_ofCluster_82 : decode cX8_ofCluster 82 = .ok (.getfield 181, 3) := by decide +kernel
theorem dX8_ofCluster_85 : decode cX8_ofCluster 85 = .ok (.iload_n 1, 1) := by decide +kernel
theorem dX8_ofCluster_86 : decode cX8_ofCluster 86 = .ok (.iaload, 1) := by decide +kernel
theorem dX8_ofCluster_87 : decode cX8_ofCluster 87 = .ok (.ireturn, 1) := by decide +kernel
theorem dX8_ofCluster_88 : decode cX8_ofCluster 88 = .ok (.aload_n 0, 1) := by decide +kernel
theorem dX8_ofCluster_89 : decode cX8_ofCluster 89 = .ok (.getfield 56, 3) := by decide +kernel
theorem dX8_ofCluster_92 : decode cX8_ofCluster 92 = .ok (.getfield 184, 3) := by decide +kernel
theorem dX8_ofCluster_95 : decode cX8_ofCluster 95 = .ok (.iload_n 1, 1) := by decide +kernel
theorem dX8_ofCluster_96 : decode cX8_ofCluster 96 = .ok (.iaload, 1) := by decide +kernel
theorem dX8_ofCluster_97 : decode cX8_ofCluster 97 = .ok (.ireturn, 1) := by decide +kernel
theorem dX8_ofCluster_98 : decode cX8_ofCluster 98 = .ok (.bipush (-2), 2) := by decide +kernel
theorem dX8_ofCluster_100 : decode cX8_ofCluster 100 = .ok (.ireturn, 1) := by decide +kernel
set_option maxRecDepth 20000 in
theorem ggX8_ofCluster_X4_isCluster : GoodIn wsX8_ofCluster wsX4_isCluster := goodIn_4 _ (List.forall_mem_cons.mpr ⟨List.mem_cons_of_mem _ (List.mem_append_left _ (List.mem_append_left _ (List.mem_of_getElem? (i := 10) rfl))), List.forall_mem_append.mpr ⟨List.forall_mem_cons.mpr ⟨List.mem_cons_of_mem _ (List.mem_append_left _ (List.mem_append_left _ (List.mem_of_getElem? (i := 11) rfl))), List.forall_mem_cons.mpr ⟨List.mem_cons_of_mem _ (List.mem_append_left _ (List.mem_append_left _ (List.mem_of_getElem? (i := 12) rfl))), List.forall_mem_cons.mpr ⟨List.mem_cons_of_mem _ (List.mem_append_left _ (List.mem_append_left _ (List.mem_of_getElem? (i := 13) rfl))), List.forall_mem_cons.mpr ⟨List.mem_cons_of_mem _ (List.mem_append_left _ (List.mem_append_left _ (List.mem_of_getElem? (i := 14) rfl))), fun _ h9 => absurd h9 List.not_mem_nil⟩⟩⟩⟩, fun w h9 => List.mem_cons_of_mem _ (List.mem_append_right _ (h9))⟩⟩) (by decide +kernel)
set_option maxRecDepth 20000 in
theorem gX8_ofCluster_X4_isCluster : GoodIn wsX8_ofCluster (wsV RX8 169 RX4 yX4_isCluster wsX4_isCluster) := goodIn_app (goodIn_4 _ (List.forall_mem_cons.mpr ⟨List.mem_cons_of_mem _ (List.mem_append_left _ (List.mem_append_left _ (List.mem_of_getElem? (i := 6) rfl))), List.forall_mem_cons.mpr ⟨List.mem_cons_of_mem _ (List.mem_append_left _ (List.mem_append_left _ (List.mem_of_getElem? (i := 7) rfl))), List.forall_mem_cons.mpr ⟨List.mem_cons_of_mem _ (List.mem_append_left _ (List.mem_append_left _ (List.mem_of_getElem? (i := 8) rfl))), List.forall_mem_cons.mpr ⟨List.mem_cons_of_mem _ (List.mem_append_left _ (List.mem_append_left _ (List.mem_of_getElem? (i := 9) rfl))), fun _ h9 => absurd h9 List.not_mem_nil⟩⟩⟩⟩) (by decide +kernel)) ggX8_ofCluster_X4_isCluster
set_option maxRecDepth 20000 in
theorem mw_X8_ofCluster_0 : (.fieldLink RX8 56 "FontRuns" "setting" "LFontRuns$Setting;" : Cond) ∈ wsX8_ofCluster := List.mem_cons_of_mem _ (List.mem_append_left _ (List.mem_append_left _ (List.mem_of_getElem? (i := 0) rfl)))
set_option maxRecDepth 20000 in
theorem mw_X8_ofCluster_1 : (.fieldLink RX8 172 "FontRuns$Setting" "first" "[I" : Cond) ∈ wsX8_ofCluster := List.mem_cons_of_mem _ (List.mem_append_left _ (List.mem_append_left _ (List.mem_of_getElem? (i := 1) rfl)))
set_option maxRecDepth 20000 in
theorem mw_X8_ofCluster_2 : (.fieldLink RX8 175 "FontRuns$Setting" "length" "[I" : Cond) ∈ wsX8_ofCluster := List.mem_cons_of_mem _ (List.mem_append_left _ (List.mem_append_left _ (List.mem_of_getElem? (i := 2) rfl)))
set_option maxRecDepth 20000 in
theorem mw_X8_ofCluster_3 : (.fieldLink RX8 178 "FontRuns$Setting" "fitting" "[I" : Cond) ∈ wsX8_ofCluster := List.mem_cons_of_mem _ (List.mem_append_left _ (List.mem_append_left _ (List.mem_of_getElem? (i := 3) rfl)))
set_option maxRecDepth 20000 in
theorem mw_X8_ofCluster_4 : (.fieldLink RX8 181 "FontRuns$Setting" "chosen" "[I" : Cond) ∈ wsX8_ofCluster := List.mem_cons_of_mem _ (List.mem_append_left _ (List.mem_append_left _ (List.mem_of_getElem? (i := 4) rfl)))
set_option maxRecDepth 20000 in
theorem mw_X8_ofCluster_5 : (.fieldLink RX8 184 "FontRuns$Setting" "runOf" "[I" : Cond) ∈ wsX8_ofCluster := List.mem_cons_of_mem _ (List.mem_append_left _ (List.mem_append_left _ (List.mem_of_getElem? (i := 5) rfl)))
theorem ax_X8_ofCluster_0 {e0 e1 e2 e3 e4 e5 e6 : Nat × va_E} : ([1] : List Nat).map (fun i => ([e0, e1, e2, e3, e4, e5, e6] : va_W)[i]?) = ([e1] : va_W).map some := rfl
set_option maxHeartbeats 4000000 in
set_option maxRecDepth 100000 in
theorem c_X8_ofCluster (l : Launch) (D : va_G) (sz : Nat) (k : Int) (w : Int) (h0 : Nat) (sh : Nat) (rd : Nat) (fr : Nat) (wr : Nat) (pf : Nat) (rc : Nat) (se : Nat) (rs : Nat) (sw : Nat) (sp : Nat) (ss : Nat) (ew : Int) (wc : Int64) (tr : Int) (lf : Int) (g1 : Nat) (g2 : Nat) (g3 : Nat) (g4 : Nat) (g5 : Nat) (cn : Int) (bo : Int) (ru : Int) (g6 : Nat) (g7 : Nat) (cg1 : ClassId) (f1 : Nat → Int32) (cg2 : ClassId) (f2 : Nat → Int32) (cg3 : ClassId) (f3 : Nat → Int32) (cg4 : ClassId) (f4 : Nat → Int32) (cg5 : ClassId) (f5 : Nat → Int32) (q0 : rg k) (q1 : rg w) (q2 : 0 ≤ cn ∧ cn ≤ 24) (q3 : 0 ≤ bo ∧ bo ≤ 24) (q4 : 0 ≤ ru ∧ ru ≤ cn) : Met l yX8_ofCluster wsX8_ofCluster ({ frames := 2, cells := 0, slots := 0, locals := 43 }) (kPre [.ref h0, .int (zI k), .int (zI w)] D [(h0, .inr (8, [.ref sh, .ref rd, .ref fr, .ref wr, .ref pf, .ref rc, .ref se, .ref rs, .ref sw, .ref sp, .ref ss, .int (zI ew), .long wc, .int (zI tr), .int (zI lf)])), (se, .inr (4, [.ref g1, .ref g2, .ref g3, .ref g4, .ref g5, .int (zI cn), .int (zI bo), .int (zI ru), .ref g6, .ref g7])), (g1, .inl (cg1, 24, .inl f1)), (g2, .inl (cg2, 24, .inl f2)), (g3, .inl (cg3, 24, .inl f3)), (g4, .inl (cg4, 24, .inl f4)), (g5, .inl (cg5, 24, .inl f5))] [(cg1, .int), (cg2, .int), (cg3, .int), (cg4, .int), (cg5, .int)] sz) (QcP (fun rz => True)) 0 0 (fun _ => False) := by
  refine Met.ofW (cc := cX8_ofCluster) (maxL := 3) (ret := (some .int)) (by decide) rfl ?_
  intro p e s m args below meth c s₁ B hml hv
  obtain ⟨rfl, hsz, hP, hK, hD0, hN⟩ := hv
  have hx := B.exec
  have hb := B.bytes
  have hr := B.returns
  have hts := atoms_spec (ws := wsX8_ofCluster) B.pre
  have hown : s.vm.findClass RX8 = some m.cls := findClass_of_methodNamed B.named
  have hlocks := B.notSynchronized
  subst hsz
  have hD := hD0
  have hP : va_P D vwCl [(h0, .inr (8, [.ref sh, .ref rd, .ref fr, .ref wr, .ref pf, .ref rc, .ref se, .ref rs, .ref sw, .ref sp, .ref ss, .int (zI ew), .long wc, .int (zI tr), .int (zI lf)])), (se, .inr (4, [.ref g1, .ref g2, .ref g3, .ref g4, .ref g5, .int (zI cn), .int (zI bo), .int (zI ru), .ref g6, .ref g7])), (g1, .inl (cg1, 24, .inl f1)), (g2, .inl (cg2, 24, .inl f2)), (g3, .inl (cg3, 24, .inl f3)), (g4, .inl (cg4, 24, .inl f4)), (g5, .inl (cg5, 24, .inl f5))] s.heap := hP
  have hl := lv_entry ([.ref h0, .int (zI k), .int (zI w)]) (n := 3) (Nat.le_of_ble_eq_true rfl)
  rw [lg_entry_eq]
  generalize (lg_sl ([.ref h0, .int (zI k), .int (zI w)]) ++ List.replicate (3 - (lg_sl ([.ref h0, .int (zI k), .int (zI w)])).length) Slot.unset).toArray = ls at hl ⊢
  have hl : lv_has ls 3 [(0, .ref h0), (1, .int (zI k)), (2, .int (zI w))] := hl
  refine lv_aload_n hx hb dX8_ofCluster_0 rfl (lv_at hl 0 rfl) ?_
  refine va_get (D := D) (ci := 8) (v := .ref se) (C := RX8) (T := TX8) (N := 15) hx hb hts (fun _ h9 => List.mem_cons_of_mem _ (List.mem_append_left _ (List.mem_append_right _ h9))) hown hK hP 0 rfl rfl 6 (by decide) (hts (.fieldLink RX8 56 "FontRuns" "setting" "LFontRuns$Setting;") mw_X8_ofCluster_0) (fun _ h9 => h9) rfl dX8_ofCluster_1 ?_
  refine lv_iload_n hx hb dX8_ofCluster_4 rfl (lv_at hl 1 rfl) ?_
  refine k_callR (va_runV (As := [.int (zI k)]) (rest := []) ⟨hx, hb, hml, hown, hts⟩ (c_X4_isCluster l D s.heap.size (k := k) (h0 := se) (g1 := g1) (g2 := g2) (g3 := g3) (g4 := g4) (g5 := g5) (cn := cn) (bo := bo) (ru := ru) (g6 := g6) (g7 := g7) q0 q2 q3 q4) (cwV 1 hts gX8_ofCluster_X4_isCluster rfl rfl rfl (by decide +kernel) ⟨Nat.le_of_ble_eq_true rfl, Nat.le_of_ble_eq_true rfl⟩) (kPreV hP (kD0 hD) hK hN [1] [] ax_X8_ofCluster_0 rfl (by decide +kernel) 1 4 rfl rfl) rfl rfl hl.1 rfl (lv_room (Nat.le_of_ble_eq_true rfl)) dX8_ofCluster_5 ⟨Nat.le_of_ble_eq_true rfl, Nat.le_of_ble_eq_true rfl⟩) ?_
  refine lv_if_ne (tgt := 13) hx hb dX8_ofCluster_8 (by decide) (fun c_1 => ?_) (fun c_1 => ?_)
  · have c_1 : 0 ≤ k ∧ k ≤ cn - 1 := b01t c_1
    refine lv_iload_n hx hb dX8_ofCluster_13 rfl (lv_at hl 2 rfl) ?_
    rcases (show w = 0 ∨ w = 1 ∨ w = 2 ∨ w = 3 ∨ w = 4 ∨ (¬ w = 0 ∧ ¬ w = 1 ∧ ¬ w = 2 ∧ ¬ w = 3 ∧ ¬ w = 4) from by omega) with c_2 | c_2 | c_2 | c_2 | c_2 | c_2
    · refine kz_tabIn (tgt := 48) (off := 34) hx hb dX8_ofCluster_14 0 (by omega) (by decide) (by decide) (by decide) (by decide) (by decide) ?_
      refine lv_aload_n hx hb dX8_ofCluster_48 rfl (lv_at hl 0 rfl) ?_
      refine va_get (D := D) (ci := 8) (v := .ref se) (C := RX8) (T := TX8) (N := 15) hx hb hts (fun _ h9 => List.mem_cons_of_mem _ (List.mem_append_left _ (List.mem_append_right _ h9))) hown hK hP 0 rfl rfl 6 (by decide) (hts (.fieldLink RX8 56 "FontRuns" "setting" "LFontRuns$Setting;") mw_X8_ofCluster_0) (fun _ h9 => h9) rfl dX8_ofCluster_49 ?_
      refine va_get (D := D) (ci := 4) (v := .ref g1) (C := RX4) (T := TX4) (N := 10) hx hb hts (fun _ h9 => List.mem_cons_of_mem _ (List.mem_append_right _ h9)) hown hK hP 1 rfl rfl 0 (by decide) (hts (.fieldLink RX8 172 "FontRuns$Setting" "first" "[I") mw_X8_ofCluster_1) (fun _ h9 => h9) rfl dX8_ofCluster_52 ?_
      refine lv_iload_n hx hb dX8_ofCluster_55 rfl (lv_at hl 1 rfl) ?_
      refine kz_iald hx hb hK hP 2 0 rfl rfl (by omega) dX8_ofCluster_56 (fun z_3 rz_3 ez_3 => ?_)
      exact W.iret (v := (zI z_3)) hx hb hr (fun t ht hW => QcP_of (by omega) trivial ht) (fun _ h9 => by cases h9) dX8_ofCluster_57
    · refine kz_tabIn (tgt := 58) (off := 44) hx hb dX8_ofCluster_14 1 (by omega) (by decide) (by decide) (by decide) (by decide) (by decide) ?_
      refine lv_aload_n hx hb dX8_ofCluster_58 rfl (lv_at hl 0 rfl) ?_
      refine va_get (D := D) (ci := 8) (v := .ref se) (C := RX8) (T := TX8) (N := 15) hx hb hts (fun _ h9 => List.mem_cons_of_mem _ (List.mem_append_left _ (List.mem_append_right _ h9))) hown hK hP 0 rfl rfl 6 (by decide) (hts (.fieldLink RX8 56 "FontRuns" "setting" "LFontRuns$Setting;") mw_X8_ofCluster_0) (fun _ h9 => h9) rfl dX8_ofCluster_59 ?_
      refine va_get (D := D) (ci := 4) (v := .ref g2) (C := RX4) (T := TX4) (N := 10) hx hb hts (fun _ h9 => List.mem_cons_of_mem _ (List.mem_append_right _ h9)) hown hK hP 1 rfl rfl 1 (by decide) (hts (.fieldLink RX8 175 "FontRuns$Setting" "length" "[I") mw_X8_ofCluster_2) (fun _ h9 => h9) rfl dX8_ofCluster_62 ?_
      refine lv_iload_n hx hb dX8_ofCluster_65 rfl (lv_at hl 1 rfl) ?_
      refine kz_iald hx hb hK hP 3 1 rfl rfl (by omega) dX8_ofCluster_66 (fun z_4 rz_4 ez_4 => ?_)
      exact W.iret (v := (zI z_4)) hx hb hr (fun t ht hW => QcP_of (by omega) trivial ht) (fun _ h9 => by cases h9) dX8_ofCluster_67
    · refine kz_tabIn (tgt := 68) (off := 54) hx hb dX8_ofCluster_14 2 (by omega) (by decide) (by decide) (by decide) (by decide) (by decide) ?_
      refine lv_aload_n hx hb dX8_ofCluster_68 rfl (lv_at hl 0 rfl) ?_
      refine va_get (D := D) (ci := 8) (v := .ref se) (C := RX8) (T := TX8) (N := 15) hx hb hts (fun _ h9 => List.mem_cons_of_mem _ (List.mem_append_left _ (List.mem_append_right _ h9))) hown hK hP 0 rfl rfl 6 (by decide) (hts (.fieldLink RX8 56 "FontRuns" "setting" "LFontRuns$Setting;") mw_X8_ofCluster_0) (fun _ h9 => h9) rfl dX8_ofCluster_69 ?_
      refine va_get (D := D) (ci := 4) (v := .ref g3) (C := RX4) (T := TX4) (N := 10) hx hb hts (fun _ h9 => List.mem_cons_of_mem _ (List.mem_append_right _ h9)) hown hK hP 1 rfl rfl 2 (by decide) (hts (.fieldLink RX8 178 "FontRuns$Setting" "fitting" "[I") mw_X8_ofCluster_3) (fun _ h9 => h9) rfl dX8_ofCluster_72 ?_
      refine lv_iload_n hx hb dX8_ofCluster_75 rfl (lv_at hl 1 rfl) ?_
      refine kz_iald hx hb hK hP 4 2 rfl rfl (by omega) dX8_ofCluster_76 (fun z_5 rz_5 ez_5 => ?_)
      exact W.iret (v := (zI z_5)) hx hb hr (fun t ht hW => QcP_of (by omega) trivial ht) (fun _ h9 => by cases h9) dX8_ofCluster_77
    · refine kz_tabIn (tgt := 78) (off := 64) hx hb dX8_ofCluster_14 3 (by omega) (by decide) (by decide) (by decide) (by decide) (by decide) ?_
      refine lv_aload_n hx hb dX8_ofCluster_78 rfl (lv_at hl 0 rfl) ?_
      refine va_get (D := D) (ci := 8) (v := .ref se) (C := RX8) (T := TX8) (N := 15) hx hb hts (fun _ h9 => List.mem_cons_of_mem _ (List.mem_append_left _ (List.mem_append_right _ h9))) hown hK hP 0 rfl rfl 6 (by decide) (hts (.fieldLink RX8 56 "FontRuns" "setting" "LFontRuns$Setting;") mw_X8_ofCluster_0) (fun _ h9 => h9) rfl dX8_ofCluster_79 ?_
      refine va_get (D := D) (ci := 4) (v := .ref g4) (C := RX4) (T := TX4) (N := 10) hx hb hts (fun _ h9 => List.mem_cons_of_mem _ (List.mem_append_right _ h9)) hown hK hP 1 rfl rfl 3 (by decide) (hts (.fieldLink RX8 181 "FontRuns$Setting" "chosen" "[I") mw_X8_ofCluster_4) (fun _ h9 => h9) rfl dX8_ofCluster_82 ?_
      refine lv_iload_n hx hb dX8_ofCluster_85 rfl (lv_at hl 1 rfl) ?_
      refine kz_iald hx hb hK hP 5 3 rfl rfl (by omega) dX8_ofCluster_86 (fun z_6 rz_6 ez_6 => ?_)
      exact W.iret (v := (zI z_6)) hx hb hr (fun t ht hW => QcP_of (by omega) trivial ht) (fun _ h9 => by cases h9) dX8_ofCluster_87
    · refine kz_tabIn (tgt := 88) (off := 74) hx hb dX8_ofCluster_14 4 (by omega) (by decide) (by decide) (by decide) (by decide) (by decide) ?_
      refine lv_aload_n hx hb dX8_ofCluster_88 rfl (lv_at hl 0 rfl) ?_
      refine va_get (D := D) (ci := 8) (v := .ref se) (C := RX8) (T := TX8) (N := 15) hx hb hts (fun _ h9 => List.mem_cons_of_mem _ (List.mem_append_left _ (List.mem_append_right _ h9))) hown hK hP 0 rfl rfl 6 (by decide) (hts (.fieldLink RX8 56 "FontRuns" "setting" "LFontRuns$Setting;") mw_X8_ofCluster_0) (fun _ h9 => h9) rfl dX8_ofCluster_89 ?_
      refine va_get (D := D) (ci := 4) (v := .ref g5) (C := RX4) (T := TX4) (N := 10) hx hb hts (fun _ h9 => List.mem_cons_of_mem _ (List.mem_append_right _ h9)) hown hK hP 1 rfl rfl 4 (by decide) (hts (.fieldLink RX8 184 "FontRuns$Setting" "runOf" "[I") mw_X8_ofCluster_5) (fun _ h9 => h9) rfl dX8_ofCluster_92 ?_
      refine lv_iload_n hx hb dX8_ofCluster_95 rfl (lv_at hl 1 rfl) ?_
      refine kz_iald hx hb hK hP 6 4 rfl rfl (by omega) dX8_ofCluster_96 (fun z_7 rz_7 ez_7 => ?_)
      exact W.iret (v := (zI z_7)) hx hb hr (fun t ht hW => QcP_of (by omega) trivial ht) (fun _ h9 => by cases h9) dX8_ofCluster_97
    · refine kz_tabOut (tgt := 98) hx hb dX8_ofCluster_14 (by omega) (by omega) (by decide) ?_
      refine lv_bipush (v := zI (-2)) hx hb dX8_ofCluster_98 (by decide) ?_
      exact W.iret (v := (zI (-2))) hx hb hr (fun t ht hW => QcP_of (by omega) trivial ht) (fun _ h9 => by cases h9) dX8_ofCluster_100
  · have c_1 : ¬ (0 ≤ k ∧ k ≤ cn - 1) := b01f c_1
    refine lv_iconst (v := zI (-1)) hx hb dX8_ofCluster_11 rfl ?_
    exact W.iret (v := (zI (-1))) hx hb hr (fun t ht hW => QcP_of (by omega) trivial ht) (fun _ h9 => by cases h9) dX8_ofCluster_12
theorem dX8_ofRun_0 : decode cX8_ofRun 0 = .ok (.iload_n 1, 1) := by decide +kernel
theorem dX8_ofRun_1 : decode cX8_ofRun 1 = .ok (.iconst 0, 1) := by decide +kernel
theorem dX8_ofRun_2 : decode cX8_ofRun 2 = .ok (.aload_n 0, 1) := by decide +kernel
theorem dX8_ofRun_3 : decode cX8_ofRun 3 = .ok (.getfield 56, 3) := by decide +kernel
theorem dX8_ofRun_6 : decode cX8_ofRun 6 = .ok (.getfield 187, 3) := by decide +kernel
theorem dX8_ofRun_9 : decode cX8_ofRun 9 = .ok (.iconst 1, 1) := by decide +kernel
theorem dX8_ofRun_10 : decode cX8_ofRun 10 = .ok (.isub, 1) := by decide +kernel
theorem dX8_ofRun_11 : decode cX8_ofRun 11 = .ok (.invokestatic 128, 3) := by decide +kernel
theorem dX8_ofRun_14 : decode cX8_ofRun 14 = .ok (.ifCond .ne 5, 3) := by decide +kernel
theorem dX8_ofRun_17 : decode cX8_ofRun 17 = .ok (.iconst (-1), 1) := by decide +kernel
theorem dX8_ofRun_18 : decode cX8_ofRun 18 = .ok (.ireturn, 1) := by decide +kernel
theorem dX8_ofRun_19 : decode cX8_ofRun 19 = .ok (.aload_n 0, 1) := by decide +kernel
theorem dX8_ofRun_20 : decode cX8_ofRun 20 = .ok (.getfield 56, 3) := by decide +kernel
theorem dX8_ofRun_23 : decode cX8_ofRun 23 = .ok (.iload_n 1, 1) := by decide +kernel
theorem dX8_ofRun_24 : decode cX8_ofRun 24 = .ok (.invokevirtual 190, 3) := by decide +kernel
theorem dX8_ofRun_27 : decode cX8_ofRun 27 = .ok (.istore_n 3, 1) := by decide +kernel
theorem dX8_ofRun_28 : decode cX8_ofRun 28 = .ok (.aload_n 0, 1) := by decide +kernel
theorem dX8_ofRun_29 : decode cX8_ofRun 29 = .ok (.getfield 56, 3) := by decide +kernel
theorem dX8_ofRun_32 : decode cX8_ofRun 32 = .ok (.getfield 181, 3) := by decide +kernel
theorem dX8_ofRun_35 : decode cX8_ofRun 35 = .ok (.iload_n 3, 1) := by decide +kernel
theorem dX8_ofRun_36 : decode cX8_ofRun 36 = .ok (.iaload, 1) := by decide +kernel
theorem dX8_ofRun_37 : decode cX8_ofRun 37 = .ok (.istore 4, 2) := by decide +kernel
theorem dX8_ofRun_39 : decode cX8_ofRun 39 = .ok (.iload_n 2, 1) := by decide +kernel
theorem dX8_ofRun_40 : decode cX8_ofRun 40 = .ok (.tableswitch 65 0 3 #[32, 35, 37, 46], 32) := by decide +kernel
theorem dX8_ofRun_72 : decode cX8_ofRun 72 = .ok (.iload 4, 2) := by decide +kernel
theorem dX8_ofRun_74 : decode cX8_ofRun 74 = .ok (.ireturn, 1) := by decide +kernel
theorem dX8_ofRun_75 : decode cX8_ofRun 75 = .ok (.iload_n 3, 1) := by decide +kernel
theorem dX8_ofRun_76 : decode cX8_ofRun 76 = .ok (.ireturn, 1) := by decide +kernel
theorem dX8_ofRun_77 : decode cX8_ofRun 77 = .ok (.aload_n 0, 1) := by decide +kernel
theorem dX8_ofRun_78 : decode cX8_ofRun 78 = .ok (.getfield 56, 3) := by decide +kernel
theorem dX8_ofRun_81 : decode cX8_ofRun 81 = .ok (.iload_n 1, 1) := by decide +kernel
theorem dX8_ofRun_82 : decode cX8_ofRun 82 = .ok (.invokevirtual 193, 3) := by decide +kernel
theorem dX8_ofRun_85 : decode cX8_ofRun 85 = .ok (.ireturn, 1) := by decide +kernel
theorem dX8_ofRun_86 : decode cX8_ofRun 86 = .ok (.aload_n 0, 1) := by decide +kernel
theorem dX8_ofRun_87 : decode cX8_ofRun 87 = .ok (.getfield 56, 3) := by decide +kernel
theorem dX8_ofRun_90 : decode cX8_ofRun 90 = .ok (.iload_n 1, 1) := by decide +kernel
theorem dX8_ofRun_91 : decode cX8_ofRun 91 = .ok (.invokevirtual 193, 3) := by decide +kernel
theorem dX8_ofRun_94 : decode cX8_ofRun 94 = .ok (.aload_n 0, 1) := by decide +kernel
theorem dX8_ofRun_95 : decode cX8_ofRun 95 = .ok (.getfield 28, 3) := by decide +kernel
theorem dX8_ofRun_98 : decode cX8_ofRun 98 = .ok (.iload 4, 2) := by decide +kernel
theorem dX8_ofRun_100 : decode cX8_ofRun 100 = .ok (.invokevirtual 119, 3) := by decide +kernel
theorem dX8_ofRun_103 : decode cX8_ofRun 103 = .ok (.imul, 1) := by decide +kernel
theorem dX8_ofRun_104 : decode cX8_ofRun 104 = .ok (.ireturn, 1) := by decide +kernel
theorem dX8_ofRun_105 : decode cX8_ofRun 105 = .ok (.bipush (-2), 2) := by decide +kernel
theorem dX8_ofRun_107 : decode cX8_ofRun 107 = .ok (.ireturn, 1) := by decide +kernel
set_option maxRecDepth 20000 in
theorem ggX8_ofRun_X0_step : GoodIn wsX8_ofRun wsX0_step := goodIn_4 _ (List.forall_mem_cons.mpr ⟨List.mem_cons_of_mem _ (List.mem_append_left _ (List.mem_append_left _ (List.mem_append_left _ (List.mem_append_left _ (List.mem_of_getElem? (i := 23) rfl))))), List.forall_mem_append.mpr ⟨List.forall_mem_cons.mpr ⟨List.mem_cons_of_mem _ (List.mem_append_left _ (List.mem_append_left _ (List.mem_append_left _ (List.mem_append_right _ (List.mem_of_getElem? (i := 0) rfl))))), List.forall_mem_cons.mpr ⟨List.mem_cons_of_mem _ (List.mem_append_left _ (List.mem_append_left _ (List.mem_append_left _ (List.mem_append_right _ (List.mem_of_getElem? (i := 1) rfl))))), List.forall_mem_cons.mpr ⟨List.mem_cons_of_mem _ (List.mem_append_left _ (List.mem_append_left _ (List.mem_append_left _ (List.mem_append_right _ (List.mem_of_getElem? (i := 2) rfl))))), List.forall_mem_cons.mpr ⟨List.mem_cons_of_mem _ (List.mem_append_left _ (List.mem_append_left _ (List.mem_append_left _ (List.mem_append_right _ (List.mem_of_getElem? (i := 3) rfl))))), List.forall_mem_cons.mpr ⟨List.mem_cons_of_mem _ (List.mem_append_left _ (List.mem_append_left _ (List.mem_append_left _ (List.mem_append_right _ (List.mem_of_getElem? (i := 4) rfl))))), List.forall_mem_cons.mpr ⟨List.mem_cons_of_mem _ (List.mem_append_left _ (List.mem_append_left _ (List.mem_append_left _ (List.mem_append_left _ (List.mem_of_getElem? (i := 22) rfl))))), List.forall_mem_cons.mpr ⟨List.mem_cons_of_mem _ (List.mem_append_left _ (List.mem_append_left _ (List.mem_append_left _ (List.mem_append_right _ (List.mem_of_getElem? (i := 5) rfl))))), List.forall_mem_cons.mpr ⟨List.mem_cons_of_mem _ (List.mem_append_left _ (List.mem_append_left _ (List.mem_append_left _ (List.mem_append_right _ (List.mem_of_getElem? (i := 6) rfl))))), List.forall_mem_cons.mpr ⟨List.mem_cons_of_mem _ (List.mem_append_left _ (List.mem_append_left _ (List.mem_append_left _ (List.mem_append_left _ (List.mem_of_getElem? (i := 5) rfl))))), List.forall_mem_cons.mpr ⟨List.mem_cons_of_mem _ (List.mem_append_left _ (List.mem_append_left _ (List.mem_append_left _ (List.mem_append_left _ (List.mem_of_getElem? (i := 6) rfl))))), List.forall_mem_cons.mpr ⟨List.mem_cons_of_mem _ (List.mem_append_left _ (List.mem_append_left _ (List.mem_append_left _ (List.mem_append_left _ (List.mem_of_getElem? (i := 7) rfl))))), List.forall_mem_cons.mpr ⟨List.mem_cons_of_mem _ (List.mem_append_left _ (List.mem_append_left _ (List.mem_append_left _ (List.mem_append_right _ (List.mem_of_getElem? (i := 7) rfl))))), List.forall_mem_cons.mpr ⟨List.mem_cons_of_mem _ (List.mem_append_left _ (List.mem_append_left _ (List.mem_append_left _ (List.mem_append_right _ (List.mem_of_getElem? (i := 8) rfl))))), fun _ h9 => absurd h9 List.not_mem_nil⟩⟩⟩⟩⟩⟩⟩⟩⟩⟩⟩⟩⟩, fun w h9 => List.mem_cons_of_mem _ (List.mem_append_right _ (h9))⟩⟩) (by decide +kernel)
set_option maxRecDepth 20000 in
theorem gX8_ofRun_X0_step : GoodIn wsX8_ofRun (wsV RX8 119 RX0 yX0_step wsX0_step) := goodIn_app (goodIn_4 _ (List.forall_mem_cons.mpr ⟨List.mem_cons_of_mem _ (List.mem_append_left _ (List.mem_append_left _ (List.mem_append_left _ (List.mem_append_left _ (List.mem_of_getElem? (i := 19) rfl))))), List.forall_mem_cons.mpr ⟨List.mem_cons_of_mem _ (List.mem_append_left _ (List.mem_append_left _ (List.mem_append_left _ (List.mem_append_left _ (List.mem_of_getElem? (i := 20) rfl))))), List.forall_mem_cons.mpr ⟨List.mem_cons_of_mem _ (List.mem_append_left _ (List.mem_append_left _ (List.mem_append_left _ (List.mem_append_left _ (List.mem_of_getElem? (i := 21) rfl))))), List.forall_mem_cons.mpr ⟨List.mem_cons_of_mem _ (List.mem_append_left _ (List.mem_append_left _ (List.mem_append_left _ (List.mem_append_left _ (List.mem_of_getElem? (i := 22) rfl))))), fun _ h9 => absurd h9 List.not_mem_nil⟩⟩⟩⟩) (by decide +kernel)) ggX8_ofRun_X0_step
set_option maxRecDepth 20000 in
theorem ggX8_ofRun_X4_clustersOfRun : GoodIn wsX8_ofRun wsX4_clustersOfRun := goodIn_4 _ (List.forall_mem_cons.mpr ⟨List.mem_cons_of_mem _ (List.mem_append_left _ (List.mem_append_left _ (List.mem_append_left _ (List.mem_append_left _ (List.mem_of_getElem? (i := 18) rfl))))), List.forall_mem_append.mpr ⟨List.forall_mem_cons.mpr ⟨List.mem_cons_of_mem _ (List.mem_append_left _ (List.mem_append_left _ (List.mem_append_left _ (List.mem_append_left _ (List.mem_of_getElem? (i := 13) rfl))))), List.forall_mem_cons.mpr ⟨List.mem_cons_of_mem _ (List.mem_append_left _ (List.mem_append_left _ (List.mem_append_left _ (List.mem_append_left _ (List.mem_of_getElem? (i := 14) rfl))))), fun _ h9 => absurd h9 List.not_mem_nil⟩⟩, fun w h9 => List.mem_cons_of_mem _ (List.mem_append_left _ (List.mem_append_right _ (h9)))⟩⟩) (by decide +kernel)
set_option maxRecDepth 20000 in
theorem gX8_ofRun_X4_clustersOfRun : GoodIn wsX8_ofRun (wsV RX8 193 RX4 yX4_clustersOfRun wsX4_clustersOfRun) := goodIn_app (goodIn_4 _ (List.forall_mem_cons.mpr ⟨List.mem_cons_of_mem _ (List.mem_append_left _ (List.mem_append_left _ (List.mem_append_left _ (List.mem_append_left _ (List.mem_of_getElem? (i := 15) rfl))))), List.forall_mem_cons.mpr ⟨List.mem_cons_of_mem _ (List.mem_append_left _ (List.mem_append_left _ (List.mem_append_left _ (List.mem_append_left _ (List.mem_of_getElem? (i := 16) rfl))))), List.forall_mem_cons.mpr ⟨List.mem_cons_of_mem _ (List.mem_append_left _ (List.mem_append_left _ (List.mem_append_left _ (List.mem_append_left _ (List.mem_of_getElem? (i := 17) rfl))))), List.forall_mem_cons.mpr ⟨List.mem_cons_of_mem _ (List.mem_append_left _ (List.mem_append_left _ (List.mem_append_left _ (List.mem_append_left _ (List.mem_of_getElem? (i := 11) rfl))))), fun _ h9 => absurd h9 List.not_mem_nil⟩⟩⟩⟩) (by decide +kernel)) ggX8_ofRun_X4_clustersOfRun
set_option maxRecDepth 20000 in
theorem ggX8_ofRun_X4_firstOfRun : GoodIn wsX8_ofRun wsX4_firstOfRun := goodIn_4 _ (List.forall_mem_cons.mpr ⟨List.mem_cons_of_mem _ (List.mem_append_left _ (List.mem_append_left _ (List.mem_append_left _ (List.mem_append_left _ (List.mem_of_getElem? (i := 12) rfl))))), List.forall_mem_append.mpr ⟨List.forall_mem_cons.mpr ⟨List.mem_cons_of_mem _ (List.mem_append_left _ (List.mem_append_left _ (List.mem_append_left _ (List.mem_append_left _ (List.mem_of_getElem? (i := 13) rfl))))), List.forall_mem_cons.mpr ⟨List.mem_cons_of_mem _ (List.mem_append_left _ (List.mem_append_left _ (List.mem_append_left _ (List.mem_append_left _ (List.mem_of_getElem? (i := 14) rfl))))), fun _ h9 => absurd h9 List.not_mem_nil⟩⟩, fun w h9 => List.mem_cons_of_mem _ (List.mem_append_left _ (List.mem_append_right _ (h9)))⟩⟩) (by decide +kernel)
set_option maxRecDepth 20000 in
theorem gX8_ofRun_X4_firstOfRun : GoodIn wsX8_ofRun (wsV RX8 190 RX4 yX4_firstOfRun wsX4_firstOfRun) := goodIn_app (goodIn_4 _ (List.forall_mem_cons.mpr ⟨List.mem_cons_of_mem _ (List.mem_append_left _ (List.mem_append_left _ (List.mem_append_left _ (List.mem_append_left _ (List.mem_of_getElem? (i := 8) rfl))))), List.forall_mem_cons.mpr ⟨List.mem_cons_of_mem _ (List.mem_append_left _ (List.mem_append_left _ (List.mem_append_left _ (List.mem_append_left _ (List.mem_of_getElem? (i := 9) rfl))))), List.forall_mem_cons.mpr ⟨List.mem_cons_of_mem _ (List.mem_append_left _ (List.mem_append_left _ (List.mem_append_left _ (List.mem_append_left _ (List.mem_of_getElem? (i := 10) rfl))))), List.forall_mem_cons.mpr ⟨List.mem_cons_of_mem _ (List.mem_append_left _ (List.mem_append_left _ (List.mem_append_left _ (List.mem_append_left _ (List.mem_of_getElem? (i := 11) rfl))))), fun _ h9 => absurd h9 List.not_mem_nil⟩⟩⟩⟩) (by decide +kernel)) ggX8_ofRun_X4_firstOfRun
set_option maxRecDepth 20000 in
theorem ggX8_ofRun_X8_isWithin : GoodIn wsX8_ofRun wsX8_isWithin := goodIn_4 _ (List.forall_mem_cons.mpr ⟨List.mem_cons_of_mem _ (List.mem_append_left _ (List.mem_append_left _ (List.mem_append_left _ (List.mem_append_left _ (List.mem_of_getElem? (i := 7) rfl))))), fun _ h9 => absurd h9 List.not_mem_nil⟩) (by decide +kernel)
set_option maxRecDepth 20000 in
theorem gX8_ofRun_X8_isWithin : GoodIn wsX8_ofRun (va_wsS RX8 128 yX8_isWithin wsX8_isWithin) := goodIn_app (goodIn_4 _ (List.forall_mem_cons.mpr ⟨List.mem_cons_of_mem _ (List.mem_append_left _ (List.mem_append_left _ (List.mem_append_left _ (List.mem_append_left _ (List.mem_of_getElem? (i := 4) rfl))))), List.forall_mem_cons.mpr ⟨List.mem_cons_of_mem _ (List.mem_append_left _ (List.mem_append_left _ (List.mem_append_left _ (List.mem_append_left _ (List.mem_of_getElem? (i := 5) rfl))))), List.forall_mem_cons.mpr ⟨List.mem_cons_of_mem _ (List.mem_append_left _ (List.mem_append_left _ (List.mem_append_left _ (List.mem_append_left _ (List.mem_of_getElem? (i := 6) rfl))))), fun _ h9 => absurd h9 List.not_mem_nil⟩⟩⟩) (by decide +kernel)) ggX8_ofRun_X8_isWithin
set_option maxRecDepth 20000 in
theorem mw_X8_ofRun_0 : (.fieldLink RX8 56 "FontRuns" "setting" "LFontRuns$Setting;" : Cond) ∈ wsX8_ofRun := List.mem_cons_of_mem _ (List.mem_append_left _ (List.mem_append_left _ (List.mem_append_left _ (List.mem_append_left _ (List.mem_of_getElem? (i := 0) rfl)))))
set_option maxRecDepth 20000 in
theorem mw_X8_ofRun_1 : (.fieldLink RX8 187 "FontRuns$Setting" "runs" "I" : Cond) ∈ wsX8_ofRun := List.mem_cons_of_mem _ (List.mem_append_left _ (List.mem_append_left _ (List.mem_append_left _ (List.mem_append_left _ (List.mem_of_getElem? (i := 1) rfl)))))
set_option maxRecDepth 20000 in
theorem mw_X8_ofRun_2 : (.fieldLink RX8 181 "FontRuns$Setting" "chosen" "[I" : Cond) ∈ wsX8_ofRun := List.mem_cons_of_mem _ (List.mem_append_left _ (List.mem_append_left _ (List.mem_append_left _ (List.mem_append_left _ (List.mem_of_getElem? (i := 2) rfl)))))
set_option maxRecDepth 20000 in
theorem mw_X8_ofRun_3 : (.fieldLink RX8 28 "FontRuns" "fontRow" "LFontRuns$FontRow;" : Cond) ∈ wsX8_ofRun := List.mem_cons_of_mem _ (List.mem_append_left _ (List.mem_append_left _ (List.mem_append_left _ (List.mem_append_left _ (List.mem_of_getElem? (i := 3) rfl)))))
theorem ax_X8_ofRun_0 {e0 e1 e2 e3 e4 e5 e6 : Nat × va_E} : ([] : List Nat).map (fun i => ([e0, e1, e2, e3, e4, e5, e6] : va_W)[i]?) = ([] : va_W).map some := rfl
theorem ax_X8_ofRun_1 {e0 e1 e2 e3 e4 e5 e6 : Nat × va_E} : ([1, 3] : List Nat).map (fun i => ([e0, e1, e2, e3, e4, e5, e6] : va_W)[i]?) = ([e1, e3] : va_W).map some := rfl
theorem ax_X8_ofRun_2 {e0 e1 e2 e3 e4 e5 e6 : Nat × va_E} : ([4, 5, 6] : List Nat).map (fun i => ([e0, e1, e2, e3, e4, e5, e6] : va_W)[i]?) = ([e4, e5, e6] : va_W).map some := rfl
set_option maxHeartbeats 4000000 in
set_option maxRecDepth 100000 in
theorem c_X8_ofRun (l : Launch) (D : va_G) (sz : Nat) (k : Int) (w : Int) (h0 : Nat) (sh : Nat) (rd : Nat) (fr : Nat) (wr : Nat) (pf : Nat) (rc : Nat) (se : Nat) (rs : Nat) (sw : Nat) (sp : Nat) (ss : Nat) (ew : Int) (wc : Int64) (tr : Int) (lf : Int) (g1 : Nat) (g2 : Nat) (g3 : Nat) (g4 : Nat) (g5 : Nat) (cn : Int) (bo : Int) (ru : Int) (g6 : Nat) (g7 : Nat) (cg4 : ClassId) (f4 : Nat → Int32) (cg5 : ClassId) (f5 : Nat → Int32) (k1 : Nat) (k2 : Nat) (k3 : Nat) (fn : Int) (ck1 : ClassId) (fk : Nat → Int32) (ck2 : ClassId) (fb : Nat → Int32) (q0 : rg k) (q1 : rg w) (q2 : 0 ≤ cn ∧ cn ≤ 24) (q3 : 0 ≤ bo ∧ bo ≤ 24) (q4 : 0 ≤ ru ∧ ru ≤ cn) (q5 : 0 ≤ fn ∧ fn ≤ 4) : Met l yX8_ofRun wsX8_ofRun ({ frames := 3, cells := 0, slots := 0, locals := 64 }) (kPre [.ref h0, .int (zI k), .int (zI w)] D [(h0, .inr (8, [.ref sh, .ref rd, .ref fr, .ref wr, .ref pf, .ref rc, .ref se, .ref rs, .ref sw, .ref sp, .ref ss, .int (zI ew), .long wc, .int (zI tr), .int (zI lf)])), (se, .inr (4, [.ref g1, .ref g2, .ref g3, .ref g4, .ref g5, .int (zI cn), .int (zI bo), .int (zI ru), .ref g6, .ref g7])), (g4, .inl (cg4, 24, .inl f4)), (g5, .inl (cg5, 24, .inl f5)), (fr, .inr (0, [.ref k1, .ref k2, .ref k3, .int (zI fn)])), (k1, .inl (ck1, 4, .inl fk)), (k2, .inl (ck2, 4, .inl fb))] [(cg4, .int), (cg5, .int), (ck1, .int), (ck2, .int)] sz) (QcP (fun rz => True)) 0 0 (fun _ => False) := by
  refine Met.ofW (cc := cX8_ofRun) (maxL := 5) (ret := (some .int)) (by decide) rfl ?_
  intro p e s m args below meth c s₁ B hml hv
  obtain ⟨rfl, hsz, hP, hK, hD0, hN⟩ := hv
  have hx := B.exec
  have hb := B.bytes
  have hr := B.returns
  have hts := atoms_spec (ws := wsX8_ofRun) B.pre
  have hown : s.vm.findClass RX8 = some m.cls := findClass_of_methodNamed B.named
  have hlocks := B.notSynchronized
  subst hsz
  have hD := hD0
  have hP : va_P D vwCl [(h0, .inr (8, [.ref sh, .ref rd, .ref fr, .ref wr, .ref pf, .ref rc, .ref se, .ref rs, .ref sw, .ref sp, .ref ss, .int (zI ew), .long wc, .int (zI tr), .int (zI lf)])), (se, .inr (4, [.ref g1, .ref g2, .ref g3, .ref g4, .ref g5, .int (zI cn), .int (zI bo), .int (zI ru), .ref g6, .ref g7])), (g4, .inl (cg4, 24, .inl f4)), (g5, .inl (cg5, 24, .inl f5)), (fr, .inr (0, [.ref k1, .ref k2, .ref k3, .int (zI fn)])), (k1, .inl (ck1, 4, .inl fk)), (k2, .inl (ck2, 4, .inl fb))] s.heap := hP
  have hl := lv_entry ([.ref h0, .int (zI k), .int (zI w)]) (n := 5) (Nat.le_of_ble_eq_true rfl)
  rw [lg_entry_eq]
  generalize (lg_sl ([.ref h0, .int (zI k), .int (zI w)]) ++ List.replicate (5 - (lg_sl ([.ref h0, .int (zI k), .int (zI w)])).length) Slot.unset).toArray = ls at hl ⊢
  have hl : lv_has ls 5 [(0, .ref h0), (1, .int (zI k)), (2, .int (zI w))] := hl
  refine lv_iload_n hx hb dX8_ofRun_0 rfl (lv_at hl 1 rfl) ?_
  refine lv_iconst (v := zI 0) hx hb dX8_ofRun_1 rfl ?_
  refine lv_aload_n hx hb dX8_ofRun_2 rfl (lv_at hl 0 rfl) ?_
  refine va_get (D := D) (ci := 8) (v := .ref se) (C := RX8) (T := TX8) (N := 15) hx hb hts (fun _ h9 => List.mem_cons_of_mem _ (List.mem_append_left _ (List.mem_append_left _ (List.mem_append_right _ h9)))) hown hK hP 0 rfl rfl 6 (by decide) (hts (.fieldLink RX8 56 "FontRuns" "setting" "LFontRuns$Setting;") mw_X8_ofRun_0) (fun _ h9 => h9) rfl dX8_ofRun_3 ?_
  refine va_get (D := D) (ci := 4) (v := .int (zI ru)) (C := RX4) (T := TX4) (N := 10) hx hb hts (fun _ h9 => List.mem_cons_of_mem _ (List.mem_append_left _ (List.mem_append_right _ h9))) hown hK hP 1 rfl rfl 7 (by decide) (hts (.fieldLink RX8 187 "FontRuns$Setting" "runs" "I") mw_X8_ofRun_1) (fun _ h9 => h9) rfl dX8_ofRun_6 ?_
  refine lv_iconst (v := zI 1) hx hb dX8_ofRun_9 rfl ?_
  refine kz_isub hx hb dX8_ofRun_10 ?_
  refine k_callR (va_runS (As := [.int (zI k), .int (zI 0), .int (zI (ru - 1))]) (rest := []) ⟨hx, hb, hml, hown, hts⟩ (c_X8_isWithin l D s.heap.size (v := k) (a := 0) (b := (ru - 1)) q0 (by omega) (by omega)) (va_cwS 3 hts gX8_ofRun_X8_isWithin rfl rfl rfl (by decide +kernel) ⟨Nat.le_of_ble_eq_true rfl, Nat.le_of_ble_eq_true rfl⟩) (kPreS hP (kD0 hD) hK hN [] [] ax_X8_ofRun_0 rfl (by decide +kernel)) rfl rfl hl.1 rfl (lv_room (Nat.le_of_ble_eq_true rfl)) dX8_ofRun_11 ⟨Nat.le_of_ble_eq_true rfl, Nat.le_of_ble_eq_true rfl⟩) ?_
  refine lv_if_ne (tgt := 19) hx hb dX8_ofRun_14 (by decide) (fun c_1 => ?_) (fun c_1 => ?_)
  · have c_1 : 0 ≤ k ∧ k ≤ (ru - 1) := b01t c_1
    refine lv_aload_n hx hb dX8_ofRun_19 rfl (lv_at hl 0 rfl) ?_
    refine va_get (D := D) (ci := 8) (v := .ref se) (C := RX8) (T := TX8) (N := 15) hx hb hts (fun _ h9 => List.mem_cons_of_mem _ (List.mem_append_left _ (List.mem_append_left _ (List.mem_append_right _ h9)))) hown hK hP 0 rfl rfl 6 (by decide) (hts (.fieldLink RX8 56 "FontRuns" "setting" "LFontRuns$Setting;") mw_X8_ofRun_0) (fun _ h9 => h9) rfl dX8_ofRun_20 ?_
    refine lv_iload_n hx hb dX8_ofRun_23 rfl (lv_at hl 1 rfl) ?_
    refine k_callP (va_runV (As := [.int (zI k)]) (rest := []) ⟨hx, hb, hml, hown, hts⟩ (c_X4_firstOfRun l D s.heap.size (f := k) (h0 := se) (g1 := g1) (g2 := g2) (g3 := g3) (g4 := g4) (g5 := g5) (cn := cn) (bo := bo) (ru := ru) (g6 := g6) (g7 := g7) (cg5 := cg5) (f5 := f5) q0 q2 q3 q4) (cwV 1 hts gX8_ofRun_X4_firstOfRun rfl rfl rfl (by decide +kernel) ⟨Nat.le_of_ble_eq_true rfl, Nat.le_of_ble_eq_true rfl⟩) (kPreV hP (kD0 hD) hK hN [1, 3] [1] ax_X8_ofRun_1 rfl (by decide +kernel) 1 4 rfl rfl) rfl rfl hl.1 rfl (lv_room (Nat.le_of_ble_eq_true rfl)) dX8_ofRun_24 ⟨Nat.le_of_ble_eq_true rfl, Nat.le_of_ble_eq_true rfl⟩) (fun z_2 rz_2 h_3 => ?_)
    refine lv_istore_n (lv' := [(3, .int (zI z_2)), (0, .ref h0), (1, .int (zI k)), (2, .int (zI w))]) hx hb dX8_ofRun_27 rfl hl (by decide) rfl (fun ls hl => ?_)
    refine lv_aload_n hx hb dX8_ofRun_28 rfl (lv_at hl 1 rfl) ?_
    refine va_get (D := D) (ci := 8) (v := .ref se) (C := RX8) (T := TX8) (N := 15) hx hb hts (fun _ h9 => List.mem_cons_of_mem _ (List.mem_append_left _ (List.mem_append_left _ (List.mem_append_right _ h9)))) hown hK hP 0 rfl rfl 6 (by decide) (hts (.fieldLink RX8 56 "FontRuns" "setting" "LFontRuns$Setting;") mw_X8_ofRun_0) (fun _ h9 => h9) rfl dX8_ofRun_29 ?_
    refine va_get (D := D) (ci := 4) (v := .ref g4) (C := RX4) (T := TX4) (N := 10) hx hb hts (fun _ h9 => List.mem_cons_of_mem _ (List.mem_append_left _ (List.mem_append_right _ h9))) hown hK hP 1 rfl rfl 3 (by decide) (hts (.fieldLink RX8 181 "FontRuns$Setting" "chosen" "[I") mw_X8_ofRun_2) (fun _ h9 => h9) rfl dX8_ofRun_32 ?_
    refine lv_iload_n hx hb dX8_ofRun_35 rfl (lv_at hl 0 rfl) ?_
    refine kz_iald hx hb hK hP 2 0 rfl rfl (by omega) dX8_ofRun_36 (fun z_4 rz_4 ez_4 => ?_)
    refine lv_istore (lv' := [(4, .int (zI z_4)), (3, .int (zI z_2)), (0, .ref h0), (1, .int (zI k)), (2, .int (zI w))]) hx hb dX8_ofRun_37 hl (by decide) rfl (fun ls hl => ?_)
    refine lv_iload_n hx hb dX8_ofRun_39 rfl (lv_at hl 4 rfl) ?_
    rcases (show w = 0 ∨ w = 1 ∨ w = 2 ∨ w = 3 ∨ (¬ w = 0 ∧ ¬ w = 1 ∧ ¬ w = 2 ∧ ¬ w = 3) from by omega) with c_5 | c_5 | c_5 | c_5 | c_5
    · refine kz_tabIn (tgt := 72) (off := 32) hx hb dX8_ofRun_40 0 (by omega) (by decide) (by decide) (by decide) (by decide) (by decide) ?_
      refine lv_iload hx hb dX8_ofRun_72 (lv_at hl 0 rfl) ?_
      exact W.iret (v := (zI z_4)) hx hb hr (fun t ht hW => QcP_of (by omega) trivial ht) (fun _ h9 => by cases h9) dX8_ofRun_74
    · refine kz_tabIn (tgt := 75) (off := 35) hx hb dX8_ofRun_40 1 (by omega) (by decide) (by decide) (by decide) (by decide) (by decide) ?_
      refine lv_iload_n hx hb dX8_ofRun_75 rfl (lv_at hl 1 rfl) ?_
      exact W.iret (v := (zI z_2)) hx hb hr (fun t ht hW => QcP_of (by omega) trivial ht) (fun _ h9 => by cases h9) dX8_ofRun_76
    · refine kz_tabIn (tgt := 77) (off := 37) hx hb dX8_ofRun_40 2 (by omega) (by decide) (by decide) (by decide) (by decide) (by decide) ?_
      refine lv_aload_n hx hb dX8_ofRun_77 rfl (lv_at hl 2 rfl) ?_
      refine va_get (D := D) (ci := 8) (v := .ref se) (C := RX8) (T := TX8) (N := 15) hx hb hts (fun _ h9 => List.mem_cons_of_mem _ (List.mem_append_left _ (List.mem_append_left _ (List.mem_append_right _ h9)))) hown hK hP 0 rfl rfl 6 (by decide) (hts (.fieldLink RX8 56 "FontRuns" "setting" "LFontRuns$Setting;") mw_X8_ofRun_0) (fun _ h9 => h9) rfl dX8_ofRun_78 ?_
      refine lv_iload_n hx hb dX8_ofRun_81 rfl (lv_at hl 3 rfl) ?_
      refine k_callP (va_runV (As := [.int (zI k)]) (rest := []) ⟨hx, hb, hml, hown, hts⟩ (c_X4_clustersOfRun l D s.heap.size (f := k) (h0 := se) (g1 := g1) (g2 := g2) (g3 := g3) (g4 := g4) (g5 := g5) (cn := cn) (bo := bo) (ru := ru) (g6 := g6) (g7 := g7) (cg5 := cg5) (f5 := f5) q0 q2 q3 q4) (cwV 1 hts gX8_ofRun_X4_clustersOfRun rfl rfl rfl (by decide +kernel) ⟨Nat.le_of_ble_eq_true rfl, Nat.le_of_ble_eq_true rfl⟩) (kPreV hP (kD0 hD) hK hN [1, 3] [1] ax_X8_ofRun_1 rfl (by decide +kernel) 1 4 rfl rfl) rfl rfl hl.1 rfl (lv_room (Nat.le_of_ble_eq_true rfl)) dX8_ofRun_82 ⟨Nat.le_of_ble_eq_true rfl, Nat.le_of_ble_eq_true rfl⟩) (fun z_6 rz_6 h_7 => ?_)
      exact W.iret (v := (zI z_6)) hx hb hr (fun t ht hW => QcP_of (by omega) trivial ht) (fun _ h9 => by cases h9) dX8_ofRun_85
    · refine kz_tabIn (tgt := 86) (off := 46) hx hb dX8_ofRun_40 3 (by omega) (by decide) (by decide) (by decide) (by decide) (by decide) ?_
      refine lv_aload_n hx hb dX8_ofRun_86 rfl (lv_at hl 2 rfl) ?_
      refine va_get (D := D) (ci := 8) (v := .ref se) (C := RX8) (T := TX8) (N := 15) hx hb hts (fun _ h9 => List.mem_cons_of_mem _ (List.mem_append_left _ (List.mem_append_left _ (List.mem_append_right _ h9)))) hown hK hP 0 rfl rfl 6 (by decide) (hts (.fieldLink RX8 56 "FontRuns" "setting" "LFontRuns$Setting;") mw_X8_ofRun_0) (fun _ h9 => h9) rfl dX8_ofRun_87 ?_
      refine lv_iload_n hx hb dX8_ofRun_90 rfl (lv_at hl 3 rfl) ?_
      refine k_callP (va_runV (As := [.int (zI k)]) (rest := []) ⟨hx, hb, hml, hown, hts⟩ (c_X4_clustersOfRun l D s.heap.size (f := k) (h0 := se) (g1 := g1) (g2 := g2) (g3 := g3) (g4 := g4) (g5 := g5) (cn := cn) (bo := bo) (ru := ru) (g6 := g6) (g7 := g7) (cg5 := cg5) (f5 := f5) q0 q2 q3 q4) (cwV 1 hts gX8_ofRun_X4_clustersOfRun rfl rfl rfl (by decide +kernel) ⟨Nat.le_of_ble_eq_true rfl, Nat.le_of_ble_eq_true rfl⟩) (kPreV hP (kD0 hD) hK hN [1, 3] [1] ax_X8_ofRun_1 rfl (by decide +kernel) 1 4 rfl rfl) rfl rfl hl.1 rfl (lv_room (Nat.le_of_ble_eq_true rfl)) dX8_ofRun_91 ⟨Nat.le_of_ble_eq_true rfl, Nat.le_of_ble_eq_true rfl⟩) (fun z_8 rz_8 h_9 => ?_)
      refine lv_aload_n hx hb dX8_ofRun_94 rfl (lv_at hl 2 rfl) ?_
      refine va_get (D := D) (ci := 8) (v := .ref fr) (C := RX8) (T := TX8) (N := 15) hx hb hts (fun _ h9 => List.mem_cons_of_mem _ (List.mem_append_left _ (List.mem_append_left _ (List.mem_append_right _ h9)))) hown hK hP 0 rfl rfl 2 (by decide) (hts (.fieldLink RX8 28 "FontRuns" "fontRow" "LFontRuns$FontRow;") mw_X8_ofRun_3) (fun _ h9 => h9) rfl dX8_ofRun_95 ?_
      refine lv_iload hx hb dX8_ofRun_98 (lv_at hl 0 rfl) ?_
      refine k_callP (va_runV (As := [.int (zI z_4)]) (rest := [.int (zI z_8)]) ⟨hx, hb, hml, hown, hts⟩ (c_X0_step l D s.heap.size (f := z_4) (h0 := fr) (k1 := k1) (k2 := k2) (k3 := k3) (n := fn) (ck1 := ck1) (fk := fk) (ck2 := ck2) (fb := fb) (by omega) q5) (cwV 1 hts gX8_ofRun_X0_step rfl rfl rfl (by decide +kernel) ⟨Nat.le_of_ble_eq_true rfl, Nat.le_of_ble_eq_true rfl⟩) (kPreV hP (kD0 hD) hK hN [4, 5, 6] [2, 3] ax_X8_ofRun_2 rfl (by decide +kernel) 4 0 rfl rfl) rfl rfl hl.1 rfl (lv_room (Nat.le_of_ble_eq_true rfl)) dX8_ofRun_100 ⟨Nat.le_of_ble_eq_true rfl, Nat.le_of_ble_eq_true rfl⟩) (fun z_10 rz_10 h_11 => ?_)
      refine kz_imul hx hb dX8_ofRun_103 ?_
      refine kz_any (fun z_12 rz_12 ez_12 => ?_)
      exact W.iret (v := (zI z_12)) hx hb hr (fun t ht hW => QcP_of (by omega) trivial ht) (fun _ h9 => by cases h9) dX8_ofRun_104
    · refine kz_tabOut (tgt := 105) hx hb dX8_ofRun_40 (by omega) (by omega) (by decide) ?_
      refine lv_bipush (v := zI (-2)) hx hb dX8_ofRun_105 (by decide) ?_
      exact W.iret (v := (zI (-2))) hx hb hr (fun t ht hW => QcP_of (by omega) trivial ht) (fun _ h9 => by cases h9) dX8_ofRun_107
  · have c_1 : ¬ (0 ≤ k ∧ k ≤ (ru - 1)) := b01f c_1
    refine lv_iconst (v := zI (-1)) hx hb dX8_ofRun_17 rfl ?_
    exact W.iret (v := (zI (-1))) hx hb hr (fun t ht hW => QcP_of (by omega) trivial ht) (fun _ h9 => by cases h9) dX8_ofRun_18


theorem dX8_tally_0 : decode cX8_tally 0 = .ok (.aload_n 0, 1) := by decide +kernel
theorem dX8_tally_1 : decode cX8_tally 1 = .ok (.getfield 203, 3) := by decide +kernel
theorem dX8_tally_4 : decode cX8_tally 4 = .ok (.ireturn, 1) := by decide +kernel
set_option maxRecDepth 20000 in
theorem mw_X8_tally_0 : (.fieldLink RX8 203 "FontRuns" "everWritten" "I" : Cond) ∈ wsX8_tally := List.mem_cons_of_mem _ (List.mem_append_left _ (List.mem_of_getElem? (i := 0) rfl))
set_option maxHeartbeats 4000000 in
set_option maxRecDepth 100000 in
theorem c_X8_tally (l : Launch) (D : va_G) (sz : Nat) (h0 : Nat) (sh : Nat) (rd : Nat) (fr : Nat) (wr : Nat) (pf : Nat) (rc : Nat) (se : Nat) (rs : Nat) (sw : Nat) (sp : Nat) (ss : Nat) (ew : Int) (wc : Int64) (tr : Int) (lf : Int) : Met l yX8_tally wsX8_tally ({ frames := 0, cells := 0, slots := 0, locals := 0 }) (kPre [.ref h0] D [(h0, .inr (8, [.ref sh, .ref rd, .ref fr, .ref wr, .ref pf, .ref rc, .ref se, .ref rs, .ref sw, .ref sp, .ref ss, .int (zI ew), .long wc, .int (zI tr), .int (zI lf)]))] [] sz) (QcRead (zI ew)) 0 0 (fun _ => False) := by
  refine Met.ofW (cc := cX8_tally) (maxL := 1) (ret := (some .int)) (by decide) rfl ?_
  intro p e s m args below meth c s₁ B hml hv
  obtain ⟨rfl, hsz, hP, hK, hD0, hN⟩ := hv
  have hx := B.exec
  have hb := B.bytes
  have hr := B.returns
  have hts := atoms_spec (ws := wsX8_tally) B.pre
  have hown : s.vm.findClass RX8 = some m.cls := findClass_of_methodNamed B.named
  have hlocks := B.notSynchronized
  subst hsz
  have hD := hD0
  have hP : va_P D vwCl [(h0, .inr (8, [.ref sh, .ref rd, .ref fr, .ref wr, .ref pf, .ref rc, .ref se, .ref rs, .ref sw, .ref sp, .ref ss, .int (zI ew), .long wc, .int (zI tr), .int (zI lf)]))] s.heap := hP
  have hl := lv_entry ([.ref h0]) (n := 1) (Nat.le_of_ble_eq_true rfl)
  rw [lg_entry_eq]
  generalize (lg_sl ([.ref h0]) ++ List.replicate (1 - (lg_sl ([.ref h0])).length) Slot.unset).toArray = ls at hl ⊢
  have hl : lv_has ls 1 [(0, .ref h0)] := hl
  refine lv_aload_n hx hb dX8_tally_0 rfl (lv_at hl 0 rfl) ?_
  refine va_get (D := D) (ci := 8) (v := .int (zI ew)) (C := RX8) (T := TX8) (N := 15) hx hb hts (fun _ h9 => List.mem_cons_of_mem _ (List.mem_append_right _ h9)) hown hK hP 0 rfl rfl 11 (by decide) (hts (.fieldLink RX8 203 "FontRuns" "everWritten" "I") mw_X8_tally_0) (fun _ h9 => h9) rfl dX8_tally_1 ?_
  exact W.iret (v := (zI ew)) hx hb hr (fun t ht hW => kRd rfl ht) (fun _ h9 => by cases h9) dX8_tally_4
theorem dX8_trace_0 : decode cX8_trace 0 = .ok (.aload_n 0, 1) := by decide +kernel
theorem dX8_trace_1 : decode cX8_trace 1 = .ok (.getfield 322, 3) := by decide +kernel
theorem dX8_trace_4 : decode cX8_trace 4 = .ok (.ireturn, 1) := by decide +kernel
set_option maxRecDepth 20000 in
theorem mw_X8_trace_0 : (.fieldLink RX8 322 "FontRuns" "trail" "I" : Cond) ∈ wsX8_trace := List.mem_cons_of_mem _ (List.mem_append_left _ (List.mem_of_getElem? (i := 0) rfl))
set_option maxHeartbeats 4000000 in
set_option maxRecDepth 100000 in
theorem c_X8_trace (l : Launch) (D : va_G) (sz : Nat) (h0 : Nat) (sh : Nat) (rd : Nat) (fr : Nat) (wr : Nat) (pf : Nat) (rc : Nat) (se : Nat) (rs : Nat) (sw : Nat) (sp : Nat) (ss : Nat) (ew : Int) (wc : Int64) (tr : Int) (lf : Int) : Met l yX8_trace wsX8_trace ({ frames := 0, cells := 0, slots := 0, locals := 0 }) (kPre [.ref h0] D [(h0, .inr (8, [.ref sh, .ref rd, .ref fr, .ref wr, .ref pf, .ref rc, .ref se, .ref rs, .ref sw, .ref sp, .ref ss, .int (zI ew), .long wc, .int (zI tr), .int (zI lf)]))] [] sz) (QcRead (zI tr)) 0 0 (fun _ => False) := by
  refine Met.ofW (cc := cX8_trace) (maxL := 1) (ret := (some .int)) (by decide) rfl ?_
  intro p e s m args below meth c s₁ B hml hv
  obtain ⟨rfl, hsz, hP, hK, hD0, hN⟩ := hv
  have hx := B.exec
  have hb := B.bytes
  have hr := B.returns
  have hts := atoms_spec (ws := wsX8_trace) B.pre
  have hown : s.vm.findClass RX8 = some m.cls := findClass_of_methodNamed B.named
  have hlocks := B.notSynchronized
  subst hsz
  have hD := hD0
  have hP : va_P D vwCl [(h0, .inr (8, [.ref sh, .ref rd, .ref fr, .ref wr, .ref pf, .ref rc, .ref se, .ref rs, .ref sw, .ref sp, .ref ss, .int (zI ew), .long wc, .int (zI tr), .int (zI lf)]))] s.heap := hP
  have hl := lv_entry ([.ref h0]) (n := 1) (Nat.le_of_ble_eq_true rfl)
  rw [lg_entry_eq]
  generalize (lg_sl ([.ref h0]) ++ List.replicate (1 - (lg_sl ([.ref h0])).length) Slot.unset).toArray = ls at hl ⊢
  have hl : lv_has ls 1 [(0, .ref h0)] := hl
  refine lv_aload_n hx hb dX8_trace_0 rfl (lv_at hl 0 rfl) ?_
  refine va_get (D := D) (ci := 8) (v := .int (zI tr)) (C := RX8) (T := TX8) (N := 15) hx hb hts (fun _ h9 => List.mem_cons_of_mem _ (List.mem_append_right _ h9)) hown hK hP 0 rfl rfl 13 (by decide) (hts (.fieldLink RX8 322 "FontRuns" "trail" "I") mw_X8_trace_0) (fun _ h9 => h9) rfl dX8_trace_1 ?_
  exact W.iret (v := (zI tr)) hx hb hr (fun t ht hW => kRd rfl ht) (fun _ h9 => by cases h9) dX8_trace_4
theorem dX8_fault_0 : decode cX8_fault 0 = .ok (.aload_n 0, 1) := by decide +kernel
theorem dX8_fault_1 : decode cX8_fault 1 = .ok (.getfield 76, 3) := by decide +kernel
theorem dX8_fault_4 : decode cX8_fault 4 = .ok (.ireturn, 1) := by decide +kernel
set_option maxRecDepth 20000 in
theorem mw_X8_fault_0 : (.fieldLink RX8 76 "FontRuns" "latestFault" "I" : Cond) ∈ wsX8_fault := List.mem_cons_of_mem _ (List.mem_append_left _ (List.mem_of_getElem? (i := 0) rfl))
set_option maxHeartbeats 4000000 in
set_option maxRecDepth 100000 in
theorem c_X8_fault (l : Launch) (D : va_G) (sz : Nat) (h0 : Nat) (sh : Nat) (rd : Nat) (fr : Nat) (wr : Nat) (pf : Nat) (rc : Nat) (se : Nat) (rs : Nat) (sw : Nat) (sp : Nat) (ss : Nat) (ew : Int) (wc : Int64) (tr : Int) (lf : Int) : Met l yX8_fault wsX8_fault ({ frames := 0, cells := 0, slots := 0, locals := 0 }) (kPre [.ref h0] D [(h0, .inr (8, [.ref sh, .ref rd, .ref fr, .ref wr, .ref pf, .ref rc, .ref se, .ref rs, .ref sw, .ref sp, .ref ss, .int (zI ew), .long wc, .int (zI tr), .int (zI lf)]))] [] sz) (QcRead (zI lf)) 0 0 (fun _ => False) := by
  refine Met.ofW (cc := cX8_fault) (maxL := 1) (ret := (some .int)) (by decide) rfl ?_
  intro p e s m args below meth c s₁ B hml hv
  obtain ⟨rfl, hsz, hP, hK, hD0, hN⟩ := hv
  have hx := B.exec
  have hb := B.bytes
  have hr := B.returns
  have hts := atoms_spec (ws := wsX8_fault) B.pre
  have hown : s.vm.findClass RX8 = some m.cls := findClass_of_methodNamed B.named
  have hlocks := B.notSynchronized
  subst hsz
  have hD := hD0
  have hP : va_P D vwCl [(h0, .inr (8, [.ref sh, .ref rd, .ref fr, .ref wr, .ref pf, .ref rc, .ref se, .ref rs, .ref sw, .ref sp, .ref ss, .int (zI ew), .long wc, .int (zI tr), .int (zI lf)]))] s.heap := hP
  have hl := lv_entry ([.ref h0]) (n := 1) (Nat.le_of_ble_eq_true rfl)
  rw [lg_entry_eq]
  generalize (lg_sl ([.ref h0]) ++ List.replicate (1 - (lg_sl ([.ref h0])).length) Slot.unset).toArray = ls at hl ⊢
  have hl : lv_has ls 1 [(0, .ref h0)] := hl
  refine lv_aload_n hx hb dX8_fault_0 rfl (lv_at hl 0 rfl) ?_
  refine va_get (D := D) (ci := 8) (v := .int (zI lf)) (C := RX8) (T := TX8) (N := 15) hx hb hts (fun _ h9 => List.mem_cons_of_mem _ (List.mem_append_right _ h9)) hown hK hP 0 rfl rfl 14 (by decide) (hts (.fieldLink RX8 76 "FontRuns" "latestFault" "I") mw_X8_fault_0) (fun _ h9 => h9) rfl dX8_fault_1 ?_
  exact W.iret (v := (zI lf)) hx hb hr (fun t ht hW => kRd rfl ht) (fun _ h9 => by cases h9) dX8_fault_4
theorem dX8_check_0 : decode cX8_check 0 = .ok (.aload_n 0, 1) := by decide +kernel
theorem dX8_check_1 : decode cX8_check 1 = .ok (.getfield 206, 3) := by decide +kernel
theorem dX8_check_4 : decode cX8_check 4 = .ok (.lreturn, 1) := by decide +kernel
set_option maxRecDepth 20000 in
theorem mw_X8_check_0 : (.fieldLink RX8 206 "FontRuns" "writtenCheck" "J" : Cond) ∈ wsX8_check := List.mem_cons_of_mem _ (List.mem_append_left _ (List.mem_of_getElem? (i := 0) rfl))
set_option maxHeartbeats 4000000 in
set_option maxRecDepth 100000 in
theorem c_X8_check (l : Launch) (D : va_G) (sz : Nat) (h0 : Nat) (sh : Nat) (rd : Nat) (fr : Nat) (wr : Nat) (pf : Nat) (rc : Nat) (se : Nat) (rs : Nat) (sw : Nat) (sp : Nat) (ss : Nat) (ew : Int) (wc : Int64) (tr : Int) (lf : Int) : Met l yX8_check wsX8_check ({ frames := 0, cells := 0, slots := 0, locals := 0 }) (kPre [.ref h0] D [(h0, .inr (8, [.ref sh, .ref rd, .ref fr, .ref wr, .ref pf, .ref rc, .ref se, .ref rs, .ref sw, .ref sp, .ref ss, .int (zI ew), .long wc, .int (zI tr), .int (zI lf)]))] [] sz) (QcReadL wc) 0 0 (fun _ => False) := by
  refine Met.ofW (cc := cX8_check) (maxL := 1) (ret := (some .long)) (by decide) rfl ?_
  intro p e s m args below meth c s₁ B hml hv
  obtain ⟨rfl, hsz, hP, hK, hD0, hN⟩ := hv
  have hx := B.exec
  have hb := B.bytes
  have hr := B.returns
  have hts := atoms_spec (ws := wsX8_check) B.pre
  have hown : s.vm.findClass RX8 = some m.cls := findClass_of_methodNamed B.named
  have hlocks := B.notSynchronized
  subst hsz
  have hD := hD0
  have hP : va_P D vwCl [(h0, .inr (8, [.ref sh, .ref rd, .ref fr, .ref wr, .ref pf, .ref rc, .ref se, .ref rs, .ref sw, .ref sp, .ref ss, .int (zI ew), .long wc, .int (zI tr), .int (zI lf)]))] s.heap := hP
  have hl := lv_entry ([.ref h0]) (n := 1) (Nat.le_of_ble_eq_true rfl)
  rw [lg_entry_eq]
  generalize (lg_sl ([.ref h0]) ++ List.replicate (1 - (lg_sl ([.ref h0])).length) Slot.unset).toArray = ls at hl ⊢
  have hl : lv_has ls 1 [(0, .ref h0)] := hl
  refine lv_aload_n hx hb dX8_check_0 rfl (lv_at hl 0 rfl) ?_
  refine va_get (D := D) (ci := 8) (v := .long wc) (C := RX8) (T := TX8) (N := 15) hx hb hts (fun _ h9 => List.mem_cons_of_mem _ (List.mem_append_right _ h9)) hown hK hP 0 rfl rfl 12 (by decide) (hts (.fieldLink RX8 206 "FontRuns" "writtenCheck" "J") mw_X8_check_0) (fun _ h9 => h9) rfl dX8_check_1 ?_
  exact W.lret (v := wc) hx hb hr (fun t ht hW => kRdL rfl ht) (fun _ h9 => by cases h9) dX8_check_4
