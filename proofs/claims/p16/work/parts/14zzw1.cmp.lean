set_option maxRecDepth 20000 in
theorem mw_X4_changes_b_0 : (.fieldLink RX4 59 "FontRuns$Setting" "runs" "I" : Cond) ∈ wsX4_changes := List.mem_cons_of_mem _ (List.mem_append_left _ (List.mem_of_getElem? (i := 0) rfl))
set_option maxRecDepth 20000 in
theorem mw_X4_changes_b_1 : (.methodLink RX4 62 Lib.Math.max.name : Cond) ∈ wsX4_changes := List.mem_cons_of_mem _ (List.mem_append_left _ (List.mem_of_getElem? (i := 1) rfl))
set_option maxRecDepth 20000 in
theorem mw_X4_changes_b_2 : (.static Lib.Math.max.name : Cond) ∈ wsX4_changes := List.mem_cons_of_mem _ (List.mem_append_left _ (List.mem_of_getElem? (i := 2) rfl))
set_option maxRecDepth 20000 in
theorem mw_X4_changes_b_3 : (.initialized "java/lang/Math" : Cond) ∈ wsX4_changes := List.mem_cons_of_mem _ (List.mem_append_left _ (List.mem_of_getElem? (i := 3) rfl))
set_option maxRecDepth 20000 in
theorem mw_X4_changes_b_4 : (.code Lib.Math.max.name Lib.Math.max.code 2 (some .int) : Cond) ∈ wsX4_changes := List.mem_cons_of_mem _ (List.mem_append_left _ (List.mem_of_getElem? (i := 4) rfl))
set_option maxHeartbeats 4000000 in
set_option maxRecDepth 100000 in
theorem c_X4_changes_b (l : Launch) (D : va_G) (sz : Nat) (h0 : Nat) (g1 : Nat) (g2 : Nat) (g3 : Nat) (g4 : Nat) (g5 : Nat) (cn : Int) (bo : Int) (ru : Int) (g6 : Nat) (g7 : Nat) (q0 : 0 ≤ cn ∧ cn ≤ 24) (q1 : 0 ≤ bo ∧ bo ≤ 24) (q2 : 0 ≤ ru ∧ ru ≤ cn) : Met l yX4_changes wsX4_changes ({ frames := 1, cells := 0, slots := 0, locals := 21 }) (kPre [.ref h0] D [(h0, .inr (4, [.ref g1, .ref g2, .ref g3, .ref g4, .ref g5, .int (zI cn), .int (zI bo), .int (zI ru), .ref g6, .ref g7]))] [] sz) (QcP (fun rz => (1 ≤ ru ∧ rz = ru - 1) ∨ (ru ≤ 0 ∧ rz = 0))) 0 0 (fun _ => False) := by
  refine Met.ofW (cc := cX4_changes) (maxL := 1) (ret := (some .int)) (by decide) rfl ?_
  intro p e s m args below meth c s₁ B hml hv
  obtain ⟨rfl, hsz, hP, hK, hD0, hN⟩ := hv
  have hx := B.exec
  have hb := B.bytes
  have hr := B.returns
  have hts := atoms_spec (ws := wsX4_changes) B.pre
  have hown : s.vm.findClass RX4 = some m.cls := findClass_of_methodNamed B.named
  have hlocks := B.notSynchronized
  subst hsz
  have hD := hD0
  have hP : va_P D vwCl [(h0, .inr (4, [.ref g1, .ref g2, .ref g3, .ref g4, .ref g5, .int (zI cn), .int (zI bo), .int (zI ru), .ref g6, .ref g7]))] s.heap := hP
  have hl := lv_entry ([.ref h0]) (n := 1) (Nat.le_of_ble_eq_true rfl)
  rw [lg_entry_eq]
  generalize (lg_sl ([.ref h0]) ++ List.replicate (1 - (lg_sl ([.ref h0])).length) Slot.unset).toArray = ls at hl ⊢
  have hl : lv_has ls 1 [(0, .ref h0)] := hl
  refine lv_aload_n hx hb dX4_changes_0 rfl (lv_at hl 0 rfl) ?_
  refine va_get (D := D) (ci := 4) (v := .int (zI ru)) (C := RX4) (T := TX4) (N := 10) hx hb hts (fun _ h9 => List.mem_cons_of_mem _ (List.mem_append_right _ h9)) hown hK hP 0 rfl rfl 7 (by decide) (hts (.fieldLink RX4 59 "FontRuns$Setting" "runs" "I") mw_X4_changes_b_0) (fun _ h9 => h9) rfl dX4_changes_1 ?_
  refine lv_iconst (v := zI 1) hx hb dX4_changes_4 rfl ?_
  refine kz_isub hx hb dX4_changes_5 ?_
  refine lv_iconst (v := zI 0) hx hb dX4_changes_6 rfl ?_
  refine kz_max hx hb (by rw [hml]; exact hl.1.symm) hown (hts (.methodLink RX4 62 Lib.Math.max.name) mw_X4_changes_b_1) (hts (.static Lib.Math.max.name) mw_X4_changes_b_2) (hts (.initialized "java/lang/Math") mw_X4_changes_b_3) (hts (.code Lib.Math.max.name Lib.Math.max.code 2 (some .int)) mw_X4_changes_b_4) (Nat.le_of_ble_eq_true rfl) (Nat.le_of_ble_eq_true rfl) (Nat.le_of_ble_eq_true rfl) (Nat.le_of_ble_eq_true rfl) (by omega) (by omega) dX4_changes_7 (fun z_1 rz_1 ez_1 => ?_)
  exact W.iret (v := (zI z_1)) hx hb hr (fun t ht hW => QcP_of (by omega) (by omega) ht) (fun _ h9 => by cases h9) dX4_changes_10
set_option maxRecDepth 20000 in
theorem mw_X8_without_b_0 : (.fieldLink RX8 28 "FontRuns" "fontRow" "LFontRuns$FontRow;" : Cond) ∈ wsX8_without := List.mem_cons_of_mem _ (List.mem_append_left _ (List.mem_append_left _ (List.mem_append_left _ (List.mem_append_left _ (List.mem_append_left _ (List.mem_append_left _ (List.mem_of_getElem? (i := 0) rfl)))))))
set_option maxRecDepth 20000 in
theorem mw_X8_without_b_1 : (.fieldLink RX8 106 "FontRuns$FontRow" "count" "I" : Cond) ∈ wsX8_without := List.mem_cons_of_mem _ (List.mem_append_left _ (List.mem_append_left _ (List.mem_append_left _ (List.mem_append_left _ (List.mem_append_left _ (List.mem_append_left _ (List.mem_of_getElem? (i := 1) rfl)))))))
set_option maxRecDepth 20000 in
theorem mw_X8_without_b_2 : (.fieldLink RX8 73 "FontRuns" "supposedSetting" "LFontRuns$Setting;" : Cond) ∈ wsX8_without := List.mem_cons_of_mem _ (List.mem_append_left _ (List.mem_append_left _ (List.mem_append_left _ (List.mem_append_left _ (List.mem_append_left _ (List.mem_append_left _ (List.mem_of_getElem? (i := 2) rfl)))))))
set_option maxRecDepth 20000 in
theorem mw_X8_without_b_3 : (.fieldLink RX8 35 "FontRuns" "writing" "LFontRuns$Writing;" : Cond) ∈ wsX8_without := List.mem_cons_of_mem _ (List.mem_append_left _ (List.mem_append_left _ (List.mem_append_left _ (List.mem_append_left _ (List.mem_append_left _ (List.mem_append_left _ (List.mem_of_getElem? (i := 3) rfl)))))))
set_option maxRecDepth 20000 in
theorem mw_X8_without_b_4 : (.fieldLink RX8 42 "FontRuns" "preference" "LFontRuns$Preference;" : Cond) ∈ wsX8_without := List.mem_cons_of_mem _ (List.mem_append_left _ (List.mem_append_left _ (List.mem_append_left _ (List.mem_append_left _ (List.mem_append_left _ (List.mem_append_left _ (List.mem_of_getElem? (i := 4) rfl)))))))
theorem ax_X8_without_b_0 {e0 e1 e2 e3 e4 e5 e6 e7 e8 e9 e10 e11 e12 e13 e14 : Nat × va_E} {k : va_W} : ([11] : List Nat).map (fun i => (([e0, e1, e2, e3, e4, e5, e6, e7, e8, e9, e10, e11, e12, e13, e14] : va_W) ++ k)[i]?) = ([e11] : va_W).map some := rfl
theorem ax_X8_without_b_1 {e0 e1 e2 e3 e4 e5 e6 e7 e8 e9 e10 e11 e12 e13 e14 : Nat × va_E} : ([1, 2, 3, 4, 5, 6, 7, 8, 9, 10, 11, 12, 13, 14] : List Nat).map (fun i => ([e0, e1, e2, e3, e4, e5, e6, e7, e8, e9, e10, e11, e12, e13, e14] : va_W)[i]?) = ([e1, e2, e3, e4, e5, e6, e7, e8, e9, e10, e11, e12, e13, e14] : va_W).map some := rfl
theorem ax_X8_without_b_2 {e0 e1 e2 e3 e4 e5 e6 e7 e8 e9 e10 e11 e12 e13 e14 : Nat × va_E} : ([0] : List Nat).map (fun i => ([e0, e1, e2, e3, e4, e5, e6, e7, e8, e9, e10, e11, e12, e13, e14] : va_W)[i]?) = ([e0] : va_W).map some := rfl
theorem ax_X8_without_b_3 {D : va_G} {cl : List vw_C} {H : Heap} {e0 f0 f1 f2 f3 f4 f5 f6 f7 f8 f9 f10 f11 f12 f13 : Nat × va_E} {k : va_W} (h : va_P D cl ((([e0] : va_W) ++ ([f0, f1, f2, f3, f4, f5, f6, f7, f8, f9, f10, f11, f12, f13] : va_W)) ++ k) H) : va_P D cl (([e0, f0, f1, f2, f3, f4, f5, f6, f7, f8, f9, f10, f11, f12, f13] : va_W) ++ k) H := h
theorem ax_X8_without_b_4 {A : Nat → Prop} {e0 f0 f1 f2 f3 f4 f5 f6 f7 f8 f9 f10 f11 f12 f13 : Nat × va_E} {k : va_W} (h : va_D A ((([e0] : va_W) ++ ([f0, f1, f2, f3, f4, f5, f6, f7, f8, f9, f10, f11, f12, f13] : va_W)) ++ k)) : va_D A (([e0, f0, f1, f2, f3, f4, f5, f6, f7, f8, f9, f10, f11, f12, f13] : va_W) ++ k) := h
theorem ax_X8_without_b_5 {e0 e1 e2 e3 e4 e5 e6 e7 e8 e9 e10 e11 e12 e13 e14 : Nat × va_E} {k : va_W} : ([1] : List Nat).map (fun i => (([e0, e1, e2, e3, e4, e5, e6, e7, e8, e9, e10, e11, e12, e13, e14] : va_W) ++ k)[i]?) = ([e1] : va_W).map some := rfl
theorem ax_X8_without_b_6 {e0 e1 e2 e3 e4 e5 e6 e7 e8 e9 e10 e11 e12 e13 e14 : Nat × va_E} : ([0, 1, 2, 3, 4, 5, 6, 7, 8, 9, 10, 11, 12, 13, 14] : List Nat).map (fun i => ([e0, e1, e2, e3, e4, e5, e6, e7, e8, e9, e10, e11, e12, e13, e14] : va_W)[i]?) = ([e0, e1, e2, e3, e4, e5, e6, e7, e8, e9, e10, e11, e12, e13, e14] : va_W).map some := rfl
set_option maxHeartbeats 4000000 in
set_option maxRecDepth 100000 in
theorem c_X8_without_b (l : Launch) (D : va_G) (sz : Nat) (f : Int) (h0 : Nat) (sh : Nat) (rd : Nat) (fr : Nat) (wr : Nat) (pf : Nat) (rc : Nat) (se : Nat) (rs : Nat) (sw : Nat) (sp : Nat) (ss : Nat) (ew : Int) (wc : Int64) (tr : Int) (lf : Int) (sg1 : Nat) (sg2 : Nat) (sg3 : Nat) (sg4 : Nat) (sg5 : Nat) (scn : Int) (sbo : Int) (sru : Int) (sg6 : Nat) (sg7 : Nat) (scg1 : ClassId) (sf1 : Nat → Int32) (scg2 : ClassId) (sf2 : Nat → Int32) (scg3 : ClassId) (sf3 : Nat → Int32) (scg4 : ClassId) (sf4 : Nat → Int32) (scg5 : ClassId) (sf5 : Nat → Int32) (scg6 : ClassId) (sf6 : Nat → Int32) (scg7 : ClassId) (sfo : Nat → Option Nat) (o3 : Nat) (w1 : Nat) (wn : Int) (cw1 : ClassId) (fw : Nat → Int32) (k1 : Nat) (k2 : Nat) (k3 : Nat) (fn : Int) (ck3 : ClassId) (fh : Nat → Int32) (p1 : Nat) (pn : Int) (cp1 : ClassId) (fp : Nat → Int32) (pr : Nat → Nat) (gp : Nat → Nat → Int32) (cy : ClassId) (q0 : rg f) (q1 : 0 ≤ scn ∧ scn ≤ 24) (q2 : 0 ≤ sbo ∧ sbo ≤ 24) (q3 : 0 ≤ sru ∧ sru ≤ scn) (q4 : kOut sfo pr o3 24) (q5 : o3 + 24 ≤ 56) (q6 : 0 ≤ wn ∧ wn ≤ 24) (q7 : 0 ≤ fn ∧ fn ≤ 4) (q8 : 0 ≤ pn ∧ pn ≤ 4) (q9 : kPr fp) : Met l yX8_without wsX8_without ({ frames := 3, cells := 0, slots := 0, locals := 75 }) (kPre [.ref h0, .int (zI f)] D (([(h0, .inr (8, [.ref sh, .ref rd, .ref fr, .ref wr, .ref pf, .ref rc, .ref se, .ref rs, .ref sw, .ref sp, .ref ss, .int (zI ew), .long wc, .int (zI tr), .int (zI lf)])), (ss, .inr (4, [.ref sg1, .ref sg2, .ref sg3, .ref sg4, .ref sg5, .int (zI scn), .int (zI sbo), .int (zI sru), .ref sg6, .ref sg7])), (sg1, .inl (scg1, 24, .inl sf1)), (sg2, .inl (scg2, 24, .inl sf2)), (sg3, .inl (scg3, 24, .inl sf3)), (sg4, .inl (scg4, 24, .inl sf4)), (sg5, .inl (scg5, 24, .inl sf5)), (sg6, .inl (scg6, 24, .inl sf6)), (sg7, .inl (scg7, 24, .inr (.inr (.inr (.inr (sfo)))))), (wr, .inr (7, [.ref w1, .int (zI wn)])), (w1, .inl (cw1, 24, .inl fw)), (fr, .inr (0, [.ref k1, .ref k2, .ref k3, .int (zI fn)])), (k3, .inl (ck3, 4, .inl fh)), (pf, .inr (1, [.ref p1, .int (zI pn)])), (p1, .inl (cp1, 4, .inl fp))] : va_W) ++ kRows pr gp cy) [(scg1, .int), (scg2, .int), (scg3, .int), (scg4, .int), (scg5, .int), (scg6, .int), (scg7, .array .int), (cw1, .int), (ck3, .int), (cp1, .int), (cy, .int)] sz) (kQS (fun rz t => ∃ (u_scn : Int) (u_sbo : Int) (u_sru : Int) (u_sf1 : Nat → Int32) (u_sf2 : Nat → Int32) (u_sf3 : Nat → Int32) (u_sf4 : Nat → Int32) (u_sf5 : Nat → Int32) (u_sf6 : Nat → Int32) (u_gp : Nat → Nat → Int32), (0 ≤ u_scn ∧ u_scn ≤ 24) ∧ (0 ≤ u_sbo ∧ u_sbo ≤ 24) ∧ (0 ≤ u_sru ∧ u_sru ≤ u_scn) ∧ (kWoX f fn rz (kSE fw wn fh fn f fp pn u_scn u_sbo u_sru u_sf1 u_sf2 u_sf3 u_sf4 u_sf5) u_sru) ∧ va_P D vwCl (([(h0, .inr (8, [.ref sh, .ref rd, .ref fr, .ref wr, .ref pf, .ref rc, .ref se, .ref rs, .ref sw, .ref sp, .ref ss, .int (zI ew), .long wc, .int (zI tr), .int (zI lf)])), (ss, .inr (4, [.ref sg1, .ref sg2, .ref sg3, .ref sg4, .ref sg5, .int (zI u_scn), .int (zI u_sbo), .int (zI u_sru), .ref sg6, .ref sg7])), (sg1, .inl (scg1, 24, .inl u_sf1)), (sg2, .inl (scg2, 24, .inl u_sf2)), (sg3, .inl (scg3, 24, .inl u_sf3)), (sg4, .inl (scg4, 24, .inl u_sf4)), (sg5, .inl (scg5, 24, .inl u_sf5)), (sg6, .inl (scg6, 24, .inl u_sf6)), (sg7, .inl (scg7, 24, .inr (.inr (.inr (.inr (sfo)))))), (wr, .inr (7, [.ref w1, .int (zI wn)])), (w1, .inl (cw1, 24, .inl fw)), (fr, .inr (0, [.ref k1, .ref k2, .ref k3, .int (zI fn)])), (k3, .inl (ck3, 4, .inl fh)), (pf, .inr (1, [.ref p1, .int (zI pn)])), (p1, .inl (cp1, 4, .inl fp))] : va_W) ++ kRows pr u_gp cy) t.heap ∧ va_D (va_A (([(h0, .inr (8, [.ref sh, .ref rd, .ref fr, .ref wr, .ref pf, .ref rc, .ref se, .ref rs, .ref sw, .ref sp, .ref ss, .int (zI ew), .long wc, .int (zI tr), .int (zI lf)])), (ss, .inr (4, [.ref sg1, .ref sg2, .ref sg3, .ref sg4, .ref sg5, .int (zI scn), .int (zI sbo), .int (zI sru), .ref sg6, .ref sg7])), (sg1, .inl (scg1, 24, .inl sf1)), (sg2, .inl (scg2, 24, .inl sf2)), (sg3, .inl (scg3, 24, .inl sf3)), (sg4, .inl (scg4, 24, .inl sf4)), (sg5, .inl (scg5, 24, .inl sf5)), (sg6, .inl (scg6, 24, .inl sf6)), (sg7, .inl (scg7, 24, .inr (.inr (.inr (.inr (sfo)))))), (wr, .inr (7, [.ref w1, .int (zI wn)])), (w1, .inl (cw1, 24, .inl fw)), (fr, .inr (0, [.ref k1, .ref k2, .ref k3, .int (zI fn)])), (k3, .inl (ck3, 4, .inl fh)), (pf, .inr (1, [.ref p1, .int (zI pn)])), (p1, .inl (cp1, 4, .inl fp))] : va_W) ++ kRows pr gp cy) sz) (([(h0, .inr (8, [.ref sh, .ref rd, .ref fr, .ref wr, .ref pf, .ref rc, .ref se, .ref rs, .ref sw, .ref sp, .ref ss, .int (zI ew), .long wc, .int (zI tr), .int (zI lf)])), (ss, .inr (4, [.ref sg1, .ref sg2, .ref sg3, .ref sg4, .ref sg5, .int (zI u_scn), .int (zI u_sbo), .int (zI u_sru), .ref sg6, .ref sg7])), (sg1, .inl (scg1, 24, .inl u_sf1)), (sg2, .inl (scg2, 24, .inl u_sf2)), (sg3, .inl (scg3, 24, .inl u_sf3)), (sg4, .inl (scg4, 24, .inl u_sf4)), (sg5, .inl (scg5, 24, .inl u_sf5)), (sg6, .inl (scg6, 24, .inl u_sf6)), (sg7, .inl (scg7, 24, .inr (.inr (.inr (.inr (sfo)))))), (wr, .inr (7, [.ref w1, .int (zI wn)])), (w1, .inl (cw1, 24, .inl fw)), (fr, .inr (0, [.ref k1, .ref k2, .ref k3, .int (zI fn)])), (k3, .inl (ck3, 4, .inl fh)), (pf, .inr (1, [.ref p1, .int (zI pn)])), (p1, .inl (cp1, 4, .inl fp))] : va_W) ++ kRows pr u_gp cy)) (va_A (([(h0, .inr (8, [.ref sh, .ref rd, .ref fr, .ref wr, .ref pf, .ref rc, .ref se, .ref rs, .ref sw, .ref sp, .ref ss, .int (zI ew), .long wc, .int (zI tr), .int (zI lf)])), (ss, .inr (4, [.ref sg1, .ref sg2, .ref sg3, .ref sg4, .ref sg5, .int (zI scn), .int (zI sbo), .int (zI sru), .ref sg6, .ref sg7])), (sg1, .inl (scg1, 24, .inl sf1)), (sg2, .inl (scg2, 24, .inl sf2)), (sg3, .inl (scg3, 24, .inl sf3)), (sg4, .inl (scg4, 24, .inl sf4)), (sg5, .inl (scg5, 24, .inl sf5)), (sg6, .inl (scg6, 24, .inl sf6)), (sg7, .inl (scg7, 24, .inr (.inr (.inr (.inr (sfo)))))), (wr, .inr (7, [.ref w1, .int (zI wn)])), (w1, .inl (cw1, 24, .inl fw)), (fr, .inr (0, [.ref k1, .ref k2, .ref k3, .int (zI fn)])), (k3, .inl (ck3, 4, .inl fh)), (pf, .inr (1, [.ref p1, .int (zI pn)])), (p1, .inl (cp1, 4, .inl fp))] : va_W) ++ kRows pr gp cy) sz)) 0 0 (va_A (([(h0, .inr (8, [.ref sh, .ref rd, .ref fr, .ref wr, .ref pf, .ref rc, .ref se, .ref rs, .ref sw, .ref sp, .ref ss, .int (zI ew), .long wc, .int (zI tr), .int (zI lf)])), (ss, .inr (4, [.ref sg1, .ref sg2, .ref sg3, .ref sg4, .ref sg5, .int (zI scn), .int (zI sbo), .int (zI sru), .ref sg6, .ref sg7])), (sg1, .inl (scg1, 24, .inl sf1)), (sg2, .inl (scg2, 24, .inl sf2)), (sg3, .inl (scg3, 24, .inl sf3)), (sg4, .inl (scg4, 24, .inl sf4)), (sg5, .inl (scg5, 24, .inl sf5)), (sg6, .inl (scg6, 24, .inl sf6)), (sg7, .inl (scg7, 24, .inr (.inr (.inr (.inr (sfo)))))), (wr, .inr (7, [.ref w1, .int (zI wn)])), (w1, .inl (cw1, 24, .inl fw)), (fr, .inr (0, [.ref k1, .ref k2, .ref k3, .int (zI fn)])), (k3, .inl (ck3, 4, .inl fh)), (pf, .inr (1, [.ref p1, .int (zI pn)])), (p1, .inl (cp1, 4, .inl fp))] : va_W) ++ kRows pr gp cy) sz) := by
  refine Met.ofW (cc := cX8_without) (maxL := 2) (ret := (some .int)) (by decide) rfl ?_
  intro p e s m args below meth c s₁ B hml hv
  obtain ⟨rfl, hsz, hP, hK, hD0, hN⟩ := hv
  have hx := B.exec
  have hb := B.bytes
  have hr := B.returns
  have hts := atoms_spec (ws := wsX8_without) B.pre
  have hown : s.vm.findClass RX8 = some m.cls := findClass_of_methodNamed B.named
  have hlocks := B.notSynchronized
  subst hsz
  have hD := hD0.self (sz := s.heap.size)
  generalize hAe : va_A (([(h0, .inr (8, [.ref sh, .ref rd, .ref fr, .ref wr, .ref pf, .ref rc, .ref se, .ref rs, .ref sw, .ref sp, .ref ss, .int (zI ew), .long wc, .int (zI tr), .int (zI lf)])), (ss, .inr (4, [.ref sg1, .ref sg2, .ref sg3, .ref sg4, .ref sg5, .int (zI scn), .int (zI sbo), .int (zI sru), .ref sg6, .ref sg7])), (sg1, .inl (scg1, 24, .inl sf1)), (sg2, .inl (scg2, 24, .inl sf2)), (sg3, .inl (scg3, 24, .inl sf3)), (sg4, .inl (scg4, 24, .inl sf4)), (sg5, .inl (scg5, 24, .inl sf5)), (sg6, .inl (scg6, 24, .inl sf6)), (sg7, .inl (scg7, 24, .inr (.inr (.inr (.inr (sfo)))))), (wr, .inr (7, [.ref w1, .int (zI wn)])), (w1, .inl (cw1, 24, .inl fw)), (fr, .inr (0, [.ref k1, .ref k2, .ref k3, .int (zI fn)])), (k3, .inl (ck3, 4, .inl fh)), (pf, .inr (1, [.ref p1, .int (zI pn)])), (p1, .inl (cp1, 4, .inl fp))] : va_W) ++ kRows pr gp cy) s.heap.size = A at hD ⊢
  have hA : ∀ q : Nat, s.heap.size ≤ q → A q := fun q h => by rw [← hAe]; exact Or.inr h
  have hS : va_S A s.heap s.heap [] := va_S.rf
  have hP : va_P D vwCl (([(h0, .inr (8, [.ref sh, .ref rd, .ref fr, .ref wr, .ref pf, .ref rc, .ref se, .ref rs, .ref sw, .ref sp, .ref ss, .int (zI ew), .long wc, .int (zI tr), .int (zI lf)])), (ss, .inr (4, [.ref sg1, .ref sg2, .ref sg3, .ref sg4, .ref sg5, .int (zI scn), .int (zI sbo), .int (zI sru), .ref sg6, .ref sg7])), (sg1, .inl (scg1, 24, .inl sf1)), (sg2, .inl (scg2, 24, .inl sf2)), (sg3, .inl (scg3, 24, .inl sf3)), (sg4, .inl (scg4, 24, .inl sf4)), (sg5, .inl (scg5, 24, .inl sf5)), (sg6, .inl (scg6, 24, .inl sf6)), (sg7, .inl (scg7, 24, .inr (.inr (.inr (.inr (sfo)))))), (wr, .inr (7, [.ref w1, .int (zI wn)])), (w1, .inl (cw1, 24, .inl fw)), (fr, .inr (0, [.ref k1, .ref k2, .ref k3, .int (zI fn)])), (k3, .inl (ck3, 4, .inl fh)), (pf, .inr (1, [.ref p1, .int (zI pn)])), (p1, .inl (cp1, 4, .inl fp))] : va_W) ++ kRows pr gp cy) s.heap := hP
  have hl := lv_entry ([.ref h0, .int (zI f)]) (n := 2) (Nat.le_of_ble_eq_true rfl)
  rw [lg_entry_eq]
  generalize (lg_sl ([.ref h0, .int (zI f)]) ++ List.replicate (2 - (lg_sl ([.ref h0, .int (zI f)])).length) Slot.unset).toArray = ls at hl ⊢
  have hl : lv_has ls 2 [(0, .ref h0), (1, .int (zI f))] := hl
  refine lv_aload_n hx hb dX8_without_0 rfl (lv_at hl 0 rfl) ?_
  refine va_get (D := D) (ci := 8) (v := .ref fr) (C := RX8) (T := TX8) (N := 15) hx hb hts (fun _ h9 => List.mem_cons_of_mem _ (List.mem_append_left _ (List.mem_append_left _ (List.mem_append_left _ (List.mem_append_left _ (List.mem_append_right _ h9)))))) hown hK hP 0 rfl rfl 2 (by decide) (hts (.fieldLink RX8 28 "FontRuns" "fontRow" "LFontRuns$FontRow;") mw_X8_without_b_0) (fun _ h9 => h9) rfl dX8_without_1 ?_
  refine lv_iload_n hx hb dX8_without_4 rfl (lv_at hl 1 rfl) ?_
  refine k_callR (va_runV (As := [.int (zI f)]) (rest := []) ⟨hx, hb, hml, hown, hts⟩ (c_X0_isFont l D s.heap.size (f := f) (h0 := fr) (k1 := k1) (k2 := k2) (k3 := k3) (n := fn) q0 q7) (cwV 1 hts gX8_without_X0_isFont rfl rfl rfl (by decide +kernel) ⟨Nat.le_of_ble_eq_true rfl, Nat.le_of_ble_eq_true rfl⟩) (kPreV hP (kD0 hD) hK hN [11] [] ax_X8_without_b_0 rfl (by decide +kernel) 11 0 rfl rfl) rfl rfl hl.1 rfl (lv_room (Nat.le_of_ble_eq_true rfl)) dX8_without_5 ⟨Nat.le_of_ble_eq_true rfl, Nat.le_of_ble_eq_true rfl⟩) ?_
  refine lv_if_ne (tgt := 13) hx hb dX8_without_8 (by decide) (fun c_1 => ?_) (fun c_1 => ?_)
  · have c_1 : 0 ≤ f ∧ f ≤ fn - 1 := b01t c_1
    refine lv_aload_n hx hb dX8_without_13 rfl (lv_at hl 0 rfl) ?_
    refine va_get (D := D) (ci := 8) (v := .ref fr) (C := RX8) (T := TX8) (N := 15) hx hb hts (fun _ h9 => List.mem_cons_of_mem _ (List.mem_append_left _ (List.mem_append_left _ (List.mem_append_left _ (List.mem_append_left _ (List.mem_append_right _ h9)))))) hown hK hP 0 rfl rfl 2 (by decide) (hts (.fieldLink RX8 28 "FontRuns" "fontRow" "LFontRuns$FontRow;") mw_X8_without_b_0) (fun _ h9 => h9) rfl dX8_without_14 ?_
    refine va_get (D := D) (ci := 0) (v := .int (zI fn)) (C := RX0) (T := TX0) (N := 4) hx hb hts (fun _ h9 => List.mem_cons_of_mem _ (List.mem_append_left _ (List.mem_append_left _ (List.mem_append_left _ (List.mem_append_right _ h9))))) hown hK hP 11 rfl rfl 3 (by decide) (hts (.fieldLink RX8 106 "FontRuns$FontRow" "count" "I") mw_X8_without_b_1) (fun _ h9 => h9) rfl dX8_without_17 ?_
    refine lv_iconst (v := zI 1) hx hb dX8_without_20 rfl ?_
    refine kz_icmp_ne (tgt := 27) hx hb dX8_without_21 (by decide) (by omega) (by omega) (fun c_2 => ?_) (fun c_2 => ?_)
    · refine lv_aload_n hx hb dX8_without_27 rfl (lv_at hl 0 rfl) ?_
      refine va_get (D := D) (ci := 8) (v := .ref ss) (C := RX8) (T := TX8) (N := 15) hx hb hts (fun _ h9 => List.mem_cons_of_mem _ (List.mem_append_left _ (List.mem_append_left _ (List.mem_append_left _ (List.mem_append_left _ (List.mem_append_right _ h9)))))) hown hK hP 0 rfl rfl 10 (by decide) (hts (.fieldLink RX8 73 "FontRuns" "supposedSetting" "LFontRuns$Setting;") mw_X8_without_b_2) (fun _ h9 => h9) rfl dX8_without_28 ?_
      refine lv_aload_n hx hb dX8_without_31 rfl (lv_at hl 0 rfl) ?_
      refine va_get (D := D) (ci := 8) (v := .ref wr) (C := RX8) (T := TX8) (N := 15) hx hb hts (fun _ h9 => List.mem_cons_of_mem _ (List.mem_append_left _ (List.mem_append_left _ (List.mem_append_left _ (List.mem_append_left _ (List.mem_append_right _ h9)))))) hown hK hP 0 rfl rfl 3 (by decide) (hts (.fieldLink RX8 35 "FontRuns" "writing" "LFontRuns$Writing;") mw_X8_without_b_3) (fun _ h9 => h9) rfl dX8_without_32 ?_
      refine lv_aload_n hx hb dX8_without_35 rfl (lv_at hl 0 rfl) ?_
      refine va_get (D := D) (ci := 8) (v := .ref fr) (C := RX8) (T := TX8) (N := 15) hx hb hts (fun _ h9 => List.mem_cons_of_mem _ (List.mem_append_left _ (List.mem_append_left _ (List.mem_append_left _ (List.mem_append_left _ (List.mem_append_right _ h9)))))) hown hK hP 0 rfl rfl 2 (by decide) (hts (.fieldLink RX8 28 "FontRuns" "fontRow" "LFontRuns$FontRow;") mw_X8_without_b_0) (fun _ h9 => h9) rfl dX8_without_36 ?_
      refine lv_aload_n hx hb dX8_without_39 rfl (lv_at hl 0 rfl) ?_
      refine va_get (D := D) (ci := 8) (v := .ref pf) (C := RX8) (T := TX8) (N := 15) hx hb hts (fun _ h9 => List.mem_cons_of_mem _ (List.mem_append_left _ (List.mem_append_left _ (List.mem_append_left _ (List.mem_append_left _ (List.mem_append_right _ h9)))))) hown hK hP 0 rfl rfl 4 (by decide) (hts (.fieldLink RX8 42 "FontRuns" "preference" "LFontRuns$Preference;") mw_X8_without_b_4) (fun _ h9 => h9) rfl dX8_without_40 ?_
      refine lv_aload_n hx hb dX8_without_43 rfl (lv_at hl 0 rfl) ?_
      refine va_get (D := D) (ci := 8) (v := .ref fr) (C := RX8) (T := TX8) (N := 15) hx hb hts (fun _ h9 => List.mem_cons_of_mem _ (List.mem_append_left _ (List.mem_append_left _ (List.mem_append_left _ (List.mem_append_left _ (List.mem_append_right _ h9)))))) hown hK hP 0 rfl rfl 2 (by decide) (hts (.fieldLink RX8 28 "FontRuns" "fontRow" "LFontRuns$FontRow;") mw_X8_without_b_0) (fun _ h9 => h9) rfl dX8_without_44 ?_
      refine k_callP (va_runV (As := []) (rest := [.ref pf, .ref fr, .ref wr, .ref ss]) ⟨hx, hb, hml, hown, hts⟩ (c_X0_all_b l D s.heap.size (h0 := fr) (k1 := k1) (k2 := k2) (k3 := k3) (n := fn) q7) (cwV 0 hts gX8_without_X0_all rfl rfl rfl (by decide +kernel) ⟨Nat.le_of_ble_eq_true rfl, Nat.le_of_ble_eq_true rfl⟩) (kPreV hP (kD0 hD) hK hN [11] [] ax_X8_without_b_0 rfl (by decide +kernel) 11 0 rfl rfl) rfl rfl hl.1 rfl (lv_room (Nat.le_of_ble_eq_true rfl)) dX8_without_47 ⟨Nat.le_of_ble_eq_true rfl, Nat.le_of_ble_eq_true rfl⟩) (fun z_3 rz_3 h_4 => ?_)
      refine lv_iconst (v := zI 1) hx hb dX8_without_50 rfl ?_
      refine lv_iload_n hx hb dX8_without_51 rfl (lv_at hl 1 rfl) ?_
      refine lv_ishl hx hb dX8_without_52 ?_
      refine kz_any (fun z_5 rz_5 ez_5 => ?_)
      refine lv_iconst (v := zI (-1)) hx hb dX8_without_53 rfl ?_
      refine lv_ixor hx hb dX8_without_54 ?_
      refine kz_any (fun z_6 rz_6 ez_6 => ?_)
      refine lv_iand hx hb dX8_without_55 ?_
      refine kz_any (fun z_7 rz_7 ez_7 => ?_)
      have hFc := va_freeP (cx := [(ss, .inr (4, [.ref sg1, .ref sg2, .ref sg3, .ref sg4, .ref sg5, .int (zI scn), .int (zI sbo), .int (zI sru), .ref sg6, .ref sg7])), (sg1, .inl (scg1, 24, .inl sf1)), (sg2, .inl (scg2, 24, .inl sf2)), (sg3, .inl (scg3, 24, .inl sf3)), (sg4, .inl (scg4, 24, .inl sf4)), (sg5, .inl (scg5, 24, .inl sf5)), (sg6, .inl (scg6, 24, .inl sf6)), (sg7, .inl (scg7, 24, .inr (.inr (.inr (.inr (sfo)))))), (wr, .inr (7, [.ref w1, .int (zI wn)])), (w1, .inl (cw1, 24, .inl fw)), (fr, .inr (0, [.ref k1, .ref k2, .ref k3, .int (zI fn)])), (k3, .inl (ck3, 4, .inl fh)), (pf, .inr (1, [.ref p1, .int (zI pn)])), (p1, .inl (cp1, 4, .inl fp))]) hD hS hA [1, 2, 3, 4, 5, 6, 7, 8, 9, 10, 11, 12, 13, 14] ax_X8_without_b_1
      refine va_callv (va_runV (As := [.ref wr, .ref fr, .ref pf, .int (zI z_7)]) (rest := []) ⟨hx, hb, hml, hown, hts⟩ (c_X4_make_b l D s.heap.size (wr := wr) (fr := fr) (pf := pf) (al := z_7) (h0 := ss) (g1 := sg1) (g2 := sg2) (g3 := sg3) (g4 := sg4) (g5 := sg5) (cn := scn) (bo := sbo) (ru := sru) (g6 := sg6) (g7 := sg7) (cg1 := scg1) (f1 := sf1) (cg2 := scg2) (f2 := sf2) (cg3 := scg3) (f3 := sf3) (cg4 := scg4) (f4 := sf4) (cg5 := scg5) (f5 := sf5) (cg6 := scg6) (f6 := sf6) (cg7 := scg7) (fo := sfo) (o := o3) (w1 := w1) (wn := wn) (cw1 := cw1) (fw := fw) (k1 := k1) (k2 := k2) (k3 := k3) (n := fn) (ck3 := ck3) (fh := fh) (p1 := p1) (pn := pn) (cp1 := cp1) (fp := fp) (pr := pr) (gp := gp) (cy := cy) (by omega) q6 q7 q8 q9 q4 q5) (cwV 4 hts gX8_without_X4_make rfl rfl rfl (by decide +kernel) ⟨Nat.le_of_ble_eq_true rfl, Nat.le_of_ble_eq_true rfl⟩) (kPreVP hP (kD0 hD) hK hN [1, 2, 3, 4, 5, 6, 7, 8, 9, 10, 11, 12, 13, 14] [0, 1, 2, 3, 4, 5, 6, 7, 8, 9, 10] ax_X8_without_b_1 rfl (by decide +kernel) 1 4 rfl rfl) rfl rfl hl.1 rfl (lv_room (Nat.le_of_ble_eq_true rfl)) dX8_without_56 ⟨Nat.le_of_ble_eq_true rfl, Nat.le_of_ble_eq_true rfl⟩) hS (fun q _ h => hFc q h) hFc (fun u t H1 locs ht hvm hw hB hz1 hk1 hS => ?_)
      refine Exists.elim hB (fun uc_8 hB1 => Exists.elim hB1 (fun ub_9 hB2 => Exists.elim hB2 (fun ur_10 hB3 => Exists.elim hB3 (fun v1_11 hB4 => Exists.elim hB4 (fun v2_12 hB5 => Exists.elim hB5 (fun v3_13 hB6 => Exists.elim hB6 (fun v4_14 hB7 => Exists.elim hB7 (fun v5_15 hB8 => Exists.elim hB8 (fun v6_16 hB9 => Exists.elim hB9 (fun ug_17 hB10 => ?_))))))))))
      have h_18 := hB10.1
      have h_19 := hB10.2.1
      have h_20 := hB10.2.2.1
      have h_21 := hB10.2.2.2.1
      have h_22 := hB10.2.2.2.2.1
      have h_23 := hB10.2.2.2.2.2.1
      have h_24 := hB10.2.2.2.2.2.2.1
      have h_25 := hB10.2.2.2.2.2.2.2.1
      have h_26 := hB10.2.2.2.2.2.2.2.2.1
      have h_27 := hB10.2.2.2.2.2.2.2.2.2.1
      have hP1 := hB10.2.2.2.2.2.2.2.2.2.2.1
      have hD1 := hB10.2.2.2.2.2.2.2.2.2.2.2
      clear hB hB1 hB2 hB3 hB4 hB5 hB6 hB7 hB8 hB9 hB10
      rw [ht] at hP1
      obtain ⟨hP, hD⟩ := va_joinP (X := [(h0, .inr (8, [.ref sh, .ref rd, .ref fr, .ref wr, .ref pf, .ref rc, .ref se, .ref rs, .ref sw, .ref sp, .ref ss, .int (zI ew), .long wc, .int (zI tr), .int (zI lf)])), (ss, .inr (4, [.ref sg1, .ref sg2, .ref sg3, .ref sg4, .ref sg5, .int (zI scn), .int (zI sbo), .int (zI sru), .ref sg6, .ref sg7])), (sg1, .inl (scg1, 24, .inl sf1)), (sg2, .inl (scg2, 24, .inl sf2)), (sg3, .inl (scg3, 24, .inl sf3)), (sg4, .inl (scg4, 24, .inl sf4)), (sg5, .inl (scg5, 24, .inl sf5)), (sg6, .inl (scg6, 24, .inl sf6)), (sg7, .inl (scg7, 24, .inr (.inr (.inr (.inr (sfo)))))), (wr, .inr (7, [.ref w1, .int (zI wn)])), (w1, .inl (cw1, 24, .inl fw)), (fr, .inr (0, [.ref k1, .ref k2, .ref k3, .int (zI fn)])), (k3, .inl (ck3, 4, .inl fh)), (pf, .inr (1, [.ref p1, .int (zI pn)])), (p1, .inl (cp1, 4, .inl fp))]) (wr := [(h0, .inr (8, [.ref sh, .ref rd, .ref fr, .ref wr, .ref pf, .ref rc, .ref se, .ref rs, .ref sw, .ref sp, .ref ss, .int (zI ew), .long wc, .int (zI tr), .int (zI lf)]))]) (rx := [(ss, .inr (4, [.ref sg1, .ref sg2, .ref sg3, .ref sg4, .ref sg5, .int (zI uc_8), .int (zI ub_9), .int (zI ur_10), .ref sg6, .ref sg7])), (sg1, .inl (scg1, 24, .inl v1_11)), (sg2, .inl (scg2, 24, .inl v2_12)), (sg3, .inl (scg3, 24, .inl v3_13)), (sg4, .inl (scg4, 24, .inl v4_14)), (sg5, .inl (scg5, 24, .inl v5_15)), (sg6, .inl (scg6, 24, .inl v6_16)), (sg7, .inl (scg7, 24, .inr (.inr (.inr (.inr (sfo)))))), (wr, .inr (7, [.ref w1, .int (zI wn)])), (w1, .inl (cw1, 24, .inl fw)), (fr, .inr (0, [.ref k1, .ref k2, .ref k3, .int (zI fn)])), (k3, .inl (ck3, 4, .inl fh)), (pf, .inr (1, [.ref p1, .int (zI pn)])), (p1, .inl (cp1, 4, .inl fp))]) hP hD [1, 2, 3, 4, 5, 6, 7, 8, 9, 10, 11, 12, 13, 14] [0] ax_X8_without_b_1 ax_X8_without_b_2 (by decide +kernel) (by decide +kernel) hk1 hFc hP1 hD1
      have hP := ax_X8_without_b_3 hP
      have hD := ax_X8_without_b_4 hD
      generalize H1 = H at hP hS ⊢
      have hP : va_P D vwCl (([(h0, .inr (8, [.ref sh, .ref rd, .ref fr, .ref wr, .ref pf, .ref rc, .ref se, .ref rs, .ref sw, .ref sp, .ref ss, .int (zI ew), .long wc, .int (zI tr), .int (zI lf)])), (ss, .inr (4, [.ref sg1, .ref sg2, .ref sg3, .ref sg4, .ref sg5, .int (zI uc_8), .int (zI ub_9), .int (zI ur_10), .ref sg6, .ref sg7])), (sg1, .inl (scg1, 24, .inl v1_11)), (sg2, .inl (scg2, 24, .inl v2_12)), (sg3, .inl (scg3, 24, .inl v3_13)), (sg4, .inl (scg4, 24, .inl v4_14)), (sg5, .inl (scg5, 24, .inl v5_15)), (sg6, .inl (scg6, 24, .inl v6_16)), (sg7, .inl (scg7, 24, .inr (.inr (.inr (.inr (sfo)))))), (wr, .inr (7, [.ref w1, .int (zI wn)])), (w1, .inl (cw1, 24, .inl fw)), (fr, .inr (0, [.ref k1, .ref k2, .ref k3, .int (zI fn)])), (k3, .inl (ck3, 4, .inl fh)), (pf, .inr (1, [.ref p1, .int (zI pn)])), (p1, .inl (cp1, 4, .inl fp))] : va_W) ++ kRows pr ug_17 cy) H := hP
      have hD : va_D A (([(h0, .inr (8, [.ref sh, .ref rd, .ref fr, .ref wr, .ref pf, .ref rc, .ref se, .ref rs, .ref sw, .ref sp, .ref ss, .int (zI ew), .long wc, .int (zI tr), .int (zI lf)])), (ss, .inr (4, [.ref sg1, .ref sg2, .ref sg3, .ref sg4, .ref sg5, .int (zI uc_8), .int (zI ub_9), .int (zI ur_10), .ref sg6, .ref sg7])), (sg1, .inl (scg1, 24, .inl v1_11)), (sg2, .inl (scg2, 24, .inl v2_12)), (sg3, .inl (scg3, 24, .inl v3_13)), (sg4, .inl (scg4, 24, .inl v4_14)), (sg5, .inl (scg5, 24, .inl v5_15)), (sg6, .inl (scg6, 24, .inl v6_16)), (sg7, .inl (scg7, 24, .inr (.inr (.inr (.inr (sfo)))))), (wr, .inr (7, [.ref w1, .int (zI wn)])), (w1, .inl (cw1, 24, .inl fw)), (fr, .inr (0, [.ref k1, .ref k2, .ref k3, .int (zI fn)])), (k3, .inl (ck3, 4, .inl fh)), (pf, .inr (1, [.ref p1, .int (zI pn)])), (p1, .inl (cp1, 4, .inl fp))] : va_W) ++ kRows pr ug_17 cy) := hD
      refine lv_aload_n hx hb dX8_without_59 rfl (lv_at hl 0 rfl) ?_
      refine va_get (D := D) (ci := 8) (v := .ref ss) (C := RX8) (T := TX8) (N := 15) hx hb hts (fun _ h9 => List.mem_cons_of_mem _ (List.mem_append_left _ (List.mem_append_left _ (List.mem_append_left _ (List.mem_append_left _ (List.mem_append_right _ h9)))))) hown hK hP 0 rfl rfl 10 (by decide) (hts (.fieldLink RX8 73 "FontRuns" "supposedSetting" "LFontRuns$Setting;") mw_X8_without_b_2) (fun _ h9 => h9) rfl dX8_without_60 ?_
      refine k_callP (va_runV (As := []) (rest := []) ⟨hx, hb, hml, hown, hts⟩ (c_X4_changes_b l D H.size (h0 := ss) (g1 := sg1) (g2 := sg2) (g3 := sg3) (g4 := sg4) (g5 := sg5) (cn := uc_8) (bo := ub_9) (ru := ur_10) (g6 := sg6) (g7 := sg7) h_18 h_19 h_20) (cwV 0 hts gX8_without_X4_changes rfl rfl rfl (by decide +kernel) ⟨Nat.le_of_ble_eq_true rfl, Nat.le_of_ble_eq_true rfl⟩) (kPreV hP (kD0 hD) hK hN [1] [] ax_X8_without_b_5 rfl (by decide +kernel) 1 4 rfl rfl) rfl rfl hl.1 rfl (lv_room (Nat.le_of_ble_eq_true rfl)) dX8_without_63 ⟨Nat.le_of_ble_eq_true rfl, Nat.le_of_ble_eq_true rfl⟩) (fun z_28 rz_28 h_29 => ?_)
      have hP9 : va_P D vwCl (([(h0, .inr (8, [.ref sh, .ref rd, .ref fr, .ref wr, .ref pf, .ref rc, .ref se, .ref rs, .ref sw, .ref sp, .ref ss, .int (zI ew), .long wc, .int (zI tr), .int (zI lf)])), (ss, .inr (4, [.ref sg1, .ref sg2, .ref sg3, .ref sg4, .ref sg5, .int (zI uc_8), .int (zI ub_9), .int (zI ur_10), .ref sg6, .ref sg7])), (sg1, .inl (scg1, 24, .inl v1_11)), (sg2, .inl (scg2, 24, .inl v2_12)), (sg3, .inl (scg3, 24, .inl v3_13)), (sg4, .inl (scg4, 24, .inl v4_14)), (sg5, .inl (scg5, 24, .inl v5_15)), (sg6, .inl (scg6, 24, .inl v6_16)), (sg7, .inl (scg7, 24, .inr (.inr (.inr (.inr (sfo)))))), (wr, .inr (7, [.ref w1, .int (zI wn)])), (w1, .inl (cw1, 24, .inl fw)), (fr, .inr (0, [.ref k1, .ref k2, .ref k3, .int (zI fn)])), (k3, .inl (ck3, 4, .inl fh)), (pf, .inr (1, [.ref p1, .int (zI pn)])), (p1, .inl (cp1, 4, .inl fp))] : va_W) ++ kRows pr ug_17 cy) H := hP.part [0, 1, 2, 3, 4, 5, 6, 7, 8, 9, 10, 11, 12, 13, 14] ax_X8_without_b_6
      have hD9 : va_D A (([(h0, .inr (8, [.ref sh, .ref rd, .ref fr, .ref wr, .ref pf, .ref rc, .ref se, .ref rs, .ref sw, .ref sp, .ref ss, .int (zI ew), .long wc, .int (zI tr), .int (zI lf)])), (ss, .inr (4, [.ref sg1, .ref sg2, .ref sg3, .ref sg4, .ref sg5, .int (zI uc_8), .int (zI ub_9), .int (zI ur_10), .ref sg6, .ref sg7])), (sg1, .inl (scg1, 24, .inl v1_11)), (sg2, .inl (scg2, 24, .inl v2_12)), (sg3, .inl (scg3, 24, .inl v3_13)), (sg4, .inl (scg4, 24, .inl v4_14)), (sg5, .inl (scg5, 24, .inl v5_15)), (sg6, .inl (scg6, 24, .inl v6_16)), (sg7, .inl (scg7, 24, .inr (.inr (.inr (.inr (sfo)))))), (wr, .inr (7, [.ref w1, .int (zI wn)])), (w1, .inl (cw1, 24, .inl fw)), (fr, .inr (0, [.ref k1, .ref k2, .ref k3, .int (zI fn)])), (k3, .inl (ck3, 4, .inl fh)), (pf, .inr (1, [.ref p1, .int (zI pn)])), (p1, .inl (cp1, 4, .inl fp))] : va_W) ++ kRows pr ug_17 cy) := hD.part [0, 1, 2, 3, 4, 5, 6, 7, 8, 9, 10, 11, 12, 13, 14] (by decide +kernel) ax_X8_without_b_6
      exact W.iret (v := (zI z_28)) hx hb hr (fun t ht hW => kQS_of (by omega) ⟨uc_8, ub_9, ur_10, v1_11, v2_12, v3_13, v4_14, v5_15, v6_16, ug_17, h_18, h_19, h_20, (Or.inr (Or.inr ⟨by omega, by omega, ⟨v6_16, ug_17, o3, z_7, (kAww h_4 (by omega) ez_5 ez_6 ez_7), h_21, h_22, h_23, h_24, h_25, h_26, h_27⟩, h_29⟩)), by rw [ht]; exact hP9, hD9⟩ (hS.F ht)) hS.2.2 dX8_without_66
    · refine lv_bipush (v := zI (-9)) hx hb dX8_without_24 (by decide) ?_
      have hP9 : va_P D vwCl (([(h0, .inr (8, [.ref sh, .ref rd, .ref fr, .ref wr, .ref pf, .ref rc, .ref se, .ref rs, .ref sw, .ref sp, .ref ss, .int (zI ew), .long wc, .int (zI tr), .int (zI lf)])), (ss, .inr (4, [.ref sg1, .ref sg2, .ref sg3, .ref sg4, .ref sg5, .int (zI scn), .int (zI sbo), .int (zI sru), .ref sg6, .ref sg7])), (sg1, .inl (scg1, 24, .inl sf1)), (sg2, .inl (scg2, 24, .inl sf2)), (sg3, .inl (scg3, 24, .inl sf3)), (sg4, .inl (scg4, 24, .inl sf4)), (sg5, .inl (scg5, 24, .inl sf5)), (sg6, .inl (scg6, 24, .inl sf6)), (sg7, .inl (scg7, 24, .inr (.inr (.inr (.inr (sfo)))))), (wr, .inr (7, [.ref w1, .int (zI wn)])), (w1, .inl (cw1, 24, .inl fw)), (fr, .inr (0, [.ref k1, .ref k2, .ref k3, .int (zI fn)])), (k3, .inl (ck3, 4, .inl fh)), (pf, .inr (1, [.ref p1, .int (zI pn)])), (p1, .inl (cp1, 4, .inl fp))] : va_W) ++ kRows pr gp cy) s.heap := hP.part [0, 1, 2, 3, 4, 5, 6, 7, 8, 9, 10, 11, 12, 13, 14] ax_X8_without_b_6
      have hD9 : va_D A (([(h0, .inr (8, [.ref sh, .ref rd, .ref fr, .ref wr, .ref pf, .ref rc, .ref se, .ref rs, .ref sw, .ref sp, .ref ss, .int (zI ew), .long wc, .int (zI tr), .int (zI lf)])), (ss, .inr (4, [.ref sg1, .ref sg2, .ref sg3, .ref sg4, .ref sg5, .int (zI scn), .int (zI sbo), .int (zI sru), .ref sg6, .ref sg7])), (sg1, .inl (scg1, 24, .inl sf1)), (sg2, .inl (scg2, 24, .inl sf2)), (sg3, .inl (scg3, 24, .inl sf3)), (sg4, .inl (scg4, 24, .inl sf4)), (sg5, .inl (scg5, 24, .inl sf5)), (sg6, .inl (scg6, 24, .inl sf6)), (sg7, .inl (scg7, 24, .inr (.inr (.inr (.inr (sfo)))))), (wr, .inr (7, [.ref w1, .int (zI wn)])), (w1, .inl (cw1, 24, .inl fw)), (fr, .inr (0, [.ref k1, .ref k2, .ref k3, .int (zI fn)])), (k3, .inl (ck3, 4, .inl fh)), (pf, .inr (1, [.ref p1, .int (zI pn)])), (p1, .inl (cp1, 4, .inl fp))] : va_W) ++ kRows pr gp cy) := hD.part [0, 1, 2, 3, 4, 5, 6, 7, 8, 9, 10, 11, 12, 13, 14] (by decide +kernel) ax_X8_without_b_6
      exact W.iret (v := (zI (-9))) hx hb hr (fun t ht hW => kQS_of (by omega) ⟨scn, sbo, sru, sf1, sf2, sf3, sf4, sf5, sf6, gp, q1, q2, q3, (Or.inr (Or.inl ⟨by omega, by omega, by omega⟩)), by rw [ht]; exact hP9, hD9⟩ (hS.F ht)) hS.2.2 dX8_without_26
  · have c_1 : ¬ (0 ≤ f ∧ f ≤ fn - 1) := b01f c_1
    refine lv_iconst (v := zI (-1)) hx hb dX8_without_11 rfl ?_
    have hP9 : va_P D vwCl (([(h0, .inr (8, [.ref sh, .ref rd, .ref fr, .ref wr, .ref pf, .ref rc, .ref se, .ref rs, .ref sw, .ref sp, .ref ss, .int (zI ew), .long wc, .int (zI tr), .int (zI lf)])), (ss, .inr (4, [.ref sg1, .ref sg2, .ref sg3, .ref sg4, .ref sg5, .int (zI scn), .int (zI sbo), .int (zI sru), .ref sg6, .ref sg7])), (sg1, .inl (scg1, 24, .inl sf1)), (sg2, .inl (scg2, 24, .inl sf2)), (sg3, .inl (scg3, 24, .inl sf3)), (sg4, .inl (scg4, 24, .inl sf4)), (sg5, .inl (scg5, 24, .inl sf5)), (sg6, .inl (scg6, 24, .inl sf6)), (sg7, .inl (scg7, 24, .inr (.inr (.inr (.inr (sfo)))))), (wr, .inr (7, [.ref w1, .int (zI wn)])), (w1, .inl (cw1, 24, .inl fw)), (fr, .inr (0, [.ref k1, .ref k2, .ref k3, .int (zI fn)])), (k3, .inl (ck3, 4, .inl fh)), (pf, .inr (1, [.ref p1, .int (zI pn)])), (p1, .inl (cp1, 4, .inl fp))] : va_W) ++ kRows pr gp cy) s.heap := hP.part [0, 1, 2, 3, 4, 5, 6, 7, 8, 9, 10, 11, 12, 13, 14] ax_X8_without_b_6
    have hD9 : va_D A (([(h0, .inr (8, [.ref sh, .ref rd, .ref fr, .ref wr, .ref pf, .ref rc, .ref se, .ref rs, .ref sw, .ref sp, .ref ss, .int (zI ew), .long wc, .int (zI tr), .int (zI lf)])), (ss, .inr (4, [.ref sg1, .ref sg2, .ref sg3, .ref sg4, .ref sg5, .int (zI scn), .int (zI sbo), .int (zI sru), .ref sg6, .ref sg7])), (sg1, .inl (scg1, 24, .inl sf1)), (sg2, .inl (scg2, 24, .inl sf2)), (sg3, .inl (scg3, 24, .inl sf3)), (sg4, .inl (scg4, 24, .inl sf4)), (sg5, .inl (scg5, 24, .inl sf5)), (sg6, .inl (scg6, 24, .inl sf6)), (sg7, .inl (scg7, 24, .inr (.inr (.inr (.inr (sfo)))))), (wr, .inr (7, [.ref w1, .int (zI wn)])), (w1, .inl (cw1, 24, .inl fw)), (fr, .inr (0, [.ref k1, .ref k2, .ref k3, .int (zI fn)])), (k3, .inl (ck3, 4, .inl fh)), (pf, .inr (1, [.ref p1, .int (zI pn)])), (p1, .inl (cp1, 4, .inl fp))] : va_W) ++ kRows pr gp cy) := hD.part [0, 1, 2, 3, 4, 5, 6, 7, 8, 9, 10, 11, 12, 13, 14] (by decide +kernel) ax_X8_without_b_6
    exact W.iret (v := (zI (-1))) hx hb hr (fun t ht hW => kQS_of (by omega) ⟨scn, sbo, sru, sf1, sf2, sf3, sf4, sf5, sf6, gp, q1, q2, q3, (Or.inl ⟨by omega, by omega⟩), by rw [ht]; exact hP9, hD9⟩ (hS.F ht)) hS.2.2 dX8_without_12
set_option maxRecDepth 20000 in
theorem mw_X9_without_b_0 : (.fieldLink RX9 74 "FontRunsModel" "fonts" "I" : Cond) ∈ wsX9_without := List.mem_cons_of_mem _ (List.mem_append_left _ (List.mem_append_left _ (List.mem_of_getElem? (i := 0) rfl)))
theorem ax_X9_without_b_0 {e0 e1 e2 e3 e4 e5 : Nat × va_E} : ([0] : List Nat).map (fun i => ([e0, e1, e2, e3, e4, e5] : va_W)[i]?) = ([e0] : va_W).map some := rfl
theorem ax_X9_without_b_1 {e0 e1 e2 e3 e4 e5 : Nat × va_E} : ([0, 1, 2, 3, 4, 5] : List Nat).map (fun i => ([e0, e1, e2, e3, e4, e5] : va_W)[i]?) = ([e0, e1, e2, e3, e4, e5] : va_W).map some := rfl
theorem ax_X9_without_b_2 {e0 e1 e2 e3 e4 e5 : Nat × va_E} : ([] : List Nat).map (fun i => ([e0, e1, e2, e3, e4, e5] : va_W)[i]?) = ([] : va_W).map some := rfl
theorem ax_X9_without_b_3 {D : va_G} {cl : List vw_C} {H : Heap} {f0 f1 f2 f3 f4 f5 : Nat × va_E} (h : va_P D cl ((([] : va_W) ++ ([f0, f1, f2, f3, f4, f5] : va_W))) H) : va_P D cl (([f0, f1, f2, f3, f4, f5] : va_W)) H := h
theorem ax_X9_without_b_4 {A : Nat → Prop} {f0 f1 f2 f3 f4 f5 : Nat × va_E} (h : va_D A ((([] : va_W) ++ ([f0, f1, f2, f3, f4, f5] : va_W)))) : va_D A (([f0, f1, f2, f3, f4, f5] : va_W)) := h
set_option maxHeartbeats 4000000 in
set_option maxRecDepth 100000 in
theorem c_X9_without_b (l : Launch) (D : va_G) (sz : Nat) (f : Int) (h0 : Nat) (fa : Int) (tc : Int) (so : Nat) (sl : Nat) (ce : Nat) (fn : Int) (kd : Nat) (wd : Nat) (hs : Nat) (pf : Nat) (lt : Nat) (mn : Int) (wg : Nat) (ta : Int) (ck : Int64) (at9 : Int) (rfn : Int) (rk : Nat) (rw : Nat) (rh : Nat) (cl : Int) (sa : Nat) (fi : Nat) (bo : Int) (ch : Nat) (cn : Nat) (ad : Int) (ru : Int) (kp : Nat) (dn : Int) (rfa : Nat) (c_wg : ClassId) (f_wg : Nat → Int32) (c_sa : ClassId) (f_sa : Nat → Int32) (c_fi : ClassId) (f_fi : Nat → Int32) (c_hs : ClassId) (f_hs : Nat → Int32) (c_ch : ClassId) (f_ch : Nat → Int32) (q0 : rg f) (q1 : 0 ≤ mn ∧ mn ≤ 24) (q2 : 0 ≤ fn ∧ fn ≤ 4) (q3 : 0 ≤ cl ∧ cl ≤ 24) (q4 : 0 ≤ bo ∧ bo ≤ 24) : Met l yX9_without wsX9_without ({ frames := 4, cells := 0, slots := 0, locals := 93 }) (kPre [.ref h0, .int (zI f)] D [(h0, .inr (9, [.int (zI fa), .int (zI tc), .ref so, .ref sl, .ref ce, .int (zI fn), .ref kd, .ref wd, .ref hs, .ref pf, .ref lt, .int (zI mn), .ref wg, .int (zI ta), .long ck, .int (zI at9), .int (zI rfn), .ref rk, .ref rw, .ref rh, .int (zI cl), .ref sa, .ref fi, .int (zI bo), .ref ch, .ref cn, .int (zI ad), .int (zI ru), .ref kp, .int (zI dn), .ref rfa])), (wg, .inl (c_wg, 24, .inl f_wg)), (sa, .inl (c_sa, 25, .inl f_sa)), (fi, .inl (c_fi, 24, .inl f_fi)), (hs, .inl (c_hs, 4, .inl f_hs)), (ch, .inl (c_ch, 96, .inl f_ch))] [(c_wg, .int), (c_sa, .int), (c_fi, .int), (c_hs, .int), (c_ch, .int)] sz) (kQS (fun rz t => ∃ (u_cl : Int) (u_bo : Int) (u_f_sa : Nat → Int32) (u_f_fi : Nat → Int32) (u_f_ch : Nat → Int32), (0 ≤ u_cl ∧ u_cl ≤ 24) ∧ (0 ≤ u_bo ∧ u_bo ≤ 24) ∧ (kWoM f fn rz (kCM f_wg mn f_hs fn f u_cl u_bo u_f_sa u_f_fi u_f_ch)) ∧ va_P D vwCl [(h0, .inr (9, [.int (zI fa), .int (zI tc), .ref so, .ref sl, .ref ce, .int (zI fn), .ref kd, .ref wd, .ref hs, .ref pf, .ref lt, .int (zI mn), .ref wg, .int (zI ta), .long ck, .int (zI at9), .int (zI rfn), .ref rk, .ref rw, .ref rh, .int (zI u_cl), .ref sa, .ref fi, .int (zI u_bo), .ref ch, .ref cn, .int (zI ad), .int (zI ru), .ref kp, .int (zI dn), .ref rfa])), (wg, .inl (c_wg, 24, .inl f_wg)), (sa, .inl (c_sa, 25, .inl u_f_sa)), (fi, .inl (c_fi, 24, .inl u_f_fi)), (hs, .inl (c_hs, 4, .inl f_hs)), (ch, .inl (c_ch, 96, .inl u_f_ch))] t.heap ∧ va_D (va_A [(h0, .inr (9, [.int (zI fa), .int (zI tc), .ref so, .ref sl, .ref ce, .int (zI fn), .ref kd, .ref wd, .ref hs, .ref pf, .ref lt, .int (zI mn), .ref wg, .int (zI ta), .long ck, .int (zI at9), .int (zI rfn), .ref rk, .ref rw, .ref rh, .int (zI cl), .ref sa, .ref fi, .int (zI bo), .ref ch, .ref cn, .int (zI ad), .int (zI ru), .ref kp, .int (zI dn), .ref rfa])), (wg, .inl (c_wg, 24, .inl f_wg)), (sa, .inl (c_sa, 25, .inl f_sa)), (fi, .inl (c_fi, 24, .inl f_fi)), (hs, .inl (c_hs, 4, .inl f_hs)), (ch, .inl (c_ch, 96, .inl f_ch))] sz) [(h0, .inr (9, [.int (zI fa), .int (zI tc), .ref so, .ref sl, .ref ce, .int (zI fn), .ref kd, .ref wd, .ref hs, .ref pf, .ref lt, .int (zI mn), .ref wg, .int (zI ta), .long ck, .int (zI at9), .int (zI rfn), .ref rk, .ref rw, .ref rh, .int (zI u_cl), .ref sa, .ref fi, .int (zI u_bo), .ref ch, .ref cn, .int (zI ad), .int (zI ru), .ref kp, .int (zI dn), .ref rfa])), (wg, .inl (c_wg, 24, .inl f_wg)), (sa, .inl (c_sa, 25, .inl u_f_sa)), (fi, .inl (c_fi, 24, .inl u_f_fi)), (hs, .inl (c_hs, 4, .inl f_hs)), (ch, .inl (c_ch, 96, .inl u_f_ch))]) (va_A [(h0, .inr (9, [.int (zI fa), .int (zI tc), .ref so, .ref sl, .ref ce, .int (zI fn), .ref kd, .ref wd, .ref hs, .ref pf, .ref lt, .int (zI mn), .ref wg, .int (zI ta), .long ck, .int (zI at9), .int (zI rfn), .ref rk, .ref rw, .ref rh, .int (zI cl), .ref sa, .ref fi, .int (zI bo), .ref ch, .ref cn, .int (zI ad), .int (zI ru), .ref kp, .int (zI dn), .ref rfa])), (wg, .inl (c_wg, 24, .inl f_wg)), (sa, .inl (c_sa, 25, .inl f_sa)), (fi, .inl (c_fi, 24, .inl f_fi)), (hs, .inl (c_hs, 4, .inl f_hs)), (ch, .inl (c_ch, 96, .inl f_ch))] sz)) 0 0 (va_A [(h0, .inr (9, [.int (zI fa), .int (zI tc), .ref so, .ref sl, .ref ce, .int (zI fn), .ref kd, .ref wd, .ref hs, .ref pf, .ref lt, .int (zI mn), .ref wg, .int (zI ta), .long ck, .int (zI at9), .int (zI rfn), .ref rk, .ref rw, .ref rh, .int (zI cl), .ref sa, .ref fi, .int (zI bo), .ref ch, .ref cn, .int (zI ad), .int (zI ru), .ref kp, .int (zI dn), .ref rfa])), (wg, .inl (c_wg, 24, .inl f_wg)), (sa, .inl (c_sa, 25, .inl f_sa)), (fi, .inl (c_fi, 24, .inl f_fi)), (hs, .inl (c_hs, 4, .inl f_hs)), (ch, .inl (c_ch, 96, .inl f_ch))] sz) := by
  refine Met.ofW (cc := cX9_without) (maxL := 2) (ret := (some .int)) (by decide) rfl ?_
  intro p e s m args below meth c s₁ B hml hv
  obtain ⟨rfl, hsz, hP, hK, hD0, hN⟩ := hv
  have hx := B.exec
  have hb := B.bytes
  have hr := B.returns
  have hts := atoms_spec (ws := wsX9_without) B.pre
  have hown : s.vm.findClass RX9 = some m.cls := findClass_of_methodNamed B.named
  have hlocks := B.notSynchronized
  subst hsz
  have hD := hD0.self (sz := s.heap.size)
  generalize hAe : va_A [(h0, .inr (9, [.int (zI fa), .int (zI tc), .ref so, .ref sl, .ref ce, .int (zI fn), .ref kd, .ref wd, .ref hs, .ref pf, .ref lt, .int (zI mn), .ref wg, .int (zI ta), .long ck, .int (zI at9), .int (zI rfn), .ref rk, .ref rw, .ref rh, .int (zI cl), .ref sa, .ref fi, .int (zI bo), .ref ch, .ref cn, .int (zI ad), .int (zI ru), .ref kp, .int (zI dn), .ref rfa])), (wg, .inl (c_wg, 24, .inl f_wg)), (sa, .inl (c_sa, 25, .inl f_sa)), (fi, .inl (c_fi, 24, .inl f_fi)), (hs, .inl (c_hs, 4, .inl f_hs)), (ch, .inl (c_ch, 96, .inl f_ch))] s.heap.size = A at hD ⊢
  have hA : ∀ q : Nat, s.heap.size ≤ q → A q := fun q h => by rw [← hAe]; exact Or.inr h
  have hS : va_S A s.heap s.heap [] := va_S.rf
  have hP : va_P D vwCl [(h0, .inr (9, [.int (zI fa), .int (zI tc), .ref so, .ref sl, .ref ce, .int (zI fn), .ref kd, .ref wd, .ref hs, .ref pf, .ref lt, .int (zI mn), .ref wg, .int (zI ta), .long ck, .int (zI at9), .int (zI rfn), .ref rk, .ref rw, .ref rh, .int (zI cl), .ref sa, .ref fi, .int (zI bo), .ref ch, .ref cn, .int (zI ad), .int (zI ru), .ref kp, .int (zI dn), .ref rfa])), (wg, .inl (c_wg, 24, .inl f_wg)), (sa, .inl (c_sa, 25, .inl f_sa)), (fi, .inl (c_fi, 24, .inl f_fi)), (hs, .inl (c_hs, 4, .inl f_hs)), (ch, .inl (c_ch, 96, .inl f_ch))] s.heap := hP
  have hl := lv_entry ([.ref h0, .int (zI f)]) (n := 2) (Nat.le_of_ble_eq_true rfl)
  rw [lg_entry_eq]
  generalize (lg_sl ([.ref h0, .int (zI f)]) ++ List.replicate (2 - (lg_sl ([.ref h0, .int (zI f)])).length) Slot.unset).toArray = ls at hl ⊢
  have hl : lv_has ls 2 [(0, .ref h0), (1, .int (zI f))] := hl
  refine lv_aload_n hx hb dX9_without_0 rfl (lv_at hl 0 rfl) ?_
  refine lv_iload_n hx hb dX9_without_1 rfl (lv_at hl 1 rfl) ?_
  refine k_callR (va_runV (As := [.int (zI f)]) (rest := []) ⟨hx, hb, hml, hown, hts⟩ (c_X9_isFont l D s.heap.size (f := f) (h0 := h0) (fa := fa) (tc := tc) (so := so) (sl := sl) (ce := ce) (fn := fn) (kd := kd) (wd := wd) (hs := hs) (pf := pf) (lt := lt) (mn := mn) (wg := wg) (ta := ta) (ck := ck) (at9 := at9) (rfn := rfn) (rk := rk) (rw := rw) (rh := rh) (cl := cl) (sa := sa) (fi := fi) (bo := bo) (ch := ch) (cn := cn) (ad := ad) (ru := ru) (kp := kp) (dn := dn) (rfa := rfa) q0 q2) (cwV 1 hts gX9_without_X9_isFont rfl rfl rfl (by decide +kernel) ⟨Nat.le_of_ble_eq_true rfl, Nat.le_of_ble_eq_true rfl⟩) (kPreV hP (kD0 hD) hK hN [0] [] ax_X9_without_b_0 rfl (by decide +kernel) 0 9 rfl rfl) rfl rfl hl.1 rfl (lv_room (Nat.le_of_ble_eq_true rfl)) dX9_without_2 ⟨Nat.le_of_ble_eq_true rfl, Nat.le_of_ble_eq_true rfl⟩) ?_
  refine lv_if_ne (tgt := 10) hx hb dX9_without_5 (by decide) (fun c_1 => ?_) (fun c_1 => ?_)
  · have c_1 : 0 ≤ f ∧ f < fn := b01t c_1
    refine lv_aload_n hx hb dX9_without_10 rfl (lv_at hl 0 rfl) ?_
    refine va_get (D := D) (ci := 9) (v := .int (zI fn)) (C := RX9) (T := TX9) (N := 31) hx hb hts (fun _ h9 => List.mem_cons_of_mem _ (List.mem_append_right _ h9)) hown hK hP 0 rfl rfl 5 (by decide) (hts (.fieldLink RX9 74 "FontRunsModel" "fonts" "I") mw_X9_without_b_0) (fun _ h9 => h9) rfl dX9_without_11 ?_
    refine lv_iconst (v := zI 1) hx hb dX9_without_14 rfl ?_
    refine kz_icmp_ne (tgt := 23) hx hb dX9_without_15 (by decide) (by omega) (by omega) (fun c_2 => ?_) (fun c_2 => ?_)
    · refine lv_aload_n hx hb dX9_without_23 rfl (lv_at hl 0 rfl) ?_
      refine lv_iload_n hx hb dX9_without_24 rfl (lv_at hl 1 rfl) ?_
      have hFc := va_free (wc := [(h0, .inr (9, [.int (zI fa), .int (zI tc), .ref so, .ref sl, .ref ce, .int (zI fn), .ref kd, .ref wd, .ref hs, .ref pf, .ref lt, .int (zI mn), .ref wg, .int (zI ta), .long ck, .int (zI at9), .int (zI rfn), .ref rk, .ref rw, .ref rh, .int (zI cl), .ref sa, .ref fi, .int (zI bo), .ref ch, .ref cn, .int (zI ad), .int (zI ru), .ref kp, .int (zI dn), .ref rfa])), (wg, .inl (c_wg, 24, .inl f_wg)), (sa, .inl (c_sa, 25, .inl f_sa)), (fi, .inl (c_fi, 24, .inl f_fi)), (hs, .inl (c_hs, 4, .inl f_hs)), (ch, .inl (c_ch, 96, .inl f_ch))]) hD hS hA [0, 1, 2, 3, 4, 5] ax_X9_without_b_1
      refine va_calli (va_runV (As := [.int (zI f)]) (rest := []) ⟨hx, hb, hml, hown, hts⟩ (c_X9_findChanges_b l D s.heap.size (wo := f) (h0 := h0) (fa := fa) (tc := tc) (so := so) (sl := sl) (ce := ce) (fn := fn) (kd := kd) (wd := wd) (hs := hs) (pf := pf) (lt := lt) (mn := mn) (wg := wg) (ta := ta) (ck := ck) (at9 := at9) (rfn := rfn) (rk := rk) (rw := rw) (rh := rh) (cl := cl) (sa := sa) (fi := fi) (bo := bo) (ch := ch) (cn := cn) (ad := ad) (ru := ru) (kp := kp) (dn := dn) (rfa := rfa) (c_wg := c_wg) (f_wg := f_wg) (c_sa := c_sa) (f_sa := f_sa) (c_fi := c_fi) (f_fi := f_fi) (c_hs := c_hs) (f_hs := f_hs) (c_ch := c_ch) (f_ch := f_ch) q0 q1 q2) (cwV 1 hts gX9_without_X9_findChanges rfl rfl rfl (by decide +kernel) ⟨Nat.le_of_ble_eq_true rfl, Nat.le_of_ble_eq_true rfl⟩) (kPreV hP (kD0 hD) hK hN [0, 1, 2, 3, 4, 5] [0, 1, 2, 3, 4] ax_X9_without_b_1 rfl (by decide +kernel) 0 9 rfl rfl) rfl rfl hl.1 rfl (lv_room (Nat.le_of_ble_eq_true rfl)) dX9_without_25 ⟨Nat.le_of_ble_eq_true rfl, Nat.le_of_ble_eq_true rfl⟩) hS (fun q _ h => hFc q h) hFc (fun r u t H1 locs ht hvm hw hB hz1 hk1 hS => ?_)
      obtain ⟨z_8, e9⟩ : ∃ z, z = u := ⟨_, rfl⟩
      subst e9
      obtain ⟨rfl, rz_8⟩ := hw
      refine Exists.elim hB (fun u_cl_3 hB1 => Exists.elim hB1 (fun u_bo_4 hB2 => Exists.elim hB2 (fun u_f_sa_5 hB3 => Exists.elim hB3 (fun u_f_fi_6 hB4 => Exists.elim hB4 (fun u_f_ch_7 hB5 => ?_)))))
      have h_9 := hB5.1
      have h_10 := hB5.2.1
      have h_11 := hB5.2.2.1
      have h_12 := hB5.2.2.2.1
      have h_13 := hB5.2.2.2.2.1
      have h_14 := hB5.2.2.2.2.2.1
      have h_15 := hB5.2.2.2.2.2.2.1
      have h_16 := hB5.2.2.2.2.2.2.2.1
      have h_17 := hB5.2.2.2.2.2.2.2.2.1
      have hP1 := hB5.2.2.2.2.2.2.2.2.2.1
      have hD1 := hB5.2.2.2.2.2.2.2.2.2.2
      clear hB hB1 hB2 hB3 hB4 hB5
      rw [ht] at hP1
      obtain ⟨hP, hD⟩ := va_join (wr := []) (w1 := [(h0, .inr (9, [.int (zI fa), .int (zI tc), .ref so, .ref sl, .ref ce, .int (zI fn), .ref kd, .ref wd, .ref hs, .ref pf, .ref lt, .int (zI mn), .ref wg, .int (zI ta), .long ck, .int (zI at9), .int (zI rfn), .ref rk, .ref rw, .ref rh, .int (zI u_cl_3), .ref sa, .ref fi, .int (zI u_bo_4), .ref ch, .ref cn, .int (zI ad), .int (zI ru), .ref kp, .int (zI dn), .ref rfa])), (wg, .inl (c_wg, 24, .inl f_wg)), (sa, .inl (c_sa, 25, .inl u_f_sa_5)), (fi, .inl (c_fi, 24, .inl u_f_fi_6)), (hs, .inl (c_hs, 4, .inl f_hs)), (ch, .inl (c_ch, 96, .inl u_f_ch_7))]) hP hD [0, 1, 2, 3, 4, 5] [] ax_X9_without_b_1 ax_X9_without_b_2 (by decide +kernel) (by decide +kernel) hk1 hFc hP1 hD1
      have hP := ax_X9_without_b_3 hP
      have hD := ax_X9_without_b_4 hD
      generalize H1 = H at hP hS ⊢
      have hP : va_P D vwCl [(h0, .inr (9, [.int (zI fa), .int (zI tc), .ref so, .ref sl, .ref ce, .int (zI fn), .ref kd, .ref wd, .ref hs, .ref pf, .ref lt, .int (zI mn), .ref wg, .int (zI ta), .long ck, .int (zI at9), .int (zI rfn), .ref rk, .ref rw, .ref rh, .int (zI u_cl_3), .ref sa, .ref fi, .int (zI u_bo_4), .ref ch, .ref cn, .int (zI ad), .int (zI ru), .ref kp, .int (zI dn), .ref rfa])), (wg, .inl (c_wg, 24, .inl f_wg)), (sa, .inl (c_sa, 25, .inl u_f_sa_5)), (fi, .inl (c_fi, 24, .inl u_f_fi_6)), (hs, .inl (c_hs, 4, .inl f_hs)), (ch, .inl (c_ch, 96, .inl u_f_ch_7))] H := hP
      have hD : va_D A [(h0, .inr (9, [.int (zI fa), .int (zI tc), .ref so, .ref sl, .ref ce, .int (zI fn), .ref kd, .ref wd, .ref hs, .ref pf, .ref lt, .int (zI mn), .ref wg, .int (zI ta), .long ck, .int (zI at9), .int (zI rfn), .ref rk, .ref rw, .ref rh, .int (zI u_cl_3), .ref sa, .ref fi, .int (zI u_bo_4), .ref ch, .ref cn, .int (zI ad), .int (zI ru), .ref kp, .int (zI dn), .ref rfa])), (wg, .inl (c_wg, 24, .inl f_wg)), (sa, .inl (c_sa, 25, .inl u_f_sa_5)), (fi, .inl (c_fi, 24, .inl u_f_fi_6)), (hs, .inl (c_hs, 4, .inl f_hs)), (ch, .inl (c_ch, 96, .inl u_f_ch_7))] := hD
      have hP9 := hP.sub (ws' := [(h0, .inr (9, [.int (zI fa), .int (zI tc), .ref so, .ref sl, .ref ce, .int (zI fn), .ref kd, .ref wd, .ref hs, .ref pf, .ref lt, .int (zI mn), .ref wg, .int (zI ta), .long ck, .int (zI at9), .int (zI rfn), .ref rk, .ref rw, .ref rh, .int (zI u_cl_3), .ref sa, .ref fi, .int (zI u_bo_4), .ref ch, .ref cn, .int (zI ad), .int (zI ru), .ref kp, .int (zI dn), .ref rfa])), (wg, .inl (c_wg, 24, .inl f_wg)), (sa, .inl (c_sa, 25, .inl u_f_sa_5)), (fi, .inl (c_fi, 24, .inl u_f_fi_6)), (hs, .inl (c_hs, 4, .inl f_hs)), (ch, .inl (c_ch, 96, .inl u_f_ch_7))]) [0, 1, 2, 3, 4, 5] rfl
      have hD9 := hD.sub (ws' := [(h0, .inr (9, [.int (zI fa), .int (zI tc), .ref so, .ref sl, .ref ce, .int (zI fn), .ref kd, .ref wd, .ref hs, .ref pf, .ref lt, .int (zI mn), .ref wg, .int (zI ta), .long ck, .int (zI at9), .int (zI rfn), .ref rk, .ref rw, .ref rh, .int (zI u_cl_3), .ref sa, .ref fi, .int (zI u_bo_4), .ref ch, .ref cn, .int (zI ad), .int (zI ru), .ref kp, .int (zI dn), .ref rfa])), (wg, .inl (c_wg, 24, .inl f_wg)), (sa, .inl (c_sa, 25, .inl u_f_sa_5)), (fi, .inl (c_fi, 24, .inl u_f_fi_6)), (hs, .inl (c_hs, 4, .inl f_hs)), (ch, .inl (c_ch, 96, .inl u_f_ch_7))]) [0, 1, 2, 3, 4, 5] (by decide +kernel) rfl
      exact W.iret (v := (zI z_8)) hx hb hr (fun t ht hW => kQS_of (by omega) ⟨u_cl_3, u_bo_4, u_f_sa_5, u_f_fi_6, u_f_ch_7, (by omega), h_10, (Or.inr (Or.inr ⟨by omega, by omega, h_17⟩)), by rw [ht]; exact hP9, hD9⟩ (hS.F ht)) hS.2.2 dX9_without_28
    · refine lv_bipush (v := zI (-9)) hx hb dX9_without_18 (by decide) ?_
      refine lv_goto (tgt := 28) hx hb dX9_without_20 (by decide) ?_
      have hP9 := hP.sub (ws' := [(h0, .inr (9, [.int (zI fa), .int (zI tc), .ref so, .ref sl, .ref ce, .int (zI fn), .ref kd, .ref wd, .ref hs, .ref pf, .ref lt, .int (zI mn), .ref wg, .int (zI ta), .long ck, .int (zI at9), .int (zI rfn), .ref rk, .ref rw, .ref rh, .int (zI cl), .ref sa, .ref fi, .int (zI bo), .ref ch, .ref cn, .int (zI ad), .int (zI ru), .ref kp, .int (zI dn), .ref rfa])), (wg, .inl (c_wg, 24, .inl f_wg)), (sa, .inl (c_sa, 25, .inl f_sa)), (fi, .inl (c_fi, 24, .inl f_fi)), (hs, .inl (c_hs, 4, .inl f_hs)), (ch, .inl (c_ch, 96, .inl f_ch))]) [0, 1, 2, 3, 4, 5] rfl
      have hD9 := hD.sub (ws' := [(h0, .inr (9, [.int (zI fa), .int (zI tc), .ref so, .ref sl, .ref ce, .int (zI fn), .ref kd, .ref wd, .ref hs, .ref pf, .ref lt, .int (zI mn), .ref wg, .int (zI ta), .long ck, .int (zI at9), .int (zI rfn), .ref rk, .ref rw, .ref rh, .int (zI cl), .ref sa, .ref fi, .int (zI bo), .ref ch, .ref cn, .int (zI ad), .int (zI ru), .ref kp, .int (zI dn), .ref rfa])), (wg, .inl (c_wg, 24, .inl f_wg)), (sa, .inl (c_sa, 25, .inl f_sa)), (fi, .inl (c_fi, 24, .inl f_fi)), (hs, .inl (c_hs, 4, .inl f_hs)), (ch, .inl (c_ch, 96, .inl f_ch))]) [0, 1, 2, 3, 4, 5] (by decide +kernel) rfl
      exact W.iret (v := (zI (-9))) hx hb hr (fun t ht hW => kQS_of (by omega) ⟨cl, bo, f_sa, f_fi, f_ch, q3, q4, (Or.inr (Or.inl ⟨by omega, by omega, by omega⟩)), by rw [ht]; exact hP9, hD9⟩ (hS.F ht)) hS.2.2 dX9_without_28
  · have c_1 : ¬ (0 ≤ f ∧ f < fn) := b01f c_1
    refine lv_iconst (v := zI (-1)) hx hb dX9_without_8 rfl ?_
    have hP9 := hP.sub (ws' := [(h0, .inr (9, [.int (zI fa), .int (zI tc), .ref so, .ref sl, .ref ce, .int (zI fn), .ref kd, .ref wd, .ref hs, .ref pf, .ref lt, .int (zI mn), .ref wg, .int (zI ta), .long ck, .int (zI at9), .int (zI rfn), .ref rk, .ref rw, .ref rh, .int (zI cl), .ref sa, .ref fi, .int (zI bo), .ref ch, .ref cn, .int (zI ad), .int (zI ru), .ref kp, .int (zI dn), .ref rfa])), (wg, .inl (c_wg, 24, .inl f_wg)), (sa, .inl (c_sa, 25, .inl f_sa)), (fi, .inl (c_fi, 24, .inl f_fi)), (hs, .inl (c_hs, 4, .inl f_hs)), (ch, .inl (c_ch, 96, .inl f_ch))]) [0, 1, 2, 3, 4, 5] rfl
    have hD9 := hD.sub (ws' := [(h0, .inr (9, [.int (zI fa), .int (zI tc), .ref so, .ref sl, .ref ce, .int (zI fn), .ref kd, .ref wd, .ref hs, .ref pf, .ref lt, .int (zI mn), .ref wg, .int (zI ta), .long ck, .int (zI at9), .int (zI rfn), .ref rk, .ref rw, .ref rh, .int (zI cl), .ref sa, .ref fi, .int (zI bo), .ref ch, .ref cn, .int (zI ad), .int (zI ru), .ref kp, .int (zI dn), .ref rfa])), (wg, .inl (c_wg, 24, .inl f_wg)), (sa, .inl (c_sa, 25, .inl f_sa)), (fi, .inl (c_fi, 24, .inl f_fi)), (hs, .inl (c_hs, 4, .inl f_hs)), (ch, .inl (c_ch, 96, .inl f_ch))]) [0, 1, 2, 3, 4, 5] (by decide +kernel) rfl
    exact W.iret (v := (zI (-1))) hx hb hr (fun t ht hW => kQS_of (by omega) ⟨cl, bo, f_sa, f_fi, f_ch, q3, q4, (Or.inl ⟨by omega, by omega⟩), by rw [ht]; exact hP9, hD9⟩ (hS.F ht)) hS.2.2 dX9_without_9
theorem kinner (c : ClassId) (k : Nat) : Jvm.Free.Multi.innerC c k (defaultValue .int) = vp_cell c (k, .inl (fun _ => 0)) := by
  show ({ cls := c, slots := Array.replicate k (.int 0), vm := .none } : Cell) = arrV c k (fun _ => .int 0)
  rw [arrV_new]
def kR (n : Nat) (r : Nat → Nat) (cy : ClassId) : va_W := (List.range n).map (fun i => (r i, .inl (cy, 4, .inl (fun _ => 0))))
theorem kpl {n : Nat} {r : Nat → Nat} {cy : ClassId} {f : Nat → va_E} : va_pl ([] ++ (List.range n).map r) (vr_up f ((List.range n).map r) (.inl (cy, 4, .inl (fun _ => 0)))) = kR n r cy := by
  unfold va_pl kR
  rw [List.nil_append, List.map_map]
  apply List.map_congr_left
  intro i hi
  show (r i, vr_up f ((List.range n).map r) _ (r i)) = _
  rw [vr_up_in (List.mem_map.mpr ⟨i, hi, rfl⟩)]
theorem kcy {D : va_G} {cl : List vw_C} {tys : List (ClassId × FieldType)} {U : State} {c cy : ClassId} (hK : va_K D cl tys U) (hcy : U.vm.findClass (FieldType.array .int).toString = some cy) (i : Nat) (h : tys[i]? = some (c, .int)) : c = cy := by
  have h1 : U.vm.findClass ("[" ++ FieldType.int.toString) = some c := (hK.2 i _ h).2
  have h2 : (FieldType.array .int).toString = "[" ++ FieldType.int.toString := rfl
  rw [h2, h1] at hcy
  exact Option.some.inj hcy
theorem kcc {D : va_G} {cl : List vw_C} {tys : List (ClassId × FieldType)} {U : State} {c c2 : ClassId} (hK : va_K D cl tys U) (i j : Nat) (h : tys[i]? = some (c, .int)) (h2 : tys[j]? = some (c2, .int)) : c = c2 := by
  have q1 : U.vm.findClass ("[" ++ FieldType.int.toString) = some c := (hK.2 i _ h).2
  have q2 : U.vm.findClass ("[" ++ FieldType.int.toString) = some c2 := (hK.2 j _ h2).2
  rw [q1] at q2
  exact Option.some.inj q2
theorem kP_one {D : va_G} {cl : List vw_C} {a b c : va_W} {H : Heap} (h : va_P D cl (a ++ (b ++ c)) H) : va_P D cl ((a ++ b) ++ c) H := by rw [List.append_assoc]; exact h
theorem kD_one {A : Nat → Prop} {a b c : va_W} (h : va_D A (a ++ (b ++ c))) : va_D A ((a ++ b) ++ c) := by rw [List.append_assoc]; exact h
theorem kP_two {D : va_G} {cl : List vw_C} {a b c d : va_W} {H : Heap} (h : va_P D cl ((a ++ (b ++ c)) ++ d) H) : va_P D cl ((a ++ b) ++ (d ++ c)) H := by
  rw [← List.append_assoc a b c] at h
  have h2 := h.swap
  rw [List.append_assoc (a ++ b) d c] at h2
  exact h2
theorem kD_two {A : Nat → Prop} {a b c d : va_W} (h : va_D A ((a ++ (b ++ c)) ++ d)) : va_D A ((a ++ b) ++ (d ++ c)) := by
  rw [← List.append_assoc a b c] at h
  have h2 := h.swap
  rw [List.append_assoc (a ++ b) d c] at h2
  exact h2
theorem dX5_init_0 : decode cX5_init 0 = .ok (.aload_n 0, 1) := by decide +kernel
theorem dX5_init_1 : decode cX5_init 1 = .ok (.invokespecial 3, 3) := by decide +kernel
theorem dX5_init_4 : decode cX5_init 4 = .ok (.aload_n 0, 1) := by decide +kernel
theorem dX5_init_5 : decode cX5_init 5 = .ok (.bipush 60, 2) := by decide +kernel
theorem dX5_init_7 : decode cX5_init 7 = .ok (.newarray .int, 2) := by decide +kernel
theorem dX5_init_9 : decode cX5_init 9 = .ok (.putfield 9, 3) := by decide +kernel
theorem dX5_init_12 : decode cX5_init 12 = .ok (.return_, 1) := by decide +kernel
set_option maxHeartbeats 4000000 in
set_option maxRecDepth 100000 in
theorem c_X5_init (l : Launch) (D : va_G) (sz : Nat) (h0 : Nat) : Met l yX5_init wsX5_init ({ frames := 1, cells := 1, slots := 60, locals := 20 }) (kPre [.ref h0] D [(h0, .inr (5, [.null, .int 0, .int 0, .int 0]))] [] sz) (va_Qv (fun (_ : Nat × ClassId) => True) (fun u t => va_P D vwCl [(h0, .inr (5, [.ref u.1, .int 0, .int 0, .int 0])), (u.1, .inl (u.2, 60, .inl (fun _ => 0)))] t.heap ∧ va_D (va_A [(h0, .inr (5, [.null, .int 0, .int 0, .int 0]))] sz) [(h0, .inr (5, [.ref u.1, .int 0, .int 0, .int 0])), (u.1, .inl (u.2, 60, .inl (fun _ => 0)))] ∧ va_K D vwCl [(u.2, .int)] t) (va_A [(h0, .inr (5, [.null, .int 0, .int 0, .int 0]))] sz)) 1 60 (va_A [(h0, .inr (5, [.null, .int 0, .int 0, .int 0]))] sz) := by
  refine Met.ofW (cc := cX5_init) (maxL := 1) (ret := none) (by decide) rfl ?_
  intro p e s m args below meth c s₁ B hml hv
  obtain ⟨rfl, hsz, hP, hK, hD0, hN⟩ := hv
  have hx := B.exec
  have hb := B.bytes
  have hr := B.returns
  have hts := atoms_spec (ws := wsX5_init) B.pre
  have hown : s.vm.findClass RX5 = some m.cls := findClass_of_methodNamed B.named
  have hlocks := B.notSynchronized
  have hin : meth.name = "<init>" := (name_of_methodNamed B.named B.method).1
  subst hsz
  have hD := hD0.self (sz := s.heap.size)
  generalize hAe : va_A [(h0, .inr (5, [.null, .int 0, .int 0, .int 0]))] s.heap.size = A at hD ⊢
  have hA : ∀ q : Nat, s.heap.size ≤ q → A q := fun q h => by rw [← hAe]; exact Or.inr h
  have hS : va_S A s.heap s.heap [] := va_S.rf
  have hP : va_P D vwCl [(h0, .inr (5, [.null, .int 0, .int 0, .int 0]))] s.heap := hP
  have hl := lv_entry ([.ref h0]) (n := 1) (Nat.le_of_ble_eq_true rfl)
  rw [lg_entry_eq]
  generalize (lg_sl ([.ref h0]) ++ List.replicate (1 - (lg_sl ([.ref h0])).length) Slot.unset).toArray = ls at hl ⊢
  have hl : lv_has ls 1 [(0, .ref h0)] := hl
  refine lv_aload_n hx hb dX5_init_0 rfl (lv_at hl 0 rfl) ?_
  refine W.objInit hx hb hown (hts (.methodLink RX5 3 objectInit) (by decide +kernel)) (hts (.instanceMethod objectInit) (by decide +kernel)) (hts (.code objectInit ⟨#[0xb1]⟩ 1 none) (by decide +kernel)) rfl (by rw [hml]; exact hl.1) rfl dX5_init_1 (Nat.le_of_ble_eq_true rfl) (Nat.le_of_ble_eq_true rfl) ?_
  refine W.eq (g2 := F0 m 4 ls []) rfl ?_
  refine lv_aload_n hx hb dX5_init_4 rfl (lv_at hl 0 rfl) ?_
  refine lv_bipush (v := 60) hx hb dX5_init_5 (by decide) ?_
  refine va_newa (atype := .int) (ty := .int) (a0 := (60, .inl (fun _ => 0))) (N' := 60) hx hb (hts (.arrayClass .int) (by decide +kernel)) rfl hK hP hD hS hA (fun _ => rfl) (by decide) (by decide) (Nat.le_of_ble_eq_true rfl) (Nat.le_of_ble_eq_true rfl) (Nat.le_of_ble_eq_true rfl) dX5_init_7 (fun a_1 cA_2 H hK hP hD hS => ?_)
  have hK : va_K D vwCl [(cA_2, .int)] s := hK
  have hP : va_P D vwCl [(h0, .inr (5, [.null, .int 0, .int 0, .int 0])), (a_1, .inl (cA_2, 60, .inl (fun _ => 0)))] H := hP
  have hD : va_D A [(h0, .inr (5, [.null, .int 0, .int 0, .int 0])), (a_1, .inl (cA_2, 60, .inl (fun _ => 0)))] := hD
  refine va_putF (D := D) (ci := 5) (v := .ref a_1) (ty := .array .int) (C := RX5) (T := TX5) (N := 4) hx hb hts (fun _ h9 => List.mem_cons_of_mem _ (List.mem_append_right _ h9)) tyX5 tyX5_ok nmX5 hown hK hP hD hS 0 rfl rfl 0 (by decide) (hts (.fieldLink RX5 9 "FontRuns$Sheet" "cells" "[I") (by decide +kernel)) (fun _ h9 => h9) rfl hin rfl (by decide +kernel) rfl rfl (Nat.le_of_ble_eq_true rfl) dX5_init_9 (fun H locs hP hD hS => ?_)
  have hP : va_P D vwCl [(h0, .inr (5, [.ref a_1, .int 0, .int 0, .int 0])), (a_1, .inl (cA_2, 60, .inl (fun _ => 0)))] H := hP
  have hD : va_D A [(h0, .inr (5, [.ref a_1, .int 0, .int 0, .int 0])), (a_1, .inl (cA_2, 60, .inl (fun _ => 0)))] := hD
  refine W.widen (k := 1) (n := 60) (Nat.le_of_ble_eq_true rfl) (Nat.le_of_ble_eq_true rfl) ?_
  have hP9 := hP.sub (ws' := [(h0, .inr (5, [.ref a_1, .int 0, .int 0, .int 0])), (a_1, .inl (cA_2, 60, .inl (fun _ => 0)))]) [0, 1] rfl
  have hD9 := hD.sub (ws' := [(h0, .inr (5, [.ref a_1, .int 0, .int 0, .int 0])), (a_1, .inl (cA_2, 60, .inl (fun _ => 0)))]) [0, 1] (by decide) rfl
  have hK9 := hK.sub (tys' := [(cA_2, .int)]) [0] rfl
  exact W.vret hx hb hr (fun t ht hW => ⟨⟨(a_1, cA_2), rfl, trivial, by rw [ht]; exact hP9, hD9, va_K.moved hW.alike hK9⟩, hS.F ht⟩) hS.2.2 dX5_init_12
theorem dX0_init_0 : decode cX0_init 0 = .ok (.aload_n 0, 1) := by decide +kernel
theorem dX0_init_1 : decode cX0_init 1 = .ok (.invokespecial 3, 3) := by decide +kernel
theorem dX0_init_4 : decode cX0_init 4 = .ok (.aload_n 0, 1) := by decide +kernel
theorem dX0_init_5 : decode cX0_init 5 = .ok (.iconst 4, 1) := by decide +kernel
theorem dX0_init_6 : decode cX0_init 6 = .ok (.newarray .int, 2) := by decide +kernel
theorem dX0_init_8 : decode cX0_init 8 = .ok (.putfield 9, 3) := by decide +kernel
theorem dX0_init_11 : decode cX0_init 11 = .ok (.aload_n 0, 1) := by decide +kernel
theorem dX0_init_12 : decode cX0_init 12 = .ok (.iconst 4, 1) := by decide +kernel
theorem dX0_init_13 : decode cX0_init 13 = .ok (.newarray .int, 2) := by decide +kernel
theorem dX0_init_15 : decode cX0_init 15 = .ok (.putfield 15, 3) := by decide +kernel
theorem dX0_init_18 : decode cX0_init 18 = .ok (.aload_n 0, 1) := by decide +kernel
theorem dX0_init_19 : decode cX0_init 19 = .ok (.iconst 4, 1) := by decide +kernel
theorem dX0_init_20 : decode cX0_init 20 = .ok (.newarray .int, 2) := by decide +kernel
theorem dX0_init_22 : decode cX0_init 22 = .ok (.putfield 18, 3) := by decide +kernel
theorem dX0_init_25 : decode cX0_init 25 = .ok (.return_, 1) := by decide +kernel
set_option maxHeartbeats 4000000 in
set_option maxRecDepth 100000 in
theorem c_X0_init (l : Launch) (D : va_G) (sz : Nat) (h0 : Nat) : Met l yX0_init wsX0_init ({ frames := 1, cells := 3, slots := 12, locals := 20 }) (kPre [.ref h0] D [(h0, .inr (0, [.null, .null, .null, .int 0]))] [] sz) (va_Qv (fun (_ : Nat × Nat × Nat × ClassId × ClassId × ClassId) => True) (fun u t => va_P D vwCl [(h0, .inr (0, [.ref u.1, .ref u.2.1, .ref u.2.2.1, .int 0])), (u.1, .inl (u.2.2.2.1, 4, .inl (fun _ => 0))), (u.2.1, .inl (u.2.2.2.2.1, 4, .inl (fun _ => 0))), (u.2.2.1, .inl (u.2.2.2.2.2, 4, .inl (fun _ => 0)))] t.heap ∧ va_D (va_A [(h0, .inr (0, [.null, .null, .null, .int 0]))] sz) [(h0, .inr (0, [.ref u.1, .ref u.2.1, .ref u.2.2.1, .int 0])), (u.1, .inl (u.2.2.2.1, 4, .inl (fun _ => 0))), (u.2.1, .inl (u.2.2.2.2.1, 4, .inl (fun _ => 0))), (u.2.2.1, .inl (u.2.2.2.2.2, 4, .inl (fun _ => 0)))] ∧ va_K D vwCl [(u.2.2.2.1, .int), (u.2.2.2.2.1, .int), (u.2.2.2.2.2, .int)] t) (va_A [(h0, .inr (0, [.null, .null, .null, .int 0]))] sz)) 3 12 (va_A [(h0, .inr (0, [.null, .null, .null, .int 0]))] sz) := by
  refine Met.ofW (cc := cX0_init) (maxL := 1) (ret := none) (by decide) rfl ?_
  intro p e s m args below meth c s₁ B hml hv
  obtain ⟨rfl, hsz, hP, hK, hD0, hN⟩ := hv
  have hx := B.exec
  have hb := B.bytes
  have hr := B.returns
  have hts := atoms_spec (ws := wsX0_init) B.pre
  have hown : s.vm.findClass RX0 = some m.cls := findClass_of_methodNamed B.named
  have hlocks := B.notSynchronized
  have hin : meth.name = "<init>" := (name_of_methodNamed B.named B.method).1
  subst hsz
  have hD := hD0.self (sz := s.heap.size)
  generalize hAe : va_A [(h0, .inr (0, [.null, .null, .null, .int 0]))] s.heap.size = A at hD ⊢
  have hA : ∀ q : Nat, s.heap.size ≤ q → A q := fun q h => by rw [← hAe]; exact Or.inr h
  have hS : va_S A s.heap s.heap [] := va_S.rf
  have hP : va_P D vwCl [(h0, .inr (0, [.null, .null, .null, .int 0]))] s.heap := hP
  have hl := lv_entry ([.ref h0]) (n := 1) (Nat.le_of_ble_eq_true rfl)
  rw [lg_entry_eq]
  generalize (lg_sl ([.ref h0]) ++ List.replicate (1 - (lg_sl ([.ref h0])).length) Slot.unset).toArray = ls at hl ⊢
  have hl : lv_has ls 1 [(0, .ref h0)] := hl
  refine lv_aload_n hx hb dX0_init_0 rfl (lv_at hl 0 rfl) ?_
  refine W.objInit hx hb hown (hts (.methodLink RX0 3 objectInit) (by decide +kernel)) (hts (.instanceMethod objectInit) (by decide +kernel)) (hts (.code objectInit ⟨#[0xb1]⟩ 1 none) (by decide +kernel)) rfl (by rw [hml]; exact hl.1) rfl dX0_init_1 (Nat.le_of_ble_eq_true rfl) (Nat.le_of_ble_eq_true rfl) ?_
  refine W.eq (g2 := F0 m 4 ls []) rfl ?_
  refine lv_aload_n hx hb dX0_init_4 rfl (lv_at hl 0 rfl) ?_
  refine lv_iconst (v := 4) hx hb dX0_init_5 (by decide) ?_
  refine va_newa (atype := .int) (ty := .int) (a0 := (4, .inl (fun _ => 0))) (N' := 4) hx hb (hts (.arrayClass .int) (by decide +kernel)) rfl hK hP hD hS hA (fun _ => rfl) (by decide) (by decide) (Nat.le_of_ble_eq_true rfl) (Nat.le_of_ble_eq_true rfl) (Nat.le_of_ble_eq_true rfl) dX0_init_6 (fun a_1 cA_2 H hK hP hD hS => ?_)
  have hK : va_K D vwCl [(cA_2, .int)] s := hK
  have hP : va_P D vwCl [(h0, .inr (0, [.null, .null, .null, .int 0])), (a_1, .inl (cA_2, 4, .inl (fun _ => 0)))] H := hP
  have hD : va_D A [(h0, .inr (0, [.null, .null, .null, .int 0])), (a_1, .inl (cA_2, 4, .inl (fun _ => 0)))] := hD
  refine va_putF (D := D) (ci := 0) (v := .ref a_1) (ty := .array .int) (C := RX0) (T := TX0) (N := 4) hx hb hts (fun _ h9 => List.mem_cons_of_mem _ (List.mem_append_right _ h9)) tyX0 tyX0_ok nmX0 hown hK hP hD hS 0 rfl rfl 0 (by decide) (hts (.fieldLink RX0 9 "FontRuns$FontRow" "kind" "[I") (by decide +kernel)) (fun _ h9 => h9) rfl hin rfl (by decide +kernel) rfl rfl (Nat.le_of_ble_eq_true rfl) dX0_init_8 (fun H locs hP hD hS => ?_)
  have hP : va_P D vwCl [(h0, .inr (0, [.ref a_1, .null, .null, .int 0])), (a_1, .inl (cA_2, 4, .inl (fun _ => 0)))] H := hP
  have hD : va_D A [(h0, .inr (0, [.ref a_1, .null, .null, .int 0])), (a_1, .inl (cA_2, 4, .inl (fun _ => 0)))] := hD
  refine lv_aload_n hx hb dX0_init_11 rfl (lv_at hl 0 rfl) ?_
  refine lv_iconst (v := 4) hx hb dX0_init_12 (by decide) ?_
  refine va_newa (atype := .int) (ty := .int) (a0 := (4, .inl (fun _ => 0))) (N' := 4) hx hb (hts (.arrayClass .int) (by decide +kernel)) rfl hK hP hD hS hA (fun _ => rfl) (by decide) (by decide) (Nat.le_of_ble_eq_true rfl) (Nat.le_of_ble_eq_true rfl) (Nat.le_of_ble_eq_true rfl) dX0_init_13 (fun a_3 cA_4 H hK hP hD hS => ?_)
  have hK : va_K D vwCl [(cA_2, .int), (cA_4, .int)] s := hK
  have hP : va_P D vwCl [(h0, .inr (0, [.ref a_1, .null, .null, .int 0])), (a_1, .inl (cA_2, 4, .inl (fun _ => 0))), (a_3, .inl (cA_4, 4, .inl (fun _ => 0)))] H := hP
  have hD : va_D A [(h0, .inr (0, [.ref a_1, .null, .null, .int 0])), (a_1, .inl (cA_2, 4, .inl (fun _ => 0))), (a_3, .inl (cA_4, 4, .inl (fun _ => 0)))] := hD
  refine va_putF (D := D) (ci := 0) (v := .ref a_3) (ty := .array .int) (C := RX0) (T := TX0) (N := 4) hx hb hts (fun _ h9 => List.mem_cons_of_mem _ (List.mem_append_right _ h9)) tyX0 tyX0_ok nmX0 hown hK hP hD hS 0 rfl rfl 1 (by decide) (hts (.fieldLink RX0 15 "FontRuns$FontRow" "breadth" "[I") (by decide +kernel)) (fun _ h9 => h9) rfl hin rfl (by decide +kernel) rfl rfl (Nat.le_of_ble_eq_true rfl) dX0_init_15 (fun H locs hP hD hS => ?_)
  have hP : va_P D vwCl [(h0, .inr (0, [.ref a_1, .ref a_3, .null, .int 0])), (a_1, .inl (cA_2, 4, .inl (fun _ => 0))), (a_3, .inl (cA_4, 4, .inl (fun _ => 0)))] H := hP
  have hD : va_D A [(h0, .inr (0, [.ref a_1, .ref a_3, .null, .int 0])), (a_1, .inl (cA_2, 4, .inl (fun _ => 0))), (a_3, .inl (cA_4, 4, .inl (fun _ => 0)))] := hD
  refine lv_aload_n hx hb dX0_init_18 rfl (lv_at hl 0 rfl) ?_
  refine lv_iconst (v := 4) hx hb dX0_init_19 (by decide) ?_
  refine va_newa (atype := .int) (ty := .int) (a0 := (4, .inl (fun _ => 0))) (N' := 4) hx hb (hts (.arrayClass .int) (by decide +kernel)) rfl hK hP hD hS hA (fun _ => rfl) (by decide) (by decide) (Nat.le_of_ble_eq_true rfl) (Nat.le_of_ble_eq_true rfl) (Nat.le_of_ble_eq_true rfl) dX0_init_20 (fun a_5 cA_6 H hK hP hD hS => ?_)
  have hK : va_K D vwCl [(cA_2, .int), (cA_4, .int), (cA_6, .int)] s := hK
  have hP : va_P D vwCl [(h0, .inr (0, [.ref a_1, .ref a_3, .null, .int 0])), (a_1, .inl (cA_2, 4, .inl (fun _ => 0))), (a_3, .inl (cA_4, 4, .inl (fun _ => 0))), (a_5, .inl (cA_6, 4, .inl (fun _ => 0)))] H := hP
  have hD : va_D A [(h0, .inr (0, [.ref a_1, .ref a_3, .null, .int 0])), (a_1, .inl (cA_2, 4, .inl (fun _ => 0))), (a_3, .inl (cA_4, 4, .inl (fun _ => 0))), (a_5, .inl (cA_6, 4, .inl (fun _ => 0)))] := hD
  refine va_putF (D := D) (ci := 0) (v := .ref a_5) (ty := .array .int) (C := RX0) (T := TX0) (N := 4) hx hb hts (fun _ h9 => List.mem_cons_of_mem _ (List.mem_append_right _ h9)) tyX0 tyX0_ok nmX0 hown hK hP hD hS 0 rfl rfl 2 (by decide) (hts (.fieldLink RX0 18 "FontRuns$FontRow" "has" "[I") (by decide +kernel)) (fun _ h9 => h9) rfl hin rfl (by decide +kernel) rfl rfl (Nat.le_of_ble_eq_true rfl) dX0_init_22 (fun H locs hP hD hS => ?_)
  have hP : va_P D vwCl [(h0, .inr (0, [.ref a_1, .ref a_3, .ref a_5, .int 0])), (a_1, .inl (cA_2, 4, .inl (fun _ => 0))), (a_3, .inl (cA_4, 4, .inl (fun _ => 0))), (a_5, .inl (cA_6, 4, .inl (fun _ => 0)))] H := hP
  have hD : va_D A [(h0, .inr (0, [.ref a_1, .ref a_3, .ref a_5, .int 0])), (a_1, .inl (cA_2, 4, .inl (fun _ => 0))), (a_3, .inl (cA_4, 4, .inl (fun _ => 0))), (a_5, .inl (cA_6, 4, .inl (fun _ => 0)))] := hD
  refine W.widen (k := 3) (n := 12) (Nat.le_of_ble_eq_true rfl) (Nat.le_of_ble_eq_true rfl) ?_
  have hP9 := hP.sub (ws' := [(h0, .inr (0, [.ref a_1, .ref a_3, .ref a_5, .int 0])), (a_1, .inl (cA_2, 4, .inl (fun _ => 0))), (a_3, .inl (cA_4, 4, .inl (fun _ => 0))), (a_5, .inl (cA_6, 4, .inl (fun _ => 0)))]) [0, 1, 2, 3] rfl
  have hD9 := hD.sub (ws' := [(h0, .inr (0, [.ref a_1, .ref a_3, .ref a_5, .int 0])), (a_1, .inl (cA_2, 4, .inl (fun _ => 0))), (a_3, .inl (cA_4, 4, .inl (fun _ => 0))), (a_5, .inl (cA_6, 4, .inl (fun _ => 0)))]) [0, 1, 2, 3] (by decide) rfl
  have hK9 := hK.sub (tys' := [(cA_2, .int), (cA_4, .int), (cA_6, .int)]) [0, 1, 2] rfl
  exact W.vret hx hb hr (fun t ht hW => ⟨⟨(a_1, a_3, a_5, cA_2, cA_4, cA_6), rfl, trivial, by rw [ht]; exact hP9, hD9, va_K.moved hW.alike hK9⟩, hS.F ht⟩) hS.2.2 dX0_init_25
theorem dX7_init_0 : decode cX7_init 0 = .ok (.aload_n 0, 1) := by decide +kernel
theorem dX7_init_1 : decode cX7_init 1 = .ok (.invokespecial 3, 3) := by decide +kernel
theorem dX7_init_4 : decode cX7_init 4 = .ok (.aload_n 0, 1) := by decide +kernel
theorem dX7_init_5 : decode cX7_init 5 = .ok (.bipush 24, 2) := by decide +kernel
theorem dX7_init_7 : decode cX7_init 7 = .ok (.newarray .int, 2) := by decide +kernel
theorem dX7_init_9 : decode cX7_init 9 = .ok (.putfield 9, 3) := by decide +kernel
theorem dX7_init_12 : decode cX7_init 12 = .ok (.return_, 1) := by decide +kernel
set_option maxHeartbeats 4000000 in
set_option maxRecDepth 100000 in
theorem c_X7_init (l : Launch) (D : va_G) (sz : Nat) (h0 : Nat) : Met l yX7_init wsX7_init ({ frames := 1, cells := 1, slots := 24, locals := 20 }) (kPre [.ref h0] D [(h0, .inr (7, [.null, .int 0]))] [] sz) (va_Qv (fun (_ : Nat × ClassId) => True) (fun u t => va_P D vwCl [(h0, .inr (7, [.ref u.1, .int 0])), (u.1, .inl (u.2, 24, .inl (fun _ => 0)))] t.heap ∧ va_D (va_A [(h0, .inr (7, [.null, .int 0]))] sz) [(h0, .inr (7, [.ref u.1, .int 0])), (u.1, .inl (u.2, 24, .inl (fun _ => 0)))] ∧ va_K D vwCl [(u.2, .int)] t) (va_A [(h0, .inr (7, [.null, .int 0]))] sz)) 1 24 (va_A [(h0, .inr (7, [.null, .int 0]))] sz) := by
  refine Met.ofW (cc := cX7_init) (maxL := 1) (ret := none) (by decide) rfl ?_
  intro p e s m args below meth c s₁ B hml hv
  obtain ⟨rfl, hsz, hP, hK, hD0, hN⟩ := hv
  have hx := B.exec
  have hb := B.bytes
  have hr := B.returns
  have hts := atoms_spec (ws := wsX7_init) B.pre
  have hown : s.vm.findClass RX7 = some m.cls := findClass_of_methodNamed B.named
  have hlocks := B.notSynchronized
  have hin : meth.name = "<init>" := (name_of_methodNamed B.named B.method).1
  subst hsz
  have hD := hD0.self (sz := s.heap.size)
  generalize hAe : va_A [(h0, .inr (7, [.null, .int 0]))] s.heap.size = A at hD ⊢
  have hA : ∀ q : Nat, s.heap.size ≤ q → A q := fun q h => by rw [← hAe]; exact Or.inr h
  have hS : va_S A s.heap s.heap [] := va_S.rf
  have hP : va_P D vwCl [(h0, .inr (7, [.null, .int 0]))] s.heap := hP
  have hl := lv_entry ([.ref h0]) (n := 1) (Nat.le_of_ble_eq_true rfl)
  rw [lg_entry_eq]
  generalize (lg_sl ([.ref h0]) ++ List.replicate (1 - (lg_sl ([.ref h0])).length) Slot.unset).toArray = ls at hl ⊢
  have hl : lv_has ls 1 [(0, .ref h0)] := hl
  refine lv_aload_n hx hb dX7_init_0 rfl (lv_at hl 0 rfl) ?_
  refine W.objInit hx hb hown (hts (.methodLink RX7 3 objectInit) (by decide +kernel)) (hts (.instanceMethod objectInit) (by decide +kernel)) (hts (.code objectInit ⟨#[0xb1]⟩ 1 none) (by decide +kernel)) rfl (by rw [hml]; exact hl.1) rfl dX7_init_1 (Nat.le_of_ble_eq_true rfl) (Nat.le_of_ble_eq_true rfl) ?_
  refine W.eq (g2 := F0 m 4 ls []) rfl ?_
  refine lv_aload_n hx hb dX7_init_4 rfl (lv_at hl 0 rfl) ?_
  refine lv_bipush (v := 24) hx hb dX7_init_5 (by decide) ?_
  refine va_newa (atype := .int) (ty := .int) (a0 := (24, .inl (fun _ => 0))) (N' := 24) hx hb (hts (.arrayClass .int) (by decide +kernel)) rfl hK hP hD hS hA (fun _ => rfl) (by decide) (by decide) (Nat.le_of_ble_eq_true rfl) (Nat.le_of_ble_eq_true rfl) (Nat.le_of_ble_eq_true rfl) dX7_init_7 (fun a_1 cA_2 H hK hP hD hS => ?_)
  have hK : va_K D vwCl [(cA_2, .int)] s := hK
  have hP : va_P D vwCl [(h0, .inr (7, [.null, .int 0])), (a_1, .inl (cA_2, 24, .inl (fun _ => 0)))] H := hP
  have hD : va_D A [(h0, .inr (7, [.null, .int 0])), (a_1, .inl (cA_2, 24, .inl (fun _ => 0)))] := hD
  refine va_putF (D := D) (ci := 7) (v := .ref a_1) (ty := .array .int) (C := RX7) (T := TX7) (N := 2) hx hb hts (fun _ h9 => List.mem_cons_of_mem _ (List.mem_append_right _ h9)) tyX7 tyX7_ok nmX7 hown hK hP hD hS 0 rfl rfl 0 (by decide) (hts (.fieldLink RX7 9 "FontRuns$Writing" "row" "[I") (by decide +kernel)) (fun _ h9 => h9) rfl hin rfl (by decide +kernel) rfl rfl (Nat.le_of_ble_eq_true rfl) dX7_init_9 (fun H locs hP hD hS => ?_)
  have hP : va_P D vwCl [(h0, .inr (7, [.ref a_1, .int 0])), (a_1, .inl (cA_2, 24, .inl (fun _ => 0)))] H := hP
  have hD : va_D A [(h0, .inr (7, [.ref a_1, .int 0])), (a_1, .inl (cA_2, 24, .inl (fun _ => 0)))] := hD
  refine W.widen (k := 1) (n := 24) (Nat.le_of_ble_eq_true rfl) (Nat.le_of_ble_eq_true rfl) ?_
  have hP9 := hP.sub (ws' := [(h0, .inr (7, [.ref a_1, .int 0])), (a_1, .inl (cA_2, 24, .inl (fun _ => 0)))]) [0, 1] rfl
  have hD9 := hD.sub (ws' := [(h0, .inr (7, [.ref a_1, .int 0])), (a_1, .inl (cA_2, 24, .inl (fun _ => 0)))]) [0, 1] (by decide) rfl
  have hK9 := hK.sub (tys' := [(cA_2, .int)]) [0] rfl
  exact W.vret hx hb hr (fun t ht hW => ⟨⟨(a_1, cA_2), rfl, trivial, by rw [ht]; exact hP9, hD9, va_K.moved hW.alike hK9⟩, hS.F ht⟩) hS.2.2 dX7_init_12
theorem dX1_init_0 : decode cX1_init 0 = .ok (.aload_n 0, 1) := by decide +kernel
theorem dX1_init_1 : decode cX1_init 1 = .ok (.invokespecial 3, 3) := by decide +kernel
theorem dX1_init_4 : decode cX1_init 4 = .ok (.aload_n 0, 1) := by decide +kernel
theorem dX1_init_5 : decode cX1_init 5 = .ok (.iconst 4, 1) := by decide +kernel
theorem dX1_init_6 : decode cX1_init 6 = .ok (.newarray .int, 2) := by decide +kernel
theorem dX1_init_8 : decode cX1_init 8 = .ok (.putfield 9, 3) := by decide +kernel
theorem dX1_init_11 : decode cX1_init 11 = .ok (.return_, 1) := by decide +kernel
set_option maxHeartbeats 4000000 in
set_option maxRecDepth 100000 in
theorem c_X1_init (l : Launch) (D : va_G) (sz : Nat) (h0 : Nat) : Met l yX1_init wsX1_init ({ frames := 1, cells := 1, slots := 4, locals := 20 }) (kPre [.ref h0] D [(h0, .inr (1, [.null, .int 0]))] [] sz) (va_Qv (fun (_ : Nat × ClassId) => True) (fun u t => va_P D vwCl [(h0, .inr (1, [.ref u.1, .int 0])), (u.1, .inl (u.2, 4, .inl (fun _ => 0)))] t.heap ∧ va_D (va_A [(h0, .inr (1, [.null, .int 0]))] sz) [(h0, .inr (1, [.ref u.1, .int 0])), (u.1, .inl (u.2, 4, .inl (fun _ => 0)))] ∧ va_K D vwCl [(u.2, .int)] t) (va_A [(h0, .inr (1, [.null, .int 0]))] sz)) 1 4 (va_A [(h0, .inr (1, [.null, .int 0]))] sz) := by
  refine Met.ofW (cc := cX1_init) (maxL := 1) (ret := none) (by decide) rfl ?_
  intro p e s m args below meth c s₁ B hml hv
  obtain ⟨rfl, hsz, hP, hK, hD0, hN⟩ := hv
  have hx := B.exec
  have hb := B.bytes
  have hr := B.returns
  have hts := atoms_spec (ws := wsX1_init) B.pre
  have hown : s.vm.findClass RX1 = some m.cls := findClass_of_methodNamed B.named
  have hlocks := B.notSynchronized
  have hin : meth.name = "<init>" := (name_of_methodNamed B.named B.method).1
  subst hsz
  have hD := hD0.self (sz := s.heap.size)
  generalize hAe : va_A [(h0, .inr (1, [.null, .int 0]))] s.heap.size = A at hD ⊢
  have hA : ∀ q : Nat, s.heap.size ≤ q → A q := fun q h => by rw [← hAe]; exact Or.inr h
  have hS : va_S A s.heap s.heap [] := va_S.rf
  have hP : va_P D vwCl [(h0, .inr (1, [.null, .int 0]))] s.heap := hP
  have hl := lv_entry ([.ref h0]) (n := 1) (Nat.le_of_ble_eq_true rfl)
  rw [lg_entry_eq]
  generalize (lg_sl ([.ref h0]) ++ List.replicate (1 - (lg_sl ([.ref h0])).length) Slot.unset).toArray = ls at hl ⊢
  have hl : lv_has ls 1 [(0, .ref h0)] := hl
  refine lv_aload_n hx hb dX1_init_0 rfl (lv_at hl 0 rfl) ?_
  refine W.objInit hx hb hown (hts (.methodLink RX1 3 objectInit) (by decide +kernel)) (hts (.instanceMethod objectInit) (by decide +kernel)) (hts (.code objectInit ⟨#[0xb1]⟩ 1 none) (by decide +kernel)) rfl (by rw [hml]; exact hl.1) rfl dX1_init_1 (Nat.le_of_ble_eq_true rfl) (Nat.le_of_ble_eq_true rfl) ?_
  refine W.eq (g2 := F0 m 4 ls []) rfl ?_
  refine lv_aload_n hx hb dX1_init_4 rfl (lv_at hl 0 rfl) ?_
  refine lv_iconst (v := 4) hx hb dX1_init_5 (by decide) ?_
  refine va_newa (atype := .int) (ty := .int) (a0 := (4, .inl (fun _ => 0))) (N' := 4) hx hb (hts (.arrayClass .int) (by decide +kernel)) rfl hK hP hD hS hA (fun _ => rfl) (by decide) (by decide) (Nat.le_of_ble_eq_true rfl) (Nat.le_of_ble_eq_true rfl) (Nat.le_of_ble_eq_true rfl) dX1_init_6 (fun a_1 cA_2 H hK hP hD hS => ?_)
  have hK : va_K D vwCl [(cA_2, .int)] s := hK
  have hP : va_P D vwCl [(h0, .inr (1, [.null, .int 0])), (a_1, .inl (cA_2, 4, .inl (fun _ => 0)))] H := hP
  have hD : va_D A [(h0, .inr (1, [.null, .int 0])), (a_1, .inl (cA_2, 4, .inl (fun _ => 0)))] := hD
  refine va_putF (D := D) (ci := 1) (v := .ref a_1) (ty := .array .int) (C := RX1) (T := TX1) (N := 2) hx hb hts (fun _ h9 => List.mem_cons_of_mem _ (List.mem_append_right _ h9)) tyX1 tyX1_ok nmX1 hown hK hP hD hS 0 rfl rfl 0 (by decide) (hts (.fieldLink RX1 9 "FontRuns$Preference" "row" "[I") (by decide +kernel)) (fun _ h9 => h9) rfl hin rfl (by decide +kernel) rfl rfl (Nat.le_of_ble_eq_true rfl) dX1_init_8 (fun H locs hP hD hS => ?_)
  have hP : va_P D vwCl [(h0, .inr (1, [.ref a_1, .int 0])), (a_1, .inl (cA_2, 4, .inl (fun _ => 0)))] H := hP
  have hD : va_D A [(h0, .inr (1, [.ref a_1, .int 0])), (a_1, .inl (cA_2, 4, .inl (fun _ => 0)))] := hD
  refine W.widen (k := 1) (n := 4) (Nat.le_of_ble_eq_true rfl) (Nat.le_of_ble_eq_true rfl) ?_
  have hP9 := hP.sub (ws' := [(h0, .inr (1, [.ref a_1, .int 0])), (a_1, .inl (cA_2, 4, .inl (fun _ => 0)))]) [0, 1] rfl
  have hD9 := hD.sub (ws' := [(h0, .inr (1, [.ref a_1, .int 0])), (a_1, .inl (cA_2, 4, .inl (fun _ => 0)))]) [0, 1] (by decide) rfl
  have hK9 := hK.sub (tys' := [(cA_2, .int)]) [0] rfl
  exact W.vret hx hb hr (fun t ht hW => ⟨⟨(a_1, cA_2), rfl, trivial, by rw [ht]; exact hP9, hD9, va_K.moved hW.alike hK9⟩, hS.F ht⟩) hS.2.2 dX1_init_11
theorem dX3_init_0 : decode cX3_init 0 = .ok (.aload_n 0, 1) := by decide +kernel
theorem dX3_init_1 : decode cX3_init 1 = .ok (.invokespecial 3, 3) := by decide +kernel
theorem dX3_init_4 : decode cX3_init 4 = .ok (.aload_n 0, 1) := by decide +kernel
theorem dX3_init_5 : decode cX3_init 5 = .ok (.iconst 5, 1) := by decide +kernel
theorem dX3_init_6 : decode cX3_init 6 = .ok (.newarray .int, 2) := by decide +kernel
theorem dX3_init_8 : decode cX3_init 8 = .ok (.putfield 9, 3) := by decide +kernel
theorem dX3_init_11 : decode cX3_init 11 = .ok (.return_, 1) := by decide +kernel
set_option maxHeartbeats 4000000 in
set_option maxRecDepth 100000 in
theorem c_X3_init (l : Launch) (D : va_G) (sz : Nat) (h0 : Nat) : Met l yX3_init wsX3_init ({ frames := 1, cells := 1, slots := 5, locals := 20 }) (kPre [.ref h0] D [(h0, .inr (3, [.null, .int 0]))] [] sz) (va_Qv (fun (_ : Nat × ClassId) => True) (fun u t => va_P D vwCl [(h0, .inr (3, [.ref u.1, .int 0])), (u.1, .inl (u.2, 5, .inl (fun _ => 0)))] t.heap ∧ va_D (va_A [(h0, .inr (3, [.null, .int 0]))] sz) [(h0, .inr (3, [.ref u.1, .int 0])), (u.1, .inl (u.2, 5, .inl (fun _ => 0)))] ∧ va_K D vwCl [(u.2, .int)] t) (va_A [(h0, .inr (3, [.null, .int 0]))] sz)) 1 5 (va_A [(h0, .inr (3, [.null, .int 0]))] sz) := by
  refine Met.ofW (cc := cX3_init) (maxL := 1) (ret := none) (by decide) rfl ?_
  intro p e s m args below meth c s₁ B hml hv
  obtain ⟨rfl, hsz, hP, hK, hD0, hN⟩ := hv
  have hx := B.exec
  have hb := B.bytes
  have hr := B.returns
  have hts := atoms_spec (ws := wsX3_init) B.pre
  have hown : s.vm.findClass RX3 = some m.cls := findClass_of_methodNamed B.named
  have hlocks := B.notSynchronized
  have hin : meth.name = "<init>" := (name_of_methodNamed B.named B.method).1
  subst hsz
  have hD := hD0.self (sz := s.heap.size)
  generalize hAe : va_A [(h0, .inr (3, [.null, .int 0]))] s.heap.size = A at hD ⊢
  have hA : ∀ q : Nat, s.heap.size ≤ q → A q := fun q h => by rw [← hAe]; exact Or.inr h
  have hS : va_S A s.heap s.heap [] := va_S.rf
  have hP : va_P D vwCl [(h0, .inr (3, [.null, .int 0]))] s.heap := hP
  have hl := lv_entry ([.ref h0]) (n := 1) (Nat.le_of_ble_eq_true rfl)
  rw [lg_entry_eq]
  generalize (lg_sl ([.ref h0]) ++ List.replicate (1 - (lg_sl ([.ref h0])).length) Slot.unset).toArray = ls at hl ⊢
  have hl : lv_has ls 1 [(0, .ref h0)] := hl
  refine lv_aload_n hx hb dX3_init_0 rfl (lv_at hl 0 rfl) ?_
  refine W.objInit hx hb hown (hts (.methodLink RX3 3 objectInit) (by decide +kernel)) (hts (.instanceMethod objectInit) (by decide +kernel)) (hts (.code objectInit ⟨#[0xb1]⟩ 1 none) (by decide +kernel)) rfl (by rw [hml]; exact hl.1) rfl dX3_init_1 (Nat.le_of_ble_eq_true rfl) (Nat.le_of_ble_eq_true rfl) ?_
  refine W.eq (g2 := F0 m 4 ls []) rfl ?_
  refine lv_aload_n hx hb dX3_init_4 rfl (lv_at hl 0 rfl) ?_
  refine lv_iconst (v := 5) hx hb dX3_init_5 (by decide) ?_
  refine va_newa (atype := .int) (ty := .int) (a0 := (5, .inl (fun _ => 0))) (N' := 5) hx hb (hts (.arrayClass .int) (by decide +kernel)) rfl hK hP hD hS hA (fun _ => rfl) (by decide) (by decide) (Nat.le_of_ble_eq_true rfl) (Nat.le_of_ble_eq_true rfl) (Nat.le_of_ble_eq_true rfl) dX3_init_6 (fun a_1 cA_2 H hK hP hD hS => ?_)
  have hK : va_K D vwCl [(cA_2, .int)] s := hK
  have hP : va_P D vwCl [(h0, .inr (3, [.null, .int 0])), (a_1, .inl (cA_2, 5, .inl (fun _ => 0)))] H := hP
  have hD : va_D A [(h0, .inr (3, [.null, .int 0])), (a_1, .inl (cA_2, 5, .inl (fun _ => 0)))] := hD
  refine va_putF (D := D) (ci := 3) (v := .ref a_1) (ty := .array .int) (C := RX3) (T := TX3) (N := 2) hx hb hts (fun _ h9 => List.mem_cons_of_mem _ (List.mem_append_right _ h9)) tyX3 tyX3_ok nmX3 hown hK hP hD hS 0 rfl rfl 0 (by decide) (hts (.fieldLink RX3 9 "FontRuns$Recent" "row" "[I") (by decide +kernel)) (fun _ h9 => h9) rfl hin rfl (by decide +kernel) rfl rfl (Nat.le_of_ble_eq_true rfl) dX3_init_8 (fun H locs hP hD hS => ?_)
  have hP : va_P D vwCl [(h0, .inr (3, [.ref a_1, .int 0])), (a_1, .inl (cA_2, 5, .inl (fun _ => 0)))] H := hP
  have hD : va_D A [(h0, .inr (3, [.ref a_1, .int 0])), (a_1, .inl (cA_2, 5, .inl (fun _ => 0)))] := hD
  refine W.widen (k := 1) (n := 5) (Nat.le_of_ble_eq_true rfl) (Nat.le_of_ble_eq_true rfl) ?_
  have hP9 := hP.sub (ws' := [(h0, .inr (3, [.ref a_1, .int 0])), (a_1, .inl (cA_2, 5, .inl (fun _ => 0)))]) [0, 1] rfl
  have hD9 := hD.sub (ws' := [(h0, .inr (3, [.ref a_1, .int 0])), (a_1, .inl (cA_2, 5, .inl (fun _ => 0)))]) [0, 1] (by decide) rfl
  have hK9 := hK.sub (tys' := [(cA_2, .int)]) [0] rfl
  exact W.vret hx hb hr (fun t ht hW => ⟨⟨(a_1, cA_2), rfl, trivial, by rw [ht]; exact hP9, hD9, va_K.moved hW.alike hK9⟩, hS.F ht⟩) hS.2.2 dX3_init_11
theorem dX6_init_0 : decode cX6_init 0 = .ok (.aload_n 0, 1) := by decide +kernel
theorem dX6_init_1 : decode cX6_init 1 = .ok (.invokespecial 3, 3) := by decide +kernel
theorem dX6_init_4 : decode cX6_init 4 = .ok (.aload_n 0, 1) := by decide +kernel
theorem dX6_init_5 : decode cX6_init 5 = .ok (.new 9, 3) := by decide +kernel
theorem dX6_init_8 : decode cX6_init 8 = .ok (.dup, 1) := by decide +kernel
theorem dX6_init_9 : decode cX6_init 9 = .ok (.invokespecial 11, 3) := by decide +kernel
theorem dX6_init_12 : decode cX6_init 12 = .ok (.putfield 12, 3) := by decide +kernel
theorem dX6_init_15 : decode cX6_init 15 = .ok (.return_, 1) := by decide +kernel
set_option maxRecDepth 20000 in
theorem ggX6_init_X0_init : GoodIn wsX6_init wsX0_init := goodIn_4 _ (List.forall_mem_cons.mpr ⟨List.mem_cons_of_mem _ (List.mem_append_left _ (List.mem_append_left _ (List.mem_of_getElem? (i := 8) rfl))), List.forall_mem_append.mpr ⟨List.forall_mem_cons.mpr ⟨List.mem_cons_of_mem _ (List.mem_append_left _ (List.mem_append_left _ (List.mem_of_getElem? (i := 9) rfl))), List.forall_mem_cons.mpr ⟨List.mem_cons_of_mem _ (List.mem_append_left _ (List.mem_append_left _ (List.mem_of_getElem? (i := 1) rfl))), List.forall_mem_cons.mpr ⟨List.mem_cons_of_mem _ (List.mem_append_left _ (List.mem_append_left _ (List.mem_of_getElem? (i := 2) rfl))), List.forall_mem_cons.mpr ⟨List.mem_cons_of_mem _ (List.mem_append_left _ (List.mem_append_left _ (List.mem_of_getElem? (i := 10) rfl))), List.forall_mem_cons.mpr ⟨List.mem_cons_of_mem _ (List.mem_append_left _ (List.mem_append_left _ (List.mem_of_getElem? (i := 11) rfl))), List.forall_mem_cons.mpr ⟨List.mem_cons_of_mem _ (List.mem_append_left _ (List.mem_append_left _ (List.mem_of_getElem? (i := 12) rfl))), List.forall_mem_cons.mpr ⟨List.mem_cons_of_mem _ (List.mem_append_left _ (List.mem_append_left _ (List.mem_of_getElem? (i := 13) rfl))), fun _ h9 => absurd h9 List.not_mem_nil⟩⟩⟩⟩⟩⟩⟩, fun w h9 => List.mem_cons_of_mem _ (List.mem_append_left _ (List.mem_append_right _ (h9)))⟩⟩) (by decide +kernel)
set_option maxRecDepth 20000 in
theorem gX6_init_X0_init_n11 : GoodIn wsX6_init (wsX0_init) := ggX6_init_X0_init
set_option maxHeartbeats 4000000 in
set_option maxRecDepth 100000 in
theorem c_X6_init (l : Launch) (D : va_G) (sz : Nat) (h0 : Nat) : Met l yX6_init wsX6_init ({ frames := 2, cells := 4, slots := 16, locals := 40 }) (kPre [.ref h0] D [(h0, .inr (6, [.null, .int 0]))] [] sz) (va_Qv (fun (_ : Nat × Nat × Nat × Nat × ClassId × ClassId × ClassId) => True) (fun u t => va_P D vwCl [(h0, .inr (6, [.ref u.1, .int 0])), (u.1, .inr (0, [.ref u.2.1, .ref u.2.2.1, .ref u.2.2.2.1, .int 0])), (u.2.1, .inl (u.2.2.2.2.1, 4, .inl (fun _ => 0))), (u.2.2.1, .inl (u.2.2.2.2.2.1, 4, .inl (fun _ => 0))), (u.2.2.2.1, .inl (u.2.2.2.2.2.2, 4, .inl (fun _ => 0)))] t.heap ∧ va_D (va_A [(h0, .inr (6, [.null, .int 0]))] sz) [(h0, .inr (6, [.ref u.1, .int 0])), (u.1, .inr (0, [.ref u.2.1, .ref u.2.2.1, .ref u.2.2.2.1, .int 0])), (u.2.1, .inl (u.2.2.2.2.1, 4, .inl (fun _ => 0))), (u.2.2.1, .inl (u.2.2.2.2.2.1, 4, .inl (fun _ => 0))), (u.2.2.2.1, .inl (u.2.2.2.2.2.2, 4, .inl (fun _ => 0)))] ∧ va_K D vwCl [(u.2.2.2.2.1, .int), (u.2.2.2.2.2.1, .int), (u.2.2.2.2.2.2, .int)] t) (va_A [(h0, .inr (6, [.null, .int 0]))] sz)) 4 16 (va_A [(h0, .inr (6, [.null, .int 0]))] sz) := by
  refine Met.ofW (cc := cX6_init) (maxL := 1) (ret := none) (by decide) rfl ?_
  intro p e s m args below meth c s₁ B hml hv
  obtain ⟨rfl, hsz, hP, hK, hD0, hN⟩ := hv
  have hx := B.exec
  have hb := B.bytes
  have hr := B.returns
  have hts := atoms_spec (ws := wsX6_init) B.pre
  have hown : s.vm.findClass RX6 = some m.cls := findClass_of_methodNamed B.named
  have hlocks := B.notSynchronized
  have hin : meth.name = "<init>" := (name_of_methodNamed B.named B.method).1
  subst hsz
  have hD := hD0.self (sz := s.heap.size)
  generalize hAe : va_A [(h0, .inr (6, [.null, .int 0]))] s.heap.size = A at hD ⊢
  have hA : ∀ q : Nat, s.heap.size ≤ q → A q := fun q h => by rw [← hAe]; exact Or.inr h
  have hS : va_S A s.heap s.heap [] := va_S.rf
  have hP : va_P D vwCl [(h0, .inr (6, [.null, .int 0]))] s.heap := hP
  have hl := lv_entry ([.ref h0]) (n := 1) (Nat.le_of_ble_eq_true rfl)
  rw [lg_entry_eq]
  generalize (lg_sl ([.ref h0]) ++ List.replicate (1 - (lg_sl ([.ref h0])).length) Slot.unset).toArray = ls at hl ⊢
  have hl : lv_has ls 1 [(0, .ref h0)] := hl
  refine lv_aload_n hx hb dX6_init_0 rfl (lv_at hl 0 rfl) ?_
  refine W.objInit hx hb hown (hts (.methodLink RX6 3 objectInit) (by decide +kernel)) (hts (.instanceMethod objectInit) (by decide +kernel)) (hts (.code objectInit ⟨#[0xb1]⟩ 1 none) (by decide +kernel)) rfl (by rw [hml]; exact hl.1) rfl dX6_init_1 (Nat.le_of_ble_eq_true rfl) (Nat.le_of_ble_eq_true rfl) ?_
  refine W.eq (g2 := F0 m 4 ls []) rfl ?_
  refine lv_aload_n hx hb dX6_init_4 rfl (lv_at hl 0 rfl) ?_
  refine va_new (ci := 0) (fs := [.null, .null, .null, .int 0]) (C := RX0) (T := TX0) (N := 4) hx hb hts (fun _ h9 => List.mem_cons_of_mem _ (List.mem_append_left _ (List.mem_append_right _ h9))) tyX0 tyX0_ok hown (hts (.classLink RX6 9 RX0) (by decide +kernel)) (hts (.instantiable RX0 4) (by decide +kernel)) (hts (.initialized RX0) (by decide +kernel)) hK hP hD hS hA rfl (by decide +kernel) (Nat.le_of_ble_eq_true rfl) (Nat.le_of_ble_eq_true rfl) dX6_init_5 (fun o_1 H hP hD hS => ?_)
  have hP : va_P D vwCl [(h0, .inr (6, [.null, .int 0])), (o_1, .inr (0, [.null, .null, .null, .int 0]))] H := hP
  have hD : va_D A [(h0, .inr (6, [.null, .int 0])), (o_1, .inr (0, [.null, .null, .null, .int 0]))] := hD
  refine lv_dup hx hb dX6_init_8 rfl ?_
  have hFc := va_free (wc := [(o_1, .inr (0, [.null, .null, .null, .int 0]))]) hD hS hA [1] rfl
  refine va_callv (va_runIN (As := []) (rest := [.ref o_1, .ref h0]) ⟨hx, hb, hml, hown, hts⟩ (c_X0_init l D H.size (h0 := o_1)) (⟨va_cnB 0 hts gX6_init_X0_init_n11 rfl rfl rfl (hN.1 (RX6, 11, yX0_init) (by decide +kernel)) (hts (.initialized RX0) (by decide +kernel)) (by decide +kernel) ⟨Nat.le_of_ble_eq_true rfl, Nat.le_of_ble_eq_true rfl⟩, rfl, (hts (.instanceMethod yX0_init) (by decide +kernel))⟩) (kPreS hP (kD0 hD) hK hN [1] [] rfl rfl (by decide)) rfl rfl hl.1 rfl (lv_room (Nat.le_of_ble_eq_true rfl)) dX6_init_9 ⟨Nat.le_of_ble_eq_true rfl, Nat.le_of_ble_eq_true rfl⟩) hS (fun q _ h => hFc q h) hFc (fun u t H1 locs ht hvm hw hB hz1 hk1 hS => ?_)
  obtain ⟨k1_2, k2_3, k3_4, ck1_5, ck2_6, ck3_7⟩ := u
  obtain ⟨hP1, hD1, hK1⟩ := hB
  rw [ht] at hP1
  obtain ⟨hP, hD⟩ := va_join (wr := [(h0, .inr (6, [.null, .int 0]))]) (w1 := [(o_1, .inr (0, [.ref k1_2, .ref k2_3, .ref k3_4, .int 0])), (k1_2, .inl (ck1_5, 4, .inl (fun _ => 0))), (k2_3, .inl (ck2_6, 4, .inl (fun _ => 0))), (k3_4, .inl (ck3_7, 4, .inl (fun _ => 0)))]) hP hD [1] [0] rfl rfl (by decide) (by decide) hk1 hFc hP1 hD1
  have hK : va_K D vwCl [(ck1_5, .int), (ck2_6, .int), (ck3_7, .int)] s := hK.app (va_K.moved hvm.symm hK1)
  generalize H1 = H at hP hS ⊢
  have hP : va_P D vwCl [(h0, .inr (6, [.null, .int 0])), (o_1, .inr (0, [.ref k1_2, .ref k2_3, .ref k3_4, .int 0])), (k1_2, .inl (ck1_5, 4, .inl (fun _ => 0))), (k2_3, .inl (ck2_6, 4, .inl (fun _ => 0))), (k3_4, .inl (ck3_7, 4, .inl (fun _ => 0)))] H := hP
  have hD : va_D A [(h0, .inr (6, [.null, .int 0])), (o_1, .inr (0, [.ref k1_2, .ref k2_3, .ref k3_4, .int 0])), (k1_2, .inl (ck1_5, 4, .inl (fun _ => 0))), (k2_3, .inl (ck2_6, 4, .inl (fun _ => 0))), (k3_4, .inl (ck3_7, 4, .inl (fun _ => 0)))] := hD
  refine va_putF (D := D) (ci := 6) (v := .ref o_1) (ty := .object "FontRuns$FontRow") (C := RX6) (T := TX6) (N := 2) hx hb hts (fun _ h9 => List.mem_cons_of_mem _ (List.mem_append_right _ h9)) tyX6 tyX6_ok nmX6 hown hK hP hD hS 0 rfl rfl 0 (by decide) (hts (.fieldLink RX6 12 "FontRuns$TextReader" "told" "LFontRuns$FontRow;") (by decide +kernel)) (fun _ h9 => h9) rfl hin rfl (by decide +kernel) rfl rfl (Nat.le_of_ble_eq_true rfl) dX6_init_12 (fun H locs hP hD hS => ?_)
  have hP : va_P D vwCl [(h0, .inr (6, [.ref o_1, .int 0])), (o_1, .inr (0, [.ref k1_2, .ref k2_3, .ref k3_4, .int 0])), (k1_2, .inl (ck1_5, 4, .inl (fun _ => 0))), (k2_3, .inl (ck2_6, 4, .inl (fun _ => 0))), (k3_4, .inl (ck3_7, 4, .inl (fun _ => 0)))] H := hP
  have hD : va_D A [(h0, .inr (6, [.ref o_1, .int 0])), (o_1, .inr (0, [.ref k1_2, .ref k2_3, .ref k3_4, .int 0])), (k1_2, .inl (ck1_5, 4, .inl (fun _ => 0))), (k2_3, .inl (ck2_6, 4, .inl (fun _ => 0))), (k3_4, .inl (ck3_7, 4, .inl (fun _ => 0)))] := hD
  refine W.widen (k := 4) (n := 16) (Nat.le_of_ble_eq_true rfl) (Nat.le_of_ble_eq_true rfl) ?_
  have hP9 := hP.sub (ws' := [(h0, .inr (6, [.ref o_1, .int 0])), (o_1, .inr (0, [.ref k1_2, .ref k2_3, .ref k3_4, .int 0])), (k1_2, .inl (ck1_5, 4, .inl (fun _ => 0))), (k2_3, .inl (ck2_6, 4, .inl (fun _ => 0))), (k3_4, .inl (ck3_7, 4, .inl (fun _ => 0)))]) [0, 1, 2, 3, 4] rfl
  have hD9 := hD.sub (ws' := [(h0, .inr (6, [.ref o_1, .int 0])), (o_1, .inr (0, [.ref k1_2, .ref k2_3, .ref k3_4, .int 0])), (k1_2, .inl (ck1_5, 4, .inl (fun _ => 0))), (k2_3, .inl (ck2_6, 4, .inl (fun _ => 0))), (k3_4, .inl (ck3_7, 4, .inl (fun _ => 0)))]) [0, 1, 2, 3, 4] (by decide) rfl
  have hK9 := hK.sub (tys' := [(ck1_5, .int), (ck2_6, .int), (ck3_7, .int)]) [0, 1, 2] rfl
  exact W.vret hx hb hr (fun t ht hW => ⟨⟨(o_1, k1_2, k2_3, k3_4, ck1_5, ck2_6, ck3_7), rfl, trivial, by rw [ht]; exact hP9, hD9, va_K.moved hW.alike hK9⟩, hS.F ht⟩) hS.2.2 dX6_init_15
theorem dX2_init_0 : decode cX2_init 0 = .ok (.aload_n 0, 1) := by decide +kernel
theorem dX2_init_1 : decode cX2_init 1 = .ok (.invokespecial 3, 3) := by decide +kernel
theorem dX2_init_4 : decode cX2_init 4 = .ok (.aload_n 0, 1) := by decide +kernel
theorem dX2_init_5 : decode cX2_init 5 = .ok (.bipush 8, 2) := by decide +kernel
theorem dX2_init_7 : decode cX2_init 7 = .ok (.newarray .int, 2) := by decide +kernel
theorem dX2_init_9 : decode cX2_init 9 = .ok (.putfield 9, 3) := by decide +kernel
theorem dX2_init_12 : decode cX2_init 12 = .ok (.aload_n 0, 1) := by decide +kernel
theorem dX2_init_13 : decode cX2_init 13 = .ok (.bipush 8, 2) := by decide +kernel
theorem dX2_init_15 : decode cX2_init 15 = .ok (.iconst 4, 1) := by decide +kernel
theorem dX2_init_16 : decode cX2_init 16 = .ok (.multianewarray 15 2, 4) := by decide +kernel
theorem dX2_init_20 : decode cX2_init 20 = .ok (.putfield 17, 3) := by decide +kernel
theorem dX2_init_23 : decode cX2_init 23 = .ok (.return_, 1) := by decide +kernel
set_option maxHeartbeats 4000000 in
set_option maxRecDepth 100000 in
theorem c_X2_init (l : Launch) (D : va_G) (sz : Nat) (h0 : Nat) : Met l yX2_init wsX2_init ({ frames := 1, cells := 10, slots := 48, locals := 20 }) (kPre [.ref h0] D [(h0, .inr (2, [.int 0, .null, .null]))] [] sz) (va_Qv (fun (_ : Nat × Nat × ClassId × ClassId × (Nat → Nat)) => True) (fun u t => va_P D vwCl (([(h0, .inr (2, [.int 0, .ref u.1, .ref u.2.1])), (u.1, .inl (u.2.2.1, 8, .inl (fun _ => 0))), (u.2.1, .inl (u.2.2.2.1, 8, .inr (.inr (.inr (.inr (fun i => if i < 8 then some (u.2.2.2.2 i) else none))))))] : va_W) ++ kR 8 u.2.2.2.2 u.2.2.1) t.heap ∧ va_D (va_A [(h0, .inr (2, [.int 0, .null, .null]))] sz) (([(h0, .inr (2, [.int 0, .ref u.1, .ref u.2.1])), (u.1, .inl (u.2.2.1, 8, .inl (fun _ => 0))), (u.2.1, .inl (u.2.2.2.1, 8, .inr (.inr (.inr (.inr (fun i => if i < 8 then some (u.2.2.2.2 i) else none))))))] : va_W) ++ kR 8 u.2.2.2.2 u.2.2.1) ∧ va_K D vwCl [(u.2.2.1, .int), (u.2.2.2.1, .array .int)] t) (va_A [(h0, .inr (2, [.int 0, .null, .null]))] sz)) 10 48 (va_A [(h0, .inr (2, [.int 0, .null, .null]))] sz) := by
  refine Met.ofW (cc := cX2_init) (maxL := 1) (ret := none) (by decide) rfl ?_
  intro p e s m args below meth c s₁ B hml hv
  obtain ⟨rfl, hsz, hP, hK, hD0, hN⟩ := hv
  have hx := B.exec
  have hb := B.bytes
  have hr := B.returns
  have hts := atoms_spec (ws := wsX2_init) B.pre
  have hown : s.vm.findClass RX2 = some m.cls := findClass_of_methodNamed B.named
  have hlocks := B.notSynchronized
  have hin : meth.name = "<init>" := (name_of_methodNamed B.named B.method).1
  subst hsz
  have hD := hD0.self (sz := s.heap.size)
  generalize hAe : va_A [(h0, .inr (2, [.int 0, .null, .null]))] s.heap.size = A at hD ⊢
  have hA : ∀ q : Nat, s.heap.size ≤ q → A q := fun q h => by rw [← hAe]; exact Or.inr h
  have hS : va_S A s.heap s.heap [] := va_S.rf
  have hP : va_P D vwCl [(h0, .inr (2, [.int 0, .null, .null]))] s.heap := hP
  have hl := lv_entry ([.ref h0]) (n := 1) (Nat.le_of_ble_eq_true rfl)
  rw [lg_entry_eq]
  generalize (lg_sl ([.ref h0]) ++ List.replicate (1 - (lg_sl ([.ref h0])).length) Slot.unset).toArray = ls at hl ⊢
  have hl : lv_has ls 1 [(0, .ref h0)] := hl
  refine lv_aload_n hx hb dX2_init_0 rfl (lv_at hl 0 rfl) ?_
  refine W.objInit hx hb hown (hts (.methodLink RX2 3 objectInit) (by decide +kernel)) (hts (.instanceMethod objectInit) (by decide +kernel)) (hts (.code objectInit ⟨#[0xb1]⟩ 1 none) (by decide +kernel)) rfl (by rw [hml]; exact hl.1) rfl dX2_init_1 (Nat.le_of_ble_eq_true rfl) (Nat.le_of_ble_eq_true rfl) ?_
  refine W.eq (g2 := F0 m 4 ls []) rfl ?_
  refine lv_aload_n hx hb dX2_init_4 rfl (lv_at hl 0 rfl) ?_
  refine lv_bipush (v := 8) hx hb dX2_init_5 (by decide) ?_
  refine va_newa (atype := .int) (ty := .int) (a0 := (8, .inl (fun _ => 0))) (N' := 8) hx hb (hts (.arrayClass .int) (by decide +kernel)) rfl hK hP hD hS hA (fun _ => rfl) (by decide) (by decide) (Nat.le_of_ble_eq_true rfl) (Nat.le_of_ble_eq_true rfl) (Nat.le_of_ble_eq_true rfl) dX2_init_7 (fun a_1 cA_2 H hK hP hD hS => ?_)
  have hK : va_K D vwCl [(cA_2, .int)] s := hK
  have hP : va_P D vwCl [(h0, .inr (2, [.int 0, .null, .null])), (a_1, .inl (cA_2, 8, .inl (fun _ => 0)))] H := hP
  have hD : va_D A [(h0, .inr (2, [.int 0, .null, .null])), (a_1, .inl (cA_2, 8, .inl (fun _ => 0)))] := hD
  refine va_putF (D := D) (ci := 2) (v := .ref a_1) (ty := .array .int) (C := RX2) (T := TX2) (N := 3) hx hb hts (fun _ h9 => List.mem_cons_of_mem _ (List.mem_append_right _ h9)) tyX2 tyX2_ok nmX2 hown hK hP hD hS 0 rfl rfl 1 (by decide) (hts (.fieldLink RX2 9 "FontRuns$Readings" "value" "[I") (by decide +kernel)) (fun _ h9 => h9) rfl hin rfl (by decide +kernel) rfl rfl (Nat.le_of_ble_eq_true rfl) dX2_init_9 (fun H locs hP hD hS => ?_)
  have hP : va_P D vwCl [(h0, .inr (2, [.int 0, .ref a_1, .null])), (a_1, .inl (cA_2, 8, .inl (fun _ => 0)))] H := hP
  have hD : va_D A [(h0, .inr (2, [.int 0, .ref a_1, .null])), (a_1, .inl (cA_2, 8, .inl (fun _ => 0)))] := hD
  refine lv_aload_n hx hb dX2_init_12 rfl (lv_at hl 0 rfl) ?_
  refine lv_bipush (v := 8) hx hb dX2_init_13 (by decide) ?_
  refine lv_iconst (v := 4) hx hb dX2_init_15 (by decide) ?_
  obtain ⟨cy, hcy⟩ := hN.2.2.2
  have ecy : cA_2 = cy := kcy hK hcy 0 rfl
  subst ecy
  refine va_mna (X := [(h0, .inr (2, [.int 0, .ref a_1, .null])), (a_1, .inl (cA_2, 8, .inl (fun _ => 0)))]) (L := []) (f := fun _ => .inr (0, [])) (ty := .int) (cy := cA_2) (N' := 8) (K' := 4) (z := (4, .inl (fun _ => 0))) hx hb hown (show (Cond.classLink RX2 15 ("[" ++ (FieldType.array .int).toString)).before _ s = true from hts _ (by decide +kernel)) hN.2.2.1 (hts (.arrayClass .int) (by decide +kernel)) hcy hK hP hD hS hA (by decide) (by decide) (by decide) (by decide) (Nat.le_of_ble_eq_true rfl) (Nat.le_of_ble_eq_true rfl) (Nat.le_of_ble_eq_true rfl) rfl rfl (Nat.le_of_ble_eq_true rfl) (Nat.le_of_ble_eq_true rfl) (fun c9 => kinner c9 4) dX2_init_16 (fun a_3 r_5 cA_4 H _ _ hK hP hD hS => ?_)
  rw [kpl] at hP hD
  have hK : va_K D vwCl [(cA_2, .int), (cA_4, .array .int)] s := hK
  have hP : va_P D vwCl (([(h0, .inr (2, [.int 0, .ref a_1, .null])), (a_1, .inl (cA_2, 8, .inl (fun _ => 0))), (a_3, .inl (cA_4, 8, .inr (.inr (.inr (.inr (fun i => if i < 8 then some (r_5 i) else none))))))] : va_W) ++ kR 8 r_5 cA_2) H := hP
  have hD : va_D A (([(h0, .inr (2, [.int 0, .ref a_1, .null])), (a_1, .inl (cA_2, 8, .inl (fun _ => 0))), (a_3, .inl (cA_4, 8, .inr (.inr (.inr (.inr (fun i => if i < 8 then some (r_5 i) else none))))))] : va_W) ++ kR 8 r_5 cA_2) := hD
  refine va_putF (D := D) (ci := 2) (v := .ref a_3) (ty := .array (.array .int)) (C := RX2) (T := TX2) (N := 3) hx hb hts (fun _ h9 => List.mem_cons_of_mem _ (List.mem_append_right _ h9)) tyX2 tyX2_ok nmX2 hown hK hP hD hS 0 rfl rfl 2 (by decide) (hts (.fieldLink RX2 17 "FontRuns$Readings" "clusters" "[[I") (by decide +kernel)) (fun _ h9 => h9) rfl hin rfl (by decide +kernel) rfl rfl (Nat.le_of_ble_eq_true rfl) dX2_init_20 (fun H locs hP hD hS => ?_)
  have hP : va_P D vwCl (([(h0, .inr (2, [.int 0, .ref a_1, .ref a_3])), (a_1, .inl (cA_2, 8, .inl (fun _ => 0))), (a_3, .inl (cA_4, 8, .inr (.inr (.inr (.inr (fun i => if i < 8 then some (r_5 i) else none))))))] : va_W) ++ kR 8 r_5 cA_2) H := hP
  have hD : va_D A (([(h0, .inr (2, [.int 0, .ref a_1, .ref a_3])), (a_1, .inl (cA_2, 8, .inl (fun _ => 0))), (a_3, .inl (cA_4, 8, .inr (.inr (.inr (.inr (fun i => if i < 8 then some (r_5 i) else none))))))] : va_W) ++ kR 8 r_5 cA_2) := hD
  refine W.widen (k := 10) (n := 48) (Nat.le_of_ble_eq_true rfl) (Nat.le_of_ble_eq_true rfl) ?_
  have hP9 : va_P D vwCl (([(h0, .inr (2, [.int 0, .ref a_1, .ref a_3])), (a_1, .inl (cA_2, 8, .inl (fun _ => 0))), (a_3, .inl (cA_4, 8, .inr (.inr (.inr (.inr (fun i => if i < 8 then some (r_5 i) else none))))))] : va_W) ++ kR 8 r_5 cA_2) H := hP.part [0, 1, 2] rfl
  have hD9 : va_D A (([(h0, .inr (2, [.int 0, .ref a_1, .ref a_3])), (a_1, .inl (cA_2, 8, .inl (fun _ => 0))), (a_3, .inl (cA_4, 8, .inr (.inr (.inr (.inr (fun i => if i < 8 then some (r_5 i) else none))))))] : va_W) ++ kR 8 r_5 cA_2) := hD.part [0, 1, 2] (by decide) rfl
  have hK9 := hK.sub (tys' := [(cA_2, .int), (cA_4, .array .int)]) [0, 1] rfl
  exact W.vret hx hb hr (fun t ht hW => ⟨⟨(a_1, a_3, cA_2, cA_4, r_5), rfl, trivial, by rw [ht]; exact hP9, hD9, va_K.moved hW.alike hK9⟩, hS.F ht⟩) hS.2.2 dX2_init_23
theorem dX4_init_0 : decode cX4_init 0 = .ok (.aload_n 0, 1) := by decide +kernel
theorem dX4_init_1 : decode cX4_init 1 = .ok (.invokespecial 3, 3) := by decide +kernel
theorem dX4_init_4 : decode cX4_init 4 = .ok (.aload_n 0, 1) := by decide +kernel
theorem dX4_init_5 : decode cX4_init 5 = .ok (.bipush 24, 2) := by decide +kernel
theorem dX4_init_7 : decode cX4_init 7 = .ok (.newarray .int, 2) := by decide +kernel
theorem dX4_init_9 : decode cX4_init 9 = .ok (.putfield 9, 3) := by decide +kernel
theorem dX4_init_12 : decode cX4_init 12 = .ok (.aload_n 0, 1) := by decide +kernel
theorem dX4_init_13 : decode cX4_init 13 = .ok (.bipush 24, 2) := by decide +kernel
theorem dX4_init_15 : decode cX4_init 15 = .ok (.newarray .int, 2) := by decide +kernel
theorem dX4_init_17 : decode cX4_init 17 = .ok (.putfield 15, 3) := by decide +kernel
theorem dX4_init_20 : decode cX4_init 20 = .ok (.aload_n 0, 1) := by decide +kernel
theorem dX4_init_21 : decode cX4_init 21 = .ok (.bipush 24, 2) := by decide +kernel
theorem dX4_init_23 : decode cX4_init 23 = .ok (.newarray .int, 2) := by decide +kernel
theorem dX4_init_25 : decode cX4_init 25 = .ok (.putfield 18, 3) := by decide +kernel
theorem dX4_init_28 : decode cX4_init 28 = .ok (.aload_n 0, 1) := by decide +kernel
theorem dX4_init_29 : decode cX4_init 29 = .ok (.bipush 24, 2) := by decide +kernel
theorem dX4_init_31 : decode cX4_init 31 = .ok (.newarray .int, 2) := by decide +kernel
theorem dX4_init_33 : decode cX4_init 33 = .ok (.putfield 21, 3) := by decide +kernel
theorem dX4_init_36 : decode cX4_init 36 = .ok (.aload_n 0, 1) := by decide +kernel
theorem dX4_init_37 : decode cX4_init 37 = .ok (.bipush 24, 2) := by decide +kernel
theorem dX4_init_39 : decode cX4_init 39 = .ok (.newarray .int, 2) := by decide +kernel
theorem dX4_init_41 : decode cX4_init 41 = .ok (.putfield 24, 3) := by decide +kernel
theorem dX4_init_44 : decode cX4_init 44 = .ok (.aload_n 0, 1) := by decide +kernel
theorem dX4_init_45 : decode cX4_init 45 = .ok (.bipush 24, 2) := by decide +kernel
theorem dX4_init_47 : decode cX4_init 47 = .ok (.newarray .int, 2) := by decide +kernel
theorem dX4_init_49 : decode cX4_init 49 = .ok (.putfield 27, 3) := by decide +kernel
theorem dX4_init_52 : decode cX4_init 52 = .ok (.aload_n 0, 1) := by decide +kernel
theorem dX4_init_53 : decode cX4_init 53 = .ok (.bipush 24, 2) := by decide +kernel
theorem dX4_init_55 : decode cX4_init 55 = .ok (.iconst 4, 1) := by decide +kernel
theorem dX4_init_56 : decode cX4_init 56 = .ok (.multianewarray 30 2, 4) := by decide +kernel
theorem dX4_init_60 : decode cX4_init 60 = .ok (.putfield 32, 3) := by decide +kernel
theorem dX4_init_63 : decode cX4_init 63 = .ok (.return_, 1) := by decide +kernel
set_option maxHeartbeats 4000000 in
set_option maxRecDepth 100000 in
theorem c_X4_init (l : Launch) (D : va_G) (sz : Nat) (h0 : Nat) : Met l yX4_init wsX4_init ({ frames := 1, cells := 31, slots := 264, locals := 20 }) (kPre [.ref h0] D [(h0, .inr (4, [.null, .null, .null, .null, .null, .int 0, .int 0, .int 0, .null, .null]))] [] sz) (va_Qv (fun (_ : Nat × Nat × Nat × Nat × Nat × Nat × Nat × ClassId × ClassId × ClassId × ClassId × ClassId × ClassId × ClassId × (Nat → Nat)) => True) (fun u t => va_P D vwCl (([(h0, .inr (4, [.ref u.1, .ref u.2.1, .ref u.2.2.1, .ref u.2.2.2.1, .ref u.2.2.2.2.1, .int 0, .int 0, .int 0, .ref u.2.2.2.2.2.1, .ref u.2.2.2.2.2.2.1])), (u.1, .inl (u.2.2.2.2.2.2.2.1, 24, .inl (fun _ => 0))), (u.2.1, .inl (u.2.2.2.2.2.2.2.2.1, 24, .inl (fun _ => 0))), (u.2.2.1, .inl (u.2.2.2.2.2.2.2.2.2.1, 24, .inl (fun _ => 0))), (u.2.2.2.1, .inl (u.2.2.2.2.2.2.2.2.2.2.1, 24, .inl (fun _ => 0))), (u.2.2.2.2.1, .inl (u.2.2.2.2.2.2.2.2.2.2.2.1, 24, .inl (fun _ => 0))), (u.2.2.2.2.2.1, .inl (u.2.2.2.2.2.2.2.2.2.2.2.2.1, 24, .inl (fun _ => 0))), (u.2.2.2.2.2.2.1, .inl (u.2.2.2.2.2.2.2.2.2.2.2.2.2.1, 24, .inr (.inr (.inr (.inr (fun i => if i < 24 then some (u.2.2.2.2.2.2.2.2.2.2.2.2.2.2 i) else none))))))] : va_W) ++ kR 24 u.2.2.2.2.2.2.2.2.2.2.2.2.2.2 u.2.2.2.2.2.2.2.1) t.heap ∧ va_D (va_A [(h0, .inr (4, [.null, .null, .null, .null, .null, .int 0, .int 0, .int 0, .null, .null]))] sz) (([(h0, .inr (4, [.ref u.1, .ref u.2.1, .ref u.2.2.1, .ref u.2.2.2.1, .ref u.2.2.2.2.1, .int 0, .int 0, .int 0, .ref u.2.2.2.2.2.1, .ref u.2.2.2.2.2.2.1])), (u.1, .inl (u.2.2.2.2.2.2.2.1, 24, .inl (fun _ => 0))), (u.2.1, .inl (u.2.2.2.2.2.2.2.2.1, 24, .inl (fun _ => 0))), (u.2.2.1, .inl (u.2.2.2.2.2.2.2.2.2.1, 24, .inl (fun _ => 0))), (u.2.2.2.1, .inl (u.2.2.2.2.2.2.2.2.2.2.1, 24, .inl (fun _ => 0))), (u.2.2.2.2.1, .inl (u.2.2.2.2.2.2.2.2.2.2.2.1, 24, .inl (fun _ => 0))), (u.2.2.2.2.2.1, .inl (u.2.2.2.2.2.2.2.2.2.2.2.2.1, 24, .inl (fun _ => 0))), (u.2.2.2.2.2.2.1, .inl (u.2.2.2.2.2.2.2.2.2.2.2.2.2.1, 24, .inr (.inr (.inr (.inr (fun i => if i < 24 then some (u.2.2.2.2.2.2.2.2.2.2.2.2.2.2 i) else none))))))] : va_W) ++ kR 24 u.2.2.2.2.2.2.2.2.2.2.2.2.2.2 u.2.2.2.2.2.2.2.1) ∧ va_K D vwCl [(u.2.2.2.2.2.2.2.1, .int), (u.2.2.2.2.2.2.2.2.1, .int), (u.2.2.2.2.2.2.2.2.2.1, .int), (u.2.2.2.2.2.2.2.2.2.2.1, .int), (u.2.2.2.2.2.2.2.2.2.2.2.1, .int), (u.2.2.2.2.2.2.2.2.2.2.2.2.1, .int), (u.2.2.2.2.2.2.2.2.2.2.2.2.2.1, .array .int)] t) (va_A [(h0, .inr (4, [.null, .null, .null, .null, .null, .int 0, .int 0, .int 0, .null, .null]))] sz)) 31 264 (va_A [(h0, .inr (4, [.null, .null, .null, .null, .null, .int 0, .int 0, .int 0, .null, .null]))] sz) := by
  refine Met.ofW (cc := cX4_init) (maxL := 1) (ret := none) (by decide) rfl ?_
  intro p e s m args below meth c s₁ B hml hv
  obtain ⟨rfl, hsz, hP, hK, hD0, hN⟩ := hv
  have hx := B.exec
  have hb := B.bytes
  have hr := B.returns
  have hts := atoms_spec (ws := wsX4_init) B.pre
  have hown : s.vm.findClass RX4 = some m.cls := findClass_of_methodNamed B.named
  have hlocks := B.notSynchronized
  have hin : meth.name = "<init>" := (name_of_methodNamed B.named B.method).1
  subst hsz
  have hD := hD0.self (sz := s.heap.size)
  generalize hAe : va_A [(h0, .inr (4, [.null, .null, .null, .null, .null, .int 0, .int 0, .int 0, .null, .null]))] s.heap.size = A at hD ⊢
  have hA : ∀ q : Nat, s.heap.size ≤ q → A q := fun q h => by rw [← hAe]; exact Or.inr h
  have hS : va_S A s.heap s.heap [] := va_S.rf
  have hP : va_P D vwCl [(h0, .inr (4, [.null, .null, .null, .null, .null, .int 0, .int 0, .int 0, .null, .null]))] s.heap := hP
  have hl := lv_entry ([.ref h0]) (n := 1) (Nat.le_of_ble_eq_true rfl)
  rw [lg_entry_eq]
  generalize (lg_sl ([.ref h0]) ++ List.replicate (1 - (lg_sl ([.ref h0])).length) Slot.unset).toArray = ls at hl ⊢
  have hl : lv_has ls 1 [(0, .ref h0)] := hl
  refine lv_aload_n hx hb dX4_init_0 rfl (lv_at hl 0 rfl) ?_
  refine W.objInit hx hb hown (hts (.methodLink RX4 3 objectInit) (by decide +kernel)) (hts (.instanceMethod objectInit) (by decide +kernel)) (hts (.code objectInit ⟨#[0xb1]⟩ 1 none) (by decide +kernel)) rfl (by rw [hml]; exact hl.1) rfl dX4_init_1 (Nat.le_of_ble_eq_true rfl) (Nat.le_of_ble_eq_true rfl) ?_
  refine W.eq (g2 := F0 m 4 ls []) rfl ?_
  refine lv_aload_n hx hb dX4_init_4 rfl (lv_at hl 0 rfl) ?_
  refine lv_bipush (v := 24) hx hb dX4_init_5 (by decide) ?_
  refine va_newa (atype := .int) (ty := .int) (a0 := (24, .inl (fun _ => 0))) (N' := 24) hx hb (hts (.arrayClass .int) (by decide +kernel)) rfl hK hP hD hS hA (fun _ => rfl) (by decide) (by decide) (Nat.le_of_ble_eq_true rfl) (Nat.le_of_ble_eq_true rfl) (Nat.le_of_ble_eq_true rfl) dX4_init_7 (fun a_1 cA_2 H hK hP hD hS => ?_)
  have hK : va_K D vwCl [(cA_2, .int)] s := hK
  have hP : va_P D vwCl [(h0, .inr (4, [.null, .null, .null, .null, .null, .int 0, .int 0, .int 0, .null, .null])), (a_1, .inl (cA_2, 24, .inl (fun _ => 0)))] H := hP
  have hD : va_D A [(h0, .inr (4, [.null, .null, .null, .null, .null, .int 0, .int 0, .int 0, .null, .null])), (a_1, .inl (cA_2, 24, .inl (fun _ => 0)))] := hD
  refine va_putF (D := D) (ci := 4) (v := .ref a_1) (ty := .array .int) (C := RX4) (T := TX4) (N := 10) hx hb hts (fun _ h9 => List.mem_cons_of_mem _ (List.mem_append_right _ h9)) tyX4 tyX4_ok nmX4 hown hK hP hD hS 0 rfl rfl 0 (by decide) (hts (.fieldLink RX4 9 "FontRuns$Setting" "first" "[I") (by decide +kernel)) (fun _ h9 => h9) rfl hin rfl (by decide +kernel) rfl rfl (Nat.le_of_ble_eq_true rfl) dX4_init_9 (fun H locs hP hD hS => ?_)
  have hP : va_P D vwCl [(h0, .inr (4, [.ref a_1, .null, .null, .null, .null, .int 0, .int 0, .int 0, .null, .null])), (a_1, .inl (cA_2, 24, .inl (fun _ => 0)))] H := hP
  have hD : va_D A [(h0, .inr (4, [.ref a_1, .null, .null, .null, .null, .int 0, .int 0, .int 0, .null, .null])), (a_1, .inl (cA_2, 24, .inl (fun _ => 0)))] := hD
  refine lv_aload_n hx hb dX4_init_12 rfl (lv_at hl 0 rfl) ?_
  refine lv_bipush (v := 24) hx hb dX4_init_13 (by decide) ?_
  refine va_newa (atype := .int) (ty := .int) (a0 := (24, .inl (fun _ => 0))) (N' := 24) hx hb (hts (.arrayClass .int) (by decide +kernel)) rfl hK hP hD hS hA (fun _ => rfl) (by decide) (by decide) (Nat.le_of_ble_eq_true rfl) (Nat.le_of_ble_eq_true rfl) (Nat.le_of_ble_eq_true rfl) dX4_init_15 (fun a_3 cA_4 H hK hP hD hS => ?_)
  have hK : va_K D vwCl [(cA_2, .int), (cA_4, .int)] s := hK
  have hP : va_P D vwCl [(h0, .inr (4, [.ref a_1, .null, .null, .null, .null, .int 0, .int 0, .int 0, .null, .null])), (a_1, .inl (cA_2, 24, .inl (fun _ => 0))), (a_3, .inl (cA_4, 24, .inl (fun _ => 0)))] H := hP
  have hD : va_D A [(h0, .inr (4, [.ref a_1, .null, .null, .null, .null, .int 0, .int 0, .int 0, .null, .null])), (a_1, .inl (cA_2, 24, .inl (fun _ => 0))), (a_3, .inl (cA_4, 24, .inl (fun _ => 0)))] := hD
  refine va_putF (D := D) (ci := 4) (v := .ref a_3) (ty := .array .int) (C := RX4) (T := TX4) (N := 10) hx hb hts (fun _ h9 => List.mem_cons_of_mem _ (List.mem_append_right _ h9)) tyX4 tyX4_ok nmX4 hown hK hP hD hS 0 rfl rfl 1 (by decide) (hts (.fieldLink RX4 15 "FontRuns$Setting" "length" "[I") (by decide +kernel)) (fun _ h9 => h9) rfl hin rfl (by decide +kernel) rfl rfl (Nat.le_of_ble_eq_true rfl) dX4_init_17 (fun H locs hP hD hS => ?_)
  have hP : va_P D vwCl [(h0, .inr (4, [.ref a_1, .ref a_3, .null, .null, .null, .int 0, .int 0, .int 0, .null, .null])), (a_1, .inl (cA_2, 24, .inl (fun _ => 0))), (a_3, .inl (cA_4, 24, .inl (fun _ => 0)))] H := hP
  have hD : va_D A [(h0, .inr (4, [.ref a_1, .ref a_3, .null, .null, .null, .int 0, .int 0, .int 0, .null, .null])), (a_1, .inl (cA_2, 24, .inl (fun _ => 0))), (a_3, .inl (cA_4, 24, .inl (fun _ => 0)))] := hD
  refine lv_aload_n hx hb dX4_init_20 rfl (lv_at hl 0 rfl) ?_
  refine lv_bipush (v := 24) hx hb dX4_init_21 (by decide) ?_
  refine va_newa (atype := .int) (ty := .int) (a0 := (24, .inl (fun _ => 0))) (N' := 24) hx hb (hts (.arrayClass .int) (by decide +kernel)) rfl hK hP hD hS hA (fun _ => rfl) (by decide) (by decide) (Nat.le_of_ble_eq_true rfl) (Nat.le_of_ble_eq_true rfl) (Nat.le_of_ble_eq_true rfl) dX4_init_23 (fun a_5 cA_6 H hK hP hD hS => ?_)
  have hK : va_K D vwCl [(cA_2, .int), (cA_4, .int), (cA_6, .int)] s := hK
  have hP : va_P D vwCl [(h0, .inr (4, [.ref a_1, .ref a_3, .null, .null, .null, .int 0, .int 0, .int 0, .null, .null])), (a_1, .inl (cA_2, 24, .inl (fun _ => 0))), (a_3, .inl (cA_4, 24, .inl (fun _ => 0))), (a_5, .inl (cA_6, 24, .inl (fun _ => 0)))] H := hP
  have hD : va_D A [(h0, .inr (4, [.ref a_1, .ref a_3, .null, .null, .null, .int 0, .int 0, .int 0, .null, .null])), (a_1, .inl (cA_2, 24, .inl (fun _ => 0))), (a_3, .inl (cA_4, 24, .inl (fun _ => 0))), (a_5, .inl (cA_6, 24, .inl (fun _ => 0)))] := hD
  refine va_putF (D := D) (ci := 4) (v := .ref a_5) (ty := .array .int) (C := RX4) (T := TX4) (N := 10) hx hb hts (fun _ h9 => List.mem_cons_of_mem _ (List.mem_append_right _ h9)) tyX4 tyX4_ok nmX4 hown hK hP hD hS 0 rfl rfl 2 (by decide) (hts (.fieldLink RX4 18 "FontRuns$Setting" "fitting" "[I") (by decide +kernel)) (fun _ h9 => h9) rfl hin rfl (by decide +kernel) rfl rfl (Nat.le_of_ble_eq_true rfl) dX4_init_25 (fun H locs hP hD hS => ?_)
  have hP : va_P D vwCl [(h0, .inr (4, [.ref a_1, .ref a_3, .ref a_5, .null, .null, .int 0, .int 0, .int 0, .null, .null])), (a_1, .inl (cA_2, 24, .inl (fun _ => 0))), (a_3, .inl (cA_4, 24, .inl (fun _ => 0))), (a_5, .inl (cA_6, 24, .inl (fun _ => 0)))] H := hP
  have hD : va_D A [(h0, .inr (4, [.ref a_1, .ref a_3, .ref a_5, .null, .null, .int 0, .int 0, .int 0, .null, .null])), (a_1, .inl (cA_2, 24, .inl (fun _ => 0))), (a_3, .inl (cA_4, 24, .inl (fun _ => 0))), (a_5, .inl (cA_6, 24, .inl (fun _ => 0)))] := hD
  refine lv_aload_n hx hb dX4_init_28 rfl (lv_at hl 0 rfl) ?_
  refine lv_bipush (v := 24) hx hb dX4_init_29 (by decide) ?_
  refine va_newa (atype := .int) (ty := .int) (a0 := (24, .inl (fun _ => 0))) (N' := 24) hx hb (hts (.arrayClass .int) (by decide +kernel)) rfl hK hP hD hS hA (fun _ => rfl) (by decide) (by decide) (Nat.le_of_ble_eq_true rfl) (Nat.le_of_ble_eq_true rfl) (Nat.le_of_ble_eq_true rfl) dX4_init_31 (fun a_7 cA_8 H hK hP hD hS => ?_)
  have hK : va_K D vwCl [(cA_2, .int), (cA_4, .int), (cA_6, .int), (cA_8, .int)] s := hK
  have hP : va_P D vwCl [(h0, .inr (4, [.ref a_1, .ref a_3, .ref a_5, .null, .null, .int 0, .int 0, .int 0, .null, .null])), (a_1, .inl (cA_2, 24, .inl (fun _ => 0))), (a_3, .inl (cA_4, 24, .inl (fun _ => 0))), (a_5, .inl (cA_6, 24, .inl (fun _ => 0))), (a_7, .inl (cA_8, 24, .inl (fun _ => 0)))] H := hP
  have hD : va_D A [(h0, .inr (4, [.ref a_1, .ref a_3, .ref a_5, .null, .null, .int 0, .int 0, .int 0, .null, .null])), (a_1, .inl (cA_2, 24, .inl (fun _ => 0))), (a_3, .inl (cA_4, 24, .inl (fun _ => 0))), (a_5, .inl (cA_6, 24, .inl (fun _ => 0))), (a_7, .inl (cA_8, 24, .inl (fun _ => 0)))] := hD
  refine va_putF (D := D) (ci := 4) (v := .ref a_7) (ty := .array .int) (C := RX4) (T := TX4) (N := 10) hx hb hts (fun _ h9 => List.mem_cons_of_mem _ (List.mem_append_right _ h9)) tyX4 tyX4_ok nmX4 hown hK hP hD hS 0 rfl rfl 3 (by decide) (hts (.fieldLink RX4 21 "FontRuns$Setting" "chosen" "[I") (by decide +kernel)) (fun _ h9 => h9) rfl hin rfl (by decide +kernel) rfl rfl (Nat.le_of_ble_eq_true rfl) dX4_init_33 (fun H locs hP hD hS => ?_)
  have hP : va_P D vwCl [(h0, .inr (4, [.ref a_1, .ref a_3, .ref a_5, .ref a_7, .null, .int 0, .int 0, .int 0, .null, .null])), (a_1, .inl (cA_2, 24, .inl (fun _ => 0))), (a_3, .inl (cA_4, 24, .inl (fun _ => 0))), (a_5, .inl (cA_6, 24, .inl (fun _ => 0))), (a_7, .inl (cA_8, 24, .inl (fun _ => 0)))] H := hP
  have hD : va_D A [(h0, .inr (4, [.ref a_1, .ref a_3, .ref a_5, .ref a_7, .null, .int 0, .int 0, .int 0, .null, .null])), (a_1, .inl (cA_2, 24, .inl (fun _ => 0))), (a_3, .inl (cA_4, 24, .inl (fun _ => 0))), (a_5, .inl (cA_6, 24, .inl (fun _ => 0))), (a_7, .inl (cA_8, 24, .inl (fun _ => 0)))] := hD
  refine lv_aload_n hx hb dX4_init_36 rfl (lv_at hl 0 rfl) ?_
  refine lv_bipush (v := 24) hx hb dX4_init_37 (by decide) ?_
  refine va_newa (atype := .int) (ty := .int) (a0 := (24, .inl (fun _ => 0))) (N' := 24) hx hb (hts (.arrayClass .int) (by decide +kernel)) rfl hK hP hD hS hA (fun _ => rfl) (by decide) (by decide) (Nat.le_of_ble_eq_true rfl) (Nat.le_of_ble_eq_true rfl) (Nat.le_of_ble_eq_true rfl) dX4_init_39 (fun a_9 cA_10 H hK hP hD hS => ?_)
  have hK : va_K D vwCl [(cA_2, .int), (cA_4, .int), (cA_6, .int), (cA_8, .int), (cA_10, .int)] s := hK
  have hP : va_P D vwCl [(h0, .inr (4, [.ref a_1, .ref a_3, .ref a_5, .ref a_7, .null, .int 0, .int 0, .int 0, .null, .null])), (a_1, .inl (cA_2, 24, .inl (fun _ => 0))), (a_3, .inl (cA_4, 24, .inl (fun _ => 0))), (a_5, .inl (cA_6, 24, .inl (fun _ => 0))), (a_7, .inl (cA_8, 24, .inl (fun _ => 0))), (a_9, .inl (cA_10, 24, .inl (fun _ => 0)))] H := hP
  have hD : va_D A [(h0, .inr (4, [.ref a_1, .ref a_3, .ref a_5, .ref a_7, .null, .int 0, .int 0, .int 0, .null, .null])), (a_1, .inl (cA_2, 24, .inl (fun _ => 0))), (a_3, .inl (cA_4, 24, .inl (fun _ => 0))), (a_5, .inl (cA_6, 24, .inl (fun _ => 0))), (a_7, .inl (cA_8, 24, .inl (fun _ => 0))), (a_9, .inl (cA_10, 24, .inl (fun _ => 0)))] := hD
  refine va_putF (D := D) (ci := 4) (v := .ref a_9) (ty := .array .int) (C := RX4) (T := TX4) (N := 10) hx hb hts (fun _ h9 => List.mem_cons_of_mem _ (List.mem_append_right _ h9)) tyX4 tyX4_ok nmX4 hown hK hP hD hS 0 rfl rfl 4 (by decide) (hts (.fieldLink RX4 24 "FontRuns$Setting" "runOf" "[I") (by decide +kernel)) (fun _ h9 => h9) rfl hin rfl (by decide +kernel) rfl rfl (Nat.le_of_ble_eq_true rfl) dX4_init_41 (fun H locs hP hD hS => ?_)
  have hP : va_P D vwCl [(h0, .inr (4, [.ref a_1, .ref a_3, .ref a_5, .ref a_7, .ref a_9, .int 0, .int 0, .int 0, .null, .null])), (a_1, .inl (cA_2, 24, .inl (fun _ => 0))), (a_3, .inl (cA_4, 24, .inl (fun _ => 0))), (a_5, .inl (cA_6, 24, .inl (fun _ => 0))), (a_7, .inl (cA_8, 24, .inl (fun _ => 0))), (a_9, .inl (cA_10, 24, .inl (fun _ => 0)))] H := hP
  have hD : va_D A [(h0, .inr (4, [.ref a_1, .ref a_3, .ref a_5, .ref a_7, .ref a_9, .int 0, .int 0, .int 0, .null, .null])), (a_1, .inl (cA_2, 24, .inl (fun _ => 0))), (a_3, .inl (cA_4, 24, .inl (fun _ => 0))), (a_5, .inl (cA_6, 24, .inl (fun _ => 0))), (a_7, .inl (cA_8, 24, .inl (fun _ => 0))), (a_9, .inl (cA_10, 24, .inl (fun _ => 0)))] := hD
  refine lv_aload_n hx hb dX4_init_44 rfl (lv_at hl 0 rfl) ?_
  refine lv_bipush (v := 24) hx hb dX4_init_45 (by decide) ?_
  refine va_newa (atype := .int) (ty := .int) (a0 := (24, .inl (fun _ => 0))) (N' := 24) hx hb (hts (.arrayClass .int) (by decide +kernel)) rfl hK hP hD hS hA (fun _ => rfl) (by decide) (by decide) (Nat.le_of_ble_eq_true rfl) (Nat.le_of_ble_eq_true rfl) (Nat.le_of_ble_eq_true rfl) dX4_init_47 (fun a_11 cA_12 H hK hP hD hS => ?_)
  have hK : va_K D vwCl [(cA_2, .int), (cA_4, .int), (cA_6, .int), (cA_8, .int), (cA_10, .int), (cA_12, .int)] s := hK
  have hP : va_P D vwCl [(h0, .inr (4, [.ref a_1, .ref a_3, .ref a_5, .ref a_7, .ref a_9, .int 0, .int 0, .int 0, .null, .null])), (a_1, .inl (cA_2, 24, .inl (fun _ => 0))), (a_3, .inl (cA_4, 24, .inl (fun _ => 0))), (a_5, .inl (cA_6, 24, .inl (fun _ => 0))), (a_7, .inl (cA_8, 24, .inl (fun _ => 0))), (a_9, .inl (cA_10, 24, .inl (fun _ => 0))), (a_11, .inl (cA_12, 24, .inl (fun _ => 0)))] H := hP
  have hD : va_D A [(h0, .inr (4, [.ref a_1, .ref a_3, .ref a_5, .ref a_7, .ref a_9, .int 0, .int 0, .int 0, .null, .null])), (a_1, .inl (cA_2, 24, .inl (fun _ => 0))), (a_3, .inl (cA_4, 24, .inl (fun _ => 0))), (a_5, .inl (cA_6, 24, .inl (fun _ => 0))), (a_7, .inl (cA_8, 24, .inl (fun _ => 0))), (a_9, .inl (cA_10, 24, .inl (fun _ => 0))), (a_11, .inl (cA_12, 24, .inl (fun _ => 0)))] := hD
  refine va_putF (D := D) (ci := 4) (v := .ref a_11) (ty := .array .int) (C := RX4) (T := TX4) (N := 10) hx hb hts (fun _ h9 => List.mem_cons_of_mem _ (List.mem_append_right _ h9)) tyX4 tyX4_ok nmX4 hown hK hP hD hS 0 rfl rfl 8 (by decide) (hts (.fieldLink RX4 27 "FontRuns$Setting" "letters" "[I") (by decide +kernel)) (fun _ h9 => h9) rfl hin rfl (by decide +kernel) rfl rfl (Nat.le_of_ble_eq_true rfl) dX4_init_49 (fun H locs hP hD hS => ?_)
  have hP : va_P D vwCl [(h0, .inr (4, [.ref a_1, .ref a_3, .ref a_5, .ref a_7, .ref a_9, .int 0, .int 0, .int 0, .ref a_11, .null])), (a_1, .inl (cA_2, 24, .inl (fun _ => 0))), (a_3, .inl (cA_4, 24, .inl (fun _ => 0))), (a_5, .inl (cA_6, 24, .inl (fun _ => 0))), (a_7, .inl (cA_8, 24, .inl (fun _ => 0))), (a_9, .inl (cA_10, 24, .inl (fun _ => 0))), (a_11, .inl (cA_12, 24, .inl (fun _ => 0)))] H := hP
  have hD : va_D A [(h0, .inr (4, [.ref a_1, .ref a_3, .ref a_5, .ref a_7, .ref a_9, .int 0, .int 0, .int 0, .ref a_11, .null])), (a_1, .inl (cA_2, 24, .inl (fun _ => 0))), (a_3, .inl (cA_4, 24, .inl (fun _ => 0))), (a_5, .inl (cA_6, 24, .inl (fun _ => 0))), (a_7, .inl (cA_8, 24, .inl (fun _ => 0))), (a_9, .inl (cA_10, 24, .inl (fun _ => 0))), (a_11, .inl (cA_12, 24, .inl (fun _ => 0)))] := hD
  refine lv_aload_n hx hb dX4_init_52 rfl (lv_at hl 0 rfl) ?_
  refine lv_bipush (v := 24) hx hb dX4_init_53 (by decide) ?_
  refine lv_iconst (v := 4) hx hb dX4_init_55 (by decide) ?_
  obtain ⟨cy, hcy⟩ := hN.2.2.2
  have ecy : cA_2 = cy := kcy hK hcy 0 rfl
  subst ecy
  refine va_mna (X := [(h0, .inr (4, [.ref a_1, .ref a_3, .ref a_5, .ref a_7, .ref a_9, .int 0, .int 0, .int 0, .ref a_11, .null])), (a_1, .inl (cA_2, 24, .inl (fun _ => 0))), (a_3, .inl (cA_4, 24, .inl (fun _ => 0))), (a_5, .inl (cA_6, 24, .inl (fun _ => 0))), (a_7, .inl (cA_8, 24, .inl (fun _ => 0))), (a_9, .inl (cA_10, 24, .inl (fun _ => 0))), (a_11, .inl (cA_12, 24, .inl (fun _ => 0)))]) (L := []) (f := fun _ => .inr (0, [])) (ty := .int) (cy := cA_2) (N' := 24) (K' := 4) (z := (4, .inl (fun _ => 0))) hx hb hown (show (Cond.classLink RX4 30 ("[" ++ (FieldType.array .int).toString)).before _ s = true from hts _ (by decide +kernel)) hN.2.2.1 (hts (.arrayClass .int) (by decide +kernel)) hcy hK hP hD hS hA (by decide) (by decide) (by decide) (by decide) (Nat.le_of_ble_eq_true rfl) (Nat.le_of_ble_eq_true rfl) (Nat.le_of_ble_eq_true rfl) rfl rfl (Nat.le_of_ble_eq_true rfl) (Nat.le_of_ble_eq_true rfl) (fun c9 => kinner c9 4) dX4_init_56 (fun a_13 r_15 cA_14 H _ _ hK hP hD hS => ?_)
  rw [kpl] at hP hD
  have hK : va_K D vwCl [(cA_2, .int), (cA_4, .int), (cA_6, .int), (cA_8, .int), (cA_10, .int), (cA_12, .int), (cA_14, .array .int)] s := hK
  have hP : va_P D vwCl (([(h0, .inr (4, [.ref a_1, .ref a_3, .ref a_5, .ref a_7, .ref a_9, .int 0, .int 0, .int 0, .ref a_11, .null])), (a_1, .inl (cA_2, 24, .inl (fun _ => 0))), (a_3, .inl (cA_4, 24, .inl (fun _ => 0))), (a_5, .inl (cA_6, 24, .inl (fun _ => 0))), (a_7, .inl (cA_8, 24, .inl (fun _ => 0))), (a_9, .inl (cA_10, 24, .inl (fun _ => 0))), (a_11, .inl (cA_12, 24, .inl (fun _ => 0))), (a_13, .inl (cA_14, 24, .inr (.inr (.inr (.inr (fun i => if i < 24 then some (r_15 i) else none))))))] : va_W) ++ kR 24 r_15 cA_2) H := hP
  have hD : va_D A (([(h0, .inr (4, [.ref a_1, .ref a_3, .ref a_5, .ref a_7, .ref a_9, .int 0, .int 0, .int 0, .ref a_11, .null])), (a_1, .inl (cA_2, 24, .inl (fun _ => 0))), (a_3, .inl (cA_4, 24, .inl (fun _ => 0))), (a_5, .inl (cA_6, 24, .inl (fun _ => 0))), (a_7, .inl (cA_8, 24, .inl (fun _ => 0))), (a_9, .inl (cA_10, 24, .inl (fun _ => 0))), (a_11, .inl (cA_12, 24, .inl (fun _ => 0))), (a_13, .inl (cA_14, 24, .inr (.inr (.inr (.inr (fun i => if i < 24 then some (r_15 i) else none))))))] : va_W) ++ kR 24 r_15 cA_2) := hD
  refine va_putF (D := D) (ci := 4) (v := .ref a_13) (ty := .array (.array .int)) (C := RX4) (T := TX4) (N := 10) hx hb hts (fun _ h9 => List.mem_cons_of_mem _ (List.mem_append_right _ h9)) tyX4 tyX4_ok nmX4 hown hK hP hD hS 0 rfl rfl 9 (by decide) (hts (.fieldLink RX4 32 "FontRuns$Setting" "behind" "[[I") (by decide +kernel)) (fun _ h9 => h9) rfl hin rfl (by decide +kernel) rfl rfl (Nat.le_of_ble_eq_true rfl) dX4_init_60 (fun H locs hP hD hS => ?_)
  have hP : va_P D vwCl (([(h0, .inr (4, [.ref a_1, .ref a_3, .ref a_5, .ref a_7, .ref a_9, .int 0, .int 0, .int 0, .ref a_11, .ref a_13])), (a_1, .inl (cA_2, 24, .inl (fun _ => 0))), (a_3, .inl (cA_4, 24, .inl (fun _ => 0))), (a_5, .inl (cA_6, 24, .inl (fun _ => 0))), (a_7, .inl (cA_8, 24, .inl (fun _ => 0))), (a_9, .inl (cA_10, 24, .inl (fun _ => 0))), (a_11, .inl (cA_12, 24, .inl (fun _ => 0))), (a_13, .inl (cA_14, 24, .inr (.inr (.inr (.inr (fun i => if i < 24 then some (r_15 i) else none))))))] : va_W) ++ kR 24 r_15 cA_2) H := hP
  have hD : va_D A (([(h0, .inr (4, [.ref a_1, .ref a_3, .ref a_5, .ref a_7, .ref a_9, .int 0, .int 0, .int 0, .ref a_11, .ref a_13])), (a_1, .inl (cA_2, 24, .inl (fun _ => 0))), (a_3, .inl (cA_4, 24, .inl (fun _ => 0))), (a_5, .inl (cA_6, 24, .inl (fun _ => 0))), (a_7, .inl (cA_8, 24, .inl (fun _ => 0))), (a_9, .inl (cA_10, 24, .inl (fun _ => 0))), (a_11, .inl (cA_12, 24, .inl (fun _ => 0))), (a_13, .inl (cA_14, 24, .inr (.inr (.inr (.inr (fun i => if i < 24 then some (r_15 i) else none))))))] : va_W) ++ kR 24 r_15 cA_2) := hD
  refine W.widen (k := 31) (n := 264) (Nat.le_of_ble_eq_true rfl) (Nat.le_of_ble_eq_true rfl) ?_
  have hP9 : va_P D vwCl (([(h0, .inr (4, [.ref a_1, .ref a_3, .ref a_5, .ref a_7, .ref a_9, .int 0, .int 0, .int 0, .ref a_11, .ref a_13])), (a_1, .inl (cA_2, 24, .inl (fun _ => 0))), (a_3, .inl (cA_4, 24, .inl (fun _ => 0))), (a_5, .inl (cA_6, 24, .inl (fun _ => 0))), (a_7, .inl (cA_8, 24, .inl (fun _ => 0))), (a_9, .inl (cA_10, 24, .inl (fun _ => 0))), (a_11, .inl (cA_12, 24, .inl (fun _ => 0))), (a_13, .inl (cA_14, 24, .inr (.inr (.inr (.inr (fun i => if i < 24 then some (r_15 i) else none))))))] : va_W) ++ kR 24 r_15 cA_2) H := hP.part [0, 1, 2, 3, 4, 5, 6, 7] rfl
  have hD9 : va_D A (([(h0, .inr (4, [.ref a_1, .ref a_3, .ref a_5, .ref a_7, .ref a_9, .int 0, .int 0, .int 0, .ref a_11, .ref a_13])), (a_1, .inl (cA_2, 24, .inl (fun _ => 0))), (a_3, .inl (cA_4, 24, .inl (fun _ => 0))), (a_5, .inl (cA_6, 24, .inl (fun _ => 0))), (a_7, .inl (cA_8, 24, .inl (fun _ => 0))), (a_9, .inl (cA_10, 24, .inl (fun _ => 0))), (a_11, .inl (cA_12, 24, .inl (fun _ => 0))), (a_13, .inl (cA_14, 24, .inr (.inr (.inr (.inr (fun i => if i < 24 then some (r_15 i) else none))))))] : va_W) ++ kR 24 r_15 cA_2) := hD.part [0, 1, 2, 3, 4, 5, 6, 7] (by decide) rfl
  have hK9 := hK.sub (tys' := [(cA_2, .int), (cA_4, .int), (cA_6, .int), (cA_8, .int), (cA_10, .int), (cA_12, .int), (cA_14, .array .int)]) [0, 1, 2, 3, 4, 5, 6] rfl
  exact W.vret hx hb hr (fun t ht hW => ⟨⟨(a_1, a_3, a_5, a_7, a_9, a_11, a_13, cA_2, cA_4, cA_6, cA_8, cA_10, cA_12, cA_14, r_15), rfl, trivial, by rw [ht]; exact hP9, hD9, va_K.moved hW.alike hK9⟩, hS.F ht⟩) hS.2.2 dX4_init_63
