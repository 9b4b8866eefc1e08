set_option maxRecDepth 20000 in
theorem mw_X4_changes_b_0 : (.fieldLink RX4 59 "FontRuns$Setting" "runs" "I" : Cond) ∈ wsX4_changes := List.mem_cons_of_mem _ (List.mem_append_left _ (List.mem_of_getElem? (i := 0) rfl))
set_option maxRecDepth 20000 in
theorem mw_X4_changes_b_1 : (.methodLink RX4 62 Lib.Math.max.name : Cond) ∈ wsX4_changes := List.mem_cons_of_mem _ (List.mem_append_left _ (List.mem_of_getElem? (i := 1) rfl))
set_option maxRecDepth 20000 in
theorem mw_X4_changes_b_2 : (.static Lib.Math.max.name : Cond) ∈ wsX4_changes := List.mem_cons_of_mem _ (List.mem_append_left _ (List.mem_of_getElem? (i := 2) rfl))
set_option maxRecDepth 20000 in
theorem mw_X4_changes_b_3 : (.initialized "java/lang/Math" : Cond) ∈ wsX4_changes := List.mem_cons_of_mem _ (List.mem_append_left _ (List.mem_of_getElem? (i := 3) rfl))
set_option maxRecDepth 20000 in
theorem mw_X4_changes_b_4 : (.code Lib.Math.max.name Lib.Math.max.code 2 (some .int) : Cond) ∈ wsX4_changes := List.mem_cons_of_mem _ (List.mem_append_left _ (List.mem_of_getElem? (i := 4) rfl))
set_option maxHeartbeats 4000000 in
set_option maxRecDepth 100000 in
theorem c_X4_changes_b (l : Launch) (D : va_G) (sz : Nat) (h0 : Nat) (g1 : Nat) (g2 : Nat) (g3 : Nat) (g4 : Nat) (g5 : Nat) (cn : Int) (bo : Int) (ru : Int) (g6 : Nat) (g7 : Nat) (q0 : 0 ≤ cn ∧ cn ≤ 24) (q1 : 0 ≤ bo ∧ bo ≤ 24) (q2 : 0 ≤ ru ∧ ru ≤ cn) : Met l yX4_changes wsX4_changes ({ frames := 1, cells := 0, slots := 0, locals := 21 }) (kPre [.ref h0] D [(h0, .inr (4, [.ref g1, .ref g2, .ref g3, .ref g4, .ref g5, .int (zI cn), .int (zI bo), .int (zI ru), .ref g6, .ref g7]))] [] sz) (QcP (fun rz => (1 ≤ ru ∧ rz = ru - 1) ∨ (ru ≤ 0 ∧ rz = 0))) 0 0 (fun _ => False) := by
  refine Met.ofW (cc := cX4_changes) (maxL := 1) (ret := (some .int)) (by decide) rfl ?_
  intro p e s m args below meth c s₁ B hml hv
  obtain ⟨rfl, hsz, hP, hK, hD0, hN⟩ := hv
  have hx := B.exec
  have hb := B.bytes
  have hr := B.returns
  have hts := atoms_spec (ws := wsX4_changes) B.pre
  have hown : s.vm.findClass RX4 = some m.cls := findClass_of_methodNamed B.named
  have hlocks := B.notSynchronized
  subst hsz
  have hD := hD0
  have hP : va_P D vwCl [(h0, .inr (4, [.ref g1, .ref g2, .ref g3, .ref g4, .ref g5, .int (zI cn), .int (zI bo), .int (zI ru), .ref g6, .ref g7]))] s.heap := hP
  have hl := lv_entry ([.ref h0]) (n := 1) (Nat.le_of_ble_eq_true rfl)
  rw [lg_entry_eq]
  generalize (lg_sl ([.ref h0]) ++ List.replicate (1 - (lg_sl ([.ref h0])).length) Slot.unset).toArray = ls at hl ⊢
  have hl : lv_has ls 1 [(0, .ref h0)] := hl
  refine lv_aload_n hx hb dX4_changes_0 rfl (lv_at hl 0 rfl) ?_
  refine va_get (D := D) (ci := 4) (v := .int (zI ru)) (C := RX4) (T := TX4) (N := 10) hx hb hts (fun _ h9 => List.mem_cons_of_mem _ (List.mem_append_right _ h9)) hown hK hP 0 rfl rfl 7 (by decide) (hts (.fieldLink RX4 59 "FontRuns$Setting" "runs" "I") mw_X4_changes_b_0) (fun _ h9 => h9) rfl dX4_changes_1 ?_
  refine lv_iconst (v := zI 1) hx hb dX4_changes_4 rfl ?_
  refine kz_isub hx hb dX4_changes_5 ?_
  refine lv_iconst (v := zI 0) hx hb dX4_changes_6 rfl ?_
  refine kz_max hx hb (by rw [hml]; exact hl.1.symm) hown (hts (.methodLink RX4 62 Lib.Math.max.name) mw_X4_changes_b_1) (hts (.static Lib.Math.max.name) mw_X4_changes_b_2) (hts (.initialized "java/lang/Math") mw_X4_changes_b_3) (hts (.code Lib.Math.max.name Lib.Math.max.code 2 (some .int)) mw_X4_changes_b_4) (Nat.le_of_ble_eq_true rfl) (Nat.le_of_ble_eq_true rfl) (Nat.le_of_ble_eq_true rfl) (Nat.le_of_ble_eq_true rfl) (by omega) (by omega) dX4_changes_7 (fun z_1 rz_1 ez_1 => ?_)
  exact W.iret (v := (zI z_1)) hx hb hr (fun t ht hW => QcP_of (by omega) (by omega) ht) (fun _ h9 => by cases h9) dX4_changes_10
set_option maxRecDepth 20000 in
theorem mw_X4_advance_b_0 : (.fieldLink RX4 51 "FontRuns$Setting" "count" "I" : Cond) ∈ wsX4_advance := List.mem_cons_of_mem _ (List.mem_append_left _ (List.mem_append_left _ (List.mem_of_getElem? (i := 0) rfl)))
set_option maxRecDepth 20000 in
theorem mw_X4_advance_b_1 : (.fieldLink RX4 21 "FontRuns$Setting" "chosen" "[I" : Cond) ∈ wsX4_advance := List.mem_cons_of_mem _ (List.mem_append_left _ (List.mem_append_left _ (List.mem_of_getElem? (i := 1) rfl)))
theorem ax_X4_advance_b_0 {e0 e1 e2 e3 e4 : Nat × va_E} : ([2, 3, 4] : List Nat).map (fun i => ([e0, e1, e2, e3, e4] : va_W)[i]?) = ([e2, e3, e4] : va_W).map some := rfl
set_option maxHeartbeats 4000000 in
set_option maxRecDepth 100000 in
theorem c_X4_advance_b (l : Launch) (D : va_G) (sz : Nat) (fr : Nat) (h0 : Nat) (g1 : Nat) (g2 : Nat) (g3 : Nat) (g4 : Nat) (g5 : Nat) (cn : Int) (bo : Int) (ru : Int) (g6 : Nat) (g7 : Nat) (cg4 : ClassId) (f4 : Nat → Int32) (k1 : Nat) (k2 : Nat) (k3 : Nat) (n : Int) (ck1 : ClassId) (fk : Nat → Int32) (ck2 : ClassId) (fb : Nat → Int32) (q0 : 0 ≤ cn ∧ cn ≤ 24) (q1 : 0 ≤ bo ∧ bo ≤ 24) (q2 : 0 ≤ ru ∧ ru ≤ cn) (q3 : 0 ≤ n ∧ n ≤ 4) : Met l yX4_advance wsX4_advance ({ frames := 3, cells := 0, slots := 0, locals := 64 }) (kPre [.ref h0, .ref fr] D [(h0, .inr (4, [.ref g1, .ref g2, .ref g3, .ref g4, .ref g5, .int (zI cn), .int (zI bo), .int (zI ru), .ref g6, .ref g7])), (g4, .inl (cg4, 24, .inl f4)), (fr, .inr (0, [.ref k1, .ref k2, .ref k3, .int (zI n)])), (k1, .inl (ck1, 4, .inl fk)), (k2, .inl (ck2, 4, .inl fb))] [(cg4, .int), (ck1, .int), (ck2, .int)] sz) (QcP (fun rz => kCi f4 cn n → zI rz = kSu (kSx fk fb) f4 (kNa cn))) 0 0 (fun _ => False) := by
  refine Met.ofW (cc := cX4_advance) (maxL := 4) (ret := (some .int)) (by decide) rfl ?_
  intro p e s m args below meth c s₁ B hml hv
  obtain ⟨rfl, hsz, hP, hK, hD0, hN⟩ := hv
  have hx := B.exec
  have hb := B.bytes
  have hr := B.returns
  have hts := atoms_spec (ws := wsX4_advance) B.pre
  have hown : s.vm.findClass RX4 = some m.cls := findClass_of_methodNamed B.named
  have hlocks := B.notSynchronized
  subst hsz
  have hD := hD0
  have hP : va_P D vwCl [(h0, .inr (4, [.ref g1, .ref g2, .ref g3, .ref g4, .ref g5, .int (zI cn), .int (zI bo), .int (zI ru), .ref g6, .ref g7])), (g4, .inl (cg4, 24, .inl f4)), (fr, .inr (0, [.ref k1, .ref k2, .ref k3, .int (zI n)])), (k1, .inl (ck1, 4, .inl fk)), (k2, .inl (ck2, 4, .inl fb))] s.heap := hP
  have hl := lv_entry ([.ref h0, .ref fr]) (n := 4) (Nat.le_of_ble_eq_true rfl)
  rw [lg_entry_eq]
  generalize (lg_sl ([.ref h0, .ref fr]) ++ List.replicate (4 - (lg_sl ([.ref h0, .ref fr])).length) Slot.unset).toArray = ls at hl ⊢
  have hl : lv_has ls 4 [(0, .ref h0), (1, .ref fr)] := hl
  refine lv_iconst (v := zI 0) hx hb dX4_advance_0 rfl ?_
  refine lv_istore_n (lv' := [(2, .int (zI 0)), (0, .ref h0), (1, .ref fr)]) hx hb dX4_advance_1 rfl hl (by decide) rfl (fun ls hl => ?_)
  refine lv_iconst (v := zI 0) hx hb dX4_advance_2 rfl ?_
  refine lv_istore_n (lv' := [(3, .int (zI 0)), (2, .int (zI 0)), (0, .ref h0), (1, .ref fr)]) hx hb dX4_advance_3 rfl hl (by decide) rfl (fun ls hl => ?_)
  refine k_loopM (I := fun n9 H locs ls => ∃ (js : Int) (jk : Int), n9 = (cn - jk).toNat ∧ (rg js) ∧ (0 ≤ jk ∧ jk ≤ cn) ∧ (kCi f4 cn n → zI js = kSu (kSx fk fb) f4 (kNa jk)) ∧ H = s.heap ∧ locs = [] ∧ lv_has ls 4 [(3, .int (zI jk)), (2, .int (zI js)), (0, .ref h0), (1, .ref fr)]) ?_ _ ⟨0, 0, rfl, (by omega), (by omega), (fun _ => rfl), rfl, rfl, hl⟩
  intro n4 ih4 H locs ls hI
  obtain ⟨js, jk, en4, v_40, v_41, v_42, eH, eL, hl⟩ := hI
  subst eH
  subst eL
  refine lv_iload_n hx hb dX4_advance_4 rfl (lv_at hl 0 rfl) ?_
  refine lv_aload_n hx hb dX4_advance_5 rfl (lv_at hl 2 rfl) ?_
  refine va_get (D := D) (ci := 4) (v := .int (zI cn)) (C := RX4) (T := TX4) (N := 10) hx hb hts (fun _ h9 => List.mem_cons_of_mem _ (List.mem_append_left _ (List.mem_append_right _ h9))) hown hK hP 0 rfl rfl 5 (by decide) (hts (.fieldLink RX4 51 "FontRuns$Setting" "count" "I") mw_X4_advance_b_0) (fun _ h9 => h9) rfl dX4_advance_6 ?_
  refine kz_icmp_ge (tgt := 31) hx hb dX4_advance_9 (by decide) (by omega) (by omega) (fun c_1 => ?_) (fun c_1 => ?_)
  · refine lv_iload_n hx hb dX4_advance_31 rfl (lv_at hl 1 rfl) ?_
    exact W.iret (v := (zI js)) hx hb hr (fun t ht hW => QcP_of (by omega) (fun hC => by have q9 : jk = cn := (by omega); rw [← q9]; exact v_42 hC) ht) (fun _ h9 => by cases h9) dX4_advance_32
  · refine lv_iload_n hx hb dX4_advance_12 rfl (lv_at hl 1 rfl) ?_
    refine lv_aload_n hx hb dX4_advance_13 rfl (lv_at hl 3 rfl) ?_
    refine lv_aload_n hx hb dX4_advance_14 rfl (lv_at hl 2 rfl) ?_
    refine va_get (D := D) (ci := 4) (v := .ref g4) (C := RX4) (T := TX4) (N := 10) hx hb hts (fun _ h9 => List.mem_cons_of_mem _ (List.mem_append_left _ (List.mem_append_right _ h9))) hown hK hP 0 rfl rfl 3 (by decide) (hts (.fieldLink RX4 21 "FontRuns$Setting" "chosen" "[I") mw_X4_advance_b_1) (fun _ h9 => h9) rfl dX4_advance_15 ?_
    refine lv_iload_n hx hb dX4_advance_18 rfl (lv_at hl 0 rfl) ?_
    refine kz_iald hx hb hK hP 1 0 rfl rfl (by omega) dX4_advance_19 (fun z_2 rz_2 ez_2 => ?_)
    refine k_callP (va_runV (As := [.int (zI z_2)]) (rest := [.int (zI js)]) ⟨hx, hb, hml, hown, hts⟩ (c_X0_step_w l D s.heap.size (f := z_2) (h0 := fr) (k1 := k1) (k2 := k2) (k3 := k3) (n := n) (ck1 := ck1) (fk := fk) (ck2 := ck2) (fb := fb) (by omega) q3) (cwV 1 hts gX4_advance_X0_step rfl rfl rfl (by decide +kernel) ⟨Nat.le_of_ble_eq_true rfl, Nat.le_of_ble_eq_true rfl⟩) (kPreV hP (kD0 hD) hK hN [2, 3, 4] [1, 2] ax_X4_advance_b_0 rfl (by decide +kernel) 2 0 rfl rfl) rfl rfl hl.1 rfl (lv_room (Nat.le_of_ble_eq_true rfl)) dX4_advance_20 ⟨Nat.le_of_ble_eq_true rfl, Nat.le_of_ble_eq_true rfl⟩) (fun z_3 rz_3 h_4 => ?_)
    refine kz_iadd hx hb dX4_advance_23 ?_
    refine kz_any (fun z_5 rz_5 ez_5 => ?_)
    refine lv_istore_n (lv' := [(2, .int (zI z_5)), (3, .int (zI jk)), (0, .ref h0), (1, .ref fr)]) hx hb dX4_advance_24 rfl hl (by decide) rfl (fun ls hl => ?_)
    refine lv_iinc (v := (zI (jk + 1))) (lv' := [(3, .int (zI (jk + 1))), (2, .int (zI z_5)), (0, .ref h0), (1, .ref fr)]) hx hb dX4_advance_25 hl (k := 1) rfl (kz_inc _ 1) (by decide) rfl (fun ls hl => ?_)
    refine lv_goto (tgt := 4) hx hb dX4_advance_28 (by decide) ?_
    exact ih4 _ (by omega) _ _ _ ⟨z_5, (jk + 1), rfl, (by omega), (by omega), (kSu_s v_42 (by omega) ez_2 (fun hC => kSx_at rz_2 (h_4 (by have q9 := kCi_at hC (by omega) (by omega) rz_2 ez_2; omega))) ez_5), rfl, rfl, lv_sub hl [0, 1, 2, 3] rfl⟩
set_option maxRecDepth 20000 in
theorem mw_X8_best_b_0 : (.fieldLink RX8 28 "FontRuns" "fontRow" "LFontRuns$FontRow;" : Cond) ∈ wsX8_best := List.mem_cons_of_mem _ (List.mem_append_left _ (List.mem_append_left _ (List.mem_append_left _ (List.mem_append_left _ (List.mem_of_getElem? (i := 0) rfl)))))
set_option maxRecDepth 20000 in
theorem mw_X8_best_b_1 : (.fieldLink RX8 106 "FontRuns$FontRow" "count" "I" : Cond) ∈ wsX8_best := List.mem_cons_of_mem _ (List.mem_append_left _ (List.mem_append_left _ (List.mem_append_left _ (List.mem_append_left _ (List.mem_of_getElem? (i := 1) rfl)))))
set_option maxRecDepth 20000 in
theorem mw_X8_best_b_2 : (.fieldLink RX8 56 "FontRuns" "setting" "LFontRuns$Setting;" : Cond) ∈ wsX8_best := List.mem_cons_of_mem _ (List.mem_append_left _ (List.mem_append_left _ (List.mem_append_left _ (List.mem_append_left _ (List.mem_of_getElem? (i := 2) rfl)))))
set_option maxRecDepth 20000 in
theorem mw_X8_best_b_3 : (.fieldLink RX8 187 "FontRuns$Setting" "runs" "I" : Cond) ∈ wsX8_best := List.mem_cons_of_mem _ (List.mem_append_left _ (List.mem_append_left _ (List.mem_append_left _ (List.mem_append_left _ (List.mem_of_getElem? (i := 3) rfl)))))
set_option maxRecDepth 20000 in
theorem mw_X8_best_b_4 : (.fieldLink RX8 251 "FontRuns$Setting" "boxes" "I" : Cond) ∈ wsX8_best := List.mem_cons_of_mem _ (List.mem_append_left _ (List.mem_append_left _ (List.mem_append_left _ (List.mem_append_left _ (List.mem_of_getElem? (i := 4) rfl)))))
theorem ax_X8_best_b_0 {e0 e1 e2 e3 e4 e5 : Nat × va_E} : ([] : List Nat).map (fun i => ([e0, e1, e2, e3, e4, e5] : va_W)[i]?) = ([] : va_W).map some := rfl
theorem ax_X8_best_b_1 {e0 e1 e2 e3 e4 e5 : Nat × va_E} : ([1] : List Nat).map (fun i => ([e0, e1, e2, e3, e4, e5] : va_W)[i]?) = ([e1] : va_W).map some := rfl
theorem ax_X8_best_b_2 {e0 e1 e2 e3 e4 e5 : Nat × va_E} : ([1, 2, 3, 4, 5] : List Nat).map (fun i => ([e0, e1, e2, e3, e4, e5] : va_W)[i]?) = ([e1, e2, e3, e4, e5] : va_W).map some := rfl
set_option maxHeartbeats 4000000 in
set_option maxRecDepth 100000 in
theorem c_X8_best_b (l : Launch) (D : va_G) (sz : Nat) (w : Int) (h0 : Nat) (sh : Nat) (rd : Nat) (fr : Nat) (wr : Nat) (pf : Nat) (rc : Nat) (se : Nat) (rs : Nat) (sw : Nat) (sp : Nat) (ss : Nat) (ew : Int) (wc : Int64) (tr : Int) (lf : Int) (g1 : Nat) (g2 : Nat) (g3 : Nat) (g4 : Nat) (g5 : Nat) (cn : Int) (bo : Int) (ru : Int) (g6 : Nat) (g7 : Nat) (cg4 : ClassId) (f4 : Nat → Int32) (k1 : Nat) (k2 : Nat) (k3 : Nat) (fn : Int) (ck1 : ClassId) (fk : Nat → Int32) (ck2 : ClassId) (fb : Nat → Int32) (q0 : rg w) (q1 : 0 ≤ cn ∧ cn ≤ 24) (q2 : 0 ≤ bo ∧ bo ≤ 24) (q3 : 0 ≤ ru ∧ ru ≤ cn) (q4 : 0 ≤ fn ∧ fn ≤ 4) : Met l yX8_best wsX8_best ({ frames := 4, cells := 0, slots := 0, locals := 87 }) (kPre [.ref h0, .int (zI w)] D [(h0, .inr (8, [.ref sh, .ref rd, .ref fr, .ref wr, .ref pf, .ref rc, .ref se, .ref rs, .ref sw, .ref sp, .ref ss, .int (zI ew), .long wc, .int (zI tr), .int (zI lf)])), (se, .inr (4, [.ref g1, .ref g2, .ref g3, .ref g4, .ref g5, .int (zI cn), .int (zI bo), .int (zI ru), .ref g6, .ref g7])), (g4, .inl (cg4, 24, .inl f4)), (fr, .inr (0, [.ref k1, .ref k2, .ref k3, .int (zI fn)])), (k1, .inl (ck1, 4, .inl fk)), (k2, .inl (ck2, 4, .inl fb))] [(cg4, .int), (ck1, .int), (ck2, .int)] sz) (QcP (fun rz => kBsX w fn cn ru bo fk fb f4 rz)) 0 0 (fun _ => False) := by
  refine Met.ofW (cc := cX8_best) (maxL := 2) (ret := (some .int)) (by decide) rfl ?_
  intro p e s m args below meth c s₁ B hml hv
  obtain ⟨rfl, hsz, hP, hK, hD0, hN⟩ := hv
  have hx := B.exec
  have hb := B.bytes
  have hr := B.returns
  have hts := atoms_spec (ws := wsX8_best) B.pre
  have hown : s.vm.findClass RX8 = some m.cls := findClass_of_methodNamed B.named
  have hlocks := B.notSynchronized
  subst hsz
  have hD := hD0
  have hP : va_P D vwCl [(h0, .inr (8, [.ref sh, .ref rd, .ref fr, .ref wr, .ref pf, .ref rc, .ref se, .ref rs, .ref sw, .ref sp, .ref ss, .int (zI ew), .long wc, .int (zI tr), .int (zI lf)])), (se, .inr (4, [.ref g1, .ref g2, .ref g3, .ref g4, .ref g5, .int (zI cn), .int (zI bo), .int (zI ru), .ref g6, .ref g7])), (g4, .inl (cg4, 24, .inl f4)), (fr, .inr (0, [.ref k1, .ref k2, .ref k3, .int (zI fn)])), (k1, .inl (ck1, 4, .inl fk)), (k2, .inl (ck2, 4, .inl fb))] s.heap := hP
  have hl := lv_entry ([.ref h0, .int (zI w)]) (n := 2) (Nat.le_of_ble_eq_true rfl)
  rw [lg_entry_eq]
  generalize (lg_sl ([.ref h0, .int (zI w)]) ++ List.replicate (2 - (lg_sl ([.ref h0, .int (zI w)])).length) Slot.unset).toArray = ls at hl ⊢
  have hl : lv_has ls 2 [(0, .ref h0), (1, .int (zI w))] := hl
  refine lv_iload_n hx hb dX8_best_0 rfl (lv_at hl 1 rfl) ?_
  refine lv_iconst (v := zI 0) hx hb dX8_best_1 rfl ?_
  refine lv_iconst (v := zI 3) hx hb dX8_best_2 rfl ?_
  refine k_callR (va_runS (As := [.int (zI w), .int (zI 0), .int (zI 3)]) (rest := []) ⟨hx, hb, hml, hown, hts⟩ (c_X8_isWithin l D s.heap.size (v := w) (a := 0) (b := 3) q0 (by omega) (by omega)) (va_cwS 3 hts gX8_best_X8_isWithin rfl rfl rfl (by decide +kernel) ⟨Nat.le_of_ble_eq_true rfl, Nat.le_of_ble_eq_true rfl⟩) (kPreS hP (kD0 hD) hK hN [] [] ax_X8_best_b_0 rfl (by decide +kernel)) rfl rfl hl.1 rfl (lv_room (Nat.le_of_ble_eq_true rfl)) dX8_best_3 ⟨Nat.le_of_ble_eq_true rfl, Nat.le_of_ble_eq_true rfl⟩) ?_
  refine lv_if_ne (tgt := 12) hx hb dX8_best_6 (by decide) (fun c_1 => ?_) (fun c_1 => ?_)
  · have c_1 : 0 ≤ w ∧ w ≤ 3 := b01t c_1
    refine lv_aload_n hx hb dX8_best_12 rfl (lv_at hl 0 rfl) ?_
    refine va_get (D := D) (ci := 8) (v := .ref fr) (C := RX8) (T := TX8) (N := 15) hx hb hts (fun _ h9 => List.mem_cons_of_mem _ (List.mem_append_left _ (List.mem_append_left _ (List.mem_append_right _ h9)))) hown hK hP 0 rfl rfl 2 (by decide) (hts (.fieldLink RX8 28 "FontRuns" "fontRow" "LFontRuns$FontRow;") mw_X8_best_b_0) (fun _ h9 => h9) rfl dX8_best_13 ?_
    refine va_get (D := D) (ci := 0) (v := .int (zI fn)) (C := RX0) (T := TX0) (N := 4) hx hb hts (fun _ h9 => List.mem_cons_of_mem _ (List.mem_append_left _ (List.mem_append_right _ h9))) hown hK hP 3 rfl rfl 3 (by decide) (hts (.fieldLink RX8 106 "FontRuns$FontRow" "count" "I") mw_X8_best_b_1) (fun _ h9 => h9) rfl dX8_best_16 ?_
    refine kz_if_ne (tgt := 25) hx hb dX8_best_19 (by decide) (by omega) (fun c_2 => ?_) (fun c_2 => ?_)
    · refine lv_iload_n hx hb dX8_best_25 rfl (lv_at hl 1 rfl) ?_
      rcases (show w = 0 ∨ w = 1 ∨ w = 2 ∨ (¬ w = 0 ∧ ¬ w = 1 ∧ ¬ w = 2) from by omega) with c_3 | c_3 | c_3 | c_3
      · refine kz_tabIn (tgt := 52) (off := 26) hx hb dX8_best_26 0 (by omega) (by decide) (by decide) (by decide) (by decide) (by decide) ?_
        refine lv_aload_n hx hb dX8_best_52 rfl (lv_at hl 0 rfl) ?_
        refine va_get (D := D) (ci := 8) (v := .ref se) (C := RX8) (T := TX8) (N := 15) hx hb hts (fun _ h9 => List.mem_cons_of_mem _ (List.mem_append_left _ (List.mem_append_left _ (List.mem_append_right _ h9)))) hown hK hP 0 rfl rfl 6 (by decide) (hts (.fieldLink RX8 56 "FontRuns" "setting" "LFontRuns$Setting;") mw_X8_best_b_2) (fun _ h9 => h9) rfl dX8_best_53 ?_
        refine k_callP (va_runV (As := []) (rest := []) ⟨hx, hb, hml, hown, hts⟩ (c_X4_changes_b l D s.heap.size (h0 := se) (g1 := g1) (g2 := g2) (g3 := g3) (g4 := g4) (g5 := g5) (cn := cn) (bo := bo) (ru := ru) (g6 := g6) (g7 := g7) q1 q2 q3) (cwV 0 hts gX8_best_X4_changes rfl rfl rfl (by decide +kernel) ⟨Nat.le_of_ble_eq_true rfl, Nat.le_of_ble_eq_true rfl⟩) (kPreV hP (kD0 hD) hK hN [1] [] ax_X8_best_b_1 rfl (by decide +kernel) 1 4 rfl rfl) rfl rfl hl.1 rfl (lv_room (Nat.le_of_ble_eq_true rfl)) dX8_best_56 ⟨Nat.le_of_ble_eq_true rfl, Nat.le_of_ble_eq_true rfl⟩) (fun z_4 rz_4 h_5 => ?_)
        exact W.iret (v := (zI z_4)) hx hb hr (fun t ht hW => QcP_of (by omega) (Or.inr (Or.inr ⟨by omega, by omega, Or.inl ⟨by omega, h_5⟩⟩)) ht) (fun _ h9 => by cases h9) dX8_best_59
      · refine kz_tabIn (tgt := 60) (off := 34) hx hb dX8_best_26 1 (by omega) (by decide) (by decide) (by decide) (by decide) (by decide) ?_
        refine lv_aload_n hx hb dX8_best_60 rfl (lv_at hl 0 rfl) ?_
        refine va_get (D := D) (ci := 8) (v := .ref se) (C := RX8) (T := TX8) (N := 15) hx hb hts (fun _ h9 => List.mem_cons_of_mem _ (List.mem_append_left _ (List.mem_append_left _ (List.mem_append_right _ h9)))) hown hK hP 0 rfl rfl 6 (by decide) (hts (.fieldLink RX8 56 "FontRuns" "setting" "LFontRuns$Setting;") mw_X8_best_b_2) (fun _ h9 => h9) rfl dX8_best_61 ?_
        refine va_get (D := D) (ci := 4) (v := .int (zI ru)) (C := RX4) (T := TX4) (N := 10) hx hb hts (fun _ h9 => List.mem_cons_of_mem _ (List.mem_append_right _ h9)) hown hK hP 1 rfl rfl 7 (by decide) (hts (.fieldLink RX8 187 "FontRuns$Setting" "runs" "I") mw_X8_best_b_3) (fun _ h9 => h9) rfl dX8_best_64 ?_
        exact W.iret (v := (zI ru)) hx hb hr (fun t ht hW => QcP_of (by omega) (Or.inr (Or.inr ⟨by omega, by omega, Or.inr (Or.inl ⟨by omega, by omega⟩)⟩)) ht) (fun _ h9 => by cases h9) dX8_best_67
      · refine kz_tabIn (tgt := 68) (off := 42) hx hb dX8_best_26 2 (by omega) (by decide) (by decide) (by decide) (by decide) (by decide) ?_
        refine lv_aload_n hx hb dX8_best_68 rfl (lv_at hl 0 rfl) ?_
        refine va_get (D := D) (ci := 8) (v := .ref se) (C := RX8) (T := TX8) (N := 15) hx hb hts (fun _ h9 => List.mem_cons_of_mem _ (List.mem_append_left _ (List.mem_append_left _ (List.mem_append_right _ h9)))) hown hK hP 0 rfl rfl 6 (by decide) (hts (.fieldLink RX8 56 "FontRuns" "setting" "LFontRuns$Setting;") mw_X8_best_b_2) (fun _ h9 => h9) rfl dX8_best_69 ?_
        refine va_get (D := D) (ci := 4) (v := .int (zI bo)) (C := RX4) (T := TX4) (N := 10) hx hb hts (fun _ h9 => List.mem_cons_of_mem _ (List.mem_append_right _ h9)) hown hK hP 1 rfl rfl 6 (by decide) (hts (.fieldLink RX8 251 "FontRuns$Setting" "boxes" "I") mw_X8_best_b_4) (fun _ h9 => h9) rfl dX8_best_72 ?_
        exact W.iret (v := (zI bo)) hx hb hr (fun t ht hW => QcP_of (by omega) (Or.inr (Or.inr ⟨by omega, by omega, Or.inr (Or.inr (Or.inl ⟨by omega, by omega⟩))⟩)) ht) (fun _ h9 => by cases h9) dX8_best_75
      · refine kz_tabOut (tgt := 76) hx hb dX8_best_26 (by omega) (by omega) (by decide) ?_
        refine lv_aload_n hx hb dX8_best_76 rfl (lv_at hl 0 rfl) ?_
        refine va_get (D := D) (ci := 8) (v := .ref se) (C := RX8) (T := TX8) (N := 15) hx hb hts (fun _ h9 => List.mem_cons_of_mem _ (List.mem_append_left _ (List.mem_append_left _ (List.mem_append_right _ h9)))) hown hK hP 0 rfl rfl 6 (by decide) (hts (.fieldLink RX8 56 "FontRuns" "setting" "LFontRuns$Setting;") mw_X8_best_b_2) (fun _ h9 => h9) rfl dX8_best_77 ?_
        refine lv_aload_n hx hb dX8_best_80 rfl (lv_at hl 0 rfl) ?_
        refine va_get (D := D) (ci := 8) (v := .ref fr) (C := RX8) (T := TX8) (N := 15) hx hb hts (fun _ h9 => List.mem_cons_of_mem _ (List.mem_append_left _ (List.mem_append_left _ (List.mem_append_right _ h9)))) hown hK hP 0 rfl rfl 2 (by decide) (hts (.fieldLink RX8 28 "FontRuns" "fontRow" "LFontRuns$FontRow;") mw_X8_best_b_0) (fun _ h9 => h9) rfl dX8_best_81 ?_
        refine k_callP (va_runV (As := [.ref fr]) (rest := []) ⟨hx, hb, hml, hown, hts⟩ (c_X4_advance_b l D s.heap.size (fr := fr) (h0 := se) (g1 := g1) (g2 := g2) (g3 := g3) (g4 := g4) (g5 := g5) (cn := cn) (bo := bo) (ru := ru) (g6 := g6) (g7 := g7) (cg4 := cg4) (f4 := f4) (k1 := k1) (k2 := k2) (k3 := k3) (n := fn) (ck1 := ck1) (fk := fk) (ck2 := ck2) (fb := fb) q1 q2 q3 q4) (cwV 1 hts gX8_best_X4_advance rfl rfl rfl (by decide +kernel) ⟨Nat.le_of_ble_eq_true rfl, Nat.le_of_ble_eq_true rfl⟩) (kPreV hP (kD0 hD) hK hN [1, 2, 3, 4, 5] [0, 1, 2] ax_X8_best_b_2 rfl (by decide +kernel) 1 4 rfl rfl) rfl rfl hl.1 rfl (lv_room (Nat.le_of_ble_eq_true rfl)) dX8_best_84 ⟨Nat.le_of_ble_eq_true rfl, Nat.le_of_ble_eq_true rfl⟩) (fun z_6 rz_6 h_7 => ?_)
        exact W.iret (v := (zI z_6)) hx hb hr (fun t ht hW => QcP_of (by omega) (Or.inr (Or.inr ⟨by omega, by omega, Or.inr (Or.inr (Or.inr (⟨by omega, h_7⟩)))⟩)) ht) (fun _ h9 => by cases h9) dX8_best_87
    · refine lv_bipush (v := zI (-3)) hx hb dX8_best_22 (by decide) ?_
      exact W.iret (v := (zI (-3))) hx hb hr (fun t ht hW => QcP_of (by omega) (Or.inr (Or.inl ⟨by omega, by omega, by omega⟩)) ht) (fun _ h9 => by cases h9) dX8_best_24
  · have c_1 : ¬ (0 ≤ w ∧ w ≤ 3) := b01f c_1
    refine lv_bipush (v := zI (-2)) hx hb dX8_best_9 (by decide) ?_
    exact W.iret (v := (zI (-2))) hx hb hr (fun t ht hW => QcP_of (by omega) (Or.inl ⟨by omega, by omega⟩) ht) (fun _ h9 => by cases h9) dX8_best_11
set_option maxRecDepth 20000 in
theorem mw_X9_best_b_0 : (.fieldLink RX9 74 "FontRunsModel" "fonts" "I" : Cond) ∈ wsX9_best := List.mem_cons_of_mem _ (List.mem_append_left _ (List.mem_append_left _ (List.mem_of_getElem? (i := 0) rfl)))
set_option maxRecDepth 20000 in
theorem mw_X9_best_b_1 : (.fieldLink RX9 158 "FontRunsModel" "advance" "I" : Cond) ∈ wsX9_best := List.mem_cons_of_mem _ (List.mem_append_left _ (List.mem_append_left _ (List.mem_of_getElem? (i := 3) rfl)))
set_option maxRecDepth 20000 in
theorem mw_X9_best_b_2 : (.fieldLink RX9 141 "FontRunsModel" "boxes" "I" : Cond) ∈ wsX9_best := List.mem_cons_of_mem _ (List.mem_append_left _ (List.mem_append_left _ (List.mem_of_getElem? (i := 2) rfl)))
set_option maxRecDepth 20000 in
theorem mw_X9_best_b_3 : (.fieldLink RX9 161 "FontRunsModel" "runs" "I" : Cond) ∈ wsX9_best := List.mem_cons_of_mem _ (List.mem_append_left _ (List.mem_append_left _ (List.mem_of_getElem? (i := 1) rfl)))
theorem ax_X9_best_b_0 {e0 e1 e2 e3 e4 e5 e6 e7 e8 e9 : Nat × va_E} : ([] : List Nat).map (fun i => ([e0, e1, e2, e3, e4, e5, e6, e7, e8, e9] : va_W)[i]?) = ([] : va_W).map some := rfl
theorem ax_X9_best_b_1 {e0 e1 e2 e3 e4 e5 e6 e7 e8 e9 : Nat × va_E} : ([0, 1, 2, 3, 4, 5, 6, 7, 8, 9] : List Nat).map (fun i => ([e0, e1, e2, e3, e4, e5, e6, e7, e8, e9] : va_W)[i]?) = ([e0, e1, e2, e3, e4, e5, e6, e7, e8, e9] : va_W).map some := rfl
theorem ax_X9_best_b_2 {D : va_G} {cl : List vw_C} {H : Heap} {f0 f1 f2 f3 f4 f5 f6 f7 f8 f9 : Nat × va_E} (h : va_P D cl ((([] : va_W) ++ ([f0, f1, f2, f3, f4, f5, f6, f7, f8, f9] : va_W))) H) : va_P D cl (([f0, f1, f2, f3, f4, f5, f6, f7, f8, f9] : va_W)) H := h
theorem ax_X9_best_b_3 {A : Nat → Prop} {f0 f1 f2 f3 f4 f5 f6 f7 f8 f9 : Nat × va_E} (h : va_D A ((([] : va_W) ++ ([f0, f1, f2, f3, f4, f5, f6, f7, f8, f9] : va_W)))) : va_D A (([f0, f1, f2, f3, f4, f5, f6, f7, f8, f9] : va_W)) := h
set_option maxHeartbeats 4000000 in
set_option maxRecDepth 100000 in
theorem c_X9_best_b (l : Launch) (D : va_G) (sz : Nat) (w : Int) (h0 : Nat) (fa : Int) (tc : Int) (so : Nat) (sl : Nat) (ce : Nat) (fn : Int) (kd : Nat) (wd : Nat) (hs : Nat) (pf : Nat) (lt : Nat) (mn : Int) (wg : Nat) (ta : Int) (ck : Int64) (at9 : Int) (rfn : Int) (rk : Nat) (rw : Nat) (rh : Nat) (cl : Int) (sa : Nat) (fi : Nat) (bo : Int) (ch : Nat) (cn : Nat) (ad : Int) (ru : Int) (kp : Nat) (dn : Int) (rfa : Nat) (c_wg : ClassId) (f_wg : Nat → Int32) (c_sa : ClassId) (f_sa : Nat → Int32) (c_fi : ClassId) (f_fi : Nat → Int32) (c_hs : ClassId) (f_hs : Nat → Int32) (c_ch : ClassId) (f_ch : Nat → Int32) (c_cn : ClassId) (f_cn : Nat → Int32) (c_pf : ClassId) (f_pf : Nat → Int32) (c_kd : ClassId) (f_kd : Nat → Int32) (c_wd : ClassId) (f_wd : Nat → Int32) (q0 : rg w) (q1 : 0 ≤ mn ∧ mn ≤ 24) (q2 : 0 ≤ fn ∧ fn ≤ 4) (q3 : kPm f_pf fn) (q4 : ¬ (fn = 0 ∧ 1 ≤ mn)) (q5 : rg ad) (q6 : 0 ≤ ru ∧ ru ≤ 24) (q7 : 0 ≤ cl ∧ cl ≤ 24) (q8 : 0 ≤ bo ∧ bo ≤ 24) : Met l yX9_best wsX9_best ({ frames := 5, cells := 0, slots := 0, locals := 118 }) (kPre [.ref h0, .int (zI w)] D [(h0, .inr (9, [.int (zI fa), .int (zI tc), .ref so, .ref sl, .ref ce, .int (zI fn), .ref kd, .ref wd, .ref hs, .ref pf, .ref lt, .int (zI mn), .ref wg, .int (zI ta), .long ck, .int (zI at9), .int (zI rfn), .ref rk, .ref rw, .ref rh, .int (zI cl), .ref sa, .ref fi, .int (zI bo), .ref ch, .ref cn, .int (zI ad), .int (zI ru), .ref kp, .int (zI dn), .ref rfa])), (wg, .inl (c_wg, 24, .inl f_wg)), (sa, .inl (c_sa, 25, .inl f_sa)), (fi, .inl (c_fi, 24, .inl f_fi)), (hs, .inl (c_hs, 4, .inl f_hs)), (ch, .inl (c_ch, 96, .inl f_ch)), (cn, .inl (c_cn, 24, .inl f_cn)), (pf, .inl (c_pf, 4, .inl f_pf)), (kd, .inl (c_kd, 4, .inl f_kd)), (wd, .inl (c_wd, 4, .inl f_wd))] [(c_wg, .int), (c_sa, .int), (c_fi, .int), (c_hs, .int), (c_ch, .int), (c_cn, .int), (c_pf, .int), (c_kd, .int), (c_wd, .int)] sz) (kQS (fun rz t => ∃ (u_cl : Int) (u_bo : Int) (u_ad : Int) (u_ru : Int) (u_f_sa : Nat → Int32) (u_f_fi : Nat → Int32) (u_f_ch : Nat → Int32) (u_f_cn : Nat → Int32), (rg u_ad) ∧ (0 ≤ u_ru ∧ u_ru ≤ 24) ∧ (0 ≤ u_cl ∧ u_cl ≤ 24) ∧ (0 ≤ u_bo ∧ u_bo ≤ 24) ∧ (kBsM w fn rz (kBM f_wg mn f_hs fn f_pf f_kd f_wd u_cl u_bo u_ru u_ad u_f_sa u_f_fi u_f_ch u_f_cn) u_ru u_bo u_ad) ∧ va_P D vwCl [(h0, .inr (9, [.int (zI fa), .int (zI tc), .ref so, .ref sl, .ref ce, .int (zI fn), .ref kd, .ref wd, .ref hs, .ref pf, .ref lt, .int (zI mn), .ref wg, .int (zI ta), .long ck, .int (zI at9), .int (zI rfn), .ref rk, .ref rw, .ref rh, .int (zI u_cl), .ref sa, .ref fi, .int (zI u_bo), .ref ch, .ref cn, .int (zI u_ad), .int (zI u_ru), .ref kp, .int (zI dn), .ref rfa])), (wg, .inl (c_wg, 24, .inl f_wg)), (sa, .inl (c_sa, 25, .inl u_f_sa)), (fi, .inl (c_fi, 24, .inl u_f_fi)), (hs, .inl (c_hs, 4, .inl f_hs)), (ch, .inl (c_ch, 96, .inl u_f_ch)), (cn, .inl (c_cn, 24, .inl u_f_cn)), (pf, .inl (c_pf, 4, .inl f_pf)), (kd, .inl (c_kd, 4, .inl f_kd)), (wd, .inl (c_wd, 4, .inl f_wd))] t.heap ∧ va_D (va_A [(h0, .inr (9, [.int (zI fa), .int (zI tc), .ref so, .ref sl, .ref ce, .int (zI fn), .ref kd, .ref wd, .ref hs, .ref pf, .ref lt, .int (zI mn), .ref wg, .int (zI ta), .long ck, .int (zI at9), .int (zI rfn), .ref rk, .ref rw, .ref rh, .int (zI cl), .ref sa, .ref fi, .int (zI bo), .ref ch, .ref cn, .int (zI ad), .int (zI ru), .ref kp, .int (zI dn), .ref rfa])), (wg, .inl (c_wg, 24, .inl f_wg)), (sa, .inl (c_sa, 25, .inl f_sa)), (fi, .inl (c_fi, 24, .inl f_fi)), (hs, .inl (c_hs, 4, .inl f_hs)), (ch, .inl (c_ch, 96, .inl f_ch)), (cn, .inl (c_cn, 24, .inl f_cn)), (pf, .inl (c_pf, 4, .inl f_pf)), (kd, .inl (c_kd, 4, .inl f_kd)), (wd, .inl (c_wd, 4, .inl f_wd))] sz) [(h0, .inr (9, [.int (zI fa), .int (zI tc), .ref so, .ref sl, .ref ce, .int (zI fn), .ref kd, .ref wd, .ref hs, .ref pf, .ref lt, .int (zI mn), .ref wg, .int (zI ta), .long ck, .int (zI at9), .int (zI rfn), .ref rk, .ref rw, .ref rh, .int (zI u_cl), .ref sa, .ref fi, .int (zI u_bo), .ref ch, .ref cn, .int (zI u_ad), .int (zI u_ru), .ref kp, .int (zI dn), .ref rfa])), (wg, .inl (c_wg, 24, .inl f_wg)), (sa, .inl (c_sa, 25, .inl u_f_sa)), (fi, .inl (c_fi, 24, .inl u_f_fi)), (hs, .inl (c_hs, 4, .inl f_hs)), (ch, .inl (c_ch, 96, .inl u_f_ch)), (cn, .inl (c_cn, 24, .inl u_f_cn)), (pf, .inl (c_pf, 4, .inl f_pf)), (kd, .inl (c_kd, 4, .inl f_kd)), (wd, .inl (c_wd, 4, .inl f_wd))]) (va_A [(h0, .inr (9, [.int (zI fa), .int (zI tc), .ref so, .ref sl, .ref ce, .int (zI fn), .ref kd, .ref wd, .ref hs, .ref pf, .ref lt, .int (zI mn), .ref wg, .int (zI ta), .long ck, .int (zI at9), .int (zI rfn), .ref rk, .ref rw, .ref rh, .int (zI cl), .ref sa, .ref fi, .int (zI bo), .ref ch, .ref cn, .int (zI ad), .int (zI ru), .ref kp, .int (zI dn), .ref rfa])), (wg, .inl (c_wg, 24, .inl f_wg)), (sa, .inl (c_sa, 25, .inl f_sa)), (fi, .inl (c_fi, 24, .inl f_fi)), (hs, .inl (c_hs, 4, .inl f_hs)), (ch, .inl (c_ch, 96, .inl f_ch)), (cn, .inl (c_cn, 24, .inl f_cn)), (pf, .inl (c_pf, 4, .inl f_pf)), (kd, .inl (c_kd, 4, .inl f_kd)), (wd, .inl (c_wd, 4, .inl f_wd))] sz)) 0 0 (va_A [(h0, .inr (9, [.int (zI fa), .int (zI tc), .ref so, .ref sl, .ref ce, .int (zI fn), .ref kd, .ref wd, .ref hs, .ref pf, .ref lt, .int (zI mn), .ref wg, .int (zI ta), .long ck, .int (zI at9), .int (zI rfn), .ref rk, .ref rw, .ref rh, .int (zI cl), .ref sa, .ref fi, .int (zI bo), .ref ch, .ref cn, .int (zI ad), .int (zI ru), .ref kp, .int (zI dn), .ref rfa])), (wg, .inl (c_wg, 24, .inl f_wg)), (sa, .inl (c_sa, 25, .inl f_sa)), (fi, .inl (c_fi, 24, .inl f_fi)), (hs, .inl (c_hs, 4, .inl f_hs)), (ch, .inl (c_ch, 96, .inl f_ch)), (cn, .inl (c_cn, 24, .inl f_cn)), (pf, .inl (c_pf, 4, .inl f_pf)), (kd, .inl (c_kd, 4, .inl f_kd)), (wd, .inl (c_wd, 4, .inl f_wd))] sz) := by
  refine Met.ofW (cc := cX9_best) (maxL := 3) (ret := (some .int)) (by decide) rfl ?_
  intro p e s m args below meth c s₁ B hml hv
  obtain ⟨rfl, hsz, hP, hK, hD0, hN⟩ := hv
  have hx := B.exec
  have hb := B.bytes
  have hr := B.returns
  have hts := atoms_spec (ws := wsX9_best) B.pre
  have hown : s.vm.findClass RX9 = some m.cls := findClass_of_methodNamed B.named
  have hlocks := B.notSynchronized
  subst hsz
  have hD := hD0.self (sz := s.heap.size)
  generalize hAe : va_A [(h0, .inr (9, [.int (zI fa), .int (zI tc), .ref so, .ref sl, .ref ce, .int (zI fn), .ref kd, .ref wd, .ref hs, .ref pf, .ref lt, .int (zI mn), .ref wg, .int (zI ta), .long ck, .int (zI at9), .int (zI rfn), .ref rk, .ref rw, .ref rh, .int (zI cl), .ref sa, .ref fi, .int (zI bo), .ref ch, .ref cn, .int (zI ad), .int (zI ru), .ref kp, .int (zI dn), .ref rfa])), (wg, .inl (c_wg, 24, .inl f_wg)), (sa, .inl (c_sa, 25, .inl f_sa)), (fi, .inl (c_fi, 24, .inl f_fi)), (hs, .inl (c_hs, 4, .inl f_hs)), (ch, .inl (c_ch, 96, .inl f_ch)), (cn, .inl (c_cn, 24, .inl f_cn)), (pf, .inl (c_pf, 4, .inl f_pf)), (kd, .inl (c_kd, 4, .inl f_kd)), (wd, .inl (c_wd, 4, .inl f_wd))] s.heap.size = A at hD ⊢
  have hA : ∀ q : Nat, s.heap.size ≤ q → A q := fun q h => by rw [← hAe]; exact Or.inr h
  have hS : va_S A s.heap s.heap [] := va_S.rf
  have hP : va_P D vwCl [(h0, .inr (9, [.int (zI fa), .int (zI tc), .ref so, .ref sl, .ref ce, .int (zI fn), .ref kd, .ref wd, .ref hs, .ref pf, .ref lt, .int (zI mn), .ref wg, .int (zI ta), .long ck, .int (zI at9), .int (zI rfn), .ref rk, .ref rw, .ref rh, .int (zI cl), .ref sa, .ref fi, .int (zI bo), .ref ch, .ref cn, .int (zI ad), .int (zI ru), .ref kp, .int (zI dn), .ref rfa])), (wg, .inl (c_wg, 24, .inl f_wg)), (sa, .inl (c_sa, 25, .inl f_sa)), (fi, .inl (c_fi, 24, .inl f_fi)), (hs, .inl (c_hs, 4, .inl f_hs)), (ch, .inl (c_ch, 96, .inl f_ch)), (cn, .inl (c_cn, 24, .inl f_cn)), (pf, .inl (c_pf, 4, .inl f_pf)), (kd, .inl (c_kd, 4, .inl f_kd)), (wd, .inl (c_wd, 4, .inl f_wd))] s.heap := hP
  have hl := lv_entry ([.ref h0, .int (zI w)]) (n := 3) (Nat.le_of_ble_eq_true rfl)
  rw [lg_entry_eq]
  generalize (lg_sl ([.ref h0, .int (zI w)]) ++ List.replicate (3 - (lg_sl ([.ref h0, .int (zI w)])).length) Slot.unset).toArray = ls at hl ⊢
  have hl : lv_has ls 3 [(0, .ref h0), (1, .int (zI w))] := hl
  refine lv_iload_n hx hb dX9_best_0 rfl (lv_at hl 1 rfl) ?_
  refine lv_iconst (v := zI 0) hx hb dX9_best_1 rfl ?_
  refine lv_iconst (v := zI 3) hx hb dX9_best_2 rfl ?_
  refine k_callR (va_runS (As := [.int (zI w), .int (zI 0), .int (zI 3)]) (rest := []) ⟨hx, hb, hml, hown, hts⟩ (c_X9_within l D s.heap.size (v := w) (a := 0) (b := 3) q0 (by omega) (by omega)) (va_cwS 3 hts gX9_best_X9_within rfl rfl rfl (by decide +kernel) ⟨Nat.le_of_ble_eq_true rfl, Nat.le_of_ble_eq_true rfl⟩) (kPreS hP (kD0 hD) hK hN [] [] ax_X9_best_b_0 rfl (by decide +kernel)) rfl rfl hl.1 rfl (lv_room (Nat.le_of_ble_eq_true rfl)) dX9_best_3 ⟨Nat.le_of_ble_eq_true rfl, Nat.le_of_ble_eq_true rfl⟩) ?_
  refine lv_if_ne (tgt := 12) hx hb dX9_best_6 (by decide) (fun c_1 => ?_) (fun c_1 => ?_)
  · have c_1 : 0 ≤ w ∧ w ≤ 3 := b01t c_1
    refine lv_aload_n hx hb dX9_best_12 rfl (lv_at hl 0 rfl) ?_
    refine va_get (D := D) (ci := 9) (v := .int (zI fn)) (C := RX9) (T := TX9) (N := 31) hx hb hts (fun _ h9 => List.mem_cons_of_mem _ (List.mem_append_right _ h9)) hown hK hP 0 rfl rfl 5 (by decide) (hts (.fieldLink RX9 74 "FontRunsModel" "fonts" "I") mw_X9_best_b_0) (fun _ h9 => h9) rfl dX9_best_13 ?_
    refine kz_if_ne (tgt := 22) hx hb dX9_best_16 (by decide) (by omega) (fun c_2 => ?_) (fun c_2 => ?_)
    · refine lv_aload_n hx hb dX9_best_22 rfl (lv_at hl 0 rfl) ?_
      have hFc := va_free (wc := [(h0, .inr (9, [.int (zI fa), .int (zI tc), .ref so, .ref sl, .ref ce, .int (zI fn), .ref kd, .ref wd, .ref hs, .ref pf, .ref lt, .int (zI mn), .ref wg, .int (zI ta), .long ck, .int (zI at9), .int (zI rfn), .ref rk, .ref rw, .ref rh, .int (zI cl), .ref sa, .ref fi, .int (zI bo), .ref ch, .ref cn, .int (zI ad), .int (zI ru), .ref kp, .int (zI dn), .ref rfa])), (wg, .inl (c_wg, 24, .inl f_wg)), (sa, .inl (c_sa, 25, .inl f_sa)), (fi, .inl (c_fi, 24, .inl f_fi)), (hs, .inl (c_hs, 4, .inl f_hs)), (ch, .inl (c_ch, 96, .inl f_ch)), (cn, .inl (c_cn, 24, .inl f_cn)), (pf, .inl (c_pf, 4, .inl f_pf)), (kd, .inl (c_kd, 4, .inl f_kd)), (wd, .inl (c_wd, 4, .inl f_wd))]) hD hS hA [0, 1, 2, 3, 4, 5, 6, 7, 8, 9] ax_X9_best_b_1
      refine va_calli (va_runV (As := []) (rest := []) ⟨hx, hb, hml, hown, hts⟩ (c_X9_findBest_b l D s.heap.size (h0 := h0) (fa := fa) (tc := tc) (so := so) (sl := sl) (ce := ce) (fn := fn) (kd := kd) (wd := wd) (hs := hs) (pf := pf) (lt := lt) (mn := mn) (wg := wg) (ta := ta) (ck := ck) (at9 := at9) (rfn := rfn) (rk := rk) (rw := rw) (rh := rh) (cl := cl) (sa := sa) (fi := fi) (bo := bo) (ch := ch) (cn := cn) (ad := ad) (ru := ru) (kp := kp) (dn := dn) (rfa := rfa) (c_wg := c_wg) (f_wg := f_wg) (c_sa := c_sa) (f_sa := f_sa) (c_fi := c_fi) (f_fi := f_fi) (c_hs := c_hs) (f_hs := f_hs) (c_ch := c_ch) (f_ch := f_ch) (c_cn := c_cn) (f_cn := f_cn) (c_pf := c_pf) (f_pf := f_pf) (c_kd := c_kd) (f_kd := f_kd) (c_wd := c_wd) (f_wd := f_wd) q1 q2 q3 q4) (cwV 0 hts gX9_best_X9_findBest rfl rfl rfl (by decide +kernel) ⟨Nat.le_of_ble_eq_true rfl, Nat.le_of_ble_eq_true rfl⟩) (kPreV hP (kD0 hD) hK hN [0, 1, 2, 3, 4, 5, 6, 7, 8, 9] [0, 1, 2, 3, 4, 5, 6, 7, 8] ax_X9_best_b_1 rfl (by decide +kernel) 0 9 rfl rfl) rfl rfl hl.1 rfl (lv_room (Nat.le_of_ble_eq_true rfl)) dX9_best_23 ⟨Nat.le_of_ble_eq_true rfl, Nat.le_of_ble_eq_true rfl⟩) hS (fun q _ h => hFc q h) hFc (fun r u t H1 locs ht hvm hw hB hz1 hk1 hS => ?_)
      obtain ⟨z_11, e9⟩ : ∃ z, z = u := ⟨_, rfl⟩
      subst e9
      obtain ⟨rfl, rz_11⟩ := hw
      refine Exists.elim hB (fun u_cl_3 hB1 => Exists.elim hB1 (fun u_bo_4 hB2 => Exists.elim hB2 (fun u_ad_5 hB3 => Exists.elim hB3 (fun u_ru_6 hB4 => Exists.elim hB4 (fun u_f_sa_7 hB5 => Exists.elim hB5 (fun u_f_fi_8 hB6 => Exists.elim hB6 (fun u_f_ch_9 hB7 => Exists.elim hB7 (fun u_f_cn_10 hB8 => ?_))))))))
      have h_12 := hB8.1
      have h_13 := hB8.2.1
      have h_14 := hB8.2.2.1
      have h_15 := hB8.2.2.2.1
      have h_16 := hB8.2.2.2.2.1
      have h_17 := hB8.2.2.2.2.2.1
      have h_18 := hB8.2.2.2.2.2.2.1
      have h_19 := hB8.2.2.2.2.2.2.2.1
      have h_20 := hB8.2.2.2.2.2.2.2.2.1
      have hP1 := hB8.2.2.2.2.2.2.2.2.2.1
      have hD1 := hB8.2.2.2.2.2.2.2.2.2.2
      clear hB hB1 hB2 hB3 hB4 hB5 hB6 hB7 hB8
      rw [ht] at hP1
      obtain ⟨hP, hD⟩ := va_join (wr := []) (w1 := [(h0, .inr (9, [.int (zI fa), .int (zI tc), .ref so, .ref sl, .ref ce, .int (zI fn), .ref kd, .ref wd, .ref hs, .ref pf, .ref lt, .int (zI mn), .ref wg, .int (zI ta), .long ck, .int (zI at9), .int (zI rfn), .ref rk, .ref rw, .ref rh, .int (zI u_cl_3), .ref sa, .ref fi, .int (zI u_bo_4), .ref ch, .ref cn, .int (zI u_ad_5), .int (zI u_ru_6), .ref kp, .int (zI dn), .ref rfa])), (wg, .inl (c_wg, 24, .inl f_wg)), (sa, .inl (c_sa, 25, .inl u_f_sa_7)), (fi, .inl (c_fi, 24, .inl u_f_fi_8)), (hs, .inl (c_hs, 4, .inl f_hs)), (ch, .inl (c_ch, 96, .inl u_f_ch_9)), (cn, .inl (c_cn, 24, .inl u_f_cn_10)), (pf, .inl (c_pf, 4, .inl f_pf)), (kd, .inl (c_kd, 4, .inl f_kd)), (wd, .inl (c_wd, 4, .inl f_wd))]) hP hD [0, 1, 2, 3, 4, 5, 6, 7, 8, 9] [] ax_X9_best_b_1 ax_X9_best_b_0 (by decide +kernel) (by decide +kernel) hk1 hFc hP1 hD1
      have hP := ax_X9_best_b_2 hP
      have hD := ax_X9_best_b_3 hD
      generalize H1 = H at hP hS ⊢
      have hP : va_P D vwCl [(h0, .inr (9, [.int (zI fa), .int (zI tc), .ref so, .ref sl, .ref ce, .int (zI fn), .ref kd, .ref wd, .ref hs, .ref pf, .ref lt, .int (zI mn), .ref wg, .int (zI ta), .long ck, .int (zI at9), .int (zI rfn), .ref rk, .ref rw, .ref rh, .int (zI u_cl_3), .ref sa, .ref fi, .int (zI u_bo_4), .ref ch, .ref cn, .int (zI u_ad_5), .int (zI u_ru_6), .ref kp, .int (zI dn), .ref rfa])), (wg, .inl (c_wg, 24, .inl f_wg)), (sa, .inl (c_sa, 25, .inl u_f_sa_7)), (fi, .inl (c_fi, 24, .inl u_f_fi_8)), (hs, .inl (c_hs, 4, .inl f_hs)), (ch, .inl (c_ch, 96, .inl u_f_ch_9)), (cn, .inl (c_cn, 24, .inl u_f_cn_10)), (pf, .inl (c_pf, 4, .inl f_pf)), (kd, .inl (c_kd, 4, .inl f_kd)), (wd, .inl (c_wd, 4, .inl f_wd))] H := hP
      have hD : va_D A [(h0, .inr (9, [.int (zI fa), .int (zI tc), .ref so, .ref sl, .ref ce, .int (zI fn), .ref kd, .ref wd, .ref hs, .ref pf, .ref lt, .int (zI mn), .ref wg, .int (zI ta), .long ck, .int (zI at9), .int (zI rfn), .ref rk, .ref rw, .ref rh, .int (zI u_cl_3), .ref sa, .ref fi, .int (zI u_bo_4), .ref ch, .ref cn, .int (zI u_ad_5), .int (zI u_ru_6), .ref kp, .int (zI dn), .ref rfa])), (wg, .inl (c_wg, 24, .inl f_wg)), (sa, .inl (c_sa, 25, .inl u_f_sa_7)), (fi, .inl (c_fi, 24, .inl u_f_fi_8)), (hs, .inl (c_hs, 4, .inl f_hs)), (ch, .inl (c_ch, 96, .inl u_f_ch_9)), (cn, .inl (c_cn, 24, .inl u_f_cn_10)), (pf, .inl (c_pf, 4, .inl f_pf)), (kd, .inl (c_kd, 4, .inl f_kd)), (wd, .inl (c_wd, 4, .inl f_wd))] := hD
      refine lv_istore_n (lv' := [(2, .int (zI z_11)), (0, .ref h0), (1, .int (zI w))]) hx hb dX9_best_26 rfl hl (by decide) rfl (fun ls hl => ?_)
      refine lv_iload_n hx hb dX9_best_27 rfl (lv_at hl 2 rfl) ?_
      refine kz_if_ne (tgt := 35) hx hb dX9_best_28 (by decide) (by omega) (fun c_21 => ?_) (fun c_21 => ?_)
      · refine lv_iload_n hx hb dX9_best_35 rfl (lv_at hl 2 rfl) ?_
        refine lv_iconst (v := zI 1) hx hb dX9_best_36 rfl ?_
        refine kz_icmp_ne (tgt := 47) hx hb dX9_best_37 (by decide) (by omega) (by omega) (fun c_22 => ?_) (fun c_22 => ?_)
        · refine lv_iload_n hx hb dX9_best_47 rfl (lv_at hl 2 rfl) ?_
          refine lv_iconst (v := zI 2) hx hb dX9_best_48 rfl ?_
          refine kz_icmp_ne (tgt := 59) hx hb dX9_best_49 (by decide) (by omega) (by omega) (fun c_23 => ?_) (fun c_23 => ?_)
          · refine lv_aload_n hx hb dX9_best_59 rfl (lv_at hl 1 rfl) ?_
            refine va_get (D := D) (ci := 9) (v := .int (zI u_ad_5)) (C := RX9) (T := TX9) (N := 31) hx hb hts (fun _ h9 => List.mem_cons_of_mem _ (List.mem_append_right _ h9)) hown hK hP 0 rfl rfl 26 (by decide) (hts (.fieldLink RX9 158 "FontRunsModel" "advance" "I") mw_X9_best_b_1) (fun _ h9 => h9) rfl dX9_best_60 ?_
            have hP9 := hP.sub (ws' := [(h0, .inr (9, [.int (zI fa), .int (zI tc), .ref so, .ref sl, .ref ce, .int (zI fn), .ref kd, .ref wd, .ref hs, .ref pf, .ref lt, .int (zI mn), .ref wg, .int (zI ta), .long ck, .int (zI at9), .int (zI rfn), .ref rk, .ref rw, .ref rh, .int (zI u_cl_3), .ref sa, .ref fi, .int (zI u_bo_4), .ref ch, .ref cn, .int (zI u_ad_5), .int (zI u_ru_6), .ref kp, .int (zI dn), .ref rfa])), (wg, .inl (c_wg, 24, .inl f_wg)), (sa, .inl (c_sa, 25, .inl u_f_sa_7)), (fi, .inl (c_fi, 24, .inl u_f_fi_8)), (hs, .inl (c_hs, 4, .inl f_hs)), (ch, .inl (c_ch, 96, .inl u_f_ch_9)), (cn, .inl (c_cn, 24, .inl u_f_cn_10)), (pf, .inl (c_pf, 4, .inl f_pf)), (kd, .inl (c_kd, 4, .inl f_kd)), (wd, .inl (c_wd, 4, .inl f_wd))]) [0, 1, 2, 3, 4, 5, 6, 7, 8, 9] rfl
            have hD9 := hD.sub (ws' := [(h0, .inr (9, [.int (zI fa), .int (zI tc), .ref so, .ref sl, .ref ce, .int (zI fn), .ref kd, .ref wd, .ref hs, .ref pf, .ref lt, .int (zI mn), .ref wg, .int (zI ta), .long ck, .int (zI at9), .int (zI rfn), .ref rk, .ref rw, .ref rh, .int (zI u_cl_3), .ref sa, .ref fi, .int (zI u_bo_4), .ref ch, .ref cn, .int (zI u_ad_5), .int (zI u_ru_6), .ref kp, .int (zI dn), .ref rfa])), (wg, .inl (c_wg, 24, .inl f_wg)), (sa, .inl (c_sa, 25, .inl u_f_sa_7)), (fi, .inl (c_fi, 24, .inl u_f_fi_8)), (hs, .inl (c_hs, 4, .inl f_hs)), (ch, .inl (c_ch, 96, .inl u_f_ch_9)), (cn, .inl (c_cn, 24, .inl u_f_cn_10)), (pf, .inl (c_pf, 4, .inl f_pf)), (kd, .inl (c_kd, 4, .inl f_kd)), (wd, .inl (c_wd, 4, .inl f_wd))]) [0, 1, 2, 3, 4, 5, 6, 7, 8, 9] (by decide +kernel) rfl
            exact W.iret (v := (zI u_ad_5)) hx hb hr (fun t ht hW => kQS_of (by omega) ⟨u_cl_3, u_bo_4, u_ad_5, u_ru_6, u_f_sa_7, u_f_fi_8, u_f_ch_9, u_f_cn_10, h_15, (by omega), (by omega), h_13, (Or.inr (Or.inr ⟨by omega, by omega, _, h_20, Or.inr (Or.inr (Or.inr (⟨by omega, by omega⟩)))⟩)), by rw [ht]; exact hP9, hD9⟩ (hS.F ht)) hS.2.2 dX9_best_63
          · refine lv_aload_n hx hb dX9_best_52 rfl (lv_at hl 1 rfl) ?_
            refine va_get (D := D) (ci := 9) (v := .int (zI u_bo_4)) (C := RX9) (T := TX9) (N := 31) hx hb hts (fun _ h9 => List.mem_cons_of_mem _ (List.mem_append_right _ h9)) hown hK hP 0 rfl rfl 23 (by decide) (hts (.fieldLink RX9 141 "FontRunsModel" "boxes" "I") mw_X9_best_b_2) (fun _ h9 => h9) rfl dX9_best_53 ?_
            refine lv_goto (tgt := 63) hx hb dX9_best_56 (by decide) ?_
            have hP9 := hP.sub (ws' := [(h0, .inr (9, [.int (zI fa), .int (zI tc), .ref so, .ref sl, .ref ce, .int (zI fn), .ref kd, .ref wd, .ref hs, .ref pf, .ref lt, .int (zI mn), .ref wg, .int (zI ta), .long ck, .int (zI at9), .int (zI rfn), .ref rk, .ref rw, .ref rh, .int (zI u_cl_3), .ref sa, .ref fi, .int (zI u_bo_4), .ref ch, .ref cn, .int (zI u_ad_5), .int (zI u_ru_6), .ref kp, .int (zI dn), .ref rfa])), (wg, .inl (c_wg, 24, .inl f_wg)), (sa, .inl (c_sa, 25, .inl u_f_sa_7)), (fi, .inl (c_fi, 24, .inl u_f_fi_8)), (hs, .inl (c_hs, 4, .inl f_hs)), (ch, .inl (c_ch, 96, .inl u_f_ch_9)), (cn, .inl (c_cn, 24, .inl u_f_cn_10)), (pf, .inl (c_pf, 4, .inl f_pf)), (kd, .inl (c_kd, 4, .inl f_kd)), (wd, .inl (c_wd, 4, .inl f_wd))]) [0, 1, 2, 3, 4, 5, 6, 7, 8, 9] rfl
            have hD9 := hD.sub (ws' := [(h0, .inr (9, [.int (zI fa), .int (zI tc), .ref so, .ref sl, .ref ce, .int (zI fn), .ref kd, .ref wd, .ref hs, .ref pf, .ref lt, .int (zI mn), .ref wg, .int (zI ta), .long ck, .int (zI at9), .int (zI rfn), .ref rk, .ref rw, .ref rh, .int (zI u_cl_3), .ref sa, .ref fi, .int (zI u_bo_4), .ref ch, .ref cn, .int (zI u_ad_5), .int (zI u_ru_6), .ref kp, .int (zI dn), .ref rfa])), (wg, .inl (c_wg, 24, .inl f_wg)), (sa, .inl (c_sa, 25, .inl u_f_sa_7)), (fi, .inl (c_fi, 24, .inl u_f_fi_8)), (hs, .inl (c_hs, 4, .inl f_hs)), (ch, .inl (c_ch, 96, .inl u_f_ch_9)), (cn, .inl (c_cn, 24, .inl u_f_cn_10)), (pf, .inl (c_pf, 4, .inl f_pf)), (kd, .inl (c_kd, 4, .inl f_kd)), (wd, .inl (c_wd, 4, .inl f_wd))]) [0, 1, 2, 3, 4, 5, 6, 7, 8, 9] (by decide +kernel) rfl
            exact W.iret (v := (zI u_bo_4)) hx hb hr (fun t ht hW => kQS_of (by omega) ⟨u_cl_3, u_bo_4, u_ad_5, u_ru_6, u_f_sa_7, u_f_fi_8, u_f_ch_9, u_f_cn_10, h_15, (by omega), (by omega), h_13, (Or.inr (Or.inr ⟨by omega, by omega, _, h_20, Or.inr (Or.inr (Or.inl ⟨by omega, by omega⟩))⟩)), by rw [ht]; exact hP9, hD9⟩ (hS.F ht)) hS.2.2 dX9_best_63
        · refine lv_aload_n hx hb dX9_best_40 rfl (lv_at hl 1 rfl) ?_
          refine va_get (D := D) (ci := 9) (v := .int (zI u_ru_6)) (C := RX9) (T := TX9) (N := 31) hx hb hts (fun _ h9 => List.mem_cons_of_mem _ (List.mem_append_right _ h9)) hown hK hP 0 rfl rfl 27 (by decide) (hts (.fieldLink RX9 161 "FontRunsModel" "runs" "I") mw_X9_best_b_3) (fun _ h9 => h9) rfl dX9_best_41 ?_
          refine lv_goto (tgt := 63) hx hb dX9_best_44 (by decide) ?_
          have hP9 := hP.sub (ws' := [(h0, .inr (9, [.int (zI fa), .int (zI tc), .ref so, .ref sl, .ref ce, .int (zI fn), .ref kd, .ref wd, .ref hs, .ref pf, .ref lt, .int (zI mn), .ref wg, .int (zI ta), .long ck, .int (zI at9), .int (zI rfn), .ref rk, .ref rw, .ref rh, .int (zI u_cl_3), .ref sa, .ref fi, .int (zI u_bo_4), .ref ch, .ref cn, .int (zI u_ad_5), .int (zI u_ru_6), .ref kp, .int (zI dn), .ref rfa])), (wg, .inl (c_wg, 24, .inl f_wg)), (sa, .inl (c_sa, 25, .inl u_f_sa_7)), (fi, .inl (c_fi, 24, .inl u_f_fi_8)), (hs, .inl (c_hs, 4, .inl f_hs)), (ch, .inl (c_ch, 96, .inl u_f_ch_9)), (cn, .inl (c_cn, 24, .inl u_f_cn_10)), (pf, .inl (c_pf, 4, .inl f_pf)), (kd, .inl (c_kd, 4, .inl f_kd)), (wd, .inl (c_wd, 4, .inl f_wd))]) [0, 1, 2, 3, 4, 5, 6, 7, 8, 9] rfl
          have hD9 := hD.sub (ws' := [(h0, .inr (9, [.int (zI fa), .int (zI tc), .ref so, .ref sl, .ref ce, .int (zI fn), .ref kd, .ref wd, .ref hs, .ref pf, .ref lt, .int (zI mn), .ref wg, .int (zI ta), .long ck, .int (zI at9), .int (zI rfn), .ref rk, .ref rw, .ref rh, .int (zI u_cl_3), .ref sa, .ref fi, .int (zI u_bo_4), .ref ch, .ref cn, .int (zI u_ad_5), .int (zI u_ru_6), .ref kp, .int (zI dn), .ref rfa])), (wg, .inl (c_wg, 24, .inl f_wg)), (sa, .inl (c_sa, 25, .inl u_f_sa_7)), (fi, .inl (c_fi, 24, .inl u_f_fi_8)), (hs, .inl (c_hs, 4, .inl f_hs)), (ch, .inl (c_ch, 96, .inl u_f_ch_9)), (cn, .inl (c_cn, 24, .inl u_f_cn_10)), (pf, .inl (c_pf, 4, .inl f_pf)), (kd, .inl (c_kd, 4, .inl f_kd)), (wd, .inl (c_wd, 4, .inl f_wd))]) [0, 1, 2, 3, 4, 5, 6, 7, 8, 9] (by decide +kernel) rfl
          exact W.iret (v := (zI u_ru_6)) hx hb hr (fun t ht hW => kQS_of (by omega) ⟨u_cl_3, u_bo_4, u_ad_5, u_ru_6, u_f_sa_7, u_f_fi_8, u_f_ch_9, u_f_cn_10, h_15, (by omega), (by omega), h_13, (Or.inr (Or.inr ⟨by omega, by omega, _, h_20, Or.inr (Or.inl ⟨by omega, by omega⟩)⟩)), by rw [ht]; exact hP9, hD9⟩ (hS.F ht)) hS.2.2 dX9_best_63
      · refine lv_iload_n hx hb dX9_best_31 rfl (lv_at hl 0 rfl) ?_
        refine lv_goto (tgt := 63) hx hb dX9_best_32 (by decide) ?_
        have hP9 := hP.sub (ws' := [(h0, .inr (9, [.int (zI fa), .int (zI tc), .ref so, .ref sl, .ref ce, .int (zI fn), .ref kd, .ref wd, .ref hs, .ref pf, .ref lt, .int (zI mn), .ref wg, .int (zI ta), .long ck, .int (zI at9), .int (zI rfn), .ref rk, .ref rw, .ref rh, .int (zI u_cl_3), .ref sa, .ref fi, .int (zI u_bo_4), .ref ch, .ref cn, .int (zI u_ad_5), .int (zI u_ru_6), .ref kp, .int (zI dn), .ref rfa])), (wg, .inl (c_wg, 24, .inl f_wg)), (sa, .inl (c_sa, 25, .inl u_f_sa_7)), (fi, .inl (c_fi, 24, .inl u_f_fi_8)), (hs, .inl (c_hs, 4, .inl f_hs)), (ch, .inl (c_ch, 96, .inl u_f_ch_9)), (cn, .inl (c_cn, 24, .inl u_f_cn_10)), (pf, .inl (c_pf, 4, .inl f_pf)), (kd, .inl (c_kd, 4, .inl f_kd)), (wd, .inl (c_wd, 4, .inl f_wd))]) [0, 1, 2, 3, 4, 5, 6, 7, 8, 9] rfl
        have hD9 := hD.sub (ws' := [(h0, .inr (9, [.int (zI fa), .int (zI tc), .ref so, .ref sl, .ref ce, .int (zI fn), .ref kd, .ref wd, .ref hs, .ref pf, .ref lt, .int (zI mn), .ref wg, .int (zI ta), .long ck, .int (zI at9), .int (zI rfn), .ref rk, .ref rw, .ref rh, .int (zI u_cl_3), .ref sa, .ref fi, .int (zI u_bo_4), .ref ch, .ref cn, .int (zI u_ad_5), .int (zI u_ru_6), .ref kp, .int (zI dn), .ref rfa])), (wg, .inl (c_wg, 24, .inl f_wg)), (sa, .inl (c_sa, 25, .inl u_f_sa_7)), (fi, .inl (c_fi, 24, .inl u_f_fi_8)), (hs, .inl (c_hs, 4, .inl f_hs)), (ch, .inl (c_ch, 96, .inl u_f_ch_9)), (cn, .inl (c_cn, 24, .inl u_f_cn_10)), (pf, .inl (c_pf, 4, .inl f_pf)), (kd, .inl (c_kd, 4, .inl f_kd)), (wd, .inl (c_wd, 4, .inl f_wd))]) [0, 1, 2, 3, 4, 5, 6, 7, 8, 9] (by decide +kernel) rfl
        exact W.iret (v := (zI z_11)) hx hb hr (fun t ht hW => kQS_of (by omega) ⟨u_cl_3, u_bo_4, u_ad_5, u_ru_6, u_f_sa_7, u_f_fi_8, u_f_ch_9, u_f_cn_10, h_15, (by omega), (by omega), h_13, (Or.inr (Or.inr ⟨by omega, by omega, _, h_20, Or.inl ⟨by omega, rfl⟩⟩)), by rw [ht]; exact hP9, hD9⟩ (hS.F ht)) hS.2.2 dX9_best_63
    · refine lv_bipush (v := zI (-3)) hx hb dX9_best_19 (by decide) ?_
      have hP9 := hP.sub (ws' := [(h0, .inr (9, [.int (zI fa), .int (zI tc), .ref so, .ref sl, .ref ce, .int (zI fn), .ref kd, .ref wd, .ref hs, .ref pf, .ref lt, .int (zI mn), .ref wg, .int (zI ta), .long ck, .int (zI at9), .int (zI rfn), .ref rk, .ref rw, .ref rh, .int (zI cl), .ref sa, .ref fi, .int (zI bo), .ref ch, .ref cn, .int (zI ad), .int (zI ru), .ref kp, .int (zI dn), .ref rfa])), (wg, .inl (c_wg, 24, .inl f_wg)), (sa, .inl (c_sa, 25, .inl f_sa)), (fi, .inl (c_fi, 24, .inl f_fi)), (hs, .inl (c_hs, 4, .inl f_hs)), (ch, .inl (c_ch, 96, .inl f_ch)), (cn, .inl (c_cn, 24, .inl f_cn)), (pf, .inl (c_pf, 4, .inl f_pf)), (kd, .inl (c_kd, 4, .inl f_kd)), (wd, .inl (c_wd, 4, .inl f_wd))]) [0, 1, 2, 3, 4, 5, 6, 7, 8, 9] rfl
      have hD9 := hD.sub (ws' := [(h0, .inr (9, [.int (zI fa), .int (zI tc), .ref so, .ref sl, .ref ce, .int (zI fn), .ref kd, .ref wd, .ref hs, .ref pf, .ref lt, .int (zI mn), .ref wg, .int (zI ta), .long ck, .int (zI at9), .int (zI rfn), .ref rk, .ref rw, .ref rh, .int (zI cl), .ref sa, .ref fi, .int (zI bo), .ref ch, .ref cn, .int (zI ad), .int (zI ru), .ref kp, .int (zI dn), .ref rfa])), (wg, .inl (c_wg, 24, .inl f_wg)), (sa, .inl (c_sa, 25, .inl f_sa)), (fi, .inl (c_fi, 24, .inl f_fi)), (hs, .inl (c_hs, 4, .inl f_hs)), (ch, .inl (c_ch, 96, .inl f_ch)), (cn, .inl (c_cn, 24, .inl f_cn)), (pf, .inl (c_pf, 4, .inl f_pf)), (kd, .inl (c_kd, 4, .inl f_kd)), (wd, .inl (c_wd, 4, .inl f_wd))]) [0, 1, 2, 3, 4, 5, 6, 7, 8, 9] (by decide +kernel) rfl
      exact W.iret (v := (zI (-3))) hx hb hr (fun t ht hW => kQS_of (by omega) ⟨cl, bo, ad, ru, f_sa, f_fi, f_ch, f_cn, q5, q6, q7, q8, (Or.inr (Or.inl ⟨by omega, by omega, by omega⟩)), by rw [ht]; exact hP9, hD9⟩ (hS.F ht)) hS.2.2 dX9_best_21
  · have c_1 : ¬ (0 ≤ w ∧ w ≤ 3) := b01f c_1
    refine lv_bipush (v := zI (-2)) hx hb dX9_best_9 (by decide) ?_
    have hP9 := hP.sub (ws' := [(h0, .inr (9, [.int (zI fa), .int (zI tc), .ref so, .ref sl, .ref ce, .int (zI fn), .ref kd, .ref wd, .ref hs, .ref pf, .ref lt, .int (zI mn), .ref wg, .int (zI ta), .long ck, .int (zI at9), .int (zI rfn), .ref rk, .ref rw, .ref rh, .int (zI cl), .ref sa, .ref fi, .int (zI bo), .ref ch, .ref cn, .int (zI ad), .int (zI ru), .ref kp, .int (zI dn), .ref rfa])), (wg, .inl (c_wg, 24, .inl f_wg)), (sa, .inl (c_sa, 25, .inl f_sa)), (fi, .inl (c_fi, 24, .inl f_fi)), (hs, .inl (c_hs, 4, .inl f_hs)), (ch, .inl (c_ch, 96, .inl f_ch)), (cn, .inl (c_cn, 24, .inl f_cn)), (pf, .inl (c_pf, 4, .inl f_pf)), (kd, .inl (c_kd, 4, .inl f_kd)), (wd, .inl (c_wd, 4, .inl f_wd))]) [0, 1, 2, 3, 4, 5, 6, 7, 8, 9] rfl
    have hD9 := hD.sub (ws' := [(h0, .inr (9, [.int (zI fa), .int (zI tc), .ref so, .ref sl, .ref ce, .int (zI fn), .ref kd, .ref wd, .ref hs, .ref pf, .ref lt, .int (zI mn), .ref wg, .int (zI ta), .long ck, .int (zI at9), .int (zI rfn), .ref rk, .ref rw, .ref rh, .int (zI cl), .ref sa, .ref fi, .int (zI bo), .ref ch, .ref cn, .int (zI ad), .int (zI ru), .ref kp, .int (zI dn), .ref rfa])), (wg, .inl (c_wg, 24, .inl f_wg)), (sa, .inl (c_sa, 25, .inl f_sa)), (fi, .inl (c_fi, 24, .inl f_fi)), (hs, .inl (c_hs, 4, .inl f_hs)), (ch, .inl (c_ch, 96, .inl f_ch)), (cn, .inl (c_cn, 24, .inl f_cn)), (pf, .inl (c_pf, 4, .inl f_pf)), (kd, .inl (c_kd, 4, .inl f_kd)), (wd, .inl (c_wd, 4, .inl f_wd))]) [0, 1, 2, 3, 4, 5, 6, 7, 8, 9] (by decide +kernel) rfl
    exact W.iret (v := (zI (-2))) hx hb hr (fun t ht hW => kQS_of (by omega) ⟨cl, bo, ad, ru, f_sa, f_fi, f_ch, f_cn, q5, q6, q7, q8, (Or.inl ⟨by omega, by omega⟩), by rw [ht]; exact hP9, hD9⟩ (hS.F ht)) hS.2.2 dX9_best_11
