theorem dX8_faultOfLane_0 : decode cX8_faultOfLane 0 = .ok (.aload_n 0, 1) := by decide +kernel
theorem dX8_faultOfLane_1 : decode cX8_faultOfLane 1 = .ok (.getfield 288, 3) := by decide +kernel
theorem dX8_faultOfLane_4 : decode cX8_faultOfLane 4 = .ok (.ifCond .ne 5, 3) := by decide +kernel
theorem dX8_faultOfLane_7 : decode cX8_faultOfLane 7 = .ok (.iconst 1, 1) := by decide +kernel
theorem dX8_faultOfLane_8 : decode cX8_faultOfLane 8 = .ok (.ireturn, 1) := by decide +kernel
theorem dX8_faultOfLane_9 : decode cX8_faultOfLane 9 = .ok (.aload_n 0, 1) := by decide +kernel
theorem dX8_faultOfLane_10 : decode cX8_faultOfLane 10 = .ok (.getfield 301, 3) := by decide +kernel
theorem dX8_faultOfLane_13 : decode cX8_faultOfLane 13 = .ok (.iload_n 1, 1) := by decide +kernel
theorem dX8_faultOfLane_14 : decode cX8_faultOfLane 14 = .ok (.if_icmp .ne 7, 3) := by decide +kernel
theorem dX8_faultOfLane_17 : decode cX8_faultOfLane 17 = .ok (.iconst 0, 1) := by decide +kernel
theorem dX8_faultOfLane_18 : decode cX8_faultOfLane 18 = .ok (.goto 4, 3) := by decide +kernel
theorem dX8_faultOfLane_21 : decode cX8_faultOfLane 21 = .ok (.iconst 2, 1) := by decide +kernel
theorem dX8_faultOfLane_22 : decode cX8_faultOfLane 22 = .ok (.ireturn, 1) := by decide +kernel
set_option maxRecDepth 20000 in
theorem mw_X8_faultOfLane_0 : (.fieldLink RX8 288 "FontRuns$Sheet" "isThere" "Z" : Cond) ∈ wsX8_faultOfLane := List.mem_cons_of_mem _ (List.mem_append_left _ (List.mem_of_getElem? (i := 0) rfl))
set_option maxRecDepth 20000 in
theorem mw_X8_faultOfLane_1 : (.fieldLink RX8 301 "FontRuns$Sheet" "lane" "I" : Cond) ∈ wsX8_faultOfLane := List.mem_cons_of_mem _ (List.mem_append_left _ (List.mem_of_getElem? (i := 1) rfl))
set_option maxHeartbeats 4000000 in
set_option maxRecDepth 100000 in
theorem c_X8_faultOfLane (l : Launch) (D : va_G) (sz : Nat) (ro : Nat) (x : Int) (r1 : Nat) (th : Int) (la : Int) (sz0 : Int) (q0 : rg x) (q1 : th = 0 ∨ th = 1) (q2 : rg la) (q3 : 0 ≤ sz0 ∧ sz0 ≤ 60) : Met l yX8_faultOfLane wsX8_faultOfLane ({ frames := 0, cells := 0, slots := 0, locals := 0 }) (kPre [.ref ro, .int (zI x)] D [(ro, .inr (5, [.ref r1, .int (zI th), .int (zI la), .int (zI sz0)]))] [] sz) (QcP (fun rz => (rz = 1 ∧ th = 0) ∨ (rz = 0 ∧ th = 1 ∧ la = x) ∨ (rz = 2 ∧ th = 1 ∧ ¬ la = x))) 0 0 (fun _ => False) := by
  refine Met.ofW (cc := cX8_faultOfLane) (maxL := 2) (ret := (some .int)) (by decide) rfl ?_
  intro p e s m args below meth c s₁ B hml hv
  obtain ⟨rfl, hsz, hP, hK, hD0, hN⟩ := hv
  have hx := B.exec
  have hb := B.bytes
  have hr := B.returns
  have hts := atoms_spec (ws := wsX8_faultOfLane) B.pre
  have hown : s.vm.findClass RX8 = some m.cls := findClass_of_methodNamed B.named
  have hlocks := B.notSynchronized
  subst hsz
  have hD := hD0
  have hP : va_P D vwCl [(ro, .inr (5, [.ref r1, .int (zI th), .int (zI la), .int (zI sz0)]))] s.heap := hP
  have hl := lv_entry ([.ref ro, .int (zI x)]) (n := 2) (Nat.le_of_ble_eq_true rfl)
  rw [lg_entry_eq]
  generalize (lg_sl ([.ref ro, .int (zI x)]) ++ List.replicate (2 - (lg_sl ([.ref ro, .int (zI x)])).length) Slot.unset).toArray = ls at hl ⊢
  have hl : lv_has ls 2 [(0, .ref ro), (1, .int (zI x))] := hl
  refine lv_aload_n hx hb dX8_faultOfLane_0 rfl (lv_at hl 0 rfl) ?_
  refine va_get (D := D) (ci := 5) (v := .int (zI th)) (C := RX5) (T := TX5) (N := 4) hx hb hts (fun _ h9 => List.mem_cons_of_mem _ (List.mem_append_right _ h9)) hown hK hP 0 rfl rfl 1 (by decide) (hts (.fieldLink RX8 288 "FontRuns$Sheet" "isThere" "Z") mw_X8_faultOfLane_0) (fun _ h9 => h9) rfl dX8_faultOfLane_1 ?_
  refine kz_if_ne (tgt := 9) hx hb dX8_faultOfLane_4 (by decide) (by omega) (fun c_1 => ?_) (fun c_1 => ?_)
  · refine lv_aload_n hx hb dX8_faultOfLane_9 rfl (lv_at hl 0 rfl) ?_
    refine va_get (D := D) (ci := 5) (v := .int (zI la)) (C := RX5) (T := TX5) (N := 4) hx hb hts (fun _ h9 => List.mem_cons_of_mem _ (List.mem_append_right _ h9)) hown hK hP 0 rfl rfl 2 (by decide) (hts (.fieldLink RX8 301 "FontRuns$Sheet" "lane" "I") mw_X8_faultOfLane_1) (fun _ h9 => h9) rfl dX8_faultOfLane_10 ?_
    refine lv_iload_n hx hb dX8_faultOfLane_13 rfl (lv_at hl 1 rfl) ?_
    refine kz_icmp_ne (tgt := 21) hx hb dX8_faultOfLane_14 (by decide) (by omega) (by omega) (fun c_2 => ?_) (fun c_2 => ?_)
    · refine lv_iconst (v := zI 2) hx hb dX8_faultOfLane_21 rfl ?_
      exact W.iret (v := (zI 2)) hx hb hr (fun t ht hW => QcP_of (by omega) (by omega) ht) (fun _ h9 => by cases h9) dX8_faultOfLane_22
    · refine lv_iconst (v := zI 0) hx hb dX8_faultOfLane_17 rfl ?_
      refine lv_goto (tgt := 22) hx hb dX8_faultOfLane_18 (by decide) ?_
      exact W.iret (v := (zI 0)) hx hb hr (fun t ht hW => QcP_of (by omega) (by omega) ht) (fun _ h9 => by cases h9) dX8_faultOfLane_22
  · refine lv_iconst (v := zI 1) hx hb dX8_faultOfLane_7 rfl ?_
    exact W.iret (v := (zI 1)) hx hb hr (fun t ht hW => QcP_of (by omega) (by omega) ht) (fun _ h9 => by cases h9) dX8_faultOfLane_8
theorem dX8_faultOfCells_0 : decode cX8_faultOfCells 0 = .ok (.aload_n 0, 1) := by decide +kernel
theorem dX8_faultOfCells_1 : decode cX8_faultOfCells 1 = .ok (.iload_n 1, 1) := by decide +kernel
theorem dX8_faultOfCells_2 : decode cX8_faultOfCells 2 = .ok (.invokestatic 87, 3) := by decide +kernel
theorem dX8_faultOfCells_5 : decode cX8_faultOfCells 5 = .ok (.istore 4, 2) := by decide +kernel
theorem dX8_faultOfCells_7 : decode cX8_faultOfCells 7 = .ok (.iload 4, 2) := by decide +kernel
theorem dX8_faultOfCells_9 : decode cX8_faultOfCells 9 = .ok (.ifCond .eq 6, 3) := by decide +kernel
theorem dX8_faultOfCells_12 : decode cX8_faultOfCells 12 = .ok (.iload 4, 2) := by decide +kernel
theorem dX8_faultOfCells_14 : decode cX8_faultOfCells 14 = .ok (.ireturn, 1) := by decide +kernel
theorem dX8_faultOfCells_15 : decode cX8_faultOfCells 15 = .ok (.aload_n 0, 1) := by decide +kernel
theorem dX8_faultOfCells_16 : decode cX8_faultOfCells 16 = .ok (.iload_n 2, 1) := by decide +kernel
theorem dX8_faultOfCells_17 : decode cX8_faultOfCells 17 = .ok (.iload_n 3, 1) := by decide +kernel
theorem dX8_faultOfCells_18 : decode cX8_faultOfCells 18 = .ok (.invokevirtual 91, 3) := by decide +kernel
theorem dX8_faultOfCells_21 : decode cX8_faultOfCells 21 = .ok (.ifCond .eq 7, 3) := by decide +kernel
theorem dX8_faultOfCells_24 : decode cX8_faultOfCells 24 = .ok (.iconst 0, 1) := by decide +kernel
theorem dX8_faultOfCells_25 : decode cX8_faultOfCells 25 = .ok (.goto 4, 3) := by decide +kernel
theorem dX8_faultOfCells_28 : decode cX8_faultOfCells 28 = .ok (.iconst 3, 1) := by decide +kernel
theorem dX8_faultOfCells_29 : decode cX8_faultOfCells 29 = .ok (.ireturn, 1) := by decide +kernel
set_option maxRecDepth 20000 in
theorem ggX8_faultOfCells_X5_hasCells : GoodIn wsX8_faultOfCells wsX5_hasCells := goodIn_4 _ (List.forall_mem_cons.mpr ⟨List.mem_cons_of_mem _ (List.mem_append_left _ (List.mem_of_getElem? (i := 10) rfl)), List.forall_mem_append.mpr ⟨List.forall_mem_cons.mpr ⟨List.mem_cons_of_mem _ (List.mem_append_left _ (List.mem_of_getElem? (i := 11) rfl)), List.forall_mem_cons.mpr ⟨List.mem_cons_of_mem _ (List.mem_append_left _ (List.mem_of_getElem? (i := 12) rfl)), List.forall_mem_cons.mpr ⟨List.mem_cons_of_mem _ (List.mem_append_left _ (List.mem_of_getElem? (i := 13) rfl)), List.forall_mem_cons.mpr ⟨List.mem_cons_of_mem _ (List.mem_append_left _ (List.mem_of_getElem? (i := 2) rfl)), List.forall_mem_cons.mpr ⟨List.mem_cons_of_mem _ (List.mem_append_left _ (List.mem_of_getElem? (i := 14) rfl)), fun _ h9 => absurd h9 List.not_mem_nil⟩⟩⟩⟩⟩, fun w h9 => List.mem_cons_of_mem _ (List.mem_append_right _ (h9))⟩⟩) (by decide +kernel)
set_option maxRecDepth 20000 in
theorem gX8_faultOfCells_X5_hasCells : GoodIn wsX8_faultOfCells (wsV RX8 91 RX5 yX5_hasCells wsX5_hasCells) := goodIn_app (goodIn_4 _ (List.forall_mem_cons.mpr ⟨List.mem_cons_of_mem _ (List.mem_append_left _ (List.mem_of_getElem? (i := 6) rfl)), List.forall_mem_cons.mpr ⟨List.mem_cons_of_mem _ (List.mem_append_left _ (List.mem_of_getElem? (i := 7) rfl)), List.forall_mem_cons.mpr ⟨List.mem_cons_of_mem _ (List.mem_append_left _ (List.mem_of_getElem? (i := 8) rfl)), List.forall_mem_cons.mpr ⟨List.mem_cons_of_mem _ (List.mem_append_left _ (List.mem_of_getElem? (i := 9) rfl)), fun _ h9 => absurd h9 List.not_mem_nil⟩⟩⟩⟩) (by decide +kernel)) ggX8_faultOfCells_X5_hasCells
set_option maxRecDepth 20000 in
theorem ggX8_faultOfCells_X8_faultOfLane : GoodIn wsX8_faultOfCells wsX8_faultOfLane := goodIn_4 _ (List.forall_mem_cons.mpr ⟨List.mem_cons_of_mem _ (List.mem_append_left _ (List.mem_of_getElem? (i := 3) rfl)), List.forall_mem_append.mpr ⟨List.forall_mem_cons.mpr ⟨List.mem_cons_of_mem _ (List.mem_append_left _ (List.mem_of_getElem? (i := 4) rfl)), List.forall_mem_cons.mpr ⟨List.mem_cons_of_mem _ (List.mem_append_left _ (List.mem_of_getElem? (i := 5) rfl)), fun _ h9 => absurd h9 List.not_mem_nil⟩⟩, fun w h9 => List.mem_cons_of_mem _ (List.mem_append_right _ (h9))⟩⟩) (by decide +kernel)
set_option maxRecDepth 20000 in
theorem gX8_faultOfCells_X8_faultOfLane : GoodIn wsX8_faultOfCells (va_wsS RX8 87 yX8_faultOfLane wsX8_faultOfLane) := goodIn_app (goodIn_4 _ (List.forall_mem_cons.mpr ⟨List.mem_cons_of_mem _ (List.mem_append_left _ (List.mem_of_getElem? (i := 0) rfl)), List.forall_mem_cons.mpr ⟨List.mem_cons_of_mem _ (List.mem_append_left _ (List.mem_of_getElem? (i := 1) rfl)), List.forall_mem_cons.mpr ⟨List.mem_cons_of_mem _ (List.mem_append_left _ (List.mem_of_getElem? (i := 2) rfl)), fun _ h9 => absurd h9 List.not_mem_nil⟩⟩⟩) (by decide +kernel)) ggX8_faultOfCells_X8_faultOfLane
theorem ax_X8_faultOfCells_0 {e0 : Nat × va_E} : ([0] : List Nat).map (fun i => ([e0] : va_W)[i]?) = ([e0] : va_W).map some := rfl
set_option maxHeartbeats 4000000 in
set_option maxRecDepth 100000 in
theorem c_X8_faultOfCells (l : Launch) (D : va_G) (sz : Nat) (ro : Nat) (x : Int) (i : Int) (k : Int) (r1 : Nat) (th : Int) (la : Int) (sz0 : Int) (q0 : rg x) (q1 : rg i) (q2 : rg k) (q3 : th = 0 ∨ th = 1) (q4 : rg la) (q5 : 0 ≤ sz0 ∧ sz0 ≤ 60) : Met l yX8_faultOfCells wsX8_faultOfCells ({ frames := 2, cells := 0, slots := 0, locals := 44 }) (kPre [.ref ro, .int (zI x), .int (zI i), .int (zI k)] D [(ro, .inr (5, [.ref r1, .int (zI th), .int (zI la), .int (zI sz0)]))] [] sz) (QcP (fun rz => (rz = 0 ∧ th = 1 ∧ la = x ∧ 0 ≤ i ∧ 0 ≤ k ∧ i + k ≤ sz0) ∨ (1 ≤ rz ∧ rz ≤ 3))) 0 0 (fun _ => False) := by
  refine Met.ofW (cc := cX8_faultOfCells) (maxL := 5) (ret := (some .int)) (by decide) rfl ?_
  intro p e s m args below meth c s₁ B hml hv
  obtain ⟨rfl, hsz, hP, hK, hD0, hN⟩ := hv
  have hx := B.exec
  have hb := B.bytes
  have hr := B.returns
  have hts := atoms_spec (ws := wsX8_faultOfCells) B.pre
  have hown : s.vm.findClass RX8 = some m.cls := findClass_of_methodNamed B.named
  have hlocks := B.notSynchronized
  subst hsz
  have hD := hD0
  have hP : va_P D vwCl [(ro, .inr (5, [.ref r1, .int (zI th), .int (zI la), .int (zI sz0)]))] s.heap := hP
  have hl := lv_entry ([.ref ro, .int (zI x), .int (zI i), .int (zI k)]) (n := 5) (Nat.le_of_ble_eq_true rfl)
  rw [lg_entry_eq]
  generalize (lg_sl ([.ref ro, .int (zI x), .int (zI i), .int (zI k)]) ++ List.replicate (5 - (lg_sl ([.ref ro, .int (zI x), .int (zI i), .int (zI k)])).length) Slot.unset).toArray = ls at hl ⊢
  have hl : lv_has ls 5 [(0, .ref ro), (1, .int (zI x)), (2, .int (zI i)), (3, .int (zI k))] := hl
  refine lv_aload_n hx hb dX8_faultOfCells_0 rfl (lv_at hl 0 rfl) ?_
  refine lv_iload_n hx hb dX8_faultOfCells_1 rfl (lv_at hl 1 rfl) ?_
  refine k_callP (va_runS (As := [.ref ro, .int (zI x)]) (rest := []) ⟨hx, hb, hml, hown, hts⟩ (c_X8_faultOfLane l D s.heap.size (ro := ro) (x := x) (r1 := r1) (th := th) (la := la) (sz0 := sz0) q0 q3 q4 q5) (va_cwS 2 hts gX8_faultOfCells_X8_faultOfLane rfl rfl rfl (by decide +kernel) ⟨Nat.le_of_ble_eq_true rfl, Nat.le_of_ble_eq_true rfl⟩) (kPreS hP (kD0 hD) hK hN [0] [] ax_X8_faultOfCells_0 rfl (by decide +kernel)) rfl rfl hl.1 rfl (lv_room (Nat.le_of_ble_eq_true rfl)) dX8_faultOfCells_2 ⟨Nat.le_of_ble_eq_true rfl, Nat.le_of_ble_eq_true rfl⟩) (fun z_1 rz_1 h_2 => ?_)
  refine lv_istore (lv' := [(4, .int (zI z_1)), (0, .ref ro), (1, .int (zI x)), (2, .int (zI i)), (3, .int (zI k))]) hx hb dX8_faultOfCells_5 hl (by decide) rfl (fun ls hl => ?_)
  refine lv_iload hx hb dX8_faultOfCells_7 (lv_at hl 0 rfl) ?_
  refine kz_if_eq (tgt := 15) hx hb dX8_faultOfCells_9 (by decide) (by omega) (fun c_3 => ?_) (fun c_3 => ?_)
  · refine lv_aload_n hx hb dX8_faultOfCells_15 rfl (lv_at hl 1 rfl) ?_
    refine lv_iload_n hx hb dX8_faultOfCells_16 rfl (lv_at hl 3 rfl) ?_
    refine lv_iload_n hx hb dX8_faultOfCells_17 rfl (lv_at hl 4 rfl) ?_
    refine k_callR (va_runV (As := [.int (zI i), .int (zI k)]) (rest := []) ⟨hx, hb, hml, hown, hts⟩ (c_X5_hasCells l D s.heap.size (i := i) (k := k) (h0 := ro) (r1 := r1) (th := th) (la := la) (n := sz0) q1 q2 q3 q4 q5) (cwV 2 hts gX8_faultOfCells_X5_hasCells rfl rfl rfl (by decide +kernel) ⟨Nat.le_of_ble_eq_true rfl, Nat.le_of_ble_eq_true rfl⟩) (kPreV hP (kD0 hD) hK hN [0] [] ax_X8_faultOfCells_0 rfl (by decide +kernel) 0 5 rfl rfl) rfl rfl hl.1 rfl (lv_room (Nat.le_of_ble_eq_true rfl)) dX8_faultOfCells_18 ⟨Nat.le_of_ble_eq_true rfl, Nat.le_of_ble_eq_true rfl⟩) ?_
    refine lv_if_eq (tgt := 28) hx hb dX8_faultOfCells_21 (by decide) (fun c_4 => ?_) (fun c_4 => ?_)
    · have c_4 : ¬ (th = 1 ∧ (0 ≤ i ∧ i ≤ sz0) ∧ (0 ≤ k ∧ k ≤ sz0 - i)) := b01f c_4
      refine lv_iconst (v := zI 3) hx hb dX8_faultOfCells_28 rfl ?_
      exact W.iret (v := (zI 3)) hx hb hr (fun t ht hW => QcP_of (by omega) (by omega) ht) (fun _ h9 => by cases h9) dX8_faultOfCells_29
    · have c_4 : th = 1 ∧ (0 ≤ i ∧ i ≤ sz0) ∧ (0 ≤ k ∧ k ≤ sz0 - i) := b01t c_4
      refine lv_iconst (v := zI 0) hx hb dX8_faultOfCells_24 rfl ?_
      refine lv_goto (tgt := 29) hx hb dX8_faultOfCells_25 (by decide) ?_
      exact W.iret (v := (zI 0)) hx hb hr (fun t ht hW => QcP_of (by omega) (by omega) ht) (fun _ h9 => by cases h9) dX8_faultOfCells_29
  · refine lv_iload hx hb dX8_faultOfCells_12 (lv_at hl 0 rfl) ?_
    exact W.iret (v := (zI z_1)) hx hb hr (fun t ht hW => QcP_of (by omega) (by omega) ht) (fun _ h9 => by cases h9) dX8_faultOfCells_14
theorem dX8_failWith_0 : decode cX8_failWith 0 = .ok (.aload_n 0, 1) := by decide +kernel
theorem dX8_failWith_1 : decode cX8_failWith 1 = .ok (.iload_n 1, 1) := by decide +kernel
theorem dX8_failWith_2 : decode cX8_failWith 2 = .ok (.putfield 76, 3) := by decide +kernel
theorem dX8_failWith_5 : decode cX8_failWith 5 = .ok (.bipush (-10), 2) := by decide +kernel
theorem dX8_failWith_7 : decode cX8_failWith 7 = .ok (.iload_n 1, 1) := by decide +kernel
theorem dX8_failWith_8 : decode cX8_failWith 8 = .ok (.isub, 1) := by decide +kernel
theorem dX8_failWith_9 : decode cX8_failWith 9 = .ok (.ireturn, 1) := by decide +kernel
set_option maxRecDepth 20000 in
theorem mw_X8_failWith_0 : (.fieldLink RX8 76 "FontRuns" "latestFault" "I" : Cond) ∈ wsX8_failWith := List.mem_cons_of_mem _ (List.mem_append_left _ (List.mem_of_getElem? (i := 0) rfl))
theorem ax_X8_failWith_0 {e0 : Nat × va_E} : ([0] : List Nat).map (fun i => ([e0] : va_W)[i]?) = ([e0] : va_W).map some := rfl
set_option maxHeartbeats 4000000 in
set_option maxRecDepth 100000 in
theorem c_X8_failWith (l : Launch) (D : va_G) (sz : Nat) (f : Int) (h0 : Nat) (sh : Nat) (rd : Nat) (fr : Nat) (wr : Nat) (pf : Nat) (rc : Nat) (se : Nat) (rs : Nat) (sw : Nat) (sp : Nat) (ss : Nat) (ew : Int) (wc : Int64) (tr : Int) (lf : Int) (q0 : 0 ≤ f ∧ f ≤ 4) : Met l yX8_failWith wsX8_failWith ({ frames := 0, cells := 0, slots := 0, locals := 0 }) (kPre [.ref h0, .int (zI f)] D [(h0, .inr (8, [.ref sh, .ref rd, .ref fr, .ref wr, .ref pf, .ref rc, .ref se, .ref rs, .ref sw, .ref sp, .ref ss, .int (zI ew), .long wc, .int (zI tr), .int (zI lf)]))] [] sz) (kQS (fun rz t => (rz = -10 - f) ∧ va_P D vwCl [(h0, .inr (8, [.ref sh, .ref rd, .ref fr, .ref wr, .ref pf, .ref rc, .ref se, .ref rs, .ref sw, .ref sp, .ref ss, .int (zI ew), .long wc, .int (zI tr), .int (zI f)]))] t.heap ∧ va_D (va_A [(h0, .inr (8, [.ref sh, .ref rd, .ref fr, .ref wr, .ref pf, .ref rc, .ref se, .ref rs, .ref sw, .ref sp, .ref ss, .int (zI ew), .long wc, .int (zI tr), .int (zI lf)]))] sz) [(h0, .inr (8, [.ref sh, .ref rd, .ref fr, .ref wr, .ref pf, .ref rc, .ref se, .ref rs, .ref sw, .ref sp, .ref ss, .int (zI ew), .long wc, .int (zI tr), .int (zI f)]))]) (va_A [(h0, .inr (8, [.ref sh, .ref rd, .ref fr, .ref wr, .ref pf, .ref rc, .ref se, .ref rs, .ref sw, .ref sp, .ref ss, .int (zI ew), .long wc, .int (zI tr), .int (zI lf)]))] sz)) 0 0 (va_A [(h0, .inr (8, [.ref sh, .ref rd, .ref fr, .ref wr, .ref pf, .ref rc, .ref se, .ref rs, .ref sw, .ref sp, .ref ss, .int (zI ew), .long wc, .int (zI tr), .int (zI lf)]))] sz) := by
  refine Met.ofW (cc := cX8_failWith) (maxL := 2) (ret := (some .int)) (by decide) rfl ?_
  intro p e s m args below meth c s₁ B hml hv
  obtain ⟨rfl, hsz, hP, hK, hD0, hN⟩ := hv
  have hx := B.exec
  have hb := B.bytes
  have hr := B.returns
  have hts := atoms_spec (ws := wsX8_failWith) B.pre
  have hown : s.vm.findClass RX8 = some m.cls := findClass_of_methodNamed B.named
  have hlocks := B.notSynchronized
  subst hsz
  have hD := hD0.self (sz := s.heap.size)
  generalize hAe : va_A [(h0, .inr (8, [.ref sh, .ref rd, .ref fr, .ref wr, .ref pf, .ref rc, .ref se, .ref rs, .ref sw, .ref sp, .ref ss, .int (zI ew), .long wc, .int (zI tr), .int (zI lf)]))] s.heap.size = A at hD ⊢
  have hA : ∀ q : Nat, s.heap.size ≤ q → A q := fun q h => by rw [← hAe]; exact Or.inr h
  have hS : va_S A s.heap s.heap [] := va_S.rf
  have hP : va_P D vwCl [(h0, .inr (8, [.ref sh, .ref rd, .ref fr, .ref wr, .ref pf, .ref rc, .ref se, .ref rs, .ref sw, .ref sp, .ref ss, .int (zI ew), .long wc, .int (zI tr), .int (zI lf)]))] s.heap := hP
  have hl := lv_entry ([.ref h0, .int (zI f)]) (n := 2) (Nat.le_of_ble_eq_true rfl)
  rw [lg_entry_eq]
  generalize (lg_sl ([.ref h0, .int (zI f)]) ++ List.replicate (2 - (lg_sl ([.ref h0, .int (zI f)])).length) Slot.unset).toArray = ls at hl ⊢
  have hl : lv_has ls 2 [(0, .ref h0), (1, .int (zI f))] := hl
  refine lv_aload_n hx hb dX8_failWith_0 rfl (lv_at hl 0 rfl) ?_
  refine lv_iload_n hx hb dX8_failWith_1 rfl (lv_at hl 1 rfl) ?_
  refine va_put (D := D) (ci := 8) (v := .int (zI f)) (ty := .int) (C := RX8) (T := TX8) (N := 15) hx hb hts (fun _ h9 => List.mem_cons_of_mem _ (List.mem_append_right _ h9)) tyX8 tyX8_ok nmX8 hown hK hP hD hS 0 rfl rfl 14 (by decide) (hts (.fieldLink RX8 76 "FontRuns" "latestFault" "I") mw_X8_failWith_0) (fun _ h9 => h9) rfl (by decide +kernel) rfl rfl (Nat.le_of_ble_eq_true rfl) dX8_failWith_2 (fun H locs hP hD hS => ?_)
  have hP : va_P D vwCl [(h0, .inr (8, [.ref sh, .ref rd, .ref fr, .ref wr, .ref pf, .ref rc, .ref se, .ref rs, .ref sw, .ref sp, .ref ss, .int (zI ew), .long wc, .int (zI tr), .int (zI f)]))] H := hP
  have hD : va_D A [(h0, .inr (8, [.ref sh, .ref rd, .ref fr, .ref wr, .ref pf, .ref rc, .ref se, .ref rs, .ref sw, .ref sp, .ref ss, .int (zI ew), .long wc, .int (zI tr), .int (zI f)]))] := hD
  refine lv_bipush (v := zI (-10)) hx hb dX8_failWith_5 (by decide) ?_
  refine lv_iload_n hx hb dX8_failWith_7 rfl (lv_at hl 1 rfl) ?_
  refine kz_isub hx hb dX8_failWith_8 ?_
  have hP9 := hP.sub (ws' := [(h0, .inr (8, [.ref sh, .ref rd, .ref fr, .ref wr, .ref pf, .ref rc, .ref se, .ref rs, .ref sw, .ref sp, .ref ss, .int (zI ew), .long wc, .int (zI tr), .int (zI f)]))]) [0] rfl
  have hD9 := hD.sub (ws' := [(h0, .inr (8, [.ref sh, .ref rd, .ref fr, .ref wr, .ref pf, .ref rc, .ref se, .ref rs, .ref sw, .ref sp, .ref ss, .int (zI ew), .long wc, .int (zI tr), .int (zI f)]))]) [0] (by decide +kernel) rfl
  exact W.iret (v := (zI ((-10) - f))) hx hb hr (fun t ht hW => kQS_of (by omega) ⟨(by omega), by rw [ht]; exact hP9, hD9⟩ (hS.F ht)) hS.2.2 dX8_failWith_9
theorem dX8_areLetters_0 : decode cX8_areLetters 0 = .ok (.iconst 0, 1) := by decide +kernel
theorem dX8_areLetters_1 : decode cX8_areLetters 1 = .ok (.istore_n 3, 1) := by decide +kernel
theorem dX8_areLetters_2 : decode cX8_areLetters 2 = .ok (.iload_n 3, 1) := by decide +kernel
theorem dX8_areLetters_3 : decode cX8_areLetters 3 = .ok (.iload_n 2, 1) := by decide +kernel
theorem dX8_areLetters_4 : decode cX8_areLetters 4 = .ok (.if_icmp .ge 27, 3) := by decide +kernel
theorem dX8_areLetters_7 : decode cX8_areLetters 7 = .ok (.aload_n 0, 1) := by decide +kernel
theorem dX8_areLetters_8 : decode cX8_areLetters 8 = .ok (.iload_n 1, 1) := by decide +kernel
theorem dX8_areLetters_9 : decode cX8_areLetters 9 = .ok (.iload_n 3, 1) := by decide +kernel
theorem dX8_areLetters_10 : decode cX8_areLetters 10 = .ok (.iadd, 1) := by decide +kernel
theorem dX8_areLetters_11 : decode cX8_areLetters 11 = .ok (.invokevirtual 157, 3) := by decide +kernel
theorem dX8_areLetters_14 : decode cX8_areLetters 14 = .ok (.iconst 0, 1) := by decide +kernel
theorem dX8_areLetters_15 : decode cX8_areLetters 15 = .ok (.bipush 15, 2) := by decide +kernel
theorem dX8_areLetters_17 : decode cX8_areLetters 17 = .ok (.invokestatic 128, 3) := by decide +kernel
theorem dX8_areLetters_20 : decode cX8_areLetters 20 = .ok (.ifCond .ne 5, 3) := by decide +kernel
theorem dX8_areLetters_23 : decode cX8_areLetters 23 = .ok (.iconst 0, 1) := by decide +kernel
theorem dX8_areLetters_24 : decode cX8_areLetters 24 = .ok (.ireturn, 1) := by decide +kernel
theorem dX8_areLetters_25 : decode cX8_areLetters 25 = .ok (.iinc 3 1, 3) := by decide +kernel
theorem dX8_areLetters_28 : decode cX8_areLetters 28 = .ok (.goto (-26), 3) := by decide +kernel
theorem dX8_areLetters_31 : decode cX8_areLetters 31 = .ok (.iconst 1, 1) := by decide +kernel
theorem dX8_areLetters_32 : decode cX8_areLetters 32 = .ok (.ireturn, 1) := by decide +kernel
set_option maxRecDepth 20000 in
theorem ggX8_areLetters_X5_at : GoodIn wsX8_areLetters wsX5_at := goodIn_4 _ (List.forall_mem_cons.mpr ⟨List.mem_cons_of_mem _ (List.mem_append_left _ (List.mem_of_getElem? (i := 4) rfl)), List.forall_mem_append.mpr ⟨List.forall_mem_cons.mpr ⟨List.mem_cons_of_mem _ (List.mem_append_left _ (List.mem_of_getElem? (i := 5) rfl)), List.forall_mem_cons.mpr ⟨List.mem_cons_of_mem _ (List.mem_append_left _ (List.mem_of_getElem? (i := 6) rfl)), List.forall_mem_cons.mpr ⟨List.mem_cons_of_mem _ (List.mem_append_left _ (List.mem_of_getElem? (i := 7) rfl)), List.forall_mem_cons.mpr ⟨List.mem_cons_of_mem _ (List.mem_append_left _ (List.mem_of_getElem? (i := 8) rfl)), List.forall_mem_cons.mpr ⟨List.mem_cons_of_mem _ (List.mem_append_left _ (List.mem_of_getElem? (i := 3) rfl)), List.forall_mem_cons.mpr ⟨List.mem_cons_of_mem _ (List.mem_append_left _ (List.mem_of_getElem? (i := 9) rfl)), List.forall_mem_cons.mpr ⟨List.mem_cons_of_mem _ (List.mem_append_left _ (List.mem_of_getElem? (i := 10) rfl)), List.forall_mem_cons.mpr ⟨List.mem_cons_of_mem _ (List.mem_append_left _ (List.mem_of_getElem? (i := 11) rfl)), List.forall_mem_cons.mpr ⟨List.mem_cons_of_mem _ (List.mem_append_left _ (List.mem_of_getElem? (i := 12) rfl)), List.forall_mem_cons.mpr ⟨List.mem_cons_of_mem _ (List.mem_append_left _ (List.mem_of_getElem? (i := 13) rfl)), List.forall_mem_cons.mpr ⟨List.mem_cons_of_mem _ (List.mem_append_left _ (List.mem_of_getElem? (i := 14) rfl)), fun _ h9 => absurd h9 List.not_mem_nil⟩⟩⟩⟩⟩⟩⟩⟩⟩⟩⟩, fun w h9 => List.mem_cons_of_mem _ (List.mem_append_right _ (h9))⟩⟩) (by decide +kernel)
set_option maxRecDepth 20000 in
theorem gX8_areLetters_X5_at : GoodIn wsX8_areLetters (wsV RX8 157 RX5 yX5_at wsX5_at) := goodIn_app (goodIn_4 _ (List.forall_mem_cons.mpr ⟨List.mem_cons_of_mem _ (List.mem_append_left _ (List.mem_of_getElem? (i := 0) rfl)), List.forall_mem_cons.mpr ⟨List.mem_cons_of_mem _ (List.mem_append_left _ (List.mem_of_getElem? (i := 1) rfl)), List.forall_mem_cons.mpr ⟨List.mem_cons_of_mem _ (List.mem_append_left _ (List.mem_of_getElem? (i := 2) rfl)), List.forall_mem_cons.mpr ⟨List.mem_cons_of_mem _ (List.mem_append_left _ (List.mem_of_getElem? (i := 3) rfl)), fun _ h9 => absurd h9 List.not_mem_nil⟩⟩⟩⟩) (by decide +kernel)) ggX8_areLetters_X5_at
set_option maxRecDepth 20000 in
theorem ggX8_areLetters_X8_isWithin : GoodIn wsX8_areLetters wsX8_isWithin := goodIn_4 _ (List.forall_mem_cons.mpr ⟨List.mem_cons_of_mem _ (List.mem_append_left _ (List.mem_of_getElem? (i := 14) rfl)), fun _ h9 => absurd h9 List.not_mem_nil⟩) (by decide +kernel)
set_option maxRecDepth 20000 in
theorem gX8_areLetters_X8_isWithin : GoodIn wsX8_areLetters (va_wsS RX8 128 yX8_isWithin wsX8_isWithin) := goodIn_app (goodIn_4 _ (List.forall_mem_cons.mpr ⟨List.mem_cons_of_mem _ (List.mem_append_left _ (List.mem_of_getElem? (i := 15) rfl)), List.forall_mem_cons.mpr ⟨List.mem_cons_of_mem _ (List.mem_append_left _ (List.mem_of_getElem? (i := 12) rfl)), List.forall_mem_cons.mpr ⟨List.mem_cons_of_mem _ (List.mem_append_left _ (List.mem_of_getElem? (i := 13) rfl)), fun _ h9 => absurd h9 List.not_mem_nil⟩⟩⟩) (by decide +kernel)) ggX8_areLetters_X8_isWithin
theorem ax_X8_areLetters_0 {e0 e1 : Nat × va_E} : ([0, 1] : List Nat).map (fun i => ([e0, e1] : va_W)[i]?) = ([e0, e1] : va_W).map some := rfl
theorem ax_X8_areLetters_1 {e0 e1 : Nat × va_E} : ([] : List Nat).map (fun i => ([e0, e1] : va_W)[i]?) = ([] : va_W).map some := rfl
set_option maxHeartbeats 4000000 in
set_option maxRecDepth 100000 in
theorem c_X8_areLetters (l : Launch) (D : va_G) (sz : Nat) (ro : Nat) (i : Int) (k : Int) (r1 : Nat) (th : Int) (la : Int) (sz0 : Int) (cr1 : ClassId) (fr : Nat → Int32) (q0 : 0 ≤ i ∧ 0 ≤ k ∧ i + k ≤ 60) (q1 : th = 0 ∨ th = 1) (q2 : rg la) (q3 : 0 ≤ sz0 ∧ sz0 ≤ 60) : Met l yX8_areLetters wsX8_areLetters ({ frames := 3, cells := 0, slots := 0, locals := 64 }) (kPre [.ref ro, .int (zI i), .int (zI k)] D [(ro, .inr (5, [.ref r1, .int (zI th), .int (zI la), .int (zI sz0)])), (r1, .inl (cr1, 60, .inl fr))] [(cr1, .int)] sz) (QcP (fun rz => True)) 0 0 (fun _ => False) := by
  refine Met.ofW (cc := cX8_areLetters) (maxL := 4) (ret := (some .boolean)) (by decide) rfl ?_
  intro p e s m args below meth c s₁ B hml hv
  obtain ⟨rfl, hsz, hP, hK, hD0, hN⟩ := hv
  have hx := B.exec
  have hb := B.bytes
  have hr := B.returns
  have hts := atoms_spec (ws := wsX8_areLetters) B.pre
  have hown : s.vm.findClass RX8 = some m.cls := findClass_of_methodNamed B.named
  have hlocks := B.notSynchronized
  subst hsz
  have hD := hD0
  have hP : va_P D vwCl [(ro, .inr (5, [.ref r1, .int (zI th), .int (zI la), .int (zI sz0)])), (r1, .inl (cr1, 60, .inl fr))] s.heap := hP
  have hl := lv_entry ([.ref ro, .int (zI i), .int (zI k)]) (n := 4) (Nat.le_of_ble_eq_true rfl)
  rw [lg_entry_eq]
  generalize (lg_sl ([.ref ro, .int (zI i), .int (zI k)]) ++ List.replicate (4 - (lg_sl ([.ref ro, .int (zI i), .int (zI k)])).length) Slot.unset).toArray = ls at hl ⊢
  have hl : lv_has ls 4 [(0, .ref ro), (1, .int (zI i)), (2, .int (zI k))] := hl
  refine lv_iconst (v := zI 0) hx hb dX8_areLetters_0 rfl ?_
  refine lv_istore_n (lv' := [(3, .int (zI 0)), (0, .ref ro), (1, .int (zI i)), (2, .int (zI k))]) hx hb dX8_areLetters_1 rfl hl (by decide) rfl (fun ls hl => ?_)
  refine k_loopM (I := fun n9 H locs ls => ∃ (jk : Int), n9 = (k - jk).toNat ∧ (0 ≤ jk ∧ jk ≤ k) ∧ H = s.heap ∧ locs = [] ∧ lv_has ls 4 [(3, .int (zI jk)), (0, .ref ro), (1, .int (zI i)), (2, .int (zI k))]) ?_ _ ⟨0, rfl, (by omega), rfl, rfl, hl⟩
  intro n2 ih2 H locs ls hI
  obtain ⟨jk, en2, v_20, eH, eL, hl⟩ := hI
  subst eH
  subst eL
  refine lv_iload_n hx hb dX8_areLetters_2 rfl (lv_at hl 0 rfl) ?_
  refine lv_iload_n hx hb dX8_areLetters_3 rfl (lv_at hl 3 rfl) ?_
  refine kz_icmp_ge (tgt := 31) hx hb dX8_areLetters_4 (by decide) (by omega) (by omega) (fun c_1 => ?_) (fun c_1 => ?_)
  · refine lv_iconst (v := zI 1) hx hb dX8_areLetters_31 rfl ?_
    exact W.zret (v := (zI 1)) hx hb hr rfl (fun t ht hW => QcP_of (by omega) trivial ht) (fun _ h9 => by cases h9) dX8_areLetters_32
  · refine lv_aload_n hx hb dX8_areLetters_7 rfl (lv_at hl 1 rfl) ?_
    refine lv_iload_n hx hb dX8_areLetters_8 rfl (lv_at hl 2 rfl) ?_
    refine lv_iload_n hx hb dX8_areLetters_9 rfl (lv_at hl 0 rfl) ?_
    refine kz_iadd hx hb dX8_areLetters_10 ?_
    refine k_callP (va_runV (As := [.int (zI (i + jk))]) (rest := []) ⟨hx, hb, hml, hown, hts⟩ (c_X5_at l D s.heap.size (i := (i + jk)) (h0 := ro) (r1 := r1) (th := th) (la := la) (n := sz0) (cr1 := cr1) (fr := fr) (by omega) q1 q2 q3) (cwV 1 hts gX8_areLetters_X5_at rfl rfl rfl (by decide +kernel) ⟨Nat.le_of_ble_eq_true rfl, Nat.le_of_ble_eq_true rfl⟩) (kPreV hP (kD0 hD) hK hN [0, 1] [0] ax_X8_areLetters_0 rfl (by decide +kernel) 0 5 rfl rfl) rfl rfl hl.1 rfl (lv_room (Nat.le_of_ble_eq_true rfl)) dX8_areLetters_11 ⟨Nat.le_of_ble_eq_true rfl, Nat.le_of_ble_eq_true rfl⟩) (fun z_2 rz_2 h_3 => ?_)
    refine lv_iconst (v := zI 0) hx hb dX8_areLetters_14 rfl ?_
    refine lv_bipush (v := zI 15) hx hb dX8_areLetters_15 (by decide) ?_
    refine k_callR (va_runS (As := [.int (zI z_2), .int (zI 0), .int (zI 15)]) (rest := []) ⟨hx, hb, hml, hown, hts⟩ (c_X8_isWithin l D s.heap.size (v := z_2) (a := 0) (b := 15) (by omega) (by omega) (by omega)) (va_cwS 3 hts gX8_areLetters_X8_isWithin rfl rfl rfl (by decide +kernel) ⟨Nat.le_of_ble_eq_true rfl, Nat.le_of_ble_eq_true rfl⟩) (kPreS hP (kD0 hD) hK hN [] [] ax_X8_areLetters_1 rfl (by decide +kernel)) rfl rfl hl.1 rfl (lv_room (Nat.le_of_ble_eq_true rfl)) dX8_areLetters_17 ⟨Nat.le_of_ble_eq_true rfl, Nat.le_of_ble_eq_true rfl⟩) ?_
    refine lv_if_ne (tgt := 25) hx hb dX8_areLetters_20 (by decide) (fun c_4 => ?_) (fun c_4 => ?_)
    · have c_4 : 0 ≤ z_2 ∧ z_2 ≤ 15 := b01t c_4
      refine lv_iinc (v := (zI (jk + 1))) (lv' := [(3, .int (zI (jk + 1))), (0, .ref ro), (1, .int (zI i)), (2, .int (zI k))]) hx hb dX8_areLetters_25 hl (k := 0) rfl (kz_inc _ 1) (by decide) rfl (fun ls hl => ?_)
      refine lv_goto (tgt := 2) hx hb dX8_areLetters_28 (by decide) ?_
      exact ih2 _ (by omega) _ _ _ ⟨(jk + 1), rfl, (by omega), rfl, rfl, lv_sub hl [0, 1, 2, 3] rfl⟩
    · have c_4 : ¬ (0 ≤ z_2 ∧ z_2 ≤ 15) := b01f c_4
      refine lv_iconst (v := zI 0) hx hb dX8_areLetters_23 rfl ?_
      exact W.zret (v := (zI 0)) hx hb hr rfl (fun t ht hW => QcP_of (by omega) trivial ht) (fun _ h9 => by cases h9) dX8_areLetters_24
theorem dX8_areActs_0 : decode cX8_areActs 0 = .ok (.iconst 0, 1) := by decide +kernel
theorem dX8_areActs_1 : decode cX8_areActs 1 = .ok (.istore_n 3, 1) := by decide +kernel
theorem dX8_areActs_2 : decode cX8_areActs 2 = .ok (.iload_n 3, 1) := by decide +kernel
theorem dX8_areActs_3 : decode cX8_areActs 3 = .ok (.iload_n 2, 1) := by decide +kernel
theorem dX8_areActs_4 : decode cX8_areActs 4 = .ok (.if_icmp .ge 37, 3) := by decide +kernel
theorem dX8_areActs_7 : decode cX8_areActs 7 = .ok (.aload_n 0, 1) := by decide +kernel
theorem dX8_areActs_8 : decode cX8_areActs 8 = .ok (.iload_n 1, 1) := by decide +kernel
theorem dX8_areActs_9 : decode cX8_areActs 9 = .ok (.iconst 2, 1) := by decide +kernel
theorem dX8_areActs_10 : decode cX8_areActs 10 = .ok (.iload_n 3, 1) := by decide +kernel
theorem dX8_areActs_11 : decode cX8_areActs 11 = .ok (.imul, 1) := by decide +kernel
theorem dX8_areActs_12 : decode cX8_areActs 12 = .ok (.iadd, 1) := by decide +kernel
theorem dX8_areActs_13 : decode cX8_areActs 13 = .ok (.invokevirtual 157, 3) := by decide +kernel
theorem dX8_areActs_16 : decode cX8_areActs 16 = .ok (.aload_n 0, 1) := by decide +kernel
theorem dX8_areActs_17 : decode cX8_areActs 17 = .ok (.iload_n 1, 1) := by decide +kernel
theorem dX8_areActs_18 : decode cX8_areActs 18 = .ok (.iconst 2, 1) := by decide +kernel
theorem dX8_areActs_19 : decode cX8_areActs 19 = .ok (.iload_n 3, 1) := by decide +kernel
theorem dX8_areActs_20 : decode cX8_areActs 20 = .ok (.imul, 1) := by decide +kernel
theorem dX8_areActs_21 : decode cX8_areActs 21 = .ok (.iadd, 1) := by decide +kernel
theorem dX8_areActs_22 : decode cX8_areActs 22 = .ok (.iconst 1, 1) := by decide +kernel
theorem dX8_areActs_23 : decode cX8_areActs 23 = .ok (.iadd, 1) := by decide +kernel
theorem dX8_areActs_24 : decode cX8_areActs 24 = .ok (.invokevirtual 157, 3) := by decide +kernel
theorem dX8_areActs_27 : decode cX8_areActs 27 = .ok (.invokestatic 235, 3) := by decide +kernel
theorem dX8_areActs_30 : decode cX8_areActs 30 = .ok (.ifCond .ne 5, 3) := by decide +kernel
theorem dX8_areActs_33 : decode cX8_areActs 33 = .ok (.iconst 0, 1) := by decide +kernel
theorem dX8_areActs_34 : decode cX8_areActs 34 = .ok (.ireturn, 1) := by decide +kernel
theorem dX8_areActs_35 : decode cX8_areActs 35 = .ok (.iinc 3 1, 3) := by decide +kernel
theorem dX8_areActs_38 : decode cX8_areActs 38 = .ok (.goto (-36), 3) := by decide +kernel
theorem dX8_areActs_41 : decode cX8_areActs 41 = .ok (.iconst 1, 1) := by decide +kernel
theorem dX8_areActs_42 : decode cX8_areActs 42 = .ok (.ireturn, 1) := by decide +kernel
set_option maxRecDepth 20000 in
theorem ggX8_areActs_X5_at : GoodIn wsX8_areActs wsX5_at := goodIn_4 _ (List.forall_mem_cons.mpr ⟨List.mem_cons_of_mem _ (List.mem_append_left _ (List.mem_of_getElem? (i := 4) rfl)), List.forall_mem_append.mpr ⟨List.forall_mem_cons.mpr ⟨List.mem_cons_of_mem _ (List.mem_append_left _ (List.mem_of_getElem? (i := 5) rfl)), List.forall_mem_cons.mpr ⟨List.mem_cons_of_mem _ (List.mem_append_left _ (List.mem_of_getElem? (i := 6) rfl)), List.forall_mem_cons.mpr ⟨List.mem_cons_of_mem _ (List.mem_append_left _ (List.mem_of_getElem? (i := 7) rfl)), List.forall_mem_cons.mpr ⟨List.mem_cons_of_mem _ (List.mem_append_left _ (List.mem_of_getElem? (i := 8) rfl)), List.forall_mem_cons.mpr ⟨List.mem_cons_of_mem _ (List.mem_append_left _ (List.mem_of_getElem? (i := 3) rfl)), List.forall_mem_cons.mpr ⟨List.mem_cons_of_mem _ (List.mem_append_left _ (List.mem_of_getElem? (i := 9) rfl)), List.forall_mem_cons.mpr ⟨List.mem_cons_of_mem _ (List.mem_append_left _ (List.mem_of_getElem? (i := 10) rfl)), List.forall_mem_cons.mpr ⟨List.mem_cons_of_mem _ (List.mem_append_left _ (List.mem_of_getElem? (i := 11) rfl)), List.forall_mem_cons.mpr ⟨List.mem_cons_of_mem _ (List.mem_append_left _ (List.mem_of_getElem? (i := 12) rfl)), List.forall_mem_cons.mpr ⟨List.mem_cons_of_mem _ (List.mem_append_left _ (List.mem_of_getElem? (i := 13) rfl)), List.forall_mem_cons.mpr ⟨List.mem_cons_of_mem _ (List.mem_append_left _ (List.mem_of_getElem? (i := 14) rfl)), fun _ h9 => absurd h9 List.not_mem_nil⟩⟩⟩⟩⟩⟩⟩⟩⟩⟩⟩, fun w h9 => List.mem_cons_of_mem _ (List.mem_append_right _ (h9))⟩⟩) (by decide +kernel)
set_option maxRecDepth 20000 in
theorem gX8_areActs_X5_at : GoodIn wsX8_areActs (wsV RX8 157 RX5 yX5_at wsX5_at) := goodIn_app (goodIn_4 _ (List.forall_mem_cons.mpr ⟨List.mem_cons_of_mem _ (List.mem_append_left _ (List.mem_of_getElem? (i := 0) rfl)), List.forall_mem_cons.mpr ⟨List.mem_cons_of_mem _ (List.mem_append_left _ (List.mem_of_getElem? (i := 1) rfl)), List.forall_mem_cons.mpr ⟨List.mem_cons_of_mem _ (List.mem_append_left _ (List.mem_of_getElem? (i := 2) rfl)), List.forall_mem_cons.mpr ⟨List.mem_cons_of_mem _ (List.mem_append_left _ (List.mem_of_getElem? (i := 3) rfl)), fun _ h9 => absurd h9 List.not_mem_nil⟩⟩⟩⟩) (by decide +kernel)) ggX8_areActs_X5_at
set_option maxRecDepth 20000 in
theorem ggX8_areActs_X8_isAct : GoodIn wsX8_areActs wsX8_isAct := goodIn_4 _ (List.forall_mem_cons.mpr ⟨List.mem_cons_of_mem _ (List.mem_append_left _ (List.mem_of_getElem? (i := 17) rfl)), List.forall_mem_cons.mpr ⟨List.mem_cons_of_mem _ (List.mem_append_left _ (List.mem_of_getElem? (i := 18) rfl)), List.forall_mem_cons.mpr ⟨List.mem_cons_of_mem _ (List.mem_append_left _ (List.mem_of_getElem? (i := 12) rfl)), List.forall_mem_cons.mpr ⟨List.mem_cons_of_mem _ (List.mem_append_left _ (List.mem_of_getElem? (i := 13) rfl)), List.forall_mem_cons.mpr ⟨List.mem_cons_of_mem _ (List.mem_append_left _ (List.mem_of_getElem? (i := 14) rfl)), fun _ h9 => absurd h9 List.not_mem_nil⟩⟩⟩⟩⟩) (by decide +kernel)
set_option maxRecDepth 20000 in
theorem gX8_areActs_X8_isAct : GoodIn wsX8_areActs (va_wsS RX8 235 yX8_isAct wsX8_isAct) := goodIn_app (goodIn_4 _ (List.forall_mem_cons.mpr ⟨List.mem_cons_of_mem _ (List.mem_append_left _ (List.mem_of_getElem? (i := 15) rfl)), List.forall_mem_cons.mpr ⟨List.mem_cons_of_mem _ (List.mem_append_left _ (List.mem_of_getElem? (i := 16) rfl)), List.forall_mem_cons.mpr ⟨List.mem_cons_of_mem _ (List.mem_append_left _ (List.mem_of_getElem? (i := 13) rfl)), fun _ h9 => absurd h9 List.not_mem_nil⟩⟩⟩) (by decide +kernel)) ggX8_areActs_X8_isAct
theorem ax_X8_areActs_0 {e0 e1 : Nat × va_E} : ([0, 1] : List Nat).map (fun i => ([e0, e1] : va_W)[i]?) = ([e0, e1] : va_W).map some := rfl
theorem ax_X8_areActs_1 {e0 e1 : Nat × va_E} : ([] : List Nat).map (fun i => ([e0, e1] : va_W)[i]?) = ([] : va_W).map some := rfl
set_option maxHeartbeats 4000000 in
set_option maxRecDepth 100000 in
theorem c_X8_areActs (l : Launch) (D : va_G) (sz : Nat) (ro : Nat) (i : Int) (k : Int) (r1 : Nat) (th : Int) (la : Int) (sz0 : Int) (cr1 : ClassId) (fr : Nat → Int32) (q0 : 0 ≤ i ∧ 0 ≤ k ∧ i + 2 * k ≤ 60) (q1 : th = 0 ∨ th = 1) (q2 : rg la) (q3 : 0 ≤ sz0 ∧ sz0 ≤ 60) : Met l yX8_areActs wsX8_areActs ({ frames := 3, cells := 0, slots := 0, locals := 64 }) (kPre [.ref ro, .int (zI i), .int (zI k)] D [(ro, .inr (5, [.ref r1, .int (zI th), .int (zI la), .int (zI sz0)])), (r1, .inl (cr1, 60, .inl fr))] [(cr1, .int)] sz) (QcP (fun rz => True)) 0 0 (fun _ => False) := by
  refine Met.ofW (cc := cX8_areActs) (maxL := 4) (ret := (some .boolean)) (by decide) rfl ?_
  intro p e s m args below meth c s₁ B hml hv
  obtain ⟨rfl, hsz, hP, hK, hD0, hN⟩ := hv
  have hx := B.exec
  have hb := B.bytes
  have hr := B.returns
  have hts := atoms_spec (ws := wsX8_areActs) B.pre
  have hown : s.vm.findClass RX8 = some m.cls := findClass_of_methodNamed B.named
  have hlocks := B.notSynchronized
  subst hsz
  have hD := hD0
  have hP : va_P D vwCl [(ro, .inr (5, [.ref r1, .int (zI th), .int (zI la), .int (zI sz0)])), (r1, .inl (cr1, 60, .inl fr))] s.heap := hP
  have hl := lv_entry ([.ref ro, .int (zI i), .int (zI k)]) (n := 4) (Nat.le_of_ble_eq_true rfl)
  rw [lg_entry_eq]
  generalize (lg_sl ([.ref ro, .int (zI i), .int (zI k)]) ++ List.replicate (4 - (lg_sl ([.ref ro, .int (zI i), .int (zI k)])).length) Slot.unset).toArray = ls at hl ⊢
  have hl : lv_has ls 4 [(0, .ref ro), (1, .int (zI i)), (2, .int (zI k))] := hl
  refine lv_iconst (v := zI 0) hx hb dX8_areActs_0 rfl ?_
  refine lv_istore_n (lv' := [(3, .int (zI 0)), (0, .ref ro), (1, .int (zI i)), (2, .int (zI k))]) hx hb dX8_areActs_1 rfl hl (by decide) rfl (fun ls hl => ?_)
  refine k_loopM (I := fun n9 H locs ls => ∃ (jk : Int), n9 = (k - jk).toNat ∧ (0 ≤ jk ∧ jk ≤ k) ∧ H = s.heap ∧ locs = [] ∧ lv_has ls 4 [(3, .int (zI jk)), (0, .ref ro), (1, .int (zI i)), (2, .int (zI k))]) ?_ _ ⟨0, rfl, (by omega), rfl, rfl, hl⟩
  intro n2 ih2 H locs ls hI
  obtain ⟨jk, en2, v_20, eH, eL, hl⟩ := hI
  subst eH
  subst eL
  refine lv_iload_n hx hb dX8_areActs_2 rfl (lv_at hl 0 rfl) ?_
  refine lv_iload_n hx hb dX8_areActs_3 rfl (lv_at hl 3 rfl) ?_
  refine kz_icmp_ge (tgt := 41) hx hb dX8_areActs_4 (by decide) (by omega) (by omega) (fun c_1 => ?_) (fun c_1 => ?_)
  · refine lv_iconst (v := zI 1) hx hb dX8_areActs_41 rfl ?_
    exact W.zret (v := (zI 1)) hx hb hr rfl (fun t ht hW => QcP_of (by omega) trivial ht) (fun _ h9 => by cases h9) dX8_areActs_42
  · refine lv_aload_n hx hb dX8_areActs_7 rfl (lv_at hl 1 rfl) ?_
    refine lv_iload_n hx hb dX8_areActs_8 rfl (lv_at hl 2 rfl) ?_
    refine lv_iconst (v := zI 2) hx hb dX8_areActs_9 rfl ?_
    refine lv_iload_n hx hb dX8_areActs_10 rfl (lv_at hl 0 rfl) ?_
    refine kz_imul hx hb dX8_areActs_11 ?_
    refine kz_iadd hx hb dX8_areActs_12 ?_
    refine k_callP (va_runV (As := [.int (zI (i + (2 * jk)))]) (rest := []) ⟨hx, hb, hml, hown, hts⟩ (c_X5_at l D s.heap.size (i := (i + (2 * jk))) (h0 := ro) (r1 := r1) (th := th) (la := la) (n := sz0) (cr1 := cr1) (fr := fr) (by omega) q1 q2 q3) (cwV 1 hts gX8_areActs_X5_at rfl rfl rfl (by decide +kernel) ⟨Nat.le_of_ble_eq_true rfl, Nat.le_of_ble_eq_true rfl⟩) (kPreV hP (kD0 hD) hK hN [0, 1] [0] ax_X8_areActs_0 rfl (by decide +kernel) 0 5 rfl rfl) rfl rfl hl.1 rfl (lv_room (Nat.le_of_ble_eq_true rfl)) dX8_areActs_13 ⟨Nat.le_of_ble_eq_true rfl, Nat.le_of_ble_eq_true rfl⟩) (fun z_2 rz_2 h_3 => ?_)
    refine lv_aload_n hx hb dX8_areActs_16 rfl (lv_at hl 1 rfl) ?_
    refine lv_iload_n hx hb dX8_areActs_17 rfl (lv_at hl 2 rfl) ?_
    refine lv_iconst (v := zI 2) hx hb dX8_areActs_18 rfl ?_
    refine lv_iload_n hx hb dX8_areActs_19 rfl (lv_at hl 0 rfl) ?_
    refine kz_imul hx hb dX8_areActs_20 ?_
    refine kz_iadd hx hb dX8_areActs_21 ?_
    refine lv_iconst (v := zI 1) hx hb dX8_areActs_22 rfl ?_
    refine kz_iadd hx hb dX8_areActs_23 ?_
    refine k_callP (va_runV (As := [.int (zI ((i + (2 * jk)) + 1))]) (rest := [.int (zI z_2)]) ⟨hx, hb, hml, hown, hts⟩ (c_X5_at l D s.heap.size (i := ((i + (2 * jk)) + 1)) (h0 := ro) (r1 := r1) (th := th) (la := la) (n := sz0) (cr1 := cr1) (fr := fr) (by omega) q1 q2 q3) (cwV 1 hts gX8_areActs_X5_at rfl rfl rfl (by decide +kernel) ⟨Nat.le_of_ble_eq_true rfl, Nat.le_of_ble_eq_true rfl⟩) (kPreV hP (kD0 hD) hK hN [0, 1] [0] ax_X8_areActs_0 rfl (by decide +kernel) 0 5 rfl rfl) rfl rfl hl.1 rfl (lv_room (Nat.le_of_ble_eq_true rfl)) dX8_areActs_24 ⟨Nat.le_of_ble_eq_true rfl, Nat.le_of_ble_eq_true rfl⟩) (fun z_4 rz_4 h_5 => ?_)
    refine k_callR (va_runS (As := [.int (zI z_2), .int (zI z_4)]) (rest := []) ⟨hx, hb, hml, hown, hts⟩ (c_X8_isAct l D s.heap.size (k := z_2) (a := z_4) (by omega) (by omega)) (va_cwS 2 hts gX8_areActs_X8_isAct rfl rfl rfl (by decide +kernel) ⟨Nat.le_of_ble_eq_true rfl, Nat.le_of_ble_eq_true rfl⟩) (kPreS hP (kD0 hD) hK hN [] [] ax_X8_areActs_1 rfl (by decide +kernel)) rfl rfl hl.1 rfl (lv_room (Nat.le_of_ble_eq_true rfl)) dX8_areActs_27 ⟨Nat.le_of_ble_eq_true rfl, Nat.le_of_ble_eq_true rfl⟩) ?_
    refine lv_if_ne (tgt := 35) hx hb dX8_areActs_30 (by decide) (fun c_6 => ?_) (fun c_6 => ?_)
    · have c_6 : (z_4 = 20 ∧ 0 ≤ z_2 ∧ z_2 ≤ 15) ∨ (z_4 = 21 ∧ 0 ≤ z_2 ∧ z_2 ≤ 24) ∨ (z_4 = 22 ∧ 0 ≤ z_2 ∧ z_2 ≤ 3) := b01t c_6
      refine lv_iinc (v := (zI (jk + 1))) (lv' := [(3, .int (zI (jk + 1))), (0, .ref ro), (1, .int (zI i)), (2, .int (zI k))]) hx hb dX8_areActs_35 hl (k := 0) rfl (kz_inc _ 1) (by decide) rfl (fun ls hl => ?_)
      refine lv_goto (tgt := 2) hx hb dX8_areActs_38 (by decide) ?_
      exact ih2 _ (by omega) _ _ _ ⟨(jk + 1), rfl, (by omega), rfl, rfl, lv_sub hl [0, 1, 2, 3] rfl⟩
    · have c_6 : ¬ ((z_4 = 20 ∧ 0 ≤ z_2 ∧ z_2 ≤ 15) ∨ (z_4 = 21 ∧ 0 ≤ z_2 ∧ z_2 ≤ 24) ∨ (z_4 = 22 ∧ 0 ≤ z_2 ∧ z_2 ≤ 3)) := b01f c_6
      refine lv_iconst (v := zI 0) hx hb dX8_areActs_33 rfl ?_
      exact W.zret (v := (zI 0)) hx hb hr rfl (fun t ht hW => QcP_of (by omega) trivial ht) (fun _ h9 => by cases h9) dX8_areActs_34

theorem dX8_settle_0 : decode cX8_settle 0 = .ok (.aload_n 0, 1) := by decide +kernel
theorem dX8_settle_1 : decode cX8_settle 1 = .ok (.getfield 56, 3) := by decide +kernel
theorem dX8_settle_4 : decode cX8_settle 4 = .ok (.aload_n 0, 1) := by decide +kernel
theorem dX8_settle_5 : decode cX8_settle 5 = .ok (.getfield 35, 3) := by decide +kernel
theorem dX8_settle_8 : decode cX8_settle 8 = .ok (.aload_n 0, 1) := by decide +kernel
theorem dX8_settle_9 : decode cX8_settle 9 = .ok (.getfield 28, 3) := by decide +kernel
theorem dX8_settle_12 : decode cX8_settle 12 = .ok (.aload_n 0, 1) := by decide +kernel
theorem dX8_settle_13 : decode cX8_settle 13 = .ok (.getfield 42, 3) := by decide +kernel
theorem dX8_settle_16 : decode cX8_settle 16 = .ok (.aload_n 0, 1) := by decide +kernel
theorem dX8_settle_17 : decode cX8_settle 17 = .ok (.getfield 28, 3) := by decide +kernel
theorem dX8_settle_20 : decode cX8_settle 20 = .ok (.invokevirtual 227, 3) := by decide +kernel
theorem dX8_settle_23 : decode cX8_settle 23 = .ok (.invokevirtual 231, 3) := by decide +kernel
theorem dX8_settle_26 : decode cX8_settle 26 = .ok (.return_, 1) := by decide +kernel
set_option maxRecDepth 20000 in
theorem ggX8_settle_X0_all : GoodIn wsX8_settle wsX0_all := goodIn_4 _ (List.forall_mem_cons.mpr ⟨List.mem_cons_of_mem _ (List.mem_append_left _ (List.mem_append_left _ (List.mem_append_left _ (List.mem_append_left _ (List.mem_append_left _ (List.mem_append_left _ (List.mem_of_getElem? (i := 8) rfl))))))), List.forall_mem_append.mpr ⟨List.forall_mem_cons.mpr ⟨List.mem_cons_of_mem _ (List.mem_append_left _ (List.mem_append_left _ (List.mem_append_left _ (List.mem_append_left _ (List.mem_append_left _ (List.mem_append_left _ (List.mem_of_getElem? (i := 9) rfl))))))), fun _ h9 => absurd h9 List.not_mem_nil⟩, fun w h9 => List.mem_cons_of_mem _ (List.mem_append_left _ (List.mem_append_left _ (List.mem_append_left _ (List.mem_append_right _ (h9)))))⟩⟩) (by decide +kernel)
set_option maxRecDepth 20000 in
theorem gX8_settle_X0_all : GoodIn wsX8_settle (wsV RX8 227 RX0 yX0_all wsX0_all) := goodIn_app (goodIn_4 _ (List.forall_mem_cons.mpr ⟨List.mem_cons_of_mem _ (List.mem_append_left _ (List.mem_append_left _ (List.mem_append_left _ (List.mem_append_left _ (List.mem_append_left _ (List.mem_append_left _ (List.mem_of_getElem? (i := 4) rfl))))))), List.forall_mem_cons.mpr ⟨List.mem_cons_of_mem _ (List.mem_append_left _ (List.mem_append_left _ (List.mem_append_left _ (List.mem_append_left _ (List.mem_append_left _ (List.mem_append_left _ (List.mem_of_getElem? (i := 5) rfl))))))), List.forall_mem_cons.mpr ⟨List.mem_cons_of_mem _ (List.mem_append_left _ (List.mem_append_left _ (List.mem_append_left _ (List.mem_append_left _ (List.mem_append_left _ (List.mem_append_left _ (List.mem_of_getElem? (i := 6) rfl))))))), List.forall_mem_cons.mpr ⟨List.mem_cons_of_mem _ (List.mem_append_left _ (List.mem_append_left _ (List.mem_append_left _ (List.mem_append_left _ (List.mem_append_left _ (List.mem_append_left _ (List.mem_of_getElem? (i := 7) rfl))))))), fun _ h9 => absurd h9 List.not_mem_nil⟩⟩⟩⟩) (by decide +kernel)) ggX8_settle_X0_all
set_option maxRecDepth 20000 in
theorem ggX8_settle_X4_make : GoodIn wsX8_settle wsX4_make := goodIn_4 _ (List.forall_mem_cons.mpr ⟨List.mem_cons_of_mem _ (List.mem_append_left _ (List.mem_append_left _ (List.mem_append_left _ (List.mem_append_left _ (List.mem_append_left _ (List.mem_append_left _ (List.mem_of_getElem? (i := 14) rfl))))))), List.forall_mem_append.mpr ⟨List.forall_mem_append.mpr ⟨List.forall_mem_append.mpr ⟨List.forall_mem_append.mpr ⟨List.forall_mem_append.mpr ⟨List.forall_mem_cons.mpr ⟨List.mem_cons_of_mem _ (List.mem_append_left _ (List.mem_append_left _ (List.mem_append_left _ (List.mem_append_left _ (List.mem_append_left _ (List.mem_append_left _ (List.mem_of_getElem? (i := 15) rfl))))))), List.forall_mem_cons.mpr ⟨List.mem_cons_of_mem _ (List.mem_append_left _ (List.mem_append_left _ (List.mem_append_left _ (List.mem_append_left _ (List.mem_append_left _ (List.mem_append_left _ (List.mem_of_getElem? (i := 16) rfl))))))), List.forall_mem_cons.mpr ⟨List.mem_cons_of_mem _ (List.mem_append_left _ (List.mem_append_left _ (List.mem_append_left _ (List.mem_append_left _ (List.mem_append_left _ (List.mem_append_left _ (List.mem_of_getElem? (i := 17) rfl))))))), List.forall_mem_cons.mpr ⟨List.mem_cons_of_mem _ (List.mem_append_left _ (List.mem_append_left _ (List.mem_append_left _ (List.mem_append_left _ (List.mem_append_left _ (List.mem_append_left _ (List.mem_of_getElem? (i := 13) rfl))))))), List.forall_mem_cons.mpr ⟨List.mem_cons_of_mem _ (List.mem_append_left _ (List.mem_append_left _ (List.mem_append_left _ (List.mem_append_left _ (List.mem_append_left _ (List.mem_append_left _ (List.mem_of_getElem? (i := 18) rfl))))))), List.forall_mem_cons.mpr ⟨List.mem_cons_of_mem _ (List.mem_append_left _ (List.mem_append_left _ (List.mem_append_left _ (List.mem_append_left _ (List.mem_append_left _ (List.mem_append_left _ (List.mem_of_getElem? (i := 19) rfl))))))), List.forall_mem_cons.mpr ⟨List.mem_cons_of_mem _ (List.mem_append_left _ (List.mem_append_left _ (List.mem_append_left _ (List.mem_append_left _ (List.mem_append_left _ (List.mem_append_left _ (List.mem_of_getElem? (i := 20) rfl))))))), List.forall_mem_cons.mpr ⟨List.mem_cons_of_mem _ (List.mem_append_left _ (List.mem_append_left _ (List.mem_append_left _ (List.mem_append_left _ (List.mem_append_left _ (List.mem_append_left _ (List.mem_of_getElem? (i := 21) rfl))))))), List.forall_mem_cons.mpr ⟨List.mem_cons_of_mem _ (List.mem_append_left _ (List.mem_append_left _ (List.mem_append_left _ (List.mem_append_left _ (List.mem_append_left _ (List.mem_append_left _ (List.mem_of_getElem? (i := 22) rfl))))))), List.forall_mem_cons.mpr ⟨List.mem_cons_of_mem _ (List.mem_append_left _ (List.mem_append_left _ (List.mem_append_left _ (List.mem_append_left _ (List.mem_append_left _ (List.mem_append_left _ (List.mem_of_getElem? (i := 23) rfl))))))), List.forall_mem_cons.mpr ⟨List.mem_cons_of_mem _ (List.mem_append_left _ (List.mem_append_left _ (List.mem_append_left _ (List.mem_append_left _ (List.mem_append_left _ (List.mem_append_right _ (List.mem_append_left _ (List.mem_of_getElem? (i := 0) rfl)))))))), List.forall_mem_cons.mpr ⟨List.mem_cons_of_mem _ (List.mem_append_left _ (List.mem_append_left _ (List.mem_append_left _ (List.mem_append_left _ (List.mem_append_left _ (List.mem_append_right _ (List.mem_append_left _ (List.mem_of_getElem? (i := 1) rfl)))))))), List.forall_mem_cons.mpr ⟨List.mem_cons_of_mem _ (List.mem_append_left _ (List.mem_append_left _ (List.mem_append_left _ (List.mem_append_left _ (List.mem_append_left _ (List.mem_append_right _ (List.mem_append_left _ (List.mem_of_getElem? (i := 2) rfl)))))))), List.forall_mem_cons.mpr ⟨List.mem_cons_of_mem _ (List.mem_append_left _ (List.mem_append_left _ (List.mem_append_left _ (List.mem_append_left _ (List.mem_append_left _ (List.mem_append_right _ (List.mem_append_left _ (List.mem_of_getElem? (i := 3) rfl)))))))), List.forall_mem_cons.mpr ⟨List.mem_cons_of_mem _ (List.mem_append_left _ (List.mem_append_left _ (List.mem_append_left _ (List.mem_append_left _ (List.mem_append_left _ (List.mem_append_right _ (List.mem_append_left _ (List.mem_of_getElem? (i := 4) rfl)))))))), List.forall_mem_cons.mpr ⟨List.mem_cons_of_mem _ (List.mem_append_left _ (List.mem_append_left _ (List.mem_append_left _ (List.mem_append_left _ (List.mem_append_left _ (List.mem_append_right _ (List.mem_append_left _ (List.mem_of_getElem? (i := 5) rfl)))))))), List.forall_mem_cons.mpr ⟨List.mem_cons_of_mem _ (List.mem_append_left _ (List.mem_append_left _ (List.mem_append_left _ (List.mem_append_left _ (List.mem_append_left _ (List.mem_append_right _ (List.mem_append_left _ (List.mem_of_getElem? (i := 6) rfl)))))))), List.forall_mem_cons.mpr ⟨List.mem_cons_of_mem _ (List.mem_append_left _ (List.mem_append_left _ (List.mem_append_left _ (List.mem_append_left _ (List.mem_append_left _ (List.mem_append_right _ (List.mem_append_left _ (List.mem_of_getElem? (i := 7) rfl)))))))), List.forall_mem_cons.mpr ⟨List.mem_cons_of_mem _ (List.mem_append_left _ (List.mem_append_left _ (List.mem_append_left _ (List.mem_append_left _ (List.mem_append_left _ (List.mem_append_right _ (List.mem_append_left _ (List.mem_of_getElem? (i := 8) rfl)))))))), List.forall_mem_cons.mpr ⟨List.mem_cons_of_mem _ (List.mem_append_left _ (List.mem_append_left _ (List.mem_append_left _ (List.mem_append_left _ (List.mem_append_left _ (List.mem_append_right _ (List.mem_append_left _ (List.mem_of_getElem? (i := 9) rfl)))))))), List.forall_mem_cons.mpr ⟨List.mem_cons_of_mem _ (List.mem_append_left _ (List.mem_append_left _ (List.mem_append_left _ (List.mem_append_left _ (List.mem_append_left _ (List.mem_append_left _ (List.mem_of_getElem? (i := 7) rfl))))))), List.forall_mem_cons.mpr ⟨List.mem_cons_of_mem _ (List.mem_append_left _ (List.mem_append_left _ (List.mem_append_left _ (List.mem_append_left _ (List.mem_append_left _ (List.mem_append_right _ (List.mem_append_left _ (List.mem_of_getElem? (i := 10) rfl)))))))), List.forall_mem_cons.mpr ⟨List.mem_cons_of_mem _ (List.mem_append_left _ (List.mem_append_left _ (List.mem_append_left _ (List.mem_append_left _ (List.mem_append_left _ (List.mem_append_left _ (List.mem_of_getElem? (i := 9) rfl))))))), List.forall_mem_cons.mpr ⟨List.mem_cons_of_mem _ (List.mem_append_left _ (List.mem_append_left _ (List.mem_append_left _ (List.mem_append_left _ (List.mem_append_left _ (List.mem_append_right _ (List.mem_append_left _ (List.mem_of_getElem? (i := 11) rfl)))))))), fun _ h9 => absurd h9 List.not_mem_nil⟩⟩⟩⟩⟩⟩⟩⟩⟩⟩⟩⟩⟩⟩⟩⟩⟩⟩⟩⟩⟩⟩⟩⟩, List.forall_mem_cons.mpr ⟨List.mem_cons_of_mem _ (List.mem_append_left _ (List.mem_append_left _ (List.mem_append_left _ (List.mem_append_left _ (List.mem_append_left _ (List.mem_append_right _ (List.mem_append_left _ (List.mem_of_getElem? (i := 12) rfl)))))))), List.forall_mem_cons.mpr ⟨List.mem_cons_of_mem _ (List.mem_append_left _ (List.mem_append_left _ (List.mem_append_left _ (List.mem_append_left _ (List.mem_append_left _ (List.mem_append_right _ (List.mem_append_left _ (List.mem_of_getElem? (i := 13) rfl)))))))), List.forall_mem_cons.mpr ⟨List.mem_cons_of_mem _ (List.mem_append_left _ (List.mem_append_left _ (List.mem_append_left _ (List.mem_append_left _ (List.mem_append_left _ (List.mem_append_right _ (List.mem_append_left _ (List.mem_of_getElem? (i := 14) rfl)))))))), List.forall_mem_cons.mpr ⟨List.mem_cons_of_mem _ (List.mem_append_left _ (List.mem_append_left _ (List.mem_append_left _ (List.mem_append_left _ (List.mem_append_left _ (List.mem_append_right _ (List.mem_append_left _ (List.mem_of_getElem? (i := 15) rfl)))))))), List.forall_mem_cons.mpr ⟨List.mem_cons_of_mem _ (List.mem_append_left _ (List.mem_append_left _ (List.mem_append_left _ (List.mem_append_left _ (List.mem_append_left _ (List.mem_append_right _ (List.mem_append_left _ (List.mem_of_getElem? (i := 16) rfl)))))))), List.forall_mem_cons.mpr ⟨List.mem_cons_of_mem _ (List.mem_append_left _ (List.mem_append_left _ (List.mem_append_left _ (List.mem_append_left _ (List.mem_append_left _ (List.mem_append_right _ (List.mem_append_left _ (List.mem_of_getElem? (i := 17) rfl)))))))), List.forall_mem_cons.mpr ⟨List.mem_cons_of_mem _ (List.mem_append_left _ (List.mem_append_left _ (List.mem_append_left _ (List.mem_append_left _ (List.mem_append_left _ (List.mem_append_right _ (List.mem_append_left _ (List.mem_of_getElem? (i := 18) rfl)))))))), List.forall_mem_cons.mpr ⟨List.mem_cons_of_mem _ (List.mem_append_left _ (List.mem_append_left _ (List.mem_append_left _ (List.mem_append_left _ (List.mem_append_left _ (List.mem_append_right _ (List.mem_append_left _ (List.mem_of_getElem? (i := 19) rfl)))))))), List.forall_mem_cons.mpr ⟨List.mem_cons_of_mem _ (List.mem_append_left _ (List.mem_append_left _ (List.mem_append_left _ (List.mem_append_left _ (List.mem_append_left _ (List.mem_append_right _ (List.mem_append_left _ (List.mem_of_getElem? (i := 20) rfl)))))))), List.forall_mem_cons.mpr ⟨List.mem_cons_of_mem _ (List.mem_append_left _ (List.mem_append_left _ (List.mem_append_left _ (List.mem_append_left _ (List.mem_append_left _ (List.mem_append_right _ (List.mem_append_left _ (List.mem_of_getElem? (i := 21) rfl)))))))), List.forall_mem_cons.mpr ⟨List.mem_cons_of_mem _ (List.mem_append_left _ (List.mem_append_left _ (List.mem_append_left _ (List.mem_append_left _ (List.mem_append_left _ (List.mem_append_right _ (List.mem_append_left _ (List.mem_of_getElem? (i := 22) rfl)))))))), List.forall_mem_cons.mpr ⟨List.mem_cons_of_mem _ (List.mem_append_left _ (List.mem_append_left _ (List.mem_append_left _ (List.mem_append_left _ (List.mem_append_left _ (List.mem_append_right _ (List.mem_append_left _ (List.mem_of_getElem? (i := 23) rfl)))))))), List.forall_mem_cons.mpr ⟨List.mem_cons_of_mem _ (List.mem_append_left _ (List.mem_append_left _ (List.mem_append_left _ (List.mem_append_left _ (List.mem_append_left _ (List.mem_append_right _ (List.mem_append_right _ (List.mem_of_getElem? (i := 0) rfl)))))))), List.forall_mem_cons.mpr ⟨List.mem_cons_of_mem _ (List.mem_append_left _ (List.mem_append_left _ (List.mem_append_left _ (List.mem_append_left _ (List.mem_append_left _ (List.mem_append_right _ (List.mem_append_right _ (List.mem_of_getElem? (i := 1) rfl)))))))), List.forall_mem_cons.mpr ⟨List.mem_cons_of_mem _ (List.mem_append_left _ (List.mem_append_left _ (List.mem_append_left _ (List.mem_append_left _ (List.mem_append_left _ (List.mem_append_right _ (List.mem_append_right _ (List.mem_of_getElem? (i := 2) rfl)))))))), List.forall_mem_cons.mpr ⟨List.mem_cons_of_mem _ (List.mem_append_left _ (List.mem_append_left _ (List.mem_append_left _ (List.mem_append_left _ (List.mem_append_left _ (List.mem_append_right _ (List.mem_append_right _ (List.mem_of_getElem? (i := 3) rfl)))))))), List.forall_mem_cons.mpr ⟨List.mem_cons_of_mem _ (List.mem_append_left _ (List.mem_append_left _ (List.mem_append_left _ (List.mem_append_left _ (List.mem_append_left _ (List.mem_append_right _ (List.mem_append_right _ (List.mem_of_getElem? (i := 4) rfl)))))))), List.forall_mem_cons.mpr ⟨List.mem_cons_of_mem _ (List.mem_append_left _ (List.mem_append_left _ (List.mem_append_left _ (List.mem_append_left _ (List.mem_append_left _ (List.mem_append_right _ (List.mem_append_right _ (List.mem_of_getElem? (i := 5) rfl)))))))), List.forall_mem_cons.mpr ⟨List.mem_cons_of_mem _ (List.mem_append_left _ (List.mem_append_left _ (List.mem_append_left _ (List.mem_append_left _ (List.mem_append_left _ (List.mem_append_right _ (List.mem_append_right _ (List.mem_of_getElem? (i := 6) rfl)))))))), List.forall_mem_cons.mpr ⟨List.mem_cons_of_mem _ (List.mem_append_left _ (List.mem_append_left _ (List.mem_append_left _ (List.mem_append_left _ (List.mem_append_left _ (List.mem_append_right _ (List.mem_append_right _ (List.mem_of_getElem? (i := 7) rfl)))))))), List.forall_mem_cons.mpr ⟨List.mem_cons_of_mem _ (List.mem_append_left _ (List.mem_append_left _ (List.mem_append_left _ (List.mem_append_left _ (List.mem_append_left _ (List.mem_append_right _ (List.mem_append_right _ (List.mem_of_getElem? (i := 8) rfl)))))))), List.forall_mem_cons.mpr ⟨List.mem_cons_of_mem _ (List.mem_append_left _ (List.mem_append_left _ (List.mem_append_left _ (List.mem_append_left _ (List.mem_append_left _ (List.mem_append_right _ (List.mem_append_right _ (List.mem_of_getElem? (i := 9) rfl)))))))), fun _ h9 => absurd h9 List.not_mem_nil⟩⟩⟩⟩⟩⟩⟩⟩⟩⟩⟩⟩⟩⟩⟩⟩⟩⟩⟩⟩⟩⟩⟩, fun w h9 => List.mem_cons_of_mem _ (List.mem_append_left _ (List.mem_append_left _ (List.mem_append_right _ (h9))))⟩, fun w h9 => List.mem_cons_of_mem _ (List.mem_append_left _ (List.mem_append_right _ (h9)))⟩, fun w h9 => List.mem_cons_of_mem _ (List.mem_append_left _ (List.mem_append_left _ (List.mem_append_left _ (List.mem_append_right _ (h9)))))⟩, fun w h9 => List.mem_cons_of_mem _ (List.mem_append_right _ (h9))⟩⟩) (by decide +kernel)
set_option maxRecDepth 20000 in
theorem gX8_settle_X4_make : GoodIn wsX8_settle (wsV RX8 231 RX4 yX4_make wsX4_make) := goodIn_app (goodIn_4 _ (List.forall_mem_cons.mpr ⟨List.mem_cons_of_mem _ (List.mem_append_left _ (List.mem_append_left _ (List.mem_append_left _ (List.mem_append_left _ (List.mem_append_left _ (List.mem_append_left _ (List.mem_of_getElem? (i := 10) rfl))))))), List.forall_mem_cons.mpr ⟨List.mem_cons_of_mem _ (List.mem_append_left _ (List.mem_append_left _ (List.mem_append_left _ (List.mem_append_left _ (List.mem_append_left _ (List.mem_append_left _ (List.mem_of_getElem? (i := 11) rfl))))))), List.forall_mem_cons.mpr ⟨List.mem_cons_of_mem _ (List.mem_append_left _ (List.mem_append_left _ (List.mem_append_left _ (List.mem_append_left _ (List.mem_append_left _ (List.mem_append_left _ (List.mem_of_getElem? (i := 12) rfl))))))), List.forall_mem_cons.mpr ⟨List.mem_cons_of_mem _ (List.mem_append_left _ (List.mem_append_left _ (List.mem_append_left _ (List.mem_append_left _ (List.mem_append_left _ (List.mem_append_left _ (List.mem_of_getElem? (i := 13) rfl))))))), fun _ h9 => absurd h9 List.not_mem_nil⟩⟩⟩⟩) (by decide +kernel)) ggX8_settle_X4_make
set_option maxRecDepth 20000 in
theorem mw_X8_settle_0 : (.fieldLink RX8 56 "FontRuns" "setting" "LFontRuns$Setting;" : Cond) ∈ wsX8_settle := List.mem_cons_of_mem _ (List.mem_append_left _ (List.mem_append_left _ (List.mem_append_left _ (List.mem_append_left _ (List.mem_append_left _ (List.mem_append_left _ (List.mem_of_getElem? (i := 0) rfl)))))))
set_option maxRecDepth 20000 in
theorem mw_X8_settle_1 : (.fieldLink RX8 35 "FontRuns" "writing" "LFontRuns$Writing;" : Cond) ∈ wsX8_settle := List.mem_cons_of_mem _ (List.mem_append_left _ (List.mem_append_left _ (List.mem_append_left _ (List.mem_append_left _ (List.mem_append_left _ (List.mem_append_left _ (List.mem_of_getElem? (i := 1) rfl)))))))
set_option maxRecDepth 20000 in
theorem mw_X8_settle_2 : (.fieldLink RX8 28 "FontRuns" "fontRow" "LFontRuns$FontRow;" : Cond) ∈ wsX8_settle := List.mem_cons_of_mem _ (List.mem_append_left _ (List.mem_append_left _ (List.mem_append_left _ (List.mem_append_left _ (List.mem_append_left _ (List.mem_append_left _ (List.mem_of_getElem? (i := 2) rfl)))))))
set_option maxRecDepth 20000 in
theorem mw_X8_settle_3 : (.fieldLink RX8 42 "FontRuns" "preference" "LFontRuns$Preference;" : Cond) ∈ wsX8_settle := List.mem_cons_of_mem _ (List.mem_append_left _ (List.mem_append_left _ (List.mem_append_left _ (List.mem_append_left _ (List.mem_append_left _ (List.mem_append_left _ (List.mem_of_getElem? (i := 3) rfl)))))))
theorem ax_X8_settle_0 {e0 e1 e2 e3 e4 e5 e6 e7 e8 e9 e10 e11 e12 e13 e14 : Nat × va_E} {k : va_W} : ([11] : List Nat).map (fun i => (([e0, e1, e2, e3, e4, e5, e6, e7, e8, e9, e10, e11, e12, e13, e14] : va_W) ++ k)[i]?) = ([e11] : va_W).map some := rfl
theorem ax_X8_settle_1 {e0 e1 e2 e3 e4 e5 e6 e7 e8 e9 e10 e11 e12 e13 e14 : Nat × va_E} : ([1, 2, 3, 4, 5, 6, 7, 8, 9, 10, 11, 12, 13, 14] : List Nat).map (fun i => ([e0, e1, e2, e3, e4, e5, e6, e7, e8, e9, e10, e11, e12, e13, e14] : va_W)[i]?) = ([e1, e2, e3, e4, e5, e6, e7, e8, e9, e10, e11, e12, e13, e14] : va_W).map some := rfl
theorem ax_X8_settle_2 {e0 e1 e2 e3 e4 e5 e6 e7 e8 e9 e10 e11 e12 e13 e14 : Nat × va_E} : ([0] : List Nat).map (fun i => ([e0, e1, e2, e3, e4, e5, e6, e7, e8, e9, e10, e11, e12, e13, e14] : va_W)[i]?) = ([e0] : va_W).map some := rfl
theorem ax_X8_settle_3 {D : va_G} {cl : List vw_C} {H : Heap} {e0 f0 f1 f2 f3 f4 f5 f6 f7 f8 f9 f10 f11 f12 f13 : Nat × va_E} {k : va_W} (h : va_P D cl ((([e0] : va_W) ++ ([f0, f1, f2, f3, f4, f5, f6, f7, f8, f9, f10, f11, f12, f13] : va_W)) ++ k) H) : va_P D cl (([e0, f0, f1, f2, f3, f4, f5, f6, f7, f8, f9, f10, f11, f12, f13] : va_W) ++ k) H := h
theorem ax_X8_settle_4 {A : Nat → Prop} {e0 f0 f1 f2 f3 f4 f5 f6 f7 f8 f9 f10 f11 f12 f13 : Nat × va_E} {k : va_W} (h : va_D A ((([e0] : va_W) ++ ([f0, f1, f2, f3, f4, f5, f6, f7, f8, f9, f10, f11, f12, f13] : va_W)) ++ k)) : va_D A (([e0, f0, f1, f2, f3, f4, f5, f6, f7, f8, f9, f10, f11, f12, f13] : va_W) ++ k) := h
theorem ax_X8_settle_5 {e0 e1 e2 e3 e4 e5 e6 e7 e8 e9 e10 e11 e12 e13 e14 : Nat × va_E} : ([0, 1, 2, 3, 4, 5, 6, 7, 8, 9, 10, 11, 12, 13, 14] : List Nat).map (fun i => ([e0, e1, e2, e3, e4, e5, e6, e7, e8, e9, e10, e11, e12, e13, e14] : va_W)[i]?) = ([e0, e1, e2, e3, e4, e5, e6, e7, e8, e9, e10, e11, e12, e13, e14] : va_W).map some := rfl
set_option maxHeartbeats 4000000 in
set_option maxRecDepth 100000 in
theorem c_X8_settle (l : Launch) (D : va_G) (sz : Nat) (h0 : Nat) (sh : Nat) (rd : Nat) (fr : Nat) (wr : Nat) (pf : Nat) (rc : Nat) (se : Nat) (rs : Nat) (sw : Nat) (sp : Nat) (ss : Nat) (ew : Int) (wc : Int64) (tr : Int) (lf : Int) (g1 : Nat) (g2 : Nat) (g3 : Nat) (g4 : Nat) (g5 : Nat) (cn : Int) (bo : Int) (ru : Int) (g6 : Nat) (g7 : Nat) (cg1 : ClassId) (f1 : Nat → Int32) (cg2 : ClassId) (f2 : Nat → Int32) (cg3 : ClassId) (f3 : Nat → Int32) (cg4 : ClassId) (f4 : Nat → Int32) (cg5 : ClassId) (f5 : Nat → Int32) (cg6 : ClassId) (f6 : Nat → Int32) (cg7 : ClassId) (fo : Nat → Option Nat) (o : Nat) (w1 : Nat) (wn : Int) (cw1 : ClassId) (fw : Nat → Int32) (k1 : Nat) (k2 : Nat) (k3 : Nat) (fn : Int) (ck3 : ClassId) (fh : Nat → Int32) (p1 : Nat) (pn : Int) (cp1 : ClassId) (fp : Nat → Int32) (pr : Nat → Nat) (gp : Nat → Nat → Int32) (cy : ClassId) (q0 : 0 ≤ wn ∧ wn ≤ 24) (q1 : 0 ≤ fn ∧ fn ≤ 4) (q2 : 0 ≤ pn ∧ pn ≤ 4) (q3 : kPr fp) (q4 : kOut fo pr o 24) (q5 : o + 24 ≤ 56) : Met l yX8_settle wsX8_settle ({ frames := 3, cells := 0, slots := 0, locals := 75 }) (kPre [.ref h0] D (([(h0, .inr (8, [.ref sh, .ref rd, .ref fr, .ref wr, .ref pf, .ref rc, .ref se, .ref rs, .ref sw, .ref sp, .ref ss, .int (zI ew), .long wc, .int (zI tr), .int (zI lf)])), (se, .inr (4, [.ref g1, .ref g2, .ref g3, .ref g4, .ref g5, .int (zI cn), .int (zI bo), .int (zI ru), .ref g6, .ref g7])), (g1, .inl (cg1, 24, .inl f1)), (g2, .inl (cg2, 24, .inl f2)), (g3, .inl (cg3, 24, .inl f3)), (g4, .inl (cg4, 24, .inl f4)), (g5, .inl (cg5, 24, .inl f5)), (g6, .inl (cg6, 24, .inl f6)), (g7, .inl (cg7, 24, .inr (.inr (.inr (.inr (fo)))))), (wr, .inr (7, [.ref w1, .int (zI wn)])), (w1, .inl (cw1, 24, .inl fw)), (fr, .inr (0, [.ref k1, .ref k2, .ref k3, .int (zI fn)])), (k3, .inl (ck3, 4, .inl fh)), (pf, .inr (1, [.ref p1, .int (zI pn)])), (p1, .inl (cp1, 4, .inl fp))] : va_W) ++ kRows pr gp cy) [(cg1, .int), (cg2, .int), (cg3, .int), (cg4, .int), (cg5, .int), (cg6, .int), (cg7, .array .int), (cw1, .int), (ck3, .int), (cp1, .int), (cy, .int)] sz) (kQV (fun t => ∃ (uc : Int) (ub : Int) (ur : Int) (v1 : Nat → Int32) (v2 : Nat → Int32) (v3 : Nat → Int32) (v4 : Nat → Int32) (v5 : Nat → Int32) (v6 : Nat → Int32) (ug : Nat → Nat → Int32), (0 ≤ uc ∧ uc ≤ 24) ∧ (0 ≤ ub ∧ ub ≤ 24) ∧ (0 ≤ ur ∧ ur ≤ uc) ∧ va_P D vwCl (([(h0, .inr (8, [.ref sh, .ref rd, .ref fr, .ref wr, .ref pf, .ref rc, .ref se, .ref rs, .ref sw, .ref sp, .ref ss, .int (zI ew), .long wc, .int (zI tr), .int (zI lf)])), (se, .inr (4, [.ref g1, .ref g2, .ref g3, .ref g4, .ref g5, .int (zI uc), .int (zI ub), .int (zI ur), .ref g6, .ref g7])), (g1, .inl (cg1, 24, .inl v1)), (g2, .inl (cg2, 24, .inl v2)), (g3, .inl (cg3, 24, .inl v3)), (g4, .inl (cg4, 24, .inl v4)), (g5, .inl (cg5, 24, .inl v5)), (g6, .inl (cg6, 24, .inl v6)), (g7, .inl (cg7, 24, .inr (.inr (.inr (.inr (fo)))))), (wr, .inr (7, [.ref w1, .int (zI wn)])), (w1, .inl (cw1, 24, .inl fw)), (fr, .inr (0, [.ref k1, .ref k2, .ref k3, .int (zI fn)])), (k3, .inl (ck3, 4, .inl fh)), (pf, .inr (1, [.ref p1, .int (zI pn)])), (p1, .inl (cp1, 4, .inl fp))] : va_W) ++ kRows pr ug cy) t.heap ∧ va_D (va_A (([(h0, .inr (8, [.ref sh, .ref rd, .ref fr, .ref wr, .ref pf, .ref rc, .ref se, .ref rs, .ref sw, .ref sp, .ref ss, .int (zI ew), .long wc, .int (zI tr), .int (zI lf)])), (se, .inr (4, [.ref g1, .ref g2, .ref g3, .ref g4, .ref g5, .int (zI cn), .int (zI bo), .int (zI ru), .ref g6, .ref g7])), (g1, .inl (cg1, 24, .inl f1)), (g2, .inl (cg2, 24, .inl f2)), (g3, .inl (cg3, 24, .inl f3)), (g4, .inl (cg4, 24, .inl f4)), (g5, .inl (cg5, 24, .inl f5)), (g6, .inl (cg6, 24, .inl f6)), (g7, .inl (cg7, 24, .inr (.inr (.inr (.inr (fo)))))), (wr, .inr (7, [.ref w1, .int (zI wn)])), (w1, .inl (cw1, 24, .inl fw)), (fr, .inr (0, [.ref k1, .ref k2, .ref k3, .int (zI fn)])), (k3, .inl (ck3, 4, .inl fh)), (pf, .inr (1, [.ref p1, .int (zI pn)])), (p1, .inl (cp1, 4, .inl fp))] : va_W) ++ kRows pr gp cy) sz) (([(h0, .inr (8, [.ref sh, .ref rd, .ref fr, .ref wr, .ref pf, .ref rc, .ref se, .ref rs, .ref sw, .ref sp, .ref ss, .int (zI ew), .long wc, .int (zI tr), .int (zI lf)])), (se, .inr (4, [.ref g1, .ref g2, .ref g3, .ref g4, .ref g5, .int (zI uc), .int (zI ub), .int (zI ur), .ref g6, .ref g7])), (g1, .inl (cg1, 24, .inl v1)), (g2, .inl (cg2, 24, .inl v2)), (g3, .inl (cg3, 24, .inl v3)), (g4, .inl (cg4, 24, .inl v4)), (g5, .inl (cg5, 24, .inl v5)), (g6, .inl (cg6, 24, .inl v6)), (g7, .inl (cg7, 24, .inr (.inr (.inr (.inr (fo)))))), (wr, .inr (7, [.ref w1, .int (zI wn)])), (w1, .inl (cw1, 24, .inl fw)), (fr, .inr (0, [.ref k1, .ref k2, .ref k3, .int (zI fn)])), (k3, .inl (ck3, 4, .inl fh)), (pf, .inr (1, [.ref p1, .int (zI pn)])), (p1, .inl (cp1, 4, .inl fp))] : va_W) ++ kRows pr ug cy)) (va_A (([(h0, .inr (8, [.ref sh, .ref rd, .ref fr, .ref wr, .ref pf, .ref rc, .ref se, .ref rs, .ref sw, .ref sp, .ref ss, .int (zI ew), .long wc, .int (zI tr), .int (zI lf)])), (se, .inr (4, [.ref g1, .ref g2, .ref g3, .ref g4, .ref g5, .int (zI cn), .int (zI bo), .int (zI ru), .ref g6, .ref g7])), (g1, .inl (cg1, 24, .inl f1)), (g2, .inl (cg2, 24, .inl f2)), (g3, .inl (cg3, 24, .inl f3)), (g4, .inl (cg4, 24, .inl f4)), (g5, .inl (cg5, 24, .inl f5)), (g6, .inl (cg6, 24, .inl f6)), (g7, .inl (cg7, 24, .inr (.inr (.inr (.inr (fo)))))), (wr, .inr (7, [.ref w1, .int (zI wn)])), (w1, .inl (cw1, 24, .inl fw)), (fr, .inr (0, [.ref k1, .ref k2, .ref k3, .int (zI fn)])), (k3, .inl (ck3, 4, .inl fh)), (pf, .inr (1, [.ref p1, .int (zI pn)])), (p1, .inl (cp1, 4, .inl fp))] : va_W) ++ kRows pr gp cy) sz)) 0 0 (va_A (([(h0, .inr (8, [.ref sh, .ref rd, .ref fr, .ref wr, .ref pf, .ref rc, .ref se, .ref rs, .ref sw, .ref sp, .ref ss, .int (zI ew), .long wc, .int (zI tr), .int (zI lf)])), (se, .inr (4, [.ref g1, .ref g2, .ref g3, .ref g4, .ref g5, .int (zI cn), .int (zI bo), .int (zI ru), .ref g6, .ref g7])), (g1, .inl (cg1, 24, .inl f1)), (g2, .inl (cg2, 24, .inl f2)), (g3, .inl (cg3, 24, .inl f3)), (g4, .inl (cg4, 24, .inl f4)), (g5, .inl (cg5, 24, .inl f5)), (g6, .inl (cg6, 24, .inl f6)), (g7, .inl (cg7, 24, .inr (.inr (.inr (.inr (fo)))))), (wr, .inr (7, [.ref w1, .int (zI wn)])), (w1, .inl (cw1, 24, .inl fw)), (fr, .inr (0, [.ref k1, .ref k2, .ref k3, .int (zI fn)])), (k3, .inl (ck3, 4, .inl fh)), (pf, .inr (1, [.ref p1, .int (zI pn)])), (p1, .inl (cp1, 4, .inl fp))] : va_W) ++ kRows pr gp cy) sz) := by
  refine Met.ofW (cc := cX8_settle) (maxL := 1) (ret := none) (by decide) rfl ?_
  intro p e s m args below meth c s₁ B hml hv
  obtain ⟨rfl, hsz, hP, hK, hD0, hN⟩ := hv
  have hx := B.exec
  have hb := B.bytes
  have hr := B.returns
  have hts := atoms_spec (ws := wsX8_settle) B.pre
  have hown : s.vm.findClass RX8 = some m.cls := findClass_of_methodNamed B.named
  have hlocks := B.notSynchronized
  subst hsz
  have hD := hD0.self (sz := s.heap.size)
  generalize hAe : va_A (([(h0, .inr (8, [.ref sh, .ref rd, .ref fr, .ref wr, .ref pf, .ref rc, .ref se, .ref rs, .ref sw, .ref sp, .ref ss, .int (zI ew), .long wc, .int (zI tr), .int (zI lf)])), (se, .inr (4, [.ref g1, .ref g2, .ref g3, .ref g4, .ref g5, .int (zI cn), .int (zI bo), .int (zI ru), .ref g6, .ref g7])), (g1, .inl (cg1, 24, .inl f1)), (g2, .inl (cg2, 24, .inl f2)), (g3, .inl (cg3, 24, .inl f3)), (g4, .inl (cg4, 24, .inl f4)), (g5, .inl (cg5, 24, .inl f5)), (g6, .inl (cg6, 24, .inl f6)), (g7, .inl (cg7, 24, .inr (.inr (.inr (.inr (fo)))))), (wr, .inr (7, [.ref w1, .int (zI wn)])), (w1, .inl (cw1, 24, .inl fw)), (fr, .inr (0, [.ref k1, .ref k2, .ref k3, .int (zI fn)])), (k3, .inl (ck3, 4, .inl fh)), (pf, .inr (1, [.ref p1, .int (zI pn)])), (p1, .inl (cp1, 4, .inl fp))] : va_W) ++ kRows pr gp cy) s.heap.size = A at hD ⊢
  have hA : ∀ q : Nat, s.heap.size ≤ q → A q := fun q h => by rw [← hAe]; exact Or.inr h
  have hS : va_S A s.heap s.heap [] := va_S.rf
  have hP : va_P D vwCl (([(h0, .inr (8, [.ref sh, .ref rd, .ref fr, .ref wr, .ref pf, .ref rc, .ref se, .ref rs, .ref sw, .ref sp, .ref ss, .int (zI ew), .long wc, .int (zI tr), .int (zI lf)])), (se, .inr (4, [.ref g1, .ref g2, .ref g3, .ref g4, .ref g5, .int (zI cn), .int (zI bo), .int (zI ru), .ref g6, .ref g7])), (g1, .inl (cg1, 24, .inl f1)), (g2, .inl (cg2, 24, .inl f2)), (g3, .inl (cg3, 24, .inl f3)), (g4, .inl (cg4, 24, .inl f4)), (g5, .inl (cg5, 24, .inl f5)), (g6, .inl (cg6, 24, .inl f6)), (g7, .inl (cg7, 24, .inr (.inr (.inr (.inr (fo)))))), (wr, .inr (7, [.ref w1, .int (zI wn)])), (w1, .inl (cw1, 24, .inl fw)), (fr, .inr (0, [.ref k1, .ref k2, .ref k3, .int (zI fn)])), (k3, .inl (ck3, 4, .inl fh)), (pf, .inr (1, [.ref p1, .int (zI pn)])), (p1, .inl (cp1, 4, .inl fp))] : va_W) ++ kRows pr gp cy) s.heap := hP
  have hl := lv_entry ([.ref h0]) (n := 1) (Nat.le_of_ble_eq_true rfl)
  rw [lg_entry_eq]
  generalize (lg_sl ([.ref h0]) ++ List.replicate (1 - (lg_sl ([.ref h0])).length) Slot.unset).toArray = ls at hl ⊢
  have hl : lv_has ls 1 [(0, .ref h0)] := hl
  refine lv_aload_n hx hb dX8_settle_0 rfl (lv_at hl 0 rfl) ?_
  refine va_get (D := D) (ci := 8) (v := .ref se) (C := RX8) (T := TX8) (N := 15) hx hb hts (fun _ h9 => List.mem_cons_of_mem _ (List.mem_append_left _ (List.mem_append_left _ (List.mem_append_left _ (List.mem_append_left _ (List.mem_append_right _ h9)))))) hown hK hP 0 rfl rfl 6 (by decide) (hts (.fieldLink RX8 56 "FontRuns" "setting" "LFontRuns$Setting;") mw_X8_settle_0) (fun _ h9 => h9) rfl dX8_settle_1 ?_
  refine lv_aload_n hx hb dX8_settle_4 rfl (lv_at hl 0 rfl) ?_
  refine va_get (D := D) (ci := 8) (v := .ref wr) (C := RX8) (T := TX8) (N := 15) hx hb hts (fun _ h9 => List.mem_cons_of_mem _ (List.mem_append_left _ (List.mem_append_left _ (List.mem_append_left _ (List.mem_append_left _ (List.mem_append_right _ h9)))))) hown hK hP 0 rfl rfl 3 (by decide) (hts (.fieldLink RX8 35 "FontRuns" "writing" "LFontRuns$Writing;") mw_X8_settle_1) (fun _ h9 => h9) rfl dX8_settle_5 ?_
  refine lv_aload_n hx hb dX8_settle_8 rfl (lv_at hl 0 rfl) ?_
  refine va_get (D := D) (ci := 8) (v := .ref fr) (C := RX8) (T := TX8) (N := 15) hx hb hts (fun _ h9 => List.mem_cons_of_mem _ (List.mem_append_left _ (List.mem_append_left _ (List.mem_append_left _ (List.mem_append_left _ (List.mem_append_right _ h9)))))) hown hK hP 0 rfl rfl 2 (by decide) (hts (.fieldLink RX8 28 "FontRuns" "fontRow" "LFontRuns$FontRow;") mw_X8_settle_2) (fun _ h9 => h9) rfl dX8_settle_9 ?_
  refine lv_aload_n hx hb dX8_settle_12 rfl (lv_at hl 0 rfl) ?_
  refine va_get (D := D) (ci := 8) (v := .ref pf) (C := RX8) (T := TX8) (N := 15) hx hb hts (fun _ h9 => List.mem_cons_of_mem _ (List.mem_append_left _ (List.mem_append_left _ (List.mem_append_left _ (List.mem_append_left _ (List.mem_append_right _ h9)))))) hown hK hP 0 rfl rfl 4 (by decide) (hts (.fieldLink RX8 42 "FontRuns" "preference" "LFontRuns$Preference;") mw_X8_settle_3) (fun _ h9 => h9) rfl dX8_settle_13 ?_
  refine lv_aload_n hx hb dX8_settle_16 rfl (lv_at hl 0 rfl) ?_
  refine va_get (D := D) (ci := 8) (v := .ref fr) (C := RX8) (T := TX8) (N := 15) hx hb hts (fun _ h9 => List.mem_cons_of_mem _ (List.mem_append_left _ (List.mem_append_left _ (List.mem_append_left _ (List.mem_append_left _ (List.mem_append_right _ h9)))))) hown hK hP 0 rfl rfl 2 (by decide) (hts (.fieldLink RX8 28 "FontRuns" "fontRow" "LFontRuns$FontRow;") mw_X8_settle_2) (fun _ h9 => h9) rfl dX8_settle_17 ?_
  refine k_callP (va_runV (As := []) (rest := [.ref pf, .ref fr, .ref wr, .ref se]) ⟨hx, hb, hml, hown, hts⟩ (c_X0_all l D s.heap.size (h0 := fr) (k1 := k1) (k2 := k2) (k3 := k3) (n := fn) q1) (cwV 0 hts gX8_settle_X0_all rfl rfl rfl (by decide +kernel) ⟨Nat.le_of_ble_eq_true rfl, Nat.le_of_ble_eq_true rfl⟩) (kPreV hP (kD0 hD) hK hN [11] [] ax_X8_settle_0 rfl (by decide +kernel) 11 0 rfl rfl) rfl rfl hl.1 rfl (lv_room (Nat.le_of_ble_eq_true rfl)) dX8_settle_20 ⟨Nat.le_of_ble_eq_true rfl, Nat.le_of_ble_eq_true rfl⟩) (fun z_1 rz_1 h_2 => ?_)
  have hFc := va_freeP (cx := [(se, .inr (4, [.ref g1, .ref g2, .ref g3, .ref g4, .ref g5, .int (zI cn), .int (zI bo), .int (zI ru), .ref g6, .ref g7])), (g1, .inl (cg1, 24, .inl f1)), (g2, .inl (cg2, 24, .inl f2)), (g3, .inl (cg3, 24, .inl f3)), (g4, .inl (cg4, 24, .inl f4)), (g5, .inl (cg5, 24, .inl f5)), (g6, .inl (cg6, 24, .inl f6)), (g7, .inl (cg7, 24, .inr (.inr (.inr (.inr (fo)))))), (wr, .inr (7, [.ref w1, .int (zI wn)])), (w1, .inl (cw1, 24, .inl fw)), (fr, .inr (0, [.ref k1, .ref k2, .ref k3, .int (zI fn)])), (k3, .inl (ck3, 4, .inl fh)), (pf, .inr (1, [.ref p1, .int (zI pn)])), (p1, .inl (cp1, 4, .inl fp))]) hD hS hA [1, 2, 3, 4, 5, 6, 7, 8, 9, 10, 11, 12, 13, 14] ax_X8_settle_1
  refine va_callv (va_runV (As := [.ref wr, .ref fr, .ref pf, .int (zI z_1)]) (rest := []) ⟨hx, hb, hml, hown, hts⟩ (c_X4_make l D s.heap.size (wr := wr) (fr := fr) (pf := pf) (al := z_1) (h0 := se) (g1 := g1) (g2 := g2) (g3 := g3) (g4 := g4) (g5 := g5) (cn := cn) (bo := bo) (ru := ru) (g6 := g6) (g7 := g7) (cg1 := cg1) (f1 := f1) (cg2 := cg2) (f2 := f2) (cg3 := cg3) (f3 := f3) (cg4 := cg4) (f4 := f4) (cg5 := cg5) (f5 := f5) (cg6 := cg6) (f6 := f6) (cg7 := cg7) (fo := fo) (o := o) (w1 := w1) (wn := wn) (cw1 := cw1) (fw := fw) (k1 := k1) (k2 := k2) (k3 := k3) (n := fn) (ck3 := ck3) (fh := fh) (p1 := p1) (pn := pn) (cp1 := cp1) (fp := fp) (pr := pr) (gp := gp) (cy := cy) (by omega) q0 q1 q2 q3 q4 q5) (cwV 4 hts gX8_settle_X4_make rfl rfl rfl (by decide +kernel) ⟨Nat.le_of_ble_eq_true rfl, Nat.le_of_ble_eq_true rfl⟩) (kPreVP hP (kD0 hD) hK hN [1, 2, 3, 4, 5, 6, 7, 8, 9, 10, 11, 12, 13, 14] [0, 1, 2, 3, 4, 5, 6, 7, 8, 9, 10] ax_X8_settle_1 rfl (by decide +kernel) 1 4 rfl rfl) rfl rfl hl.1 rfl (lv_room (Nat.le_of_ble_eq_true rfl)) dX8_settle_23 ⟨Nat.le_of_ble_eq_true rfl, Nat.le_of_ble_eq_true rfl⟩) hS (fun q _ h => hFc q h) hFc (fun u t H1 locs ht hvm hw hB hz1 hk1 hS => ?_)
  refine Exists.elim hB (fun uc_3 hB1 => Exists.elim hB1 (fun ub_4 hB2 => Exists.elim hB2 (fun ur_5 hB3 => Exists.elim hB3 (fun v1_6 hB4 => Exists.elim hB4 (fun v2_7 hB5 => Exists.elim hB5 (fun v3_8 hB6 => Exists.elim hB6 (fun v4_9 hB7 => Exists.elim hB7 (fun v5_10 hB8 => Exists.elim hB8 (fun v6_11 hB9 => Exists.elim hB9 (fun ug_12 hB10 => ?_))))))))))
  have h_13 := hB10.1
  have h_14 := hB10.2.1
  have h_15 := hB10.2.2.1
  have hP1 := hB10.2.2.2.1
  have hD1 := hB10.2.2.2.2
  clear hB hB1 hB2 hB3 hB4 hB5 hB6 hB7 hB8 hB9 hB10
  rw [ht] at hP1
  obtain ⟨hP, hD⟩ := va_joinP (X := [(h0, .inr (8, [.ref sh, .ref rd, .ref fr, .ref wr, .ref pf, .ref rc, .ref se, .ref rs, .ref sw, .ref sp, .ref ss, .int (zI ew), .long wc, .int (zI tr), .int (zI lf)])), (se, .inr (4, [.ref g1, .ref g2, .ref g3, .ref g4, .ref g5, .int (zI cn), .int (zI bo), .int (zI ru), .ref g6, .ref g7])), (g1, .inl (cg1, 24, .inl f1)), (g2, .inl (cg2, 24, .inl f2)), (g3, .inl (cg3, 24, .inl f3)), (g4, .inl (cg4, 24, .inl f4)), (g5, .inl (cg5, 24, .inl f5)), (g6, .inl (cg6, 24, .inl f6)), (g7, .inl (cg7, 24, .inr (.inr (.inr (.inr (fo)))))), (wr, .inr (7, [.ref w1, .int (zI wn)])), (w1, .inl (cw1, 24, .inl fw)), (fr, .inr (0, [.ref k1, .ref k2, .ref k3, .int (zI fn)])), (k3, .inl (ck3, 4, .inl fh)), (pf, .inr (1, [.ref p1, .int (zI pn)])), (p1, .inl (cp1, 4, .inl fp))]) (wr := [(h0, .inr (8, [.ref sh, .ref rd, .ref fr, .ref wr, .ref pf, .ref rc, .ref se, .ref rs, .ref sw, .ref sp, .ref ss, .int (zI ew), .long wc, .int (zI tr), .int (zI lf)]))]) (rx := [(se, .inr (4, [.ref g1, .ref g2, .ref g3, .ref g4, .ref g5, .int (zI uc_3), .int (zI ub_4), .int (zI ur_5), .ref g6, .ref g7])), (g1, .inl (cg1, 24, .inl v1_6)), (g2, .inl (cg2, 24, .inl v2_7)), (g3, .inl (cg3, 24, .inl v3_8)), (g4, .inl (cg4, 24, .inl v4_9)), (g5, .inl (cg5, 24, .inl v5_10)), (g6, .inl (cg6, 24, .inl v6_11)), (g7, .inl (cg7, 24, .inr (.inr (.inr (.inr (fo)))))), (wr, .inr (7, [.ref w1, .int (zI wn)])), (w1, .inl (cw1, 24, .inl fw)), (fr, .inr (0, [.ref k1, .ref k2, .ref k3, .int (zI fn)])), (k3, .inl (ck3, 4, .inl fh)), (pf, .inr (1, [.ref p1, .int (zI pn)])), (p1, .inl (cp1, 4, .inl fp))]) hP hD [1, 2, 3, 4, 5, 6, 7, 8, 9, 10, 11, 12, 13, 14] [0] ax_X8_settle_1 ax_X8_settle_2 (by decide +kernel) (by decide +kernel) hk1 hFc hP1 hD1
  have hP := ax_X8_settle_3 hP
  have hD := ax_X8_settle_4 hD
  generalize H1 = H at hP hS ⊢
  have hP : va_P D vwCl (([(h0, .inr (8, [.ref sh, .ref rd, .ref fr, .ref wr, .ref pf, .ref rc, .ref se, .ref rs, .ref sw, .ref sp, .ref ss, .int (zI ew), .long wc, .int (zI tr), .int (zI lf)])), (se, .inr (4, [.ref g1, .ref g2, .ref g3, .ref g4, .ref g5, .int (zI uc_3), .int (zI ub_4), .int (zI ur_5), .ref g6, .ref g7])), (g1, .inl (cg1, 24, .inl v1_6)), (g2, .inl (cg2, 24, .inl v2_7)), (g3, .inl (cg3, 24, .inl v3_8)), (g4, .inl (cg4, 24, .inl v4_9)), (g5, .inl (cg5, 24, .inl v5_10)), (g6, .inl (cg6, 24, .inl v6_11)), (g7, .inl (cg7, 24, .inr (.inr (.inr (.inr (fo)))))), (wr, .inr (7, [.ref w1, .int (zI wn)])), (w1, .inl (cw1, 24, .inl fw)), (fr, .inr (0, [.ref k1, .ref k2, .ref k3, .int (zI fn)])), (k3, .inl (ck3, 4, .inl fh)), (pf, .inr (1, [.ref p1, .int (zI pn)])), (p1, .inl (cp1, 4, .inl fp))] : va_W) ++ kRows pr ug_12 cy) H := hP
  have hD : va_D A (([(h0, .inr (8, [.ref sh, .ref rd, .ref fr, .ref wr, .ref pf, .ref rc, .ref se, .ref rs, .ref sw, .ref sp, .ref ss, .int (zI ew), .long wc, .int (zI tr), .int (zI lf)])), (se, .inr (4, [.ref g1, .ref g2, .ref g3, .ref g4, .ref g5, .int (zI uc_3), .int (zI ub_4), .int (zI ur_5), .ref g6, .ref g7])), (g1, .inl (cg1, 24, .inl v1_6)), (g2, .inl (cg2, 24, .inl v2_7)), (g3, .inl (cg3, 24, .inl v3_8)), (g4, .inl (cg4, 24, .inl v4_9)), (g5, .inl (cg5, 24, .inl v5_10)), (g6, .inl (cg6, 24, .inl v6_11)), (g7, .inl (cg7, 24, .inr (.inr (.inr (.inr (fo)))))), (wr, .inr (7, [.ref w1, .int (zI wn)])), (w1, .inl (cw1, 24, .inl fw)), (fr, .inr (0, [.ref k1, .ref k2, .ref k3, .int (zI fn)])), (k3, .inl (ck3, 4, .inl fh)), (pf, .inr (1, [.ref p1, .int (zI pn)])), (p1, .inl (cp1, 4, .inl fp))] : va_W) ++ kRows pr ug_12 cy) := hD
  have hP9 : va_P D vwCl (([(h0, .inr (8, [.ref sh, .ref rd, .ref fr, .ref wr, .ref pf, .ref rc, .ref se, .ref rs, .ref sw, .ref sp, .ref ss, .int (zI ew), .long wc, .int (zI tr), .int (zI lf)])), (se, .inr (4, [.ref g1, .ref g2, .ref g3, .ref g4, .ref g5, .int (zI uc_3), .int (zI ub_4), .int (zI ur_5), .ref g6, .ref g7])), (g1, .inl (cg1, 24, .inl v1_6)), (g2, .inl (cg2, 24, .inl v2_7)), (g3, .inl (cg3, 24, .inl v3_8)), (g4, .inl (cg4, 24, .inl v4_9)), (g5, .inl (cg5, 24, .inl v5_10)), (g6, .inl (cg6, 24, .inl v6_11)), (g7, .inl (cg7, 24, .inr (.inr (.inr (.inr (fo)))))), (wr, .inr (7, [.ref w1, .int (zI wn)])), (w1, .inl (cw1, 24, .inl fw)), (fr, .inr (0, [.ref k1, .ref k2, .ref k3, .int (zI fn)])), (k3, .inl (ck3, 4, .inl fh)), (pf, .inr (1, [.ref p1, .int (zI pn)])), (p1, .inl (cp1, 4, .inl fp))] : va_W) ++ kRows pr ug_12 cy) H := hP.part [0, 1, 2, 3, 4, 5, 6, 7, 8, 9, 10, 11, 12, 13, 14] ax_X8_settle_5
  have hD9 : va_D A (([(h0, .inr (8, [.ref sh, .ref rd, .ref fr, .ref wr, .ref pf, .ref rc, .ref se, .ref rs, .ref sw, .ref sp, .ref ss, .int (zI ew), .long wc, .int (zI tr), .int (zI lf)])), (se, .inr (4, [.ref g1, .ref g2, .ref g3, .ref g4, .ref g5, .int (zI uc_3), .int (zI ub_4), .int (zI ur_5), .ref g6, .ref g7])), (g1, .inl (cg1, 24, .inl v1_6)), (g2, .inl (cg2, 24, .inl v2_7)), (g3, .inl (cg3, 24, .inl v3_8)), (g4, .inl (cg4, 24, .inl v4_9)), (g5, .inl (cg5, 24, .inl v5_10)), (g6, .inl (cg6, 24, .inl v6_11)), (g7, .inl (cg7, 24, .inr (.inr (.inr (.inr (fo)))))), (wr, .inr (7, [.ref w1, .int (zI wn)])), (w1, .inl (cw1, 24, .inl fw)), (fr, .inr (0, [.ref k1, .ref k2, .ref k3, .int (zI fn)])), (k3, .inl (ck3, 4, .inl fh)), (pf, .inr (1, [.ref p1, .int (zI pn)])), (p1, .inl (cp1, 4, .inl fp))] : va_W) ++ kRows pr ug_12 cy) := hD.part [0, 1, 2, 3, 4, 5, 6, 7, 8, 9, 10, 11, 12, 13, 14] (by decide +kernel) ax_X8_settle_5
  exact W.vret hx hb hr (fun t ht hW => kQV_of ⟨uc_3, ub_4, ur_5, v1_6, v2_7, v3_8, v4_9, v5_10, v6_11, ug_12, h_13, h_14, h_15, by rw [ht]; exact hP9, hD9⟩ (hS.F ht)) hS.2.2 dX8_settle_26




theorem dX8_supposeAct_0 : decode cX8_supposeAct 0 = .ok (.iload_n 2, 1) := by decide +kernel
theorem dX8_supposeAct_1 : decode cX8_supposeAct 1 = .ok (.lookupswitch 45 #[(20, 27), (21, 36)], 27) := by decide +kernel
theorem dX8_supposeAct_28 : decode cX8_supposeAct 28 = .ok (.aload_n 0, 1) := by decide +kernel
theorem dX8_supposeAct_29 : decode cX8_supposeAct 29 = .ok (.getfield 67, 3) := by decide +kernel
theorem dX8_supposeAct_32 : decode cX8_supposeAct 32 = .ok (.iload_n 1, 1) := by decide +kernel
theorem dX8_supposeAct_33 : decode cX8_supposeAct 33 = .ok (.invokevirtual 222, 3) := by decide +kernel
theorem dX8_supposeAct_36 : decode cX8_supposeAct 36 = .ok (.ireturn, 1) := by decide +kernel
theorem dX8_supposeAct_37 : decode cX8_supposeAct 37 = .ok (.aload_n 0, 1) := by decide +kernel
theorem dX8_supposeAct_38 : decode cX8_supposeAct 38 = .ok (.getfield 67, 3) := by decide +kernel
theorem dX8_supposeAct_41 : decode cX8_supposeAct 41 = .ok (.iload_n 1, 1) := by decide +kernel
theorem dX8_supposeAct_42 : decode cX8_supposeAct 42 = .ok (.invokevirtual 163, 3) := by decide +kernel
theorem dX8_supposeAct_45 : decode cX8_supposeAct 45 = .ok (.ireturn, 1) := by decide +kernel
theorem dX8_supposeAct_46 : decode cX8_supposeAct 46 = .ok (.aload_n 0, 1) := by decide +kernel
theorem dX8_supposeAct_47 : decode cX8_supposeAct 47 = .ok (.getfield 70, 3) := by decide +kernel
theorem dX8_supposeAct_50 : decode cX8_supposeAct 50 = .ok (.iload_n 1, 1) := by decide +kernel
theorem dX8_supposeAct_51 : decode cX8_supposeAct 51 = .ok (.invokevirtual 196, 3) := by decide +kernel
theorem dX8_supposeAct_54 : decode cX8_supposeAct 54 = .ok (.ireturn, 1) := by decide +kernel
set_option maxRecDepth 20000 in
theorem ggX8_supposeAct_X1_lead : GoodIn wsX8_supposeAct wsX1_lead := goodIn_4 _ (List.forall_mem_cons.mpr ⟨List.mem_cons_of_mem _ (List.mem_append_left _ (List.mem_append_left _ (List.mem_append_left _ (List.mem_append_left _ (List.mem_of_getElem? (i := 20) rfl))))), List.forall_mem_append.mpr ⟨List.forall_mem_cons.mpr ⟨List.mem_cons_of_mem _ (List.mem_append_left _ (List.mem_append_left _ (List.mem_append_left _ (List.mem_append_left _ (List.mem_of_getElem? (i := 21) rfl))))), List.forall_mem_cons.mpr ⟨List.mem_cons_of_mem _ (List.mem_append_left _ (List.mem_append_left _ (List.mem_append_left _ (List.mem_append_left _ (List.mem_of_getElem? (i := 22) rfl))))), List.forall_mem_cons.mpr ⟨List.mem_cons_of_mem _ (List.mem_append_left _ (List.mem_append_left _ (List.mem_append_left _ (List.mem_append_left _ (List.mem_of_getElem? (i := 23) rfl))))), List.forall_mem_cons.mpr ⟨List.mem_cons_of_mem _ (List.mem_append_left _ (List.mem_append_left _ (List.mem_append_left _ (List.mem_append_right _ (List.mem_of_getElem? (i := 0) rfl))))), List.forall_mem_cons.mpr ⟨List.mem_cons_of_mem _ (List.mem_append_left _ (List.mem_append_left _ (List.mem_append_left _ (List.mem_append_left _ (List.mem_of_getElem? (i := 19) rfl))))), List.forall_mem_cons.mpr ⟨List.mem_cons_of_mem _ (List.mem_append_left _ (List.mem_append_left _ (List.mem_append_left _ (List.mem_append_right _ (List.mem_of_getElem? (i := 1) rfl))))), List.forall_mem_cons.mpr ⟨List.mem_cons_of_mem _ (List.mem_append_left _ (List.mem_append_left _ (List.mem_append_left _ (List.mem_append_right _ (List.mem_of_getElem? (i := 2) rfl))))), fun _ h9 => absurd h9 List.not_mem_nil⟩⟩⟩⟩⟩⟩⟩, fun w h9 => List.mem_cons_of_mem _ (List.mem_append_right _ (h9))⟩⟩) (by decide +kernel)
set_option maxRecDepth 20000 in
theorem gX8_supposeAct_X1_lead : GoodIn wsX8_supposeAct (wsV RX8 196 RX1 yX1_lead wsX1_lead) := goodIn_app (goodIn_4 _ (List.forall_mem_cons.mpr ⟨List.mem_cons_of_mem _ (List.mem_append_left _ (List.mem_append_left _ (List.mem_append_left _ (List.mem_append_left _ (List.mem_of_getElem? (i := 16) rfl))))), List.forall_mem_cons.mpr ⟨List.mem_cons_of_mem _ (List.mem_append_left _ (List.mem_append_left _ (List.mem_append_left _ (List.mem_append_left _ (List.mem_of_getElem? (i := 17) rfl))))), List.forall_mem_cons.mpr ⟨List.mem_cons_of_mem _ (List.mem_append_left _ (List.mem_append_left _ (List.mem_append_left _ (List.mem_append_left _ (List.mem_of_getElem? (i := 18) rfl))))), List.forall_mem_cons.mpr ⟨List.mem_cons_of_mem _ (List.mem_append_left _ (List.mem_append_left _ (List.mem_append_left _ (List.mem_append_left _ (List.mem_of_getElem? (i := 19) rfl))))), fun _ h9 => absurd h9 List.not_mem_nil⟩⟩⟩⟩) (by decide +kernel)) ggX8_supposeAct_X1_lead
set_option maxRecDepth 20000 in
theorem ggX8_supposeAct_X7_add : GoodIn wsX8_supposeAct wsX7_add := goodIn_4 _ (List.forall_mem_cons.mpr ⟨List.mem_cons_of_mem _ (List.mem_append_left _ (List.mem_append_left _ (List.mem_append_left _ (List.mem_append_left _ (List.mem_of_getElem? (i := 6) rfl))))), List.forall_mem_append.mpr ⟨List.forall_mem_cons.mpr ⟨List.mem_cons_of_mem _ (List.mem_append_left _ (List.mem_append_left _ (List.mem_append_left _ (List.mem_append_left _ (List.mem_of_getElem? (i := 7) rfl))))), List.forall_mem_cons.mpr ⟨List.mem_cons_of_mem _ (List.mem_append_left _ (List.mem_append_left _ (List.mem_append_left _ (List.mem_append_left _ (List.mem_of_getElem? (i := 8) rfl))))), List.forall_mem_cons.mpr ⟨List.mem_cons_of_mem _ (List.mem_append_left _ (List.mem_append_left _ (List.mem_append_left _ (List.mem_append_left _ (List.mem_of_getElem? (i := 9) rfl))))), List.forall_mem_cons.mpr ⟨List.mem_cons_of_mem _ (List.mem_append_left _ (List.mem_append_left _ (List.mem_append_left _ (List.mem_append_left _ (List.mem_of_getElem? (i := 10) rfl))))), List.forall_mem_cons.mpr ⟨List.mem_cons_of_mem _ (List.mem_append_left _ (List.mem_append_left _ (List.mem_append_left _ (List.mem_append_left _ (List.mem_of_getElem? (i := 11) rfl))))), fun _ h9 => absurd h9 List.not_mem_nil⟩⟩⟩⟩⟩, fun w h9 => List.mem_cons_of_mem _ (List.mem_append_left _ (List.mem_append_right _ (h9)))⟩⟩) (by decide +kernel)
set_option maxRecDepth 20000 in
theorem gX8_supposeAct_X7_add : GoodIn wsX8_supposeAct (wsV RX8 222 RX7 yX7_add wsX7_add) := goodIn_app (goodIn_4 _ (List.forall_mem_cons.mpr ⟨List.mem_cons_of_mem _ (List.mem_append_left _ (List.mem_append_left _ (List.mem_append_left _ (List.mem_append_left _ (List.mem_of_getElem? (i := 2) rfl))))), List.forall_mem_cons.mpr ⟨List.mem_cons_of_mem _ (List.mem_append_left _ (List.mem_append_left _ (List.mem_append_left _ (List.mem_append_left _ (List.mem_of_getElem? (i := 3) rfl))))), List.forall_mem_cons.mpr ⟨List.mem_cons_of_mem _ (List.mem_append_left _ (List.mem_append_left _ (List.mem_append_left _ (List.mem_append_left _ (List.mem_of_getElem? (i := 4) rfl))))), List.forall_mem_cons.mpr ⟨List.mem_cons_of_mem _ (List.mem_append_left _ (List.mem_append_left _ (List.mem_append_left _ (List.mem_append_left _ (List.mem_of_getElem? (i := 5) rfl))))), fun _ h9 => absurd h9 List.not_mem_nil⟩⟩⟩⟩) (by decide +kernel)) ggX8_supposeAct_X7_add
set_option maxRecDepth 20000 in
theorem ggX8_supposeAct_X7_drop : GoodIn wsX8_supposeAct wsX7_drop := goodIn_4 _ (List.forall_mem_cons.mpr ⟨List.mem_cons_of_mem _ (List.mem_append_left _ (List.mem_append_left _ (List.mem_append_left _ (List.mem_append_left _ (List.mem_of_getElem? (i := 15) rfl))))), List.forall_mem_append.mpr ⟨List.forall_mem_cons.mpr ⟨List.mem_cons_of_mem _ (List.mem_append_left _ (List.mem_append_left _ (List.mem_append_left _ (List.mem_append_left _ (List.mem_of_getElem? (i := 7) rfl))))), List.forall_mem_cons.mpr ⟨List.mem_cons_of_mem _ (List.mem_append_left _ (List.mem_append_left _ (List.mem_append_left _ (List.mem_append_left _ (List.mem_of_getElem? (i := 9) rfl))))), List.forall_mem_cons.mpr ⟨List.mem_cons_of_mem _ (List.mem_append_left _ (List.mem_append_left _ (List.mem_append_left _ (List.mem_append_left _ (List.mem_of_getElem? (i := 10) rfl))))), List.forall_mem_cons.mpr ⟨List.mem_cons_of_mem _ (List.mem_append_left _ (List.mem_append_left _ (List.mem_append_left _ (List.mem_append_left _ (List.mem_of_getElem? (i := 11) rfl))))), fun _ h9 => absurd h9 List.not_mem_nil⟩⟩⟩⟩, fun w h9 => List.mem_cons_of_mem _ (List.mem_append_left _ (List.mem_append_right _ (h9)))⟩⟩) (by decide +kernel)
set_option maxRecDepth 20000 in
theorem gX8_supposeAct_X7_drop : GoodIn wsX8_supposeAct (wsV RX8 163 RX7 yX7_drop wsX7_drop) := goodIn_app (goodIn_4 _ (List.forall_mem_cons.mpr ⟨List.mem_cons_of_mem _ (List.mem_append_left _ (List.mem_append_left _ (List.mem_append_left _ (List.mem_append_left _ (List.mem_of_getElem? (i := 12) rfl))))), List.forall_mem_cons.mpr ⟨List.mem_cons_of_mem _ (List.mem_append_left _ (List.mem_append_left _ (List.mem_append_left _ (List.mem_append_left _ (List.mem_of_getElem? (i := 13) rfl))))), List.forall_mem_cons.mpr ⟨List.mem_cons_of_mem _ (List.mem_append_left _ (List.mem_append_left _ (List.mem_append_left _ (List.mem_append_left _ (List.mem_of_getElem? (i := 14) rfl))))), List.forall_mem_cons.mpr ⟨List.mem_cons_of_mem _ (List.mem_append_left _ (List.mem_append_left _ (List.mem_append_left _ (List.mem_append_left _ (List.mem_of_getElem? (i := 5) rfl))))), fun _ h9 => absurd h9 List.not_mem_nil⟩⟩⟩⟩) (by decide +kernel)) ggX8_supposeAct_X7_drop
set_option maxRecDepth 20000 in
theorem mw_X8_supposeAct_0 : (.fieldLink RX8 67 "FontRuns" "supposedWriting" "LFontRuns$Writing;" : Cond) ∈ wsX8_supposeAct := List.mem_cons_of_mem _ (List.mem_append_left _ (List.mem_append_left _ (List.mem_append_left _ (List.mem_append_left _ (List.mem_of_getElem? (i := 0) rfl)))))
set_option maxRecDepth 20000 in
theorem mw_X8_supposeAct_1 : (.fieldLink RX8 70 "FontRuns" "supposedPreference" "LFontRuns$Preference;" : Cond) ∈ wsX8_supposeAct := List.mem_cons_of_mem _ (List.mem_append_left _ (List.mem_append_left _ (List.mem_append_left _ (List.mem_append_left _ (List.mem_of_getElem? (i := 1) rfl)))))
theorem ax_X8_supposeAct_0 {e0 e1 e2 e3 e4 : Nat × va_E} : ([1, 2] : List Nat).map (fun i => ([e0, e1, e2, e3, e4] : va_W)[i]?) = ([e1, e2] : va_W).map some := rfl
theorem ax_X8_supposeAct_1 {e0 e1 e2 e3 e4 : Nat × va_E} : ([0, 3, 4] : List Nat).map (fun i => ([e0, e1, e2, e3, e4] : va_W)[i]?) = ([e0, e3, e4] : va_W).map some := rfl
theorem ax_X8_supposeAct_2 {D : va_G} {cl : List vw_C} {H : Heap} {e0 e1 e2 f0 f1 : Nat × va_E} (h : va_P D cl ((([e0, e1, e2] : va_W) ++ ([f0, f1] : va_W))) H) : va_P D cl (([e0, e1, e2, f0, f1] : va_W)) H := h
theorem ax_X8_supposeAct_3 {A : Nat → Prop} {e0 e1 e2 f0 f1 : Nat × va_E} (h : va_D A ((([e0, e1, e2] : va_W) ++ ([f0, f1] : va_W)))) : va_D A (([e0, e1, e2, f0, f1] : va_W)) := h
theorem ax_X8_supposeAct_4 {e0 e1 e2 e3 e4 : Nat × va_E} : ([0, 3, 4, 1, 2] : List Nat).map (fun i => ([e0, e1, e2, e3, e4] : va_W)[i]?) = ([e0, e3, e4, e1, e2] : va_W).map some := rfl
theorem ax_X8_supposeAct_5 {e0 e1 e2 e3 e4 : Nat × va_E} : ([1] : List Nat).map (fun i => ([e0, e1, e2, e3, e4] : va_W)[i]?) = ([e1] : va_W).map some := rfl
theorem ax_X8_supposeAct_6 {e0 e1 e2 e3 e4 : Nat × va_E} : ([0, 2, 3, 4] : List Nat).map (fun i => ([e0, e1, e2, e3, e4] : va_W)[i]?) = ([e0, e2, e3, e4] : va_W).map some := rfl
theorem ax_X8_supposeAct_7 {D : va_G} {cl : List vw_C} {H : Heap} {e0 e1 e2 e3 f0 : Nat × va_E} (h : va_P D cl ((([e0, e1, e2, e3] : va_W) ++ ([f0] : va_W))) H) : va_P D cl (([e0, e1, e2, e3, f0] : va_W)) H := h
theorem ax_X8_supposeAct_8 {A : Nat → Prop} {e0 e1 e2 e3 f0 : Nat × va_E} (h : va_D A ((([e0, e1, e2, e3] : va_W) ++ ([f0] : va_W)))) : va_D A (([e0, e1, e2, e3, f0] : va_W)) := h
theorem ax_X8_supposeAct_9 {e0 e1 e2 e3 e4 : Nat × va_E} : ([0, 4, 1, 2, 3] : List Nat).map (fun i => ([e0, e1, e2, e3, e4] : va_W)[i]?) = ([e0, e4, e1, e2, e3] : va_W).map some := rfl
theorem ax_X8_supposeAct_10 {e0 e1 e2 e3 e4 : Nat × va_E} : ([3, 4] : List Nat).map (fun i => ([e0, e1, e2, e3, e4] : va_W)[i]?) = ([e3, e4] : va_W).map some := rfl
theorem ax_X8_supposeAct_11 {e0 e1 e2 e3 e4 : Nat × va_E} : ([0, 1, 2] : List Nat).map (fun i => ([e0, e1, e2, e3, e4] : va_W)[i]?) = ([e0, e1, e2] : va_W).map some := rfl
theorem ax_X8_supposeAct_12 {e0 e1 e2 e3 e4 : Nat × va_E} : ([0, 1, 2, 3, 4] : List Nat).map (fun i => ([e0, e1, e2, e3, e4] : va_W)[i]?) = ([e0, e1, e2, e3, e4] : va_W).map some := rfl
set_option maxHeartbeats 4000000 in
set_option maxRecDepth 100000 in
theorem c_X8_supposeAct (l : Launch) (D : va_G) (sz : Nat) (x : Int) (a : Int) (h0 : Nat) (sh : Nat) (rd : Nat) (fr : Nat) (wr : Nat) (pf : Nat) (rc : Nat) (se : Nat) (rs : Nat) (sw : Nat) (sp : Nat) (ss : Nat) (ew : Int) (wc : Int64) (tr : Int) (lf : Int) (sw1 : Nat) (swn : Int) (csw1 : ClassId) (fsw : Nat → Int32) (sp1 : Nat) (spn : Int) (csp1 : ClassId) (fsp : Nat → Int32) (q0 : rg x) (q1 : rg a) (q2 : 0 ≤ swn ∧ swn ≤ 24) (q3 : 0 ≤ spn ∧ spn ≤ 4) (q4 : kPr fsp) : Met l yX8_supposeAct wsX8_supposeAct ({ frames := 2, cells := 0, slots := 0, locals := 45 }) (kPre [.ref h0, .int (zI x), .int (zI a)] D [(h0, .inr (8, [.ref sh, .ref rd, .ref fr, .ref wr, .ref pf, .ref rc, .ref se, .ref rs, .ref sw, .ref sp, .ref ss, .int (zI ew), .long wc, .int (zI tr), .int (zI lf)])), (sw, .inr (7, [.ref sw1, .int (zI swn)])), (sw1, .inl (csw1, 24, .inl fsw)), (sp, .inr (1, [.ref sp1, .int (zI spn)])), (sp1, .inl (csp1, 4, .inl fsp))] [(csw1, .int), (csp1, .int)] sz) (kQS (fun rz t => ∃ (un : Int) (uw : Nat → Int32) (up : Nat → Int32), (0 ≤ un ∧ un ≤ 24) ∧ (kPr up) ∧ (rz = 0 ∨ rz = 1) ∧ va_P D vwCl [(h0, .inr (8, [.ref sh, .ref rd, .ref fr, .ref wr, .ref pf, .ref rc, .ref se, .ref rs, .ref sw, .ref sp, .ref ss, .int (zI ew), .long wc, .int (zI tr), .int (zI lf)])), (sw, .inr (7, [.ref sw1, .int (zI un)])), (sw1, .inl (csw1, 24, .inl uw)), (sp, .inr (1, [.ref sp1, .int (zI spn)])), (sp1, .inl (csp1, 4, .inl up))] t.heap ∧ va_D (va_A [(h0, .inr (8, [.ref sh, .ref rd, .ref fr, .ref wr, .ref pf, .ref rc, .ref se, .ref rs, .ref sw, .ref sp, .ref ss, .int (zI ew), .long wc, .int (zI tr), .int (zI lf)])), (sw, .inr (7, [.ref sw1, .int (zI swn)])), (sw1, .inl (csw1, 24, .inl fsw)), (sp, .inr (1, [.ref sp1, .int (zI spn)])), (sp1, .inl (csp1, 4, .inl fsp))] sz) [(h0, .inr (8, [.ref sh, .ref rd, .ref fr, .ref wr, .ref pf, .ref rc, .ref se, .ref rs, .ref sw, .ref sp, .ref ss, .int (zI ew), .long wc, .int (zI tr), .int (zI lf)])), (sw, .inr (7, [.ref sw1, .int (zI un)])), (sw1, .inl (csw1, 24, .inl uw)), (sp, .inr (1, [.ref sp1, .int (zI spn)])), (sp1, .inl (csp1, 4, .inl up))]) (va_A [(h0, .inr (8, [.ref sh, .ref rd, .ref fr, .ref wr, .ref pf, .ref rc, .ref se, .ref rs, .ref sw, .ref sp, .ref ss, .int (zI ew), .long wc, .int (zI tr), .int (zI lf)])), (sw, .inr (7, [.ref sw1, .int (zI swn)])), (sw1, .inl (csw1, 24, .inl fsw)), (sp, .inr (1, [.ref sp1, .int (zI spn)])), (sp1, .inl (csp1, 4, .inl fsp))] sz)) 0 0 (va_A [(h0, .inr (8, [.ref sh, .ref rd, .ref fr, .ref wr, .ref pf, .ref rc, .ref se, .ref rs, .ref sw, .ref sp, .ref ss, .int (zI ew), .long wc, .int (zI tr), .int (zI lf)])), (sw, .inr (7, [.ref sw1, .int (zI swn)])), (sw1, .inl (csw1, 24, .inl fsw)), (sp, .inr (1, [.ref sp1, .int (zI spn)])), (sp1, .inl (csp1, 4, .inl fsp))] sz) := by
  refine Met.ofW (cc := cX8_supposeAct) (maxL := 3) (ret := (some .boolean)) (by decide) rfl ?_
  intro p e s m args below meth c s₁ B hml hv
  obtain ⟨rfl, hsz, hP, hK, hD0, hN⟩ := hv
  have hx := B.exec
  have hb := B.bytes
  have hr := B.returns
  have hts := atoms_spec (ws := wsX8_supposeAct) B.pre
  have hown : s.vm.findClass RX8 = some m.cls := findClass_of_methodNamed B.named
  have hlocks := B.notSynchronized
  subst hsz
  have hD := hD0.self (sz := s.heap.size)
  generalize hAe : va_A [(h0, .inr (8, [.ref sh, .ref rd, .ref fr, .ref wr, .ref pf, .ref rc, .ref se, .ref rs, .ref sw, .ref sp, .ref ss, .int (zI ew), .long wc, .int (zI tr), .int (zI lf)])), (sw, .inr (7, [.ref sw1, .int (zI swn)])), (sw1, .inl (csw1, 24, .inl fsw)), (sp, .inr (1, [.ref sp1, .int (zI spn)])), (sp1, .inl (csp1, 4, .inl fsp))] s.heap.size = A at hD ⊢
  have hA : ∀ q : Nat, s.heap.size ≤ q → A q := fun q h => by rw [← hAe]; exact Or.inr h
  have hS : va_S A s.heap s.heap [] := va_S.rf
  have hP : va_P D vwCl [(h0, .inr (8, [.ref sh, .ref rd, .ref fr, .ref wr, .ref pf, .ref rc, .ref se, .ref rs, .ref sw, .ref sp, .ref ss, .int (zI ew), .long wc, .int (zI tr), .int (zI lf)])), (sw, .inr (7, [.ref sw1, .int (zI swn)])), (sw1, .inl (csw1, 24, .inl fsw)), (sp, .inr (1, [.ref sp1, .int (zI spn)])), (sp1, .inl (csp1, 4, .inl fsp))] s.heap := hP
  have hl := lv_entry ([.ref h0, .int (zI x), .int (zI a)]) (n := 3) (Nat.le_of_ble_eq_true rfl)
  rw [lg_entry_eq]
  generalize (lg_sl ([.ref h0, .int (zI x), .int (zI a)]) ++ List.replicate (3 - (lg_sl ([.ref h0, .int (zI x), .int (zI a)])).length) Slot.unset).toArray = ls at hl ⊢
  have hl : lv_has ls 3 [(0, .ref h0), (1, .int (zI x)), (2, .int (zI a))] := hl
  refine lv_iload_n hx hb dX8_supposeAct_0 rfl (lv_at hl 2 rfl) ?_
  rcases (show a = 20 ∨ a = 21 ∨ (¬ a = 20 ∧ ¬ a = 21) from by omega) with c_1 | c_1 | c_1
  · refine kz_look (tgt := 28) (off := 27) hx hb dX8_supposeAct_1 (by decide) (by omega) (by show Op.lookupswitch.offset [(20, 27), (21, 36)] 45 a = 27; rw [Op.lookupswitch.offset_cons, Op.lookupswitch.offset_cons, Op.lookupswitch.offset_nil]; (repeat' split) <;> omega) (by decide) ?_
    refine lv_aload_n hx hb dX8_supposeAct_28 rfl (lv_at hl 0 rfl) ?_
    refine va_get (D := D) (ci := 8) (v := .ref sw) (C := RX8) (T := TX8) (N := 15) hx hb hts (fun _ h9 => List.mem_cons_of_mem _ (List.mem_append_left _ (List.mem_append_left _ (List.mem_append_right _ h9)))) hown hK hP 0 rfl rfl 8 (by decide) (hts (.fieldLink RX8 67 "FontRuns" "supposedWriting" "LFontRuns$Writing;") mw_X8_supposeAct_0) (fun _ h9 => h9) rfl dX8_supposeAct_29 ?_
    refine lv_iload_n hx hb dX8_supposeAct_32 rfl (lv_at hl 1 rfl) ?_
    have hFc := va_free (wc := [(sw, .inr (7, [.ref sw1, .int (zI swn)])), (sw1, .inl (csw1, 24, .inl fsw))]) hD hS hA [1, 2] ax_X8_supposeAct_0
    refine va_calli (va_runV (As := [.int (zI x)]) (rest := []) ⟨hx, hb, hml, hown, hts⟩ (c_X7_add l D s.heap.size (x := x) (h0 := sw) (r1 := sw1) (n := swn) (cr1 := csw1) (fr := fsw) q0 q2) (cwV 1 hts gX8_supposeAct_X7_add rfl rfl rfl (by decide +kernel) ⟨Nat.le_of_ble_eq_true rfl, Nat.le_of_ble_eq_true rfl⟩) (kPreV hP (kD0 hD) hK hN [1, 2] [0] ax_X8_supposeAct_0 rfl (by decide +kernel) 1 7 rfl rfl) rfl rfl hl.1 rfl (lv_room (Nat.le_of_ble_eq_true rfl)) dX8_supposeAct_33 ⟨Nat.le_of_ble_eq_true rfl, Nat.le_of_ble_eq_true rfl⟩) hS (fun q _ h => hFc q h) hFc (fun r u t H1 locs ht hvm hw hB hz1 hk1 hS => ?_)
    obtain ⟨z_4, e9⟩ : ∃ z, z = u := ⟨_, rfl⟩
    subst e9
    obtain ⟨rfl, rz_4⟩ := hw
    refine Exists.elim hB (fun un_2 hB1 => Exists.elim hB1 (fun uf_3 hB2 => ?_))
    have h_5 := hB2.1
    have h_6 := hB2.2.1
    have hP1 := hB2.2.2.1
    have hD1 := hB2.2.2.2
    clear hB hB1 hB2
    rw [ht] at hP1
    obtain ⟨hP, hD⟩ := va_join (wr := [(h0, .inr (8, [.ref sh, .ref rd, .ref fr, .ref wr, .ref pf, .ref rc, .ref se, .ref rs, .ref sw, .ref sp, .ref ss, .int (zI ew), .long wc, .int (zI tr), .int (zI lf)])), (sp, .inr (1, [.ref sp1, .int (zI spn)])), (sp1, .inl (csp1, 4, .inl fsp))]) (w1 := [(sw, .inr (7, [.ref sw1, .int (zI un_2)])), (sw1, .inl (csw1, 24, .inl uf_3))]) hP hD [1, 2] [0, 3, 4] ax_X8_supposeAct_0 ax_X8_supposeAct_1 (by decide +kernel) (by decide +kernel) hk1 hFc hP1 hD1
    have hP := ax_X8_supposeAct_2 hP
    have hD := ax_X8_supposeAct_3 hD
    generalize H1 = H at hP hS ⊢
    have hP : va_P D vwCl [(h0, .inr (8, [.ref sh, .ref rd, .ref fr, .ref wr, .ref pf, .ref rc, .ref se, .ref rs, .ref sw, .ref sp, .ref ss, .int (zI ew), .long wc, .int (zI tr), .int (zI lf)])), (sp, .inr (1, [.ref sp1, .int (zI spn)])), (sp1, .inl (csp1, 4, .inl fsp)), (sw, .inr (7, [.ref sw1, .int (zI un_2)])), (sw1, .inl (csw1, 24, .inl uf_3))] H := hP
    have hD : va_D A [(h0, .inr (8, [.ref sh, .ref rd, .ref fr, .ref wr, .ref pf, .ref rc, .ref se, .ref rs, .ref sw, .ref sp, .ref ss, .int (zI ew), .long wc, .int (zI tr), .int (zI lf)])), (sp, .inr (1, [.ref sp1, .int (zI spn)])), (sp1, .inl (csp1, 4, .inl fsp)), (sw, .inr (7, [.ref sw1, .int (zI un_2)])), (sw1, .inl (csw1, 24, .inl uf_3))] := hD
    have hP9 := hP.sub (ws' := [(h0, .inr (8, [.ref sh, .ref rd, .ref fr, .ref wr, .ref pf, .ref rc, .ref se, .ref rs, .ref sw, .ref sp, .ref ss, .int (zI ew), .long wc, .int (zI tr), .int (zI lf)])), (sw, .inr (7, [.ref sw1, .int (zI un_2)])), (sw1, .inl (csw1, 24, .inl uf_3)), (sp, .inr (1, [.ref sp1, .int (zI spn)])), (sp1, .inl (csp1, 4, .inl fsp))]) [0, 3, 4, 1, 2] rfl
    have hD9 := hD.sub (ws' := [(h0, .inr (8, [.ref sh, .ref rd, .ref fr, .ref wr, .ref pf, .ref rc, .ref se, .ref rs, .ref sw, .ref sp, .ref ss, .int (zI ew), .long wc, .int (zI tr), .int (zI lf)])), (sw, .inr (7, [.ref sw1, .int (zI un_2)])), (sw1, .inl (csw1, 24, .inl uf_3)), (sp, .inr (1, [.ref sp1, .int (zI spn)])), (sp1, .inl (csp1, 4, .inl fsp))]) [0, 3, 4, 1, 2] (by decide +kernel) rfl
    exact W.zret (v := (zI z_4)) hx hb hr (kbz (by omega)) (fun t ht hW => kQS_of (by omega) ⟨un_2, uf_3, fsp, h_5, q4, h_6, by rw [ht]; exact hP9, hD9⟩ (hS.F ht)) hS.2.2 dX8_supposeAct_36
  · refine kz_look (tgt := 37) (off := 36) hx hb dX8_supposeAct_1 (by decide) (by omega) (by show Op.lookupswitch.offset [(20, 27), (21, 36)] 45 a = 36; rw [Op.lookupswitch.offset_cons, Op.lookupswitch.offset_cons, Op.lookupswitch.offset_nil]; (repeat' split) <;> omega) (by decide) ?_
    refine lv_aload_n hx hb dX8_supposeAct_37 rfl (lv_at hl 0 rfl) ?_
    refine va_get (D := D) (ci := 8) (v := .ref sw) (C := RX8) (T := TX8) (N := 15) hx hb hts (fun _ h9 => List.mem_cons_of_mem _ (List.mem_append_left _ (List.mem_append_left _ (List.mem_append_right _ h9)))) hown hK hP 0 rfl rfl 8 (by decide) (hts (.fieldLink RX8 67 "FontRuns" "supposedWriting" "LFontRuns$Writing;") mw_X8_supposeAct_0) (fun _ h9 => h9) rfl dX8_supposeAct_38 ?_
    refine lv_iload_n hx hb dX8_supposeAct_41 rfl (lv_at hl 1 rfl) ?_
    have hFc := va_free (wc := [(sw, .inr (7, [.ref sw1, .int (zI swn)]))]) hD hS hA [1] ax_X8_supposeAct_5
    refine va_calli (va_runV (As := [.int (zI x)]) (rest := []) ⟨hx, hb, hml, hown, hts⟩ (c_X7_drop l D s.heap.size (x := x) (h0 := sw) (r1 := sw1) (n := swn) q0 q2) (cwV 1 hts gX8_supposeAct_X7_drop rfl rfl rfl (by decide +kernel) ⟨Nat.le_of_ble_eq_true rfl, Nat.le_of_ble_eq_true rfl⟩) (kPreV hP (kD0 hD) hK hN [1] [] ax_X8_supposeAct_5 rfl (by decide +kernel) 1 7 rfl rfl) rfl rfl hl.1 rfl (lv_room (Nat.le_of_ble_eq_true rfl)) dX8_supposeAct_42 ⟨Nat.le_of_ble_eq_true rfl, Nat.le_of_ble_eq_true rfl⟩) hS (fun q _ h => hFc q h) hFc (fun r u t H1 locs ht hvm hw hB hz1 hk1 hS => ?_)
    obtain ⟨z_8, e9⟩ : ∃ z, z = u := ⟨_, rfl⟩
    subst e9
    obtain ⟨rfl, rz_8⟩ := hw
    refine Exists.elim hB (fun un_7 hB1 => ?_)
    have h_9 := hB1.1
    have h_10 := hB1.2.1
    have hP1 := hB1.2.2.1
    have hD1 := hB1.2.2.2
    clear hB hB1
    rw [ht] at hP1
    obtain ⟨hP, hD⟩ := va_join (wr := [(h0, .inr (8, [.ref sh, .ref rd, .ref fr, .ref wr, .ref pf, .ref rc, .ref se, .ref rs, .ref sw, .ref sp, .ref ss, .int (zI ew), .long wc, .int (zI tr), .int (zI lf)])), (sw1, .inl (csw1, 24, .inl fsw)), (sp, .inr (1, [.ref sp1, .int (zI spn)])), (sp1, .inl (csp1, 4, .inl fsp))]) (w1 := [(sw, .inr (7, [.ref sw1, .int (zI un_7)]))]) hP hD [1] [0, 2, 3, 4] ax_X8_supposeAct_5 ax_X8_supposeAct_6 (by decide +kernel) (by decide +kernel) hk1 hFc hP1 hD1
    have hP := ax_X8_supposeAct_7 hP
    have hD := ax_X8_supposeAct_8 hD
    generalize H1 = H at hP hS ⊢
    have hP : va_P D vwCl [(h0, .inr (8, [.ref sh, .ref rd, .ref fr, .ref wr, .ref pf, .ref rc, .ref se, .ref rs, .ref sw, .ref sp, .ref ss, .int (zI ew), .long wc, .int (zI tr), .int (zI lf)])), (sw1, .inl (csw1, 24, .inl fsw)), (sp, .inr (1, [.ref sp1, .int (zI spn)])), (sp1, .inl (csp1, 4, .inl fsp)), (sw, .inr (7, [.ref sw1, .int (zI un_7)]))] H := hP
    have hD : va_D A [(h0, .inr (8, [.ref sh, .ref rd, .ref fr, .ref wr, .ref pf, .ref rc, .ref se, .ref rs, .ref sw, .ref sp, .ref ss, .int (zI ew), .long wc, .int (zI tr), .int (zI lf)])), (sw1, .inl (csw1, 24, .inl fsw)), (sp, .inr (1, [.ref sp1, .int (zI spn)])), (sp1, .inl (csp1, 4, .inl fsp)), (sw, .inr (7, [.ref sw1, .int (zI un_7)]))] := hD
    have hP9 := hP.sub (ws' := [(h0, .inr (8, [.ref sh, .ref rd, .ref fr, .ref wr, .ref pf, .ref rc, .ref se, .ref rs, .ref sw, .ref sp, .ref ss, .int (zI ew), .long wc, .int (zI tr), .int (zI lf)])), (sw, .inr (7, [.ref sw1, .int (zI un_7)])), (sw1, .inl (csw1, 24, .inl fsw)), (sp, .inr (1, [.ref sp1, .int (zI spn)])), (sp1, .inl (csp1, 4, .inl fsp))]) [0, 4, 1, 2, 3] rfl
    have hD9 := hD.sub (ws' := [(h0, .inr (8, [.ref sh, .ref rd, .ref fr, .ref wr, .ref pf, .ref rc, .ref se, .ref rs, .ref sw, .ref sp, .ref ss, .int (zI ew), .long wc, .int (zI tr), .int (zI lf)])), (sw, .inr (7, [.ref sw1, .int (zI un_7)])), (sw1, .inl (csw1, 24, .inl fsw)), (sp, .inr (1, [.ref sp1, .int (zI spn)])), (sp1, .inl (csp1, 4, .inl fsp))]) [0, 4, 1, 2, 3] (by decide +kernel) rfl
    exact W.zret (v := (zI z_8)) hx hb hr (kbz (by omega)) (fun t ht hW => kQS_of (by omega) ⟨un_7, fsw, fsp, h_9, q4, h_10, by rw [ht]; exact hP9, hD9⟩ (hS.F ht)) hS.2.2 dX8_supposeAct_45
  · refine kz_look (tgt := 46) (off := 45) hx hb dX8_supposeAct_1 (by decide) (by omega) (by show Op.lookupswitch.offset [(20, 27), (21, 36)] 45 a = 45; rw [Op.lookupswitch.offset_cons, Op.lookupswitch.offset_cons, Op.lookupswitch.offset_nil]; (repeat' split) <;> omega) (by decide) ?_
    refine lv_aload_n hx hb dX8_supposeAct_46 rfl (lv_at hl 0 rfl) ?_
    refine va_get (D := D) (ci := 8) (v := .ref sp) (C := RX8) (T := TX8) (N := 15) hx hb hts (fun _ h9 => List.mem_cons_of_mem _ (List.mem_append_left _ (List.mem_append_left _ (List.mem_append_right _ h9)))) hown hK hP 0 rfl rfl 9 (by decide) (hts (.fieldLink RX8 70 "FontRuns" "supposedPreference" "LFontRuns$Preference;") mw_X8_supposeAct_1) (fun _ h9 => h9) rfl dX8_supposeAct_47 ?_
    refine lv_iload_n hx hb dX8_supposeAct_50 rfl (lv_at hl 1 rfl) ?_
    have hFc := va_free (wc := [(sp, .inr (1, [.ref sp1, .int (zI spn)])), (sp1, .inl (csp1, 4, .inl fsp))]) hD hS hA [3, 4] ax_X8_supposeAct_10
    refine va_calli (va_runV (As := [.int (zI x)]) (rest := []) ⟨hx, hb, hml, hown, hts⟩ (c_X1_lead l D s.heap.size (f := x) (h0 := sp) (r1 := sp1) (n := spn) (cr1 := csp1) (fr := fsp) q0 q3 q4) (cwV 1 hts gX8_supposeAct_X1_lead rfl rfl rfl (by decide +kernel) ⟨Nat.le_of_ble_eq_true rfl, Nat.le_of_ble_eq_true rfl⟩) (kPreV hP (kD0 hD) hK hN [3, 4] [1] ax_X8_supposeAct_10 rfl (by decide +kernel) 3 1 rfl rfl) rfl rfl hl.1 rfl (lv_room (Nat.le_of_ble_eq_true rfl)) dX8_supposeAct_51 ⟨Nat.le_of_ble_eq_true rfl, Nat.le_of_ble_eq_true rfl⟩) hS (fun q _ h => hFc q h) hFc (fun r u t H1 locs ht hvm hw hB hz1 hk1 hS => ?_)
    obtain ⟨z_12, e9⟩ : ∃ z, z = u := ⟨_, rfl⟩
    subst e9
    obtain ⟨rfl, rz_12⟩ := hw
    refine Exists.elim hB (fun uf_11 hB1 => ?_)
    have h_13 := hB1.1
    have h_14 := hB1.2.1
    have hP1 := hB1.2.2.1
    have hD1 := hB1.2.2.2
    clear hB hB1
    rw [ht] at hP1
    obtain ⟨hP, hD⟩ := va_join (wr := [(h0, .inr (8, [.ref sh, .ref rd, .ref fr, .ref wr, .ref pf, .ref rc, .ref se, .ref rs, .ref sw, .ref sp, .ref ss, .int (zI ew), .long wc, .int (zI tr), .int (zI lf)])), (sw, .inr (7, [.ref sw1, .int (zI swn)])), (sw1, .inl (csw1, 24, .inl fsw))]) (w1 := [(sp, .inr (1, [.ref sp1, .int (zI spn)])), (sp1, .inl (csp1, 4, .inl uf_11))]) hP hD [3, 4] [0, 1, 2] ax_X8_supposeAct_10 ax_X8_supposeAct_11 (by decide +kernel) (by decide +kernel) hk1 hFc hP1 hD1
    have hP := ax_X8_supposeAct_2 hP
    have hD := ax_X8_supposeAct_3 hD
    generalize H1 = H at hP hS ⊢
    have hP : va_P D vwCl [(h0, .inr (8, [.ref sh, .ref rd, .ref fr, .ref wr, .ref pf, .ref rc, .ref se, .ref rs, .ref sw, .ref sp, .ref ss, .int (zI ew), .long wc, .int (zI tr), .int (zI lf)])), (sw, .inr (7, [.ref sw1, .int (zI swn)])), (sw1, .inl (csw1, 24, .inl fsw)), (sp, .inr (1, [.ref sp1, .int (zI spn)])), (sp1, .inl (csp1, 4, .inl uf_11))] H := hP
    have hD : va_D A [(h0, .inr (8, [.ref sh, .ref rd, .ref fr, .ref wr, .ref pf, .ref rc, .ref se, .ref rs, .ref sw, .ref sp, .ref ss, .int (zI ew), .long wc, .int (zI tr), .int (zI lf)])), (sw, .inr (7, [.ref sw1, .int (zI swn)])), (sw1, .inl (csw1, 24, .inl fsw)), (sp, .inr (1, [.ref sp1, .int (zI spn)])), (sp1, .inl (csp1, 4, .inl uf_11))] := hD
    have hP9 := hP.sub (ws' := [(h0, .inr (8, [.ref sh, .ref rd, .ref fr, .ref wr, .ref pf, .ref rc, .ref se, .ref rs, .ref sw, .ref sp, .ref ss, .int (zI ew), .long wc, .int (zI tr), .int (zI lf)])), (sw, .inr (7, [.ref sw1, .int (zI swn)])), (sw1, .inl (csw1, 24, .inl fsw)), (sp, .inr (1, [.ref sp1, .int (zI spn)])), (sp1, .inl (csp1, 4, .inl uf_11))]) [0, 1, 2, 3, 4] rfl
    have hD9 := hD.sub (ws' := [(h0, .inr (8, [.ref sh, .ref rd, .ref fr, .ref wr, .ref pf, .ref rc, .ref se, .ref rs, .ref sw, .ref sp, .ref ss, .int (zI ew), .long wc, .int (zI tr), .int (zI lf)])), (sw, .inr (7, [.ref sw1, .int (zI swn)])), (sw1, .inl (csw1, 24, .inl fsw)), (sp, .inr (1, [.ref sp1, .int (zI spn)])), (sp1, .inl (csp1, 4, .inl uf_11))]) [0, 1, 2, 3, 4] (by decide +kernel) rfl
    exact W.zret (v := (zI z_12)) hx hb hr (kbz (by omega)) (fun t ht hW => kQS_of (by omega) ⟨swn, fsw, uf_11, q2, h_13, h_14, by rw [ht]; exact hP9, hD9⟩ (hS.F ht)) hS.2.2 dX8_supposeAct_54
