theorem ax_X8_areLetters_w_0 {e0 e1 : Nat × va_E} : ([0, 1] : List Nat).map (fun i => ([e0, e1] : va_W)[i]?) = ([e0, e1] : va_W).map some := rfl
theorem ax_X8_areLetters_w_1 {e0 e1 : Nat × va_E} : ([] : List Nat).map (fun i => ([e0, e1] : va_W)[i]?) = ([] : va_W).map some := rfl
set_option maxHeartbeats 4000000 in
set_option maxRecDepth 100000 in
theorem c_X8_areLetters_w (l : Launch) (D : va_G) (sz : Nat) (ro : Nat) (i : Int) (k : Int) (r1 : Nat) (th : Int) (la : Int) (sz0 : Int) (cr1 : ClassId) (fr : Nat → Int32) (q0 : 0 ≤ i ∧ 0 ≤ k ∧ i + k ≤ sz0) (q1 : th = 1) (q2 : th = 0 ∨ th = 1) (q3 : rg la) (q4 : 0 ≤ sz0 ∧ sz0 ≤ 60) : Met l yX8_areLetters wsX8_areLetters ({ frames := 3, cells := 0, slots := 0, locals := 64 }) (kPre [.ref ro, .int (zI i), .int (zI k)] D [(ro, .inr (5, [.ref r1, .int (zI th), .int (zI la), .int (zI sz0)])), (r1, .inl (cr1, 60, .inl fr))] [(cr1, .int)] sz) (QcP (fun rz => (rz = 1 ∧ kLet (kCd fr i) k) ∨ (rz = 0 ∧ ¬ kLet (kCd fr i) k))) 0 0 (fun _ => False) := by
  refine Met.ofW (cc := cX8_areLetters) (maxL := 4) (ret := (some .boolean)) (by decide) rfl ?_
  intro p e s m args below meth c s₁ B hml hv
  obtain ⟨rfl, hsz, hP, hK, hD0, hN⟩ := hv
  have hx := B.exec
  have hb := B.bytes
  have hr := B.returns
  have hts := atoms_spec (ws := wsX8_areLetters) B.pre
  have hown : s.vm.findClass RX8 = some m.cls := findClass_of_methodNamed B.named
  have hlocks := B.notSynchronized
  subst hsz
  have hD := hD0
  have hP : va_P D vwCl [(ro, .inr (5, [.ref r1, .int (zI th), .int (zI la), .int (zI sz0)])), (r1, .inl (cr1, 60, .inl fr))] s.heap := hP
  have hl := lv_entry ([.ref ro, .int (zI i), .int (zI k)]) (n := 4) (Nat.le_of_ble_eq_true rfl)
  rw [lg_entry_eq]
  generalize (lg_sl ([.ref ro, .int (zI i), .int (zI k)]) ++ List.replicate (4 - (lg_sl ([.ref ro, .int (zI i), .int (zI k)])).length) Slot.unset).toArray = ls at hl ⊢
  have hl : lv_has ls 4 [(0, .ref ro), (1, .int (zI i)), (2, .int (zI k))] := hl
  refine lv_iconst (v := zI 0) hx hb dX8_areLetters_0 rfl ?_
  refine lv_istore_n (lv' := [(3, .int (zI 0)), (0, .ref ro), (1, .int (zI i)), (2, .int (zI k))]) hx hb dX8_areLetters_1 rfl hl (by decide) rfl (fun ls hl => ?_)
  refine k_loopM (I := fun n9 H locs ls => ∃ (jk : Int), n9 = (k - jk).toNat ∧ (0 ≤ jk ∧ jk ≤ k) ∧ (kLet (kCd fr i) jk) ∧ H = s.heap ∧ locs = [] ∧ lv_has ls 4 [(3, .int (zI jk)), (0, .ref ro), (1, .int (zI i)), (2, .int (zI k))]) ?_ _ ⟨0, rfl, (by omega), kLet_0, rfl, rfl, hl⟩
  intro n2 ih2 H locs ls hI
  obtain ⟨jk, en2, v_20, v_21, eH, eL, hl⟩ := hI
  subst eH
  subst eL
  refine lv_iload_n hx hb dX8_areLetters_2 rfl (lv_at hl 0 rfl) ?_
  refine lv_iload_n hx hb dX8_areLetters_3 rfl (lv_at hl 3 rfl) ?_
  refine kz_icmp_ge (tgt := 31) hx hb dX8_areLetters_4 (by decide) (by omega) (by omega) (fun c_1 => ?_) (fun c_1 => ?_)
  · refine lv_iconst (v := zI 1) hx hb dX8_areLetters_31 rfl ?_
    exact W.zret (v := (zI 1)) hx hb hr rfl (fun t ht hW => QcP_of (by omega) (Or.inl ⟨by omega, kLet_le v_21 (by omega)⟩) ht) (fun _ h9 => by cases h9) dX8_areLetters_32
  · refine lv_aload_n hx hb dX8_areLetters_7 rfl (lv_at hl 1 rfl) ?_
    refine lv_iload_n hx hb dX8_areLetters_8 rfl (lv_at hl 2 rfl) ?_
    refine lv_iload_n hx hb dX8_areLetters_9 rfl (lv_at hl 0 rfl) ?_
    refine kz_iadd hx hb dX8_areLetters_10 ?_
    refine k_callR (va_runV (As := [.int (zI (i + jk))]) (rest := []) ⟨hx, hb, hml, hown, hts⟩ (c_X5_at_v l D s.heap.size (i := (i + jk)) (h0 := ro) (r1 := r1) (th := th) (la := la) (n := sz0) (cr1 := cr1) (fr := fr) (by omega) q2 q3 q4) (cwV 1 hts gX8_areLetters_X5_at rfl rfl rfl (by decide +kernel) ⟨Nat.le_of_ble_eq_true rfl, Nat.le_of_ble_eq_true rfl⟩) (kPreV hP (kD0 hD) hK hN [0, 1] [0] ax_X8_areLetters_w_0 rfl (by decide +kernel) 0 5 rfl rfl) rfl rfl hl.1 rfl (lv_room (Nat.le_of_ble_eq_true rfl)) dX8_areLetters_11 ⟨Nat.le_of_ble_eq_true rfl, Nat.le_of_ble_eq_true rfl⟩) ?_
    refine kz_any (fun z_2 rz_2 ez_2 => ?_)
    refine lv_iconst (v := zI 0) hx hb dX8_areLetters_14 rfl ?_
    refine lv_bipush (v := zI 15) hx hb dX8_areLetters_15 (by decide) ?_
    refine k_callR (va_runS (As := [.int (zI z_2), .int (zI 0), .int (zI 15)]) (rest := []) ⟨hx, hb, hml, hown, hts⟩ (c_X8_isWithin l D s.heap.size (v := z_2) (a := 0) (b := 15) (by omega) (by omega) (by omega)) (va_cwS 3 hts gX8_areLetters_X8_isWithin rfl rfl rfl (by decide +kernel) ⟨Nat.le_of_ble_eq_true rfl, Nat.le_of_ble_eq_true rfl⟩) (kPreS hP (kD0 hD) hK hN [] [] ax_X8_areLetters_w_1 rfl (by decide +kernel)) rfl rfl hl.1 rfl (lv_room (Nat.le_of_ble_eq_true rfl)) dX8_areLetters_17 ⟨Nat.le_of_ble_eq_true rfl, Nat.le_of_ble_eq_true rfl⟩) ?_
    refine lv_if_ne (tgt := 25) hx hb dX8_areLetters_20 (by decide) (fun c_3 => ?_) (fun c_3 => ?_)
    · have c_3 : 0 ≤ z_2 ∧ z_2 ≤ 15 := b01t c_3
      refine lv_iinc (v := (zI (jk + 1))) (lv' := [(3, .int (zI (jk + 1))), (0, .ref ro), (1, .int (zI i)), (2, .int (zI k))]) hx hb dX8_areLetters_25 hl (k := 0) rfl (kz_inc _ 1) (by decide) rfl (fun ls hl => ?_)
      refine lv_goto (tgt := 2) hx hb dX8_areLetters_28 (by decide) ?_
      exact ih2 _ (by omega) _ _ _ ⟨(jk + 1), rfl, (by omega), (kLet_s v_21 (by omega) (kCd_a (by omega) (by omega) rz_2 ez_2) (by omega)), rfl, rfl, lv_sub hl [0, 1, 2, 3] rfl⟩
    · have c_3 : ¬ (0 ≤ z_2 ∧ z_2 ≤ 15) := b01f c_3
      refine lv_iconst (v := zI 0) hx hb dX8_areLetters_23 rfl ?_
      exact W.zret (v := (zI 0)) hx hb hr rfl (fun t ht hW => QcP_of (by omega) (Or.inr ⟨by omega, kLet_not (n := jk) (by omega) (kCd_a (by omega) (by omega) rz_2 ez_2) (by omega)⟩) ht) (fun _ h9 => by cases h9) dX8_areLetters_24
theorem ax_X8_faultOfCells_w_0 {e0 : Nat × va_E} : ([0] : List Nat).map (fun i => ([e0] : va_W)[i]?) = ([e0] : va_W).map some := rfl
set_option maxHeartbeats 4000000 in
set_option maxRecDepth 100000 in
theorem c_X8_faultOfCells_w (l : Launch) (D : va_G) (sz : Nat) (ro : Nat) (x : Int) (i : Int) (k : Int) (r1 : Nat) (th : Int) (la : Int) (sz0 : Int) (q0 : rg x) (q1 : rg i) (q2 : rg k) (q3 : th = 0 ∨ th = 1) (q4 : rg la) (q5 : 0 ≤ sz0 ∧ sz0 ≤ 60) : Met l yX8_faultOfCells wsX8_faultOfCells ({ frames := 2, cells := 0, slots := 0, locals := 44 }) (kPre [.ref ro, .int (zI x), .int (zI i), .int (zI k)] D [(ro, .inr (5, [.ref r1, .int (zI th), .int (zI la), .int (zI sz0)]))] [] sz) (QcP (fun rz => (rz = 1 ∧ th = 0) ∨ (rz = 2 ∧ th = 1 ∧ ¬ la = x) ∨ (rz = 3 ∧ th = 1 ∧ la = x ∧ ¬ (0 ≤ i ∧ i ≤ sz0 ∧ 0 ≤ k ∧ k ≤ sz0 - i)) ∨ (rz = 0 ∧ th = 1 ∧ la = x ∧ 0 ≤ i ∧ i ≤ sz0 ∧ 0 ≤ k ∧ k ≤ sz0 - i))) 0 0 (fun _ => False) := by
  refine Met.ofW (cc := cX8_faultOfCells) (maxL := 5) (ret := (some .int)) (by decide) rfl ?_
  intro p e s m args below meth c s₁ B hml hv
  obtain ⟨rfl, hsz, hP, hK, hD0, hN⟩ := hv
  have hx := B.exec
  have hb := B.bytes
  have hr := B.returns
  have hts := atoms_spec (ws := wsX8_faultOfCells) B.pre
  have hown : s.vm.findClass RX8 = some m.cls := findClass_of_methodNamed B.named
  have hlocks := B.notSynchronized
  subst hsz
  have hD := hD0
  have hP : va_P D vwCl [(ro, .inr (5, [.ref r1, .int (zI th), .int (zI la), .int (zI sz0)]))] s.heap := hP
  have hl := lv_entry ([.ref ro, .int (zI x), .int (zI i), .int (zI k)]) (n := 5) (Nat.le_of_ble_eq_true rfl)
  rw [lg_entry_eq]
  generalize (lg_sl ([.ref ro, .int (zI x), .int (zI i), .int (zI k)]) ++ List.replicate (5 - (lg_sl ([.ref ro, .int (zI x), .int (zI i), .int (zI k)])).length) Slot.unset).toArray = ls at hl ⊢
  have hl : lv_has ls 5 [(0, .ref ro), (1, .int (zI x)), (2, .int (zI i)), (3, .int (zI k))] := hl
  refine lv_aload_n hx hb dX8_faultOfCells_0 rfl (lv_at hl 0 rfl) ?_
  refine lv_iload_n hx hb dX8_faultOfCells_1 rfl (lv_at hl 1 rfl) ?_
  refine k_callP (va_runS (As := [.ref ro, .int (zI x)]) (rest := []) ⟨hx, hb, hml, hown, hts⟩ (c_X8_faultOfLane l D s.heap.size (ro := ro) (x := x) (r1 := r1) (th := th) (la := la) (sz0 := sz0) q0 q3 q4 q5) (va_cwS 2 hts gX8_faultOfCells_X8_faultOfLane rfl rfl rfl (by decide +kernel) ⟨Nat.le_of_ble_eq_true rfl, Nat.le_of_ble_eq_true rfl⟩) (kPreS hP (kD0 hD) hK hN [0] [] ax_X8_faultOfCells_w_0 rfl (by decide +kernel)) rfl rfl hl.1 rfl (lv_room (Nat.le_of_ble_eq_true rfl)) dX8_faultOfCells_2 ⟨Nat.le_of_ble_eq_true rfl, Nat.le_of_ble_eq_true rfl⟩) (fun z_1 rz_1 h_2 => ?_)
  refine lv_istore (lv' := [(4, .int (zI z_1)), (0, .ref ro), (1, .int (zI x)), (2, .int (zI i)), (3, .int (zI k))]) hx hb dX8_faultOfCells_5 hl (by decide) rfl (fun ls hl => ?_)
  refine lv_iload hx hb dX8_faultOfCells_7 (lv_at hl 0 rfl) ?_
  refine kz_if_eq (tgt := 15) hx hb dX8_faultOfCells_9 (by decide) (by omega) (fun c_3 => ?_) (fun c_3 => ?_)
  · refine lv_aload_n hx hb dX8_faultOfCells_15 rfl (lv_at hl 1 rfl) ?_
    refine lv_iload_n hx hb dX8_faultOfCells_16 rfl (lv_at hl 3 rfl) ?_
    refine lv_iload_n hx hb dX8_faultOfCells_17 rfl (lv_at hl 4 rfl) ?_
    refine k_callR (va_runV (As := [.int (zI i), .int (zI k)]) (rest := []) ⟨hx, hb, hml, hown, hts⟩ (c_X5_hasCells l D s.heap.size (i := i) (k := k) (h0 := ro) (r1 := r1) (th := th) (la := la) (n := sz0) q1 q2 q3 q4 q5) (cwV 2 hts gX8_faultOfCells_X5_hasCells rfl rfl rfl (by decide +kernel) ⟨Nat.le_of_ble_eq_true rfl, Nat.le_of_ble_eq_true rfl⟩) (kPreV hP (kD0 hD) hK hN [0] [] ax_X8_faultOfCells_w_0 rfl (by decide +kernel) 0 5 rfl rfl) rfl rfl hl.1 rfl (lv_room (Nat.le_of_ble_eq_true rfl)) dX8_faultOfCells_18 ⟨Nat.le_of_ble_eq_true rfl, Nat.le_of_ble_eq_true rfl⟩) ?_
    refine lv_if_eq (tgt := 28) hx hb dX8_faultOfCells_21 (by decide) (fun c_4 => ?_) (fun c_4 => ?_)
    · have c_4 : ¬ (th = 1 ∧ (0 ≤ i ∧ i ≤ sz0) ∧ (0 ≤ k ∧ k ≤ sz0 - i)) := b01f c_4
      refine lv_iconst (v := zI 3) hx hb dX8_faultOfCells_28 rfl ?_
      exact W.iret (v := (zI 3)) hx hb hr (fun t ht hW => QcP_of (by omega) (by omega) ht) (fun _ h9 => by cases h9) dX8_faultOfCells_29
    · have c_4 : th = 1 ∧ (0 ≤ i ∧ i ≤ sz0) ∧ (0 ≤ k ∧ k ≤ sz0 - i) := b01t c_4
      refine lv_iconst (v := zI 0) hx hb dX8_faultOfCells_24 rfl ?_
      refine lv_goto (tgt := 29) hx hb dX8_faultOfCells_25 (by decide) ?_
      exact W.iret (v := (zI 0)) hx hb hr (fun t ht hW => QcP_of (by omega) (by omega) ht) (fun _ h9 => by cases h9) dX8_faultOfCells_29
  · refine lv_iload hx hb dX8_faultOfCells_12 (lv_at hl 0 rfl) ?_
    exact W.iret (v := (zI z_1)) hx hb hr (fun t ht hW => QcP_of (by omega) (by omega) ht) (fun _ h9 => by cases h9) dX8_faultOfCells_14
theorem dX8_writeOne_0 : decode cX8_writeOne 0 = .ok (.aload_n 0, 1) := by decide +kernel
theorem dX8_writeOne_1 : decode cX8_writeOne 1 = .ok (.getfield 35, 3) := by decide +kernel
theorem dX8_writeOne_4 : decode cX8_writeOne 4 = .ok (.iload_n 1, 1) := by decide +kernel
theorem dX8_writeOne_5 : decode cX8_writeOne 5 = .ok (.invokevirtual 222, 3) := by decide +kernel
theorem dX8_writeOne_8 : decode cX8_writeOne 8 = .ok (.pop, 1) := by decide +kernel
theorem dX8_writeOne_9 : decode cX8_writeOne 9 = .ok (.aload_n 0, 1) := by decide +kernel
theorem dX8_writeOne_10 : decode cX8_writeOne 10 = .ok (.dup, 1) := by decide +kernel
theorem dX8_writeOne_11 : decode cX8_writeOne 11 = .ok (.getfield 203, 3) := by decide +kernel
theorem dX8_writeOne_14 : decode cX8_writeOne 14 = .ok (.iconst 1, 1) := by decide +kernel
theorem dX8_writeOne_15 : decode cX8_writeOne 15 = .ok (.iadd, 1) := by decide +kernel
theorem dX8_writeOne_16 : decode cX8_writeOne 16 = .ok (.putfield 203, 3) := by decide +kernel
theorem dX8_writeOne_19 : decode cX8_writeOne 19 = .ok (.aload_n 0, 1) := by decide +kernel
theorem dX8_writeOne_20 : decode cX8_writeOne 20 = .ok (.ldc2_w 225, 3) := by decide +kernel
theorem dX8_writeOne_23 : decode cX8_writeOne 23 = .ok (.aload_n 0, 1) := by decide +kernel
theorem dX8_writeOne_24 : decode cX8_writeOne 24 = .ok (.getfield 206, 3) := by decide +kernel
theorem dX8_writeOne_27 : decode cX8_writeOne 27 = .ok (.lmul, 1) := by decide +kernel
theorem dX8_writeOne_28 : decode cX8_writeOne 28 = .ok (.iload_n 1, 1) := by decide +kernel
theorem dX8_writeOne_29 : decode cX8_writeOne 29 = .ok (.i2l, 1) := by decide +kernel
theorem dX8_writeOne_30 : decode cX8_writeOne 30 = .ok (.ladd, 1) := by decide +kernel
theorem dX8_writeOne_31 : decode cX8_writeOne 31 = .ok (.lconst 1, 1) := by decide +kernel
theorem dX8_writeOne_32 : decode cX8_writeOne 32 = .ok (.ladd, 1) := by decide +kernel
theorem dX8_writeOne_33 : decode cX8_writeOne 33 = .ok (.putfield 206, 3) := by decide +kernel
theorem dX8_writeOne_36 : decode cX8_writeOne 36 = .ok (.return_, 1) := by decide +kernel
set_option maxRecDepth 20000 in
theorem ggX8_writeOne_X7_add : GoodIn wsX8_writeOne wsX7_add := goodIn_4 _ (List.forall_mem_cons.mpr ⟨List.mem_cons_of_mem _ (List.mem_append_left _ (List.mem_append_left _ (List.mem_of_getElem? (i := 8) rfl))), List.forall_mem_append.mpr ⟨List.forall_mem_cons.mpr ⟨List.mem_cons_of_mem _ (List.mem_append_left _ (List.mem_append_left _ (List.mem_of_getElem? (i := 9) rfl))), List.forall_mem_cons.mpr ⟨List.mem_cons_of_mem _ (List.mem_append_left _ (List.mem_append_left _ (List.mem_of_getElem? (i := 10) rfl))), List.forall_mem_cons.mpr ⟨List.mem_cons_of_mem _ (List.mem_append_left _ (List.mem_append_left _ (List.mem_of_getElem? (i := 11) rfl))), List.forall_mem_cons.mpr ⟨List.mem_cons_of_mem _ (List.mem_append_left _ (List.mem_append_left _ (List.mem_of_getElem? (i := 12) rfl))), List.forall_mem_cons.mpr ⟨List.mem_cons_of_mem _ (List.mem_append_left _ (List.mem_append_left _ (List.mem_of_getElem? (i := 13) rfl))), fun _ h9 => absurd h9 List.not_mem_nil⟩⟩⟩⟩⟩, fun w h9 => List.mem_cons_of_mem _ (List.mem_append_right _ (h9))⟩⟩) (by decide +kernel)
set_option maxRecDepth 20000 in
theorem gX8_writeOne_X7_add : GoodIn wsX8_writeOne (wsV RX8 222 RX7 yX7_add wsX7_add) := goodIn_app (goodIn_4 _ (List.forall_mem_cons.mpr ⟨List.mem_cons_of_mem _ (List.mem_append_left _ (List.mem_append_left _ (List.mem_of_getElem? (i := 4) rfl))), List.forall_mem_cons.mpr ⟨List.mem_cons_of_mem _ (List.mem_append_left _ (List.mem_append_left _ (List.mem_of_getElem? (i := 5) rfl))), List.forall_mem_cons.mpr ⟨List.mem_cons_of_mem _ (List.mem_append_left _ (List.mem_append_left _ (List.mem_of_getElem? (i := 6) rfl))), List.forall_mem_cons.mpr ⟨List.mem_cons_of_mem _ (List.mem_append_left _ (List.mem_append_left _ (List.mem_of_getElem? (i := 7) rfl))), fun _ h9 => absurd h9 List.not_mem_nil⟩⟩⟩⟩) (by decide +kernel)) ggX8_writeOne_X7_add
set_option maxRecDepth 20000 in
theorem mw_X8_writeOne_w_0 : (.fieldLink RX8 35 "FontRuns" "writing" "LFontRuns$Writing;" : Cond) ∈ wsX8_writeOne := List.mem_cons_of_mem _ (List.mem_append_left _ (List.mem_append_left _ (List.mem_of_getElem? (i := 0) rfl)))
set_option maxRecDepth 20000 in
theorem mw_X8_writeOne_w_1 : (.fieldLink RX8 203 "FontRuns" "everWritten" "I" : Cond) ∈ wsX8_writeOne := List.mem_cons_of_mem _ (List.mem_append_left _ (List.mem_append_left _ (List.mem_of_getElem? (i := 1) rfl)))
set_option maxRecDepth 20000 in
theorem mw_X8_writeOne_w_2 : (.constantLong RX8 225 (31) : Cond) ∈ wsX8_writeOne := List.mem_cons_of_mem _ (List.mem_append_left _ (List.mem_append_left _ (List.mem_of_getElem? (i := 2) rfl)))
set_option maxRecDepth 20000 in
theorem mw_X8_writeOne_w_3 : (.fieldLink RX8 206 "FontRuns" "writtenCheck" "J" : Cond) ∈ wsX8_writeOne := List.mem_cons_of_mem _ (List.mem_append_left _ (List.mem_append_left _ (List.mem_of_getElem? (i := 3) rfl)))
theorem ax_X8_writeOne_w_0 {e0 e1 e2 : Nat × va_E} : ([1, 2] : List Nat).map (fun i => ([e0, e1, e2] : va_W)[i]?) = ([e1, e2] : va_W).map some := rfl
theorem ax_X8_writeOne_w_1 {e0 e1 e2 : Nat × va_E} : ([0] : List Nat).map (fun i => ([e0, e1, e2] : va_W)[i]?) = ([e0] : va_W).map some := rfl
theorem ax_X8_writeOne_w_2 {D : va_G} {cl : List vw_C} {H : Heap} {e0 f0 f1 : Nat × va_E} (h : va_P D cl ((([e0] : va_W) ++ ([f0, f1] : va_W))) H) : va_P D cl (([e0, f0, f1] : va_W)) H := h
theorem ax_X8_writeOne_w_3 {A : Nat → Prop} {e0 f0 f1 : Nat × va_E} (h : va_D A ((([e0] : va_W) ++ ([f0, f1] : va_W)))) : va_D A (([e0, f0, f1] : va_W)) := h
theorem ax_X8_writeOne_w_4 {e0 e1 e2 : Nat × va_E} : ([0, 1, 2] : List Nat).map (fun i => ([e0, e1, e2] : va_W)[i]?) = ([e0, e1, e2] : va_W).map some := rfl
set_option maxHeartbeats 4000000 in
set_option maxRecDepth 100000 in
theorem c_X8_writeOne_w (l : Launch) (D : va_G) (sz : Nat) (x : Int) (h0 : Nat) (sh : Nat) (rd : Nat) (fr : Nat) (wr : Nat) (pf : Nat) (rc : Nat) (se : Nat) (rs : Nat) (sw : Nat) (sp : Nat) (ss : Nat) (ew : Int) (wc : Int64) (tr : Int) (lf : Int) (w1 : Nat) (wn : Int) (cw1 : ClassId) (fw : Nat → Int32) (q0 : rg x) (q1 : rg ew) (q2 : 0 ≤ wn ∧ wn ≤ 24) (q3 : wn ≤ 23) : Met l yX8_writeOne wsX8_writeOne ({ frames := 2, cells := 0, slots := 0, locals := 43 }) (kPre [.ref h0, .int (zI x)] D [(h0, .inr (8, [.ref sh, .ref rd, .ref fr, .ref wr, .ref pf, .ref rc, .ref se, .ref rs, .ref sw, .ref sp, .ref ss, .int (zI ew), .long wc, .int (zI tr), .int (zI lf)])), (wr, .inr (7, [.ref w1, .int (zI wn)])), (w1, .inl (cw1, 24, .inl fw))] [(cw1, .int)] sz) (kQV (fun t => ∃ (ue : Int) (un : Int) (uc : Int64) (uf : Nat → Int32), (rg ue) ∧ (0 ≤ un ∧ un ≤ 24) ∧ (un = wn + 1) ∧ (uf = upd fw wn.toNat (zI x)) ∧ (zI ue = zI (ew + 1)) ∧ (uc = 31 * wc + (zI x).toInt64 + 1) ∧ va_P D vwCl [(h0, .inr (8, [.ref sh, .ref rd, .ref fr, .ref wr, .ref pf, .ref rc, .ref se, .ref rs, .ref sw, .ref sp, .ref ss, .int (zI ue), .long uc, .int (zI tr), .int (zI lf)])), (wr, .inr (7, [.ref w1, .int (zI un)])), (w1, .inl (cw1, 24, .inl uf))] t.heap ∧ va_D (va_A [(h0, .inr (8, [.ref sh, .ref rd, .ref fr, .ref wr, .ref pf, .ref rc, .ref se, .ref rs, .ref sw, .ref sp, .ref ss, .int (zI ew), .long wc, .int (zI tr), .int (zI lf)])), (wr, .inr (7, [.ref w1, .int (zI wn)])), (w1, .inl (cw1, 24, .inl fw))] sz) [(h0, .inr (8, [.ref sh, .ref rd, .ref fr, .ref wr, .ref pf, .ref rc, .ref se, .ref rs, .ref sw, .ref sp, .ref ss, .int (zI ue), .long uc, .int (zI tr), .int (zI lf)])), (wr, .inr (7, [.ref w1, .int (zI un)])), (w1, .inl (cw1, 24, .inl uf))]) (va_A [(h0, .inr (8, [.ref sh, .ref rd, .ref fr, .ref wr, .ref pf, .ref rc, .ref se, .ref rs, .ref sw, .ref sp, .ref ss, .int (zI ew), .long wc, .int (zI tr), .int (zI lf)])), (wr, .inr (7, [.ref w1, .int (zI wn)])), (w1, .inl (cw1, 24, .inl fw))] sz)) 0 0 (va_A [(h0, .inr (8, [.ref sh, .ref rd, .ref fr, .ref wr, .ref pf, .ref rc, .ref se, .ref rs, .ref sw, .ref sp, .ref ss, .int (zI ew), .long wc, .int (zI tr), .int (zI lf)])), (wr, .inr (7, [.ref w1, .int (zI wn)])), (w1, .inl (cw1, 24, .inl fw))] sz) := by
  refine Met.ofW (cc := cX8_writeOne) (maxL := 2) (ret := none) (by decide) rfl ?_
  intro p e s m args below meth c s₁ B hml hv
  obtain ⟨rfl, hsz, hP, hK, hD0, hN⟩ := hv
  have hx := B.exec
  have hb := B.bytes
  have hr := B.returns
  have hts := atoms_spec (ws := wsX8_writeOne) B.pre
  have hown : s.vm.findClass RX8 = some m.cls := findClass_of_methodNamed B.named
  have hlocks := B.notSynchronized
  subst hsz
  have hD := hD0.self (sz := s.heap.size)
  generalize hAe : va_A [(h0, .inr (8, [.ref sh, .ref rd, .ref fr, .ref wr, .ref pf, .ref rc, .ref se, .ref rs, .ref sw, .ref sp, .ref ss, .int (zI ew), .long wc, .int (zI tr), .int (zI lf)])), (wr, .inr (7, [.ref w1, .int (zI wn)])), (w1, .inl (cw1, 24, .inl fw))] s.heap.size = A at hD ⊢
  have hA : ∀ q : Nat, s.heap.size ≤ q → A q := fun q h => by rw [← hAe]; exact Or.inr h
  have hS : va_S A s.heap s.heap [] := va_S.rf
  have hP : va_P D vwCl [(h0, .inr (8, [.ref sh, .ref rd, .ref fr, .ref wr, .ref pf, .ref rc, .ref se, .ref rs, .ref sw, .ref sp, .ref ss, .int (zI ew), .long wc, .int (zI tr), .int (zI lf)])), (wr, .inr (7, [.ref w1, .int (zI wn)])), (w1, .inl (cw1, 24, .inl fw))] s.heap := hP
  have hl := lv_entry ([.ref h0, .int (zI x)]) (n := 2) (Nat.le_of_ble_eq_true rfl)
  rw [lg_entry_eq]
  generalize (lg_sl ([.ref h0, .int (zI x)]) ++ List.replicate (2 - (lg_sl ([.ref h0, .int (zI x)])).length) Slot.unset).toArray = ls at hl ⊢
  have hl : lv_has ls 2 [(0, .ref h0), (1, .int (zI x))] := hl
  refine lv_aload_n hx hb dX8_writeOne_0 rfl (lv_at hl 0 rfl) ?_
  refine va_get (D := D) (ci := 8) (v := .ref wr) (C := RX8) (T := TX8) (N := 15) hx hb hts (fun _ h9 => List.mem_cons_of_mem _ (List.mem_append_left _ (List.mem_append_right _ h9))) hown hK hP 0 rfl rfl 3 (by decide) (hts (.fieldLink RX8 35 "FontRuns" "writing" "LFontRuns$Writing;") mw_X8_writeOne_w_0) (fun _ h9 => h9) rfl dX8_writeOne_1 ?_
  refine lv_iload_n hx hb dX8_writeOne_4 rfl (lv_at hl 1 rfl) ?_
  have hFc := va_free (wc := [(wr, .inr (7, [.ref w1, .int (zI wn)])), (w1, .inl (cw1, 24, .inl fw))]) hD hS hA [1, 2] ax_X8_writeOne_w_0
  refine va_calli (va_runV (As := [.int (zI x)]) (rest := []) ⟨hx, hb, hml, hown, hts⟩ (c_X7_add_w l D s.heap.size (x := x) (h0 := wr) (r1 := w1) (n := wn) (cr1 := cw1) (fr := fw) q0 q2) (cwV 1 hts gX8_writeOne_X7_add rfl rfl rfl (by decide +kernel) ⟨Nat.le_of_ble_eq_true rfl, Nat.le_of_ble_eq_true rfl⟩) (kPreV hP (kD0 hD) hK hN [1, 2] [0] ax_X8_writeOne_w_0 rfl (by decide +kernel) 1 7 rfl rfl) rfl rfl hl.1 rfl (lv_room (Nat.le_of_ble_eq_true rfl)) dX8_writeOne_5 ⟨Nat.le_of_ble_eq_true rfl, Nat.le_of_ble_eq_true rfl⟩) hS (fun q _ h => hFc q h) hFc (fun r u t H1 locs ht hvm hw hB hz1 hk1 hS => ?_)
  obtain ⟨z_3, e9⟩ : ∃ z, z = u := ⟨_, rfl⟩
  subst e9
  obtain ⟨rfl, rz_3⟩ := hw
  refine Exists.elim hB (fun un_1 hB1 => Exists.elim hB1 (fun uf_2 hB2 => ?_))
  have h_4 := hB2.1
  have h_5 := hB2.2.1
  have h_6 := hB2.2.2.1
  have hP1 := hB2.2.2.2.1
  have hD1 := hB2.2.2.2.2
  clear hB hB1 hB2
  rw [ht] at hP1
  obtain ⟨hP, hD⟩ := va_join (wr := [(h0, .inr (8, [.ref sh, .ref rd, .ref fr, .ref wr, .ref pf, .ref rc, .ref se, .ref rs, .ref sw, .ref sp, .ref ss, .int (zI ew), .long wc, .int (zI tr), .int (zI lf)]))]) (w1 := [(wr, .inr (7, [.ref w1, .int (zI un_1)])), (w1, .inl (cw1, 24, .inl uf_2))]) hP hD [1, 2] [0] ax_X8_writeOne_w_0 ax_X8_writeOne_w_1 (by decide +kernel) (by decide +kernel) hk1 hFc hP1 hD1
  have hP := ax_X8_writeOne_w_2 hP
  have hD := ax_X8_writeOne_w_3 hD
  generalize H1 = H at hP hS ⊢
  have hP : va_P D vwCl [(h0, .inr (8, [.ref sh, .ref rd, .ref fr, .ref wr, .ref pf, .ref rc, .ref se, .ref rs, .ref sw, .ref sp, .ref ss, .int (zI ew), .long wc, .int (zI tr), .int (zI lf)])), (wr, .inr (7, [.ref w1, .int (zI un_1)])), (w1, .inl (cw1, 24, .inl uf_2))] H := hP
  have hD : va_D A [(h0, .inr (8, [.ref sh, .ref rd, .ref fr, .ref wr, .ref pf, .ref rc, .ref se, .ref rs, .ref sw, .ref sp, .ref ss, .int (zI ew), .long wc, .int (zI tr), .int (zI lf)])), (wr, .inr (7, [.ref w1, .int (zI un_1)])), (w1, .inl (cw1, 24, .inl uf_2))] := hD
  refine lv_pop hx hb dX8_writeOne_8 rfl ?_
  refine lv_aload_n hx hb dX8_writeOne_9 rfl (lv_at hl 0 rfl) ?_
  refine lv_dup hx hb dX8_writeOne_10 rfl ?_
  refine va_get (D := D) (ci := 8) (v := .int (zI ew)) (C := RX8) (T := TX8) (N := 15) hx hb hts (fun _ h9 => List.mem_cons_of_mem _ (List.mem_append_left _ (List.mem_append_right _ h9))) hown hK hP 0 rfl rfl 11 (by decide) (hts (.fieldLink RX8 203 "FontRuns" "everWritten" "I") mw_X8_writeOne_w_1) (fun _ h9 => h9) rfl dX8_writeOne_11 ?_
  refine lv_iconst (v := zI 1) hx hb dX8_writeOne_14 rfl ?_
  refine kz_iadd hx hb dX8_writeOne_15 ?_
  refine kz_any (fun z_7 rz_7 ez_7 => ?_)
  refine va_put (D := D) (ci := 8) (v := .int (zI z_7)) (ty := .int) (C := RX8) (T := TX8) (N := 15) hx hb hts (fun _ h9 => List.mem_cons_of_mem _ (List.mem_append_left _ (List.mem_append_right _ h9))) tyX8 tyX8_ok nmX8 hown hK hP hD hS 0 rfl rfl 11 (by decide) (hts (.fieldLink RX8 203 "FontRuns" "everWritten" "I") mw_X8_writeOne_w_1) (fun _ h9 => h9) rfl (by decide +kernel) rfl rfl (Nat.le_of_ble_eq_true rfl) dX8_writeOne_16 (fun H locs hP hD hS => ?_)
  have hP : va_P D vwCl [(h0, .inr (8, [.ref sh, .ref rd, .ref fr, .ref wr, .ref pf, .ref rc, .ref se, .ref rs, .ref sw, .ref sp, .ref ss, .int (zI z_7), .long wc, .int (zI tr), .int (zI lf)])), (wr, .inr (7, [.ref w1, .int (zI un_1)])), (w1, .inl (cw1, 24, .inl uf_2))] H := hP
  have hD : va_D A [(h0, .inr (8, [.ref sh, .ref rd, .ref fr, .ref wr, .ref pf, .ref rc, .ref se, .ref rs, .ref sw, .ref sp, .ref ss, .int (zI z_7), .long wc, .int (zI tr), .int (zI lf)])), (wr, .inr (7, [.ref w1, .int (zI un_1)])), (w1, .inl (cw1, 24, .inl uf_2))] := hD
  refine lv_aload_n hx hb dX8_writeOne_19 rfl (lv_at hl 0 rfl) ?_
  refine lv_ldc2 (v := 31) hx hb hown (hts (.constantLong RX8 225 (31)) mw_X8_writeOne_w_2) dX8_writeOne_20 ?_
  refine lv_aload_n hx hb dX8_writeOne_23 rfl (lv_at hl 0 rfl) ?_
  refine va_get (D := D) (ci := 8) (v := .long wc) (C := RX8) (T := TX8) (N := 15) hx hb hts (fun _ h9 => List.mem_cons_of_mem _ (List.mem_append_left _ (List.mem_append_right _ h9))) hown hK hP 0 rfl rfl 12 (by decide) (hts (.fieldLink RX8 206 "FontRuns" "writtenCheck" "J") mw_X8_writeOne_w_3) (fun _ h9 => h9) rfl dX8_writeOne_24 ?_
  refine lv_lmul hx hb dX8_writeOne_27 ?_
  refine lv_topl (fun l_8 el_8 => ?_)
  refine lv_iload_n hx hb dX8_writeOne_28 rfl (lv_at hl 1 rfl) ?_
  refine lv_i2l (v := (zI x).toInt64) hx hb dX8_writeOne_29 rfl ?_
  refine lv_ladd hx hb dX8_writeOne_30 ?_
  refine lv_topl (fun l_9 el_9 => ?_)
  refine lv_lconst (v := 1) hx hb dX8_writeOne_31 (by decide) ?_
  refine lv_ladd hx hb dX8_writeOne_32 ?_
  refine lv_topl (fun l_10 el_10 => ?_)
  refine va_put (D := D) (ci := 8) (v := .long l_10) (ty := .long) (C := RX8) (T := TX8) (N := 15) hx hb hts (fun _ h9 => List.mem_cons_of_mem _ (List.mem_append_left _ (List.mem_append_right _ h9))) tyX8 tyX8_ok nmX8 hown hK hP hD hS 0 rfl rfl 12 (by decide) (hts (.fieldLink RX8 206 "FontRuns" "writtenCheck" "J") mw_X8_writeOne_w_3) (fun _ h9 => h9) rfl (by decide +kernel) rfl rfl (Nat.le_of_ble_eq_true rfl) dX8_writeOne_33 (fun H locs hP hD hS => ?_)
  have hP : va_P D vwCl [(h0, .inr (8, [.ref sh, .ref rd, .ref fr, .ref wr, .ref pf, .ref rc, .ref se, .ref rs, .ref sw, .ref sp, .ref ss, .int (zI z_7), .long l_10, .int (zI tr), .int (zI lf)])), (wr, .inr (7, [.ref w1, .int (zI un_1)])), (w1, .inl (cw1, 24, .inl uf_2))] H := hP
  have hD : va_D A [(h0, .inr (8, [.ref sh, .ref rd, .ref fr, .ref wr, .ref pf, .ref rc, .ref se, .ref rs, .ref sw, .ref sp, .ref ss, .int (zI z_7), .long l_10, .int (zI tr), .int (zI lf)])), (wr, .inr (7, [.ref w1, .int (zI un_1)])), (w1, .inl (cw1, 24, .inl uf_2))] := hD
  have hP9 := hP.sub (ws' := [(h0, .inr (8, [.ref sh, .ref rd, .ref fr, .ref wr, .ref pf, .ref rc, .ref se, .ref rs, .ref sw, .ref sp, .ref ss, .int (zI z_7), .long l_10, .int (zI tr), .int (zI lf)])), (wr, .inr (7, [.ref w1, .int (zI un_1)])), (w1, .inl (cw1, 24, .inl uf_2))]) [0, 1, 2] rfl
  have hD9 := hD.sub (ws' := [(h0, .inr (8, [.ref sh, .ref rd, .ref fr, .ref wr, .ref pf, .ref rc, .ref se, .ref rs, .ref sw, .ref sp, .ref ss, .int (zI z_7), .long l_10, .int (zI tr), .int (zI lf)])), (wr, .inr (7, [.ref w1, .int (zI un_1)])), (w1, .inl (cw1, 24, .inl uf_2))]) [0, 1, 2] (by decide +kernel) rfl
  exact W.vret hx hb hr (fun t ht hW => kQV_of ⟨z_7, un_1, l_10, uf_2, (by omega), h_4, (by omega), (kAd1 h_6 (by omega)), ez_7.symm, (by rw [el_10, el_9, el_8]), by rw [ht]; exact hP9, hD9⟩ (hS.F ht)) hS.2.2 dX8_writeOne_36
