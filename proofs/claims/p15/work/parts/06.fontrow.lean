/-! rows of FONTS: each of the first four is one -/
def kPr (f : Nat → Int32) : Prop := ∀ i : Nat, i < 4 → 0 ≤ (f i).toInt ∧ (f i).toInt ≤ 3
theorem kPr_at {f : Nat → Int32} (h : kPr f) {i : Nat} {z : Int} (hi : i < 4) (hz : rg z) (e : f i = zI z) : 0 ≤ z ∧ z ≤ 3 := by
  have := h i hi
  rw [e, zI_toInt hz] at this
  exact this
theorem kPr_upd {f : Nat → Int32} (h : kPr f) {k : Nat} {v : Int} (hk : k < 4) (hv : 0 ≤ v ∧ v ≤ 3) : kPr (upd f k (zI v)) := by
  intro i hi
  by_cases e : i = k
  · subst e
    rw [pk_us, zI_toInt (by omega)]
    exact hv
  · rw [pk_un e]
    exact h i hi
def kStep (k b : Int) : Int := if k = 2 then 2 * b else if k = 1 then b + 1 else b
theorem dX8_stepOf_0 : decode cX8_stepOf 0 = .ok (.iload_n 0, 1) := by decide +kernel
theorem dX8_stepOf_1 : decode cX8_stepOf 1 = .ok (.lookupswitch 35 #[(1, 31), (2, 27)], 27) := by decide +kernel
theorem dX8_stepOf_28 : decode cX8_stepOf 28 = .ok (.iconst 2, 1) := by decide +kernel
theorem dX8_stepOf_29 : decode cX8_stepOf 29 = .ok (.iload_n 1, 1) := by decide +kernel
theorem dX8_stepOf_30 : decode cX8_stepOf 30 = .ok (.imul, 1) := by decide +kernel
theorem dX8_stepOf_31 : decode cX8_stepOf 31 = .ok (.ireturn, 1) := by decide +kernel
theorem dX8_stepOf_32 : decode cX8_stepOf 32 = .ok (.iload_n 1, 1) := by decide +kernel
theorem dX8_stepOf_33 : decode cX8_stepOf 33 = .ok (.iconst 1, 1) := by decide +kernel
theorem dX8_stepOf_34 : decode cX8_stepOf 34 = .ok (.iadd, 1) := by decide +kernel
theorem dX8_stepOf_35 : decode cX8_stepOf 35 = .ok (.ireturn, 1) := by decide +kernel
theorem dX8_stepOf_36 : decode cX8_stepOf 36 = .ok (.iload_n 1, 1) := by decide +kernel
theorem dX8_stepOf_37 : decode cX8_stepOf 37 = .ok (.ireturn, 1) := by decide +kernel
set_option maxHeartbeats 4000000 in
set_option maxRecDepth 100000 in
theorem c_X8_stepOf (l : Launch) (D : va_G) (sz : Nat) (k : Int) (b : Int) (q0 : rg k) (q1 : rg b) : Met l yX8_stepOf wsX8_stepOf ({ frames := 0, cells := 0, slots := 0, locals := 0 }) (kPre [.int (zI k), .int (zI b)] D [] [] sz) (QcP (fun rz => True)) 0 0 (fun _ => False) := by
  refine Met.ofW (cc := cX8_stepOf) (maxL := 2) (ret := (some .int)) (by decide) rfl ?_
  intro p e s m args below meth c s₁ B hml hv
  obtain ⟨rfl, hsz, hP, hK, hD0, hN⟩ := hv
  have hx := B.exec
  have hb := B.bytes
  have hr := B.returns
  have hts := atoms_spec (ws := wsX8_stepOf) B.pre
  have hown : s.vm.findClass RX8 = some m.cls := findClass_of_methodNamed B.named
  have hlocks := B.notSynchronized
  subst hsz
  have hD := hD0
  have hP : va_P D vwCl [] s.heap := hP
  have hl := lv_entry ([.int (zI k), .int (zI b)]) (n := 2) (Nat.le_of_ble_eq_true rfl)
  rw [lg_entry_eq]
  generalize (lg_sl ([.int (zI k), .int (zI b)]) ++ List.replicate (2 - (lg_sl ([.int (zI k), .int (zI b)])).length) Slot.unset).toArray = ls at hl ⊢
  have hl : lv_has ls 2 [(0, .int (zI k)), (1, .int (zI b))] := hl
  refine lv_iload_n hx hb dX8_stepOf_0 rfl (lv_at hl 0 rfl) ?_
  rcases (show k = 1 ∨ k = 2 ∨ (¬ k = 1 ∧ ¬ k = 2) from by omega) with c_1 | c_1 | c_1
  · refine kz_look (tgt := 32) (off := 31) hx hb dX8_stepOf_1 (by decide) (by omega) (by show Op.lookupswitch.offset [(1, 31), (2, 27)] 35 k = 31; rw [Op.lookupswitch.offset_cons, Op.lookupswitch.offset_cons, Op.lookupswitch.offset_nil]; (repeat' split) <;> omega) (by decide) ?_
    refine lv_iload_n hx hb dX8_stepOf_32 rfl (lv_at hl 1 rfl) ?_
    refine lv_iconst (v := zI 1) hx hb dX8_stepOf_33 rfl ?_
    refine kz_iadd hx hb dX8_stepOf_34 ?_
    refine kz_any (fun z_2 rz_2 ez_2 => ?_)
    exact W.iret (v := (zI z_2)) hx hb hr (fun t ht hW => QcP_of (by omega) trivial ht) (fun _ h9 => by cases h9) dX8_stepOf_35
  · refine kz_look (tgt := 28) (off := 27) hx hb dX8_stepOf_1 (by decide) (by omega) (by show Op.lookupswitch.offset [(1, 31), (2, 27)] 35 k = 27; rw [Op.lookupswitch.offset_cons, Op.lookupswitch.offset_cons, Op.lookupswitch.offset_nil]; (repeat' split) <;> omega) (by decide) ?_
    refine lv_iconst (v := zI 2) hx hb dX8_stepOf_28 rfl ?_
    refine lv_iload_n hx hb dX8_stepOf_29 rfl (lv_at hl 1 rfl) ?_
    refine kz_imul hx hb dX8_stepOf_30 ?_
    refine kz_any (fun z_3 rz_3 ez_3 => ?_)
    exact W.iret (v := (zI z_3)) hx hb hr (fun t ht hW => QcP_of (by omega) trivial ht) (fun _ h9 => by cases h9) dX8_stepOf_31
  · refine kz_look (tgt := 36) (off := 35) hx hb dX8_stepOf_1 (by decide) (by omega) (by show Op.lookupswitch.offset [(1, 31), (2, 27)] 35 k = 35; rw [Op.lookupswitch.offset_cons, Op.lookupswitch.offset_cons, Op.lookupswitch.offset_nil]; (repeat' split) <;> omega) (by decide) ?_
    refine lv_iload_n hx hb dX8_stepOf_36 rfl (lv_at hl 1 rfl) ?_
    refine kz_any (fun z_4 rz_4 ez_4 => ?_)
    exact W.iret (v := (zI z_4)) hx hb hr (fun t ht hW => QcP_of (by omega) trivial ht) (fun _ h9 => by cases h9) dX8_stepOf_37
theorem dX0_isFont_0 : decode cX0_isFont 0 = .ok (.iload_n 1, 1) := by decide +kernel
theorem dX0_isFont_1 : decode cX0_isFont 1 = .ok (.iconst 0, 1) := by decide +kernel
theorem dX0_isFont_2 : decode cX0_isFont 2 = .ok (.aload_n 0, 1) := by decide +kernel
theorem dX0_isFont_3 : decode cX0_isFont 3 = .ok (.getfield 21, 3) := by decide +kernel
theorem dX0_isFont_6 : decode cX0_isFont 6 = .ok (.iconst 1, 1) := by decide +kernel
theorem dX0_isFont_7 : decode cX0_isFont 7 = .ok (.isub, 1) := by decide +kernel
theorem dX0_isFont_8 : decode cX0_isFont 8 = .ok (.invokestatic 25, 3) := by decide +kernel
theorem dX0_isFont_11 : decode cX0_isFont 11 = .ok (.ireturn, 1) := by decide +kernel
set_option maxRecDepth 20000 in
theorem ggX0_isFont_X8_isWithin : GoodIn wsX0_isFont wsX8_isWithin := goodIn_4 _ (List.forall_mem_cons.mpr ⟨List.mem_cons_of_mem _ (List.mem_append_left _ (List.mem_of_getElem? (i := 3) rfl)), fun _ h9 => absurd h9 List.not_mem_nil⟩) (by decide +kernel)
set_option maxRecDepth 20000 in
theorem gX0_isFont_X8_isWithin_n25 : GoodIn wsX0_isFont (wsX8_isWithin) := ggX0_isFont_X8_isWithin
set_option maxRecDepth 20000 in
theorem mw_X0_isFont_0 : (.fieldLink RX0 21 "FontRuns$FontRow" "count" "I" : Cond) ∈ wsX0_isFont := List.mem_cons_of_mem _ (List.mem_append_left _ (List.mem_of_getElem? (i := 0) rfl))
set_option maxRecDepth 20000 in
theorem mw_X0_isFont_1 : (.initialized RX8 : Cond) ∈ wsX0_isFont := List.mem_cons_of_mem _ (List.mem_append_left _ (List.mem_of_getElem? (i := 2) rfl))
set_option maxRecDepth 20000 in
theorem mw_X0_isFont_2 : (.static yX8_isWithin : Cond) ∈ wsX0_isFont := List.mem_cons_of_mem _ (List.mem_append_left _ (List.mem_of_getElem? (i := 1) rfl))
theorem ax_X0_isFont_0 {e0 : Nat × va_E} : ([] : List Nat).map (fun i => ([e0] : va_W)[i]?) = ([] : va_W).map some := rfl
set_option maxHeartbeats 4000000 in
set_option maxRecDepth 100000 in
theorem c_X0_isFont (l : Launch) (D : va_G) (sz : Nat) (f : Int) (h0 : Nat) (k1 : Nat) (k2 : Nat) (k3 : Nat) (n : Int) (q0 : rg f) (q1 : 0 ≤ n ∧ n ≤ 4) : Met l yX0_isFont wsX0_isFont ({ frames := 1, cells := 0, slots := 0, locals := 22 }) (kPre [.ref h0, .int (zI f)] D [(h0, .inr (0, [.ref k1, .ref k2, .ref k3, .int (zI n)]))] [] sz) (QcRead (if 0 ≤ f ∧ f ≤ n - 1 then 1 else 0)) 0 0 (fun _ => False) := by
  refine Met.ofW (cc := cX0_isFont) (maxL := 2) (ret := (some .boolean)) (by decide) rfl ?_
  intro p e s m args below meth c s₁ B hml hv
  obtain ⟨rfl, hsz, hP, hK, hD0, hN⟩ := hv
  have hx := B.exec
  have hb := B.bytes
  have hr := B.returns
  have hts := atoms_spec (ws := wsX0_isFont) B.pre
  have hown : s.vm.findClass RX0 = some m.cls := findClass_of_methodNamed B.named
  have hlocks := B.notSynchronized
  subst hsz
  have hD := hD0
  have hP : va_P D vwCl [(h0, .inr (0, [.ref k1, .ref k2, .ref k3, .int (zI n)]))] s.heap := hP
  have hl := lv_entry ([.ref h0, .int (zI f)]) (n := 2) (Nat.le_of_ble_eq_true rfl)
  rw [lg_entry_eq]
  generalize (lg_sl ([.ref h0, .int (zI f)]) ++ List.replicate (2 - (lg_sl ([.ref h0, .int (zI f)])).length) Slot.unset).toArray = ls at hl ⊢
  have hl : lv_has ls 2 [(0, .ref h0), (1, .int (zI f))] := hl
  refine lv_iload_n hx hb dX0_isFont_0 rfl (lv_at hl 1 rfl) ?_
  refine lv_iconst (v := zI 0) hx hb dX0_isFont_1 rfl ?_
  refine lv_aload_n hx hb dX0_isFont_2 rfl (lv_at hl 0 rfl) ?_
  refine va_get (D := D) (ci := 0) (v := .int (zI n)) (C := RX0) (T := TX0) (N := 4) hx hb hts (fun _ h9 => List.mem_cons_of_mem _ (List.mem_append_right _ h9)) hown hK hP 0 rfl rfl 3 (by decide) (hts (.fieldLink RX0 21 "FontRuns$FontRow" "count" "I") mw_X0_isFont_0) (fun _ h9 => h9) rfl dX0_isFont_3 ?_
  refine lv_iconst (v := zI 1) hx hb dX0_isFont_6 rfl ?_
  refine kz_isub hx hb dX0_isFont_7 ?_
  refine k_callR (va_runSN (As := [.int (zI f), .int (zI 0), .int (zI (n - 1))]) (rest := []) ⟨hx, hb, hml, hown, hts⟩ (c_X8_isWithin l D s.heap.size (v := f) (a := 0) (b := (n - 1)) q0 (by omega) (by omega)) (⟨va_cnB 3 hts gX0_isFont_X8_isWithin_n25 rfl rfl rfl (hN.1 (RX0, 25, yX8_isWithin) (by decide +kernel)) (hts (.initialized RX8) mw_X0_isFont_1) (by decide +kernel) ⟨Nat.le_of_ble_eq_true rfl, Nat.le_of_ble_eq_true rfl⟩, (hts (.static yX8_isWithin) mw_X0_isFont_2), trivial⟩) (kPreS hP (kD0 hD) hK hN [] [] ax_X0_isFont_0 rfl (by decide +kernel)) rfl rfl hl.1 rfl (lv_room (Nat.le_of_ble_eq_true rfl)) dX0_isFont_8 ⟨Nat.le_of_ble_eq_true rfl, Nat.le_of_ble_eq_true rfl⟩) ?_
  exact W.zret (v := (if 0 ≤ f ∧ f ≤ (n - 1) then 1 else 0)) hx hb hr kzb (fun t ht hW => kRd (kbc (by constructor <;> (intro h9; omega))) ht) (fun _ h9 => by cases h9) dX0_isFont_11
theorem dX0_all_0 : decode cX0_all 0 = .ok (.iconst 1, 1) := by decide +kernel
theorem dX0_all_1 : decode cX0_all 1 = .ok (.aload_n 0, 1) := by decide +kernel
theorem dX0_all_2 : decode cX0_all 2 = .ok (.getfield 21, 3) := by decide +kernel
theorem dX0_all_5 : decode cX0_all 5 = .ok (.ishl, 1) := by decide +kernel
theorem dX0_all_6 : decode cX0_all 6 = .ok (.iconst 1, 1) := by decide +kernel
theorem dX0_all_7 : decode cX0_all 7 = .ok (.isub, 1) := by decide +kernel
theorem dX0_all_8 : decode cX0_all 8 = .ok (.ireturn, 1) := by decide +kernel
set_option maxRecDepth 20000 in
theorem mw_X0_all_0 : (.fieldLink RX0 21 "FontRuns$FontRow" "count" "I" : Cond) ∈ wsX0_all := List.mem_cons_of_mem _ (List.mem_append_left _ (List.mem_of_getElem? (i := 0) rfl))
set_option maxHeartbeats 4000000 in
set_option maxRecDepth 100000 in
theorem c_X0_all (l : Launch) (D : va_G) (sz : Nat) (h0 : Nat) (k1 : Nat) (k2 : Nat) (k3 : Nat) (n : Int) (q0 : 0 ≤ n ∧ n ≤ 4) : Met l yX0_all wsX0_all ({ frames := 0, cells := 0, slots := 0, locals := 0 }) (kPre [.ref h0] D [(h0, .inr (0, [.ref k1, .ref k2, .ref k3, .int (zI n)]))] [] sz) (QcP (fun rz => True)) 0 0 (fun _ => False) := by
  refine Met.ofW (cc := cX0_all) (maxL := 1) (ret := (some .int)) (by decide) rfl ?_
  intro p e s m args below meth c s₁ B hml hv
  obtain ⟨rfl, hsz, hP, hK, hD0, hN⟩ := hv
  have hx := B.exec
  have hb := B.bytes
  have hr := B.returns
  have hts := atoms_spec (ws := wsX0_all) B.pre
  have hown : s.vm.findClass RX0 = some m.cls := findClass_of_methodNamed B.named
  have hlocks := B.notSynchronized
  subst hsz
  have hD := hD0
  have hP : va_P D vwCl [(h0, .inr (0, [.ref k1, .ref k2, .ref k3, .int (zI n)]))] s.heap := hP
  have hl := lv_entry ([.ref h0]) (n := 1) (Nat.le_of_ble_eq_true rfl)
  rw [lg_entry_eq]
  generalize (lg_sl ([.ref h0]) ++ List.replicate (1 - (lg_sl ([.ref h0])).length) Slot.unset).toArray = ls at hl ⊢
  have hl : lv_has ls 1 [(0, .ref h0)] := hl
  refine lv_iconst (v := zI 1) hx hb dX0_all_0 rfl ?_
  refine lv_aload_n hx hb dX0_all_1 rfl (lv_at hl 0 rfl) ?_
  refine va_get (D := D) (ci := 0) (v := .int (zI n)) (C := RX0) (T := TX0) (N := 4) hx hb hts (fun _ h9 => List.mem_cons_of_mem _ (List.mem_append_right _ h9)) hown hK hP 0 rfl rfl 3 (by decide) (hts (.fieldLink RX0 21 "FontRuns$FontRow" "count" "I") mw_X0_all_0) (fun _ h9 => h9) rfl dX0_all_2 ?_
  refine lv_ishl hx hb dX0_all_5 ?_
  refine kz_any (fun z_1 rz_1 ez_1 => ?_)
  refine lv_iconst (v := zI 1) hx hb dX0_all_6 rfl ?_
  refine kz_isub hx hb dX0_all_7 ?_
  refine kz_any (fun z_2 rz_2 ez_2 => ?_)
  exact W.iret (v := (zI z_2)) hx hb hr (fun t ht hW => QcP_of (by omega) trivial ht) (fun _ h9 => by cases h9) dX0_all_8
theorem dX0_step_0 : decode cX0_step 0 = .ok (.aload_n 0, 1) := by decide +kernel
theorem dX0_step_1 : decode cX0_step 1 = .ok (.iload_n 1, 1) := by decide +kernel
theorem dX0_step_2 : decode cX0_step 2 = .ok (.invokevirtual 29, 3) := by decide +kernel
theorem dX0_step_5 : decode cX0_step 5 = .ok (.ifCond .eq 21, 3) := by decide +kernel
theorem dX0_step_8 : decode cX0_step 8 = .ok (.aload_n 0, 1) := by decide +kernel
theorem dX0_step_9 : decode cX0_step 9 = .ok (.getfield 9, 3) := by decide +kernel
theorem dX0_step_12 : decode cX0_step 12 = .ok (.iload_n 1, 1) := by decide +kernel
theorem dX0_step_13 : decode cX0_step 13 = .ok (.iaload, 1) := by decide +kernel
theorem dX0_step_14 : decode cX0_step 14 = .ok (.aload_n 0, 1) := by decide +kernel
theorem dX0_step_15 : decode cX0_step 15 = .ok (.getfield 15, 3) := by decide +kernel
theorem dX0_step_18 : decode cX0_step 18 = .ok (.iload_n 1, 1) := by decide +kernel
theorem dX0_step_19 : decode cX0_step 19 = .ok (.iaload, 1) := by decide +kernel
theorem dX0_step_20 : decode cX0_step 20 = .ok (.invokestatic 33, 3) := by decide +kernel
theorem dX0_step_23 : decode cX0_step 23 = .ok (.goto 4, 3) := by decide +kernel
theorem dX0_step_26 : decode cX0_step 26 = .ok (.iconst 0, 1) := by decide +kernel
theorem dX0_step_27 : decode cX0_step 27 = .ok (.ireturn, 1) := by decide +kernel
set_option maxRecDepth 20000 in
theorem ggX0_step_X0_isFont : GoodIn wsX0_step wsX0_isFont := goodIn_4 _ (List.forall_mem_cons.mpr ⟨List.mem_cons_of_mem _ (List.mem_append_left _ (List.mem_of_getElem? (i := 6) rfl)), List.forall_mem_append.mpr ⟨List.forall_mem_cons.mpr ⟨List.mem_cons_of_mem _ (List.mem_append_left _ (List.mem_of_getElem? (i := 7) rfl)), List.forall_mem_cons.mpr ⟨List.mem_cons_of_mem _ (List.mem_append_left _ (List.mem_of_getElem? (i := 8) rfl)), List.forall_mem_cons.mpr ⟨List.mem_cons_of_mem _ (List.mem_append_left _ (List.mem_of_getElem? (i := 9) rfl)), List.forall_mem_cons.mpr ⟨List.mem_cons_of_mem _ (List.mem_append_left _ (List.mem_of_getElem? (i := 10) rfl)), fun _ h9 => absurd h9 List.not_mem_nil⟩⟩⟩⟩, fun w h9 => List.mem_cons_of_mem _ (List.mem_append_right _ (h9))⟩⟩) (by decide +kernel)
set_option maxRecDepth 20000 in
theorem gX0_step_X0_isFont : GoodIn wsX0_step (wsV RX0 29 RX0 yX0_isFont wsX0_isFont) := goodIn_app (goodIn_4 _ (List.forall_mem_cons.mpr ⟨List.mem_cons_of_mem _ (List.mem_append_left _ (List.mem_of_getElem? (i := 2) rfl)), List.forall_mem_cons.mpr ⟨List.mem_cons_of_mem _ (List.mem_append_left _ (List.mem_of_getElem? (i := 3) rfl)), List.forall_mem_cons.mpr ⟨List.mem_cons_of_mem _ (List.mem_append_left _ (List.mem_of_getElem? (i := 4) rfl)), List.forall_mem_cons.mpr ⟨List.mem_cons_of_mem _ (List.mem_append_left _ (List.mem_of_getElem? (i := 5) rfl)), fun _ h9 => absurd h9 List.not_mem_nil⟩⟩⟩⟩) (by decide +kernel)) ggX0_step_X0_isFont
set_option maxRecDepth 20000 in
theorem ggX0_step_X8_stepOf : GoodIn wsX0_step wsX8_stepOf := goodIn_4 _ (List.forall_mem_cons.mpr ⟨List.mem_cons_of_mem _ (List.mem_append_left _ (List.mem_of_getElem? (i := 12) rfl)), fun _ h9 => absurd h9 List.not_mem_nil⟩) (by decide +kernel)
set_option maxRecDepth 20000 in
theorem gX0_step_X8_stepOf_n33 : GoodIn wsX0_step (wsX8_stepOf) := ggX0_step_X8_stepOf
set_option maxRecDepth 20000 in
theorem mw_X0_step_0 : (.fieldLink RX0 9 "FontRuns$FontRow" "kind" "[I" : Cond) ∈ wsX0_step := List.mem_cons_of_mem _ (List.mem_append_left _ (List.mem_of_getElem? (i := 0) rfl))
set_option maxRecDepth 20000 in
theorem mw_X0_step_1 : (.fieldLink RX0 15 "FontRuns$FontRow" "breadth" "[I" : Cond) ∈ wsX0_step := List.mem_cons_of_mem _ (List.mem_append_left _ (List.mem_of_getElem? (i := 1) rfl))
set_option maxRecDepth 20000 in
theorem mw_X0_step_2 : (.initialized RX8 : Cond) ∈ wsX0_step := List.mem_cons_of_mem _ (List.mem_append_left _ (List.mem_of_getElem? (i := 9) rfl))
set_option maxRecDepth 20000 in
theorem mw_X0_step_3 : (.static yX8_stepOf : Cond) ∈ wsX0_step := List.mem_cons_of_mem _ (List.mem_append_left _ (List.mem_of_getElem? (i := 11) rfl))
theorem ax_X0_step_0 {e0 e1 e2 : Nat × va_E} : ([0] : List Nat).map (fun i => ([e0, e1, e2] : va_W)[i]?) = ([e0] : va_W).map some := rfl
theorem ax_X0_step_1 {e0 e1 e2 : Nat × va_E} : ([] : List Nat).map (fun i => ([e0, e1, e2] : va_W)[i]?) = ([] : va_W).map some := rfl
set_option maxHeartbeats 4000000 in
set_option maxRecDepth 100000 in
theorem c_X0_step (l : Launch) (D : va_G) (sz : Nat) (f : Int) (h0 : Nat) (k1 : Nat) (k2 : Nat) (k3 : Nat) (n : Int) (ck1 : ClassId) (fk : Nat → Int32) (ck2 : ClassId) (fb : Nat → Int32) (q0 : rg f) (q1 : 0 ≤ n ∧ n ≤ 4) : Met l yX0_step wsX0_step ({ frames := 2, cells := 0, slots := 0, locals := 43 }) (kPre [.ref h0, .int (zI f)] D [(h0, .inr (0, [.ref k1, .ref k2, .ref k3, .int (zI n)])), (k1, .inl (ck1, 4, .inl fk)), (k2, .inl (ck2, 4, .inl fb))] [(ck1, .int), (ck2, .int)] sz) (QcP (fun rz => True)) 0 0 (fun _ => False) := by
  refine Met.ofW (cc := cX0_step) (maxL := 2) (ret := (some .int)) (by decide) rfl ?_
  intro p e s m args below meth c s₁ B hml hv
  obtain ⟨rfl, hsz, hP, hK, hD0, hN⟩ := hv
  have hx := B.exec
  have hb := B.bytes
  have hr := B.returns
  have hts := atoms_spec (ws := wsX0_step) B.pre
  have hown : s.vm.findClass RX0 = some m.cls := findClass_of_methodNamed B.named
  have hlocks := B.notSynchronized
  subst hsz
  have hD := hD0
  have hP : va_P D vwCl [(h0, .inr (0, [.ref k1, .ref k2, .ref k3, .int (zI n)])), (k1, .inl (ck1, 4, .inl fk)), (k2, .inl (ck2, 4, .inl fb))] s.heap := hP
  have hl := lv_entry ([.ref h0, .int (zI f)]) (n := 2) (Nat.le_of_ble_eq_true rfl)
  rw [lg_entry_eq]
  generalize (lg_sl ([.ref h0, .int (zI f)]) ++ List.replicate (2 - (lg_sl ([.ref h0, .int (zI f)])).length) Slot.unset).toArray = ls at hl ⊢
  have hl : lv_has ls 2 [(0, .ref h0), (1, .int (zI f))] := hl
  refine lv_aload_n hx hb dX0_step_0 rfl (lv_at hl 0 rfl) ?_
  refine lv_iload_n hx hb dX0_step_1 rfl (lv_at hl 1 rfl) ?_
  refine k_callR (va_runV (As := [.int (zI f)]) (rest := []) ⟨hx, hb, hml, hown, hts⟩ (c_X0_isFont l D s.heap.size (f := f) (h0 := h0) (k1 := k1) (k2 := k2) (k3 := k3) (n := n) q0 q1) (cwV 1 hts gX0_step_X0_isFont rfl rfl rfl (by decide +kernel) ⟨Nat.le_of_ble_eq_true rfl, Nat.le_of_ble_eq_true rfl⟩) (kPreV hP (kD0 hD) hK hN [0] [] ax_X0_step_0 rfl (by decide +kernel) 0 0 rfl rfl) rfl rfl hl.1 rfl (lv_room (Nat.le_of_ble_eq_true rfl)) dX0_step_2 ⟨Nat.le_of_ble_eq_true rfl, Nat.le_of_ble_eq_true rfl⟩) ?_
  refine lv_if_eq (tgt := 26) hx hb dX0_step_5 (by decide) (fun c_1 => ?_) (fun c_1 => ?_)
  · have c_1 : ¬ (0 ≤ f ∧ f ≤ n - 1) := b01f c_1
    refine lv_iconst (v := zI 0) hx hb dX0_step_26 rfl ?_
    exact W.iret (v := (zI 0)) hx hb hr (fun t ht hW => QcP_of (by omega) trivial ht) (fun _ h9 => by cases h9) dX0_step_27
  · have c_1 : 0 ≤ f ∧ f ≤ n - 1 := b01t c_1
    refine lv_aload_n hx hb dX0_step_8 rfl (lv_at hl 0 rfl) ?_
    refine va_get (D := D) (ci := 0) (v := .ref k1) (C := RX0) (T := TX0) (N := 4) hx hb hts (fun _ h9 => List.mem_cons_of_mem _ (List.mem_append_right _ h9)) hown hK hP 0 rfl rfl 0 (by decide) (hts (.fieldLink RX0 9 "FontRuns$FontRow" "kind" "[I") mw_X0_step_0) (fun _ h9 => h9) rfl dX0_step_9 ?_
    refine lv_iload_n hx hb dX0_step_12 rfl (lv_at hl 1 rfl) ?_
    refine kz_iald hx hb hK hP 1 0 rfl rfl (by omega) dX0_step_13 (fun z_2 rz_2 ez_2 => ?_)
    refine lv_aload_n hx hb dX0_step_14 rfl (lv_at hl 0 rfl) ?_
    refine va_get (D := D) (ci := 0) (v := .ref k2) (C := RX0) (T := TX0) (N := 4) hx hb hts (fun _ h9 => List.mem_cons_of_mem _ (List.mem_append_right _ h9)) hown hK hP 0 rfl rfl 1 (by decide) (hts (.fieldLink RX0 15 "FontRuns$FontRow" "breadth" "[I") mw_X0_step_1) (fun _ h9 => h9) rfl dX0_step_15 ?_
    refine lv_iload_n hx hb dX0_step_18 rfl (lv_at hl 1 rfl) ?_
    refine kz_iald hx hb hK hP 2 1 rfl rfl (by omega) dX0_step_19 (fun z_3 rz_3 ez_3 => ?_)
    refine k_callP (va_runSN (As := [.int (zI z_2), .int (zI z_3)]) (rest := []) ⟨hx, hb, hml, hown, hts⟩ (c_X8_stepOf l D s.heap.size (k := z_2) (b := z_3) (by omega) (by omega)) (⟨va_cnB 2 hts gX0_step_X8_stepOf_n33 rfl rfl rfl (hN.1 (RX0, 33, yX8_stepOf) (by decide +kernel)) (hts (.initialized RX8) mw_X0_step_2) (by decide +kernel) ⟨Nat.le_of_ble_eq_true rfl, Nat.le_of_ble_eq_true rfl⟩, (hts (.static yX8_stepOf) mw_X0_step_3), trivial⟩) (kPreS hP (kD0 hD) hK hN [] [] ax_X0_step_1 rfl (by decide +kernel)) rfl rfl hl.1 rfl (lv_room (Nat.le_of_ble_eq_true rfl)) dX0_step_20 ⟨Nat.le_of_ble_eq_true rfl, Nat.le_of_ble_eq_true rfl⟩) (fun z_4 rz_4 h_5 => ?_)
    refine lv_goto (tgt := 27) hx hb dX0_step_23 (by decide) ?_
    exact W.iret (v := (zI z_4)) hx hb hr (fun t ht hW => QcP_of (by omega) trivial ht) (fun _ h9 => by cases h9) dX0_step_27
theorem dX0_fitting_0 : decode cX0_fitting 0 = .ok (.iconst 0, 1) := by decide +kernel
theorem dX0_fitting_1 : decode cX0_fitting 1 = .ok (.istore_n 2, 1) := by decide +kernel
theorem dX0_fitting_2 : decode cX0_fitting 2 = .ok (.iconst 0, 1) := by decide +kernel
theorem dX0_fitting_3 : decode cX0_fitting 3 = .ok (.istore_n 3, 1) := by decide +kernel
theorem dX0_fitting_4 : decode cX0_fitting 4 = .ok (.iload_n 3, 1) := by decide +kernel
theorem dX0_fitting_5 : decode cX0_fitting 5 = .ok (.aload_n 0, 1) := by decide +kernel
theorem dX0_fitting_6 : decode cX0_fitting 6 = .ok (.getfield 21, 3) := by decide +kernel
theorem dX0_fitting_9 : decode cX0_fitting 9 = .ok (.if_icmp .ge 27, 3) := by decide +kernel
theorem dX0_fitting_12 : decode cX0_fitting 12 = .ok (.aload_n 0, 1) := by decide +kernel
theorem dX0_fitting_13 : decode cX0_fitting 13 = .ok (.getfield 18, 3) := by decide +kernel
theorem dX0_fitting_16 : decode cX0_fitting 16 = .ok (.iload_n 3, 1) := by decide +kernel
theorem dX0_fitting_17 : decode cX0_fitting 17 = .ok (.iaload, 1) := by decide +kernel
theorem dX0_fitting_18 : decode cX0_fitting 18 = .ok (.iload_n 1, 1) := by decide +kernel
theorem dX0_fitting_19 : decode cX0_fitting 19 = .ok (.iand, 1) := by decide +kernel
theorem dX0_fitting_20 : decode cX0_fitting 20 = .ok (.iload_n 1, 1) := by decide +kernel
theorem dX0_fitting_21 : decode cX0_fitting 21 = .ok (.if_icmp .ne 9, 3) := by decide +kernel
theorem dX0_fitting_24 : decode cX0_fitting 24 = .ok (.iload_n 2, 1) := by decide +kernel
theorem dX0_fitting_25 : decode cX0_fitting 25 = .ok (.iconst 1, 1) := by decide +kernel
theorem dX0_fitting_26 : decode cX0_fitting 26 = .ok (.iload_n 3, 1) := by decide +kernel
theorem dX0_fitting_27 : decode cX0_fitting 27 = .ok (.ishl, 1) := by decide +kernel
theorem dX0_fitting_28 : decode cX0_fitting 28 = .ok (.ior, 1) := by decide +kernel
theorem dX0_fitting_29 : decode cX0_fitting 29 = .ok (.istore_n 2, 1) := by decide +kernel
theorem dX0_fitting_30 : decode cX0_fitting 30 = .ok (.iinc 3 1, 3) := by decide +kernel
theorem dX0_fitting_33 : decode cX0_fitting 33 = .ok (.goto (-29), 3) := by decide +kernel
theorem dX0_fitting_36 : decode cX0_fitting 36 = .ok (.iload_n 2, 1) := by decide +kernel
theorem dX0_fitting_37 : decode cX0_fitting 37 = .ok (.ireturn, 1) := by decide +kernel
set_option maxRecDepth 20000 in
theorem mw_X0_fitting_0 : (.fieldLink RX0 21 "FontRuns$FontRow" "count" "I" : Cond) ∈ wsX0_fitting := List.mem_cons_of_mem _ (List.mem_append_left _ (List.mem_of_getElem? (i := 0) rfl))
set_option maxRecDepth 20000 in
theorem mw_X0_fitting_1 : (.fieldLink RX0 18 "FontRuns$FontRow" "has" "[I" : Cond) ∈ wsX0_fitting := List.mem_cons_of_mem _ (List.mem_append_left _ (List.mem_of_getElem? (i := 1) rfl))
set_option maxHeartbeats 4000000 in
set_option maxRecDepth 100000 in
theorem c_X0_fitting (l : Launch) (D : va_G) (sz : Nat) (le : Int) (h0 : Nat) (k1 : Nat) (k2 : Nat) (k3 : Nat) (n : Int) (ck3 : ClassId) (fh : Nat → Int32) (q0 : rg le) (q1 : 0 ≤ n ∧ n ≤ 4) : Met l yX0_fitting wsX0_fitting ({ frames := 0, cells := 0, slots := 0, locals := 0 }) (kPre [.ref h0, .int (zI le)] D [(h0, .inr (0, [.ref k1, .ref k2, .ref k3, .int (zI n)])), (k3, .inl (ck3, 4, .inl fh))] [(ck3, .int)] sz) (QcP (fun rz => True)) 0 0 (fun _ => False) := by
  refine Met.ofW (cc := cX0_fitting) (maxL := 4) (ret := (some .int)) (by decide) rfl ?_
  intro p e s m args below meth c s₁ B hml hv
  obtain ⟨rfl, hsz, hP, hK, hD0, hN⟩ := hv
  have hx := B.exec
  have hb := B.bytes
  have hr := B.returns
  have hts := atoms_spec (ws := wsX0_fitting) B.pre
  have hown : s.vm.findClass RX0 = some m.cls := findClass_of_methodNamed B.named
  have hlocks := B.notSynchronized
  subst hsz
  have hD := hD0
  have hP : va_P D vwCl [(h0, .inr (0, [.ref k1, .ref k2, .ref k3, .int (zI n)])), (k3, .inl (ck3, 4, .inl fh))] s.heap := hP
  have hl := lv_entry ([.ref h0, .int (zI le)]) (n := 4) (Nat.le_of_ble_eq_true rfl)
  rw [lg_entry_eq]
  generalize (lg_sl ([.ref h0, .int (zI le)]) ++ List.replicate (4 - (lg_sl ([.ref h0, .int (zI le)])).length) Slot.unset).toArray = ls at hl ⊢
  have hl : lv_has ls 4 [(0, .ref h0), (1, .int (zI le))] := hl
  refine lv_iconst (v := zI 0) hx hb dX0_fitting_0 rfl ?_
  refine lv_istore_n (lv' := [(2, .int (zI 0)), (0, .ref h0), (1, .int (zI le))]) hx hb dX0_fitting_1 rfl hl (by decide) rfl (fun ls hl => ?_)
  refine lv_iconst (v := zI 0) hx hb dX0_fitting_2 rfl ?_
  refine lv_istore_n (lv' := [(3, .int (zI 0)), (2, .int (zI 0)), (0, .ref h0), (1, .int (zI le))]) hx hb dX0_fitting_3 rfl hl (by decide) rfl (fun ls hl => ?_)
  refine k_loopM (I := fun n9 H locs ls => ∃ (js : Int) (jk : Int), n9 = (n - jk).toNat ∧ (rg js) ∧ (0 ≤ jk ∧ jk ≤ n) ∧ H = s.heap ∧ locs = [] ∧ lv_has ls 4 [(3, .int (zI jk)), (2, .int (zI js)), (0, .ref h0), (1, .int (zI le))]) ?_ _ ⟨0, 0, rfl, (by omega), (by omega), rfl, rfl, hl⟩
  intro n4 ih4 H locs ls hI
  obtain ⟨js, jk, en4, v_40, v_41, eH, eL, hl⟩ := hI
  subst eH
  subst eL
  refine lv_iload_n hx hb dX0_fitting_4 rfl (lv_at hl 0 rfl) ?_
  refine lv_aload_n hx hb dX0_fitting_5 rfl (lv_at hl 2 rfl) ?_
  refine va_get (D := D) (ci := 0) (v := .int (zI n)) (C := RX0) (T := TX0) (N := 4) hx hb hts (fun _ h9 => List.mem_cons_of_mem _ (List.mem_append_right _ h9)) hown hK hP 0 rfl rfl 3 (by decide) (hts (.fieldLink RX0 21 "FontRuns$FontRow" "count" "I") mw_X0_fitting_0) (fun _ h9 => h9) rfl dX0_fitting_6 ?_
  refine kz_icmp_ge (tgt := 36) hx hb dX0_fitting_9 (by decide) (by omega) (by omega) (fun c_1 => ?_) (fun c_1 => ?_)
  · refine lv_iload_n hx hb dX0_fitting_36 rfl (lv_at hl 1 rfl) ?_
    exact W.iret (v := (zI js)) hx hb hr (fun t ht hW => QcP_of (by omega) trivial ht) (fun _ h9 => by cases h9) dX0_fitting_37
  · refine lv_aload_n hx hb dX0_fitting_12 rfl (lv_at hl 2 rfl) ?_
    refine va_get (D := D) (ci := 0) (v := .ref k3) (C := RX0) (T := TX0) (N := 4) hx hb hts (fun _ h9 => List.mem_cons_of_mem _ (List.mem_append_right _ h9)) hown hK hP 0 rfl rfl 2 (by decide) (hts (.fieldLink RX0 18 "FontRuns$FontRow" "has" "[I") mw_X0_fitting_1) (fun _ h9 => h9) rfl dX0_fitting_13 ?_
    refine lv_iload_n hx hb dX0_fitting_16 rfl (lv_at hl 0 rfl) ?_
    refine kz_iald hx hb hK hP 1 0 rfl rfl (by omega) dX0_fitting_17 (fun z_2 rz_2 ez_2 => ?_)
    refine lv_iload_n hx hb dX0_fitting_18 rfl (lv_at hl 3 rfl) ?_
    refine lv_iand hx hb dX0_fitting_19 ?_
    refine kz_any (fun z_3 rz_3 ez_3 => ?_)
    refine lv_iload_n hx hb dX0_fitting_20 rfl (lv_at hl 3 rfl) ?_
    refine kz_icmp_ne (tgt := 30) hx hb dX0_fitting_21 (by decide) (by omega) (by omega) (fun c_4 => ?_) (fun c_4 => ?_)
    · refine lv_iinc (v := (zI (jk + 1))) (lv' := [(3, .int (zI (jk + 1))), (2, .int (zI js)), (0, .ref h0), (1, .int (zI le))]) hx hb dX0_fitting_30 hl (k := 0) rfl (kz_inc _ 1) (by decide) rfl (fun ls hl => ?_)
      refine lv_goto (tgt := 4) hx hb dX0_fitting_33 (by decide) ?_
      exact ih4 _ (by omega) _ _ _ ⟨js, (jk + 1), rfl, v_40, (by omega), rfl, rfl, lv_sub hl [0, 1, 2, 3] rfl⟩
    · refine lv_iload_n hx hb dX0_fitting_24 rfl (lv_at hl 1 rfl) ?_
      refine lv_iconst (v := zI 1) hx hb dX0_fitting_25 rfl ?_
      refine lv_iload_n hx hb dX0_fitting_26 rfl (lv_at hl 0 rfl) ?_
      refine lv_ishl hx hb dX0_fitting_27 ?_
      refine kz_any (fun z_5 rz_5 ez_5 => ?_)
      refine lv_ior hx hb dX0_fitting_28 ?_
      refine kz_any (fun z_6 rz_6 ez_6 => ?_)
      refine lv_istore_n (lv' := [(2, .int (zI z_6)), (3, .int (zI jk)), (0, .ref h0), (1, .int (zI le))]) hx hb dX0_fitting_29 rfl hl (by decide) rfl (fun ls hl => ?_)
      refine lv_iinc (v := (zI (jk + 1))) (lv' := [(3, .int (zI (jk + 1))), (2, .int (zI z_6)), (0, .ref h0), (1, .int (zI le))]) hx hb dX0_fitting_30 hl (k := 1) rfl (kz_inc _ 1) (by decide) rfl (fun ls hl => ?_)
      refine lv_goto (tgt := 4) hx hb dX0_fitting_33 (by decide) ?_
      exact ih4 _ (by omega) _ _ _ ⟨z_6, (jk + 1), rfl, (by omega), (by omega), rfl, rfl, lv_sub hl [0, 1, 2, 3] rfl⟩
theorem dX0_takeFrom_0 : decode cX0_takeFrom 0 = .ok (.aload_n 0, 1) := by decide +kernel
theorem dX0_takeFrom_1 : decode cX0_takeFrom 1 = .ok (.aload_n 1, 1) := by decide +kernel
theorem dX0_takeFrom_2 : decode cX0_takeFrom 2 = .ok (.getfield 21, 3) := by decide +kernel
theorem dX0_takeFrom_5 : decode cX0_takeFrom 5 = .ok (.putfield 21, 3) := by decide +kernel
theorem dX0_takeFrom_8 : decode cX0_takeFrom 8 = .ok (.iconst 0, 1) := by decide +kernel
theorem dX0_takeFrom_9 : decode cX0_takeFrom 9 = .ok (.istore_n 2, 1) := by decide +kernel
theorem dX0_takeFrom_10 : decode cX0_takeFrom 10 = .ok (.iload_n 2, 1) := by decide +kernel
theorem dX0_takeFrom_11 : decode cX0_takeFrom 11 = .ok (.iconst 4, 1) := by decide +kernel
theorem dX0_takeFrom_12 : decode cX0_takeFrom 12 = .ok (.if_icmp .ge 45, 3) := by decide +kernel
theorem dX0_takeFrom_15 : decode cX0_takeFrom 15 = .ok (.aload_n 0, 1) := by decide +kernel
theorem dX0_takeFrom_16 : decode cX0_takeFrom 16 = .ok (.getfield 9, 3) := by decide +kernel
theorem dX0_takeFrom_19 : decode cX0_takeFrom 19 = .ok (.iload_n 2, 1) := by decide +kernel
theorem dX0_takeFrom_20 : decode cX0_takeFrom 20 = .ok (.aload_n 1, 1) := by decide +kernel
theorem dX0_takeFrom_21 : decode cX0_takeFrom 21 = .ok (.getfield 9, 3) := by decide +kernel
theorem dX0_takeFrom_24 : decode cX0_takeFrom 24 = .ok (.iload_n 2, 1) := by decide +kernel
theorem dX0_takeFrom_25 : decode cX0_takeFrom 25 = .ok (.iaload, 1) := by decide +kernel
theorem dX0_takeFrom_26 : decode cX0_takeFrom 26 = .ok (.iastore, 1) := by decide +kernel
theorem dX0_takeFrom_27 : decode cX0_takeFrom 27 = .ok (.aload_n 0, 1) := by decide +kernel
theorem dX0_takeFrom_28 : decode cX0_takeFrom 28 = .ok (.getfield 15, 3) := by decide +kernel
theorem dX0_takeFrom_31 : decode cX0_takeFrom 31 = .ok (.iload_n 2, 1) := by decide +kernel
theorem dX0_takeFrom_32 : decode cX0_takeFrom 32 = .ok (.aload_n 1, 1) := by decide +kernel
theorem dX0_takeFrom_33 : decode cX0_takeFrom 33 = .ok (.getfield 15, 3) := by decide +kernel
theorem dX0_takeFrom_36 : decode cX0_takeFrom 36 = .ok (.iload_n 2, 1) := by decide +kernel
theorem dX0_takeFrom_37 : decode cX0_takeFrom 37 = .ok (.iaload, 1) := by decide +kernel
theorem dX0_takeFrom_38 : decode cX0_takeFrom 38 = .ok (.iastore, 1) := by decide +kernel
theorem dX0_takeFrom_39 : decode cX0_takeFrom 39 = .ok (.aload_n 0, 1) := by decide +kernel
theorem dX0_takeFrom_40 : decode cX0_takeFrom 40 = .ok (.getfield 18, 3) := by decide +kernel
theorem dX0_takeFrom_43 : decode cX0_takeFrom 43 = .ok (.iload_n 2, 1) := by decide +kernel
theorem dX0_takeFrom_44 : decode cX0_takeFrom 44 = .ok (.aload_n 1, 1) := by decide +kernel
theorem dX0_takeFrom_45 : decode cX0_takeFrom 45 = .ok (.getfield 18, 3) := by decide +kernel
theorem dX0_takeFrom_48 : decode cX0_takeFrom 48 = .ok (.iload_n 2, 1) := by decide +kernel
theorem dX0_takeFrom_49 : decode cX0_takeFrom 49 = .ok (.iaload, 1) := by decide +kernel
theorem dX0_takeFrom_50 : decode cX0_takeFrom 50 = .ok (.iastore, 1) := by decide +kernel
theorem dX0_takeFrom_51 : decode cX0_takeFrom 51 = .ok (.iinc 2 1, 3) := by decide +kernel
theorem dX0_takeFrom_54 : decode cX0_takeFrom 54 = .ok (.goto (-44), 3) := by decide +kernel
theorem dX0_takeFrom_57 : decode cX0_takeFrom 57 = .ok (.return_, 1) := by decide +kernel
set_option maxRecDepth 20000 in
theorem mw_X0_takeFrom_0 : (.fieldLink RX0 21 "FontRuns$FontRow" "count" "I" : Cond) ∈ wsX0_takeFrom := List.mem_cons_of_mem _ (List.mem_append_left _ (List.mem_of_getElem? (i := 0) rfl))
set_option maxRecDepth 20000 in
theorem mw_X0_takeFrom_1 : (.fieldLink RX0 9 "FontRuns$FontRow" "kind" "[I" : Cond) ∈ wsX0_takeFrom := List.mem_cons_of_mem _ (List.mem_append_left _ (List.mem_of_getElem? (i := 1) rfl))
set_option maxRecDepth 20000 in
theorem mw_X0_takeFrom_2 : (.fieldLink RX0 15 "FontRuns$FontRow" "breadth" "[I" : Cond) ∈ wsX0_takeFrom := List.mem_cons_of_mem _ (List.mem_append_left _ (List.mem_of_getElem? (i := 2) rfl))
set_option maxRecDepth 20000 in
theorem mw_X0_takeFrom_3 : (.fieldLink RX0 18 "FontRuns$FontRow" "has" "[I" : Cond) ∈ wsX0_takeFrom := List.mem_cons_of_mem _ (List.mem_append_left _ (List.mem_of_getElem? (i := 3) rfl))
theorem ax_X0_takeFrom_0 {e0 e1 e2 e3 e4 e5 e6 e7 : Nat × va_E} : ([0, 1, 2, 3, 4, 5, 6, 7] : List Nat).map (fun i => ([e0, e1, e2, e3, e4, e5, e6, e7] : va_W)[i]?) = ([e0, e1, e2, e3, e4, e5, e6, e7] : va_W).map some := rfl
set_option maxHeartbeats 4000000 in
set_option maxRecDepth 100000 in
theorem c_X0_takeFrom (l : Launch) (D : va_G) (sz : Nat) (h1 : Nat) (h0 : Nat) (k1 : Nat) (k2 : Nat) (k3 : Nat) (n : Int) (ck1 : ClassId) (fk : Nat → Int32) (ck2 : ClassId) (fb : Nat → Int32) (ck3 : ClassId) (fh : Nat → Int32) (m1 : Nat) (m2 : Nat) (m3 : Nat) (n2 : Int) (cm1 : ClassId) (gk : Nat → Int32) (cm2 : ClassId) (gb : Nat → Int32) (cm3 : ClassId) (gh : Nat → Int32) (q0 : 0 ≤ n2 ∧ n2 ≤ 4) : Met l yX0_takeFrom wsX0_takeFrom ({ frames := 0, cells := 0, slots := 0, locals := 0 }) (kPre [.ref h0, .ref h1] D [(h0, .inr (0, [.ref k1, .ref k2, .ref k3, .int (zI n)])), (k1, .inl (ck1, 4, .inl fk)), (k2, .inl (ck2, 4, .inl fb)), (k3, .inl (ck3, 4, .inl fh)), (h1, .inr (0, [.ref m1, .ref m2, .ref m3, .int (zI n2)])), (m1, .inl (cm1, 4, .inl gk)), (m2, .inl (cm2, 4, .inl gb)), (m3, .inl (cm3, 4, .inl gh))] [(ck1, .int), (ck2, .int), (ck3, .int), (cm1, .int), (cm2, .int), (cm3, .int)] sz) (kQV (fun t => ∃ (un : Int) (uk : Nat → Int32) (ub : Nat → Int32) (uh : Nat → Int32), (0 ≤ un ∧ un ≤ 4) ∧ va_P D vwCl [(h0, .inr (0, [.ref k1, .ref k2, .ref k3, .int (zI un)])), (k1, .inl (ck1, 4, .inl uk)), (k2, .inl (ck2, 4, .inl ub)), (k3, .inl (ck3, 4, .inl uh)), (h1, .inr (0, [.ref m1, .ref m2, .ref m3, .int (zI n2)])), (m1, .inl (cm1, 4, .inl gk)), (m2, .inl (cm2, 4, .inl gb)), (m3, .inl (cm3, 4, .inl gh))] t.heap ∧ va_D (va_A [(h0, .inr (0, [.ref k1, .ref k2, .ref k3, .int (zI n)])), (k1, .inl (ck1, 4, .inl fk)), (k2, .inl (ck2, 4, .inl fb)), (k3, .inl (ck3, 4, .inl fh)), (h1, .inr (0, [.ref m1, .ref m2, .ref m3, .int (zI n2)])), (m1, .inl (cm1, 4, .inl gk)), (m2, .inl (cm2, 4, .inl gb)), (m3, .inl (cm3, 4, .inl gh))] sz) [(h0, .inr (0, [.ref k1, .ref k2, .ref k3, .int (zI un)])), (k1, .inl (ck1, 4, .inl uk)), (k2, .inl (ck2, 4, .inl ub)), (k3, .inl (ck3, 4, .inl uh)), (h1, .inr (0, [.ref m1, .ref m2, .ref m3, .int (zI n2)])), (m1, .inl (cm1, 4, .inl gk)), (m2, .inl (cm2, 4, .inl gb)), (m3, .inl (cm3, 4, .inl gh))]) (va_A [(h0, .inr (0, [.ref k1, .ref k2, .ref k3, .int (zI n)])), (k1, .inl (ck1, 4, .inl fk)), (k2, .inl (ck2, 4, .inl fb)), (k3, .inl (ck3, 4, .inl fh)), (h1, .inr (0, [.ref m1, .ref m2, .ref m3, .int (zI n2)])), (m1, .inl (cm1, 4, .inl gk)), (m2, .inl (cm2, 4, .inl gb)), (m3, .inl (cm3, 4, .inl gh))] sz)) 0 0 (va_A [(h0, .inr (0, [.ref k1, .ref k2, .ref k3, .int (zI n)])), (k1, .inl (ck1, 4, .inl fk)), (k2, .inl (ck2, 4, .inl fb)), (k3, .inl (ck3, 4, .inl fh)), (h1, .inr (0, [.ref m1, .ref m2, .ref m3, .int (zI n2)])), (m1, .inl (cm1, 4, .inl gk)), (m2, .inl (cm2, 4, .inl gb)), (m3, .inl (cm3, 4, .inl gh))] sz) := by
  refine Met.ofW (cc := cX0_takeFrom) (maxL := 3) (ret := none) (by decide) rfl ?_
  intro p e s m args below meth c s₁ B hml hv
  obtain ⟨rfl, hsz, hP, hK, hD0, hN⟩ := hv
  have hx := B.exec
  have hb := B.bytes
  have hr := B.returns
  have hts := atoms_spec (ws := wsX0_takeFrom) B.pre
  have hown : s.vm.findClass RX0 = some m.cls := findClass_of_methodNamed B.named
  have hlocks := B.notSynchronized
  subst hsz
  have hD := hD0.self (sz := s.heap.size)
  generalize hAe : va_A [(h0, .inr (0, [.ref k1, .ref k2, .ref k3, .int (zI n)])), (k1, .inl (ck1, 4, .inl fk)), (k2, .inl (ck2, 4, .inl fb)), (k3, .inl (ck3, 4, .inl fh)), (h1, .inr (0, [.ref m1, .ref m2, .ref m3, .int (zI n2)])), (m1, .inl (cm1, 4, .inl gk)), (m2, .inl (cm2, 4, .inl gb)), (m3, .inl (cm3, 4, .inl gh))] s.heap.size = A at hD ⊢
  have hA : ∀ q : Nat, s.heap.size ≤ q → A q := fun q h => by rw [← hAe]; exact Or.inr h
  have hS : va_S A s.heap s.heap [] := va_S.rf
  have hP : va_P D vwCl [(h0, .inr (0, [.ref k1, .ref k2, .ref k3, .int (zI n)])), (k1, .inl (ck1, 4, .inl fk)), (k2, .inl (ck2, 4, .inl fb)), (k3, .inl (ck3, 4, .inl fh)), (h1, .inr (0, [.ref m1, .ref m2, .ref m3, .int (zI n2)])), (m1, .inl (cm1, 4, .inl gk)), (m2, .inl (cm2, 4, .inl gb)), (m3, .inl (cm3, 4, .inl gh))] s.heap := hP
  have hl := lv_entry ([.ref h0, .ref h1]) (n := 3) (Nat.le_of_ble_eq_true rfl)
  rw [lg_entry_eq]
  generalize (lg_sl ([.ref h0, .ref h1]) ++ List.replicate (3 - (lg_sl ([.ref h0, .ref h1])).length) Slot.unset).toArray = ls at hl ⊢
  have hl : lv_has ls 3 [(0, .ref h0), (1, .ref h1)] := hl
  refine lv_aload_n hx hb dX0_takeFrom_0 rfl (lv_at hl 0 rfl) ?_
  refine lv_aload_n hx hb dX0_takeFrom_1 rfl (lv_at hl 1 rfl) ?_
  refine va_get (D := D) (ci := 0) (v := .int (zI n2)) (C := RX0) (T := TX0) (N := 4) hx hb hts (fun _ h9 => List.mem_cons_of_mem _ (List.mem_append_right _ h9)) hown hK hP 4 rfl rfl 3 (by decide) (hts (.fieldLink RX0 21 "FontRuns$FontRow" "count" "I") mw_X0_takeFrom_0) (fun _ h9 => h9) rfl dX0_takeFrom_2 ?_
  refine va_put (D := D) (ci := 0) (v := .int (zI n2)) (ty := .int) (C := RX0) (T := TX0) (N := 4) hx hb hts (fun _ h9 => List.mem_cons_of_mem _ (List.mem_append_right _ h9)) tyX0 tyX0_ok nmX0 hown hK hP hD hS 0 rfl rfl 3 (by decide) (hts (.fieldLink RX0 21 "FontRuns$FontRow" "count" "I") mw_X0_takeFrom_0) (fun _ h9 => h9) rfl (by decide +kernel) rfl rfl (Nat.le_of_ble_eq_true rfl) dX0_takeFrom_5 (fun H locs hP hD hS => ?_)
  have hP : va_P D vwCl [(h0, .inr (0, [.ref k1, .ref k2, .ref k3, .int (zI n2)])), (k1, .inl (ck1, 4, .inl fk)), (k2, .inl (ck2, 4, .inl fb)), (k3, .inl (ck3, 4, .inl fh)), (h1, .inr (0, [.ref m1, .ref m2, .ref m3, .int (zI n2)])), (m1, .inl (cm1, 4, .inl gk)), (m2, .inl (cm2, 4, .inl gb)), (m3, .inl (cm3, 4, .inl gh))] H := hP
  have hD : va_D A [(h0, .inr (0, [.ref k1, .ref k2, .ref k3, .int (zI n2)])), (k1, .inl (ck1, 4, .inl fk)), (k2, .inl (ck2, 4, .inl fb)), (k3, .inl (ck3, 4, .inl fh)), (h1, .inr (0, [.ref m1, .ref m2, .ref m3, .int (zI n2)])), (m1, .inl (cm1, 4, .inl gk)), (m2, .inl (cm2, 4, .inl gb)), (m3, .inl (cm3, 4, .inl gh))] := hD
  refine lv_iconst (v := zI 0) hx hb dX0_takeFrom_8 rfl ?_
  refine lv_istore_n (lv' := [(2, .int (zI 0)), (0, .ref h0), (1, .ref h1)]) hx hb dX0_takeFrom_9 rfl hl (by decide) rfl (fun ls hl => ?_)
  refine k_loopM (I := fun n9 H locs ls => ∃ (jk : Int) (ja : Nat → Int32) (jb : Nat → Int32) (jc : Nat → Int32), n9 = (4 - jk).toNat ∧ (0 ≤ jk ∧ jk ≤ 4) ∧ va_P D vwCl [(h0, .inr (0, [.ref k1, .ref k2, .ref k3, .int (zI n2)])), (k1, .inl (ck1, 4, .inl ja)), (k2, .inl (ck2, 4, .inl jb)), (k3, .inl (ck3, 4, .inl jc)), (h1, .inr (0, [.ref m1, .ref m2, .ref m3, .int (zI n2)])), (m1, .inl (cm1, 4, .inl gk)), (m2, .inl (cm2, 4, .inl gb)), (m3, .inl (cm3, 4, .inl gh))] H ∧ va_D A [(h0, .inr (0, [.ref k1, .ref k2, .ref k3, .int (zI n2)])), (k1, .inl (ck1, 4, .inl ja)), (k2, .inl (ck2, 4, .inl jb)), (k3, .inl (ck3, 4, .inl jc)), (h1, .inr (0, [.ref m1, .ref m2, .ref m3, .int (zI n2)])), (m1, .inl (cm1, 4, .inl gk)), (m2, .inl (cm2, 4, .inl gb)), (m3, .inl (cm3, 4, .inl gh))] ∧ va_S A s.heap H locs ∧ lv_has ls 3 [(2, .int (zI jk)), (0, .ref h0), (1, .ref h1)]) ?_ _ ⟨0, fk, fb, fh, rfl, (by omega), hP, hD, hS, hl⟩
  intro n10 ih10 H locs ls hI
  obtain ⟨jk, ja, jb, jc, en10, v_100, hP, hD, hS, hl⟩ := hI
  refine lv_iload_n hx hb dX0_takeFrom_10 rfl (lv_at hl 0 rfl) ?_
  refine lv_iconst (v := zI 4) hx hb dX0_takeFrom_11 rfl ?_
  refine kz_icmp_ge (tgt := 57) hx hb dX0_takeFrom_12 (by decide) (by omega) (by omega) (fun c_1 => ?_) (fun c_1 => ?_)
  · have hP9 := hP.sub (ws' := [(h0, .inr (0, [.ref k1, .ref k2, .ref k3, .int (zI n2)])), (k1, .inl (ck1, 4, .inl ja)), (k2, .inl (ck2, 4, .inl jb)), (k3, .inl (ck3, 4, .inl jc)), (h1, .inr (0, [.ref m1, .ref m2, .ref m3, .int (zI n2)])), (m1, .inl (cm1, 4, .inl gk)), (m2, .inl (cm2, 4, .inl gb)), (m3, .inl (cm3, 4, .inl gh))]) [0, 1, 2, 3, 4, 5, 6, 7] rfl
    have hD9 := hD.sub (ws' := [(h0, .inr (0, [.ref k1, .ref k2, .ref k3, .int (zI n2)])), (k1, .inl (ck1, 4, .inl ja)), (k2, .inl (ck2, 4, .inl jb)), (k3, .inl (ck3, 4, .inl jc)), (h1, .inr (0, [.ref m1, .ref m2, .ref m3, .int (zI n2)])), (m1, .inl (cm1, 4, .inl gk)), (m2, .inl (cm2, 4, .inl gb)), (m3, .inl (cm3, 4, .inl gh))]) [0, 1, 2, 3, 4, 5, 6, 7] (by decide +kernel) rfl
    exact W.vret hx hb hr (fun t ht hW => kQV_of ⟨n2, ja, jb, jc, q0, by rw [ht]; exact hP9, hD9⟩ (hS.F ht)) hS.2.2 dX0_takeFrom_57
  · refine lv_aload_n hx hb dX0_takeFrom_15 rfl (lv_at hl 1 rfl) ?_
    refine va_get (D := D) (ci := 0) (v := .ref k1) (C := RX0) (T := TX0) (N := 4) hx hb hts (fun _ h9 => List.mem_cons_of_mem _ (List.mem_append_right _ h9)) hown hK hP 0 rfl rfl 0 (by decide) (hts (.fieldLink RX0 9 "FontRuns$FontRow" "kind" "[I") mw_X0_takeFrom_1) (fun _ h9 => h9) rfl dX0_takeFrom_16 ?_
    refine lv_iload_n hx hb dX0_takeFrom_19 rfl (lv_at hl 0 rfl) ?_
    refine lv_aload_n hx hb dX0_takeFrom_20 rfl (lv_at hl 2 rfl) ?_
    refine va_get (D := D) (ci := 0) (v := .ref m1) (C := RX0) (T := TX0) (N := 4) hx hb hts (fun _ h9 => List.mem_cons_of_mem _ (List.mem_append_right _ h9)) hown hK hP 4 rfl rfl 0 (by decide) (hts (.fieldLink RX0 9 "FontRuns$FontRow" "kind" "[I") mw_X0_takeFrom_1) (fun _ h9 => h9) rfl dX0_takeFrom_21 ?_
    refine lv_iload_n hx hb dX0_takeFrom_24 rfl (lv_at hl 0 rfl) ?_
    refine kz_iald hx hb hK hP 5 3 rfl rfl (by omega) dX0_takeFrom_25 (fun z_2 rz_2 ez_2 => ?_)
    refine kz_iast hx hb hK hP hD hS 1 0 rfl rfl (by omega) dX0_takeFrom_26 (fun H locs hP hD hS => ?_)
    have hP : va_P D vwCl [(h0, .inr (0, [.ref k1, .ref k2, .ref k3, .int (zI n2)])), (k1, .inl (ck1, 4, .inl (upd ja (jk).toNat (zI z_2)))), (k2, .inl (ck2, 4, .inl jb)), (k3, .inl (ck3, 4, .inl jc)), (h1, .inr (0, [.ref m1, .ref m2, .ref m3, .int (zI n2)])), (m1, .inl (cm1, 4, .inl gk)), (m2, .inl (cm2, 4, .inl gb)), (m3, .inl (cm3, 4, .inl gh))] H := hP
    have hD : va_D A [(h0, .inr (0, [.ref k1, .ref k2, .ref k3, .int (zI n2)])), (k1, .inl (ck1, 4, .inl (upd ja (jk).toNat (zI z_2)))), (k2, .inl (ck2, 4, .inl jb)), (k3, .inl (ck3, 4, .inl jc)), (h1, .inr (0, [.ref m1, .ref m2, .ref m3, .int (zI n2)])), (m1, .inl (cm1, 4, .inl gk)), (m2, .inl (cm2, 4, .inl gb)), (m3, .inl (cm3, 4, .inl gh))] := hD
    generalize ef_3 : upd ja (jk).toNat (zI z_2) = f_3 at hP hD
    refine lv_aload_n hx hb dX0_takeFrom_27 rfl (lv_at hl 1 rfl) ?_
    refine va_get (D := D) (ci := 0) (v := .ref k2) (C := RX0) (T := TX0) (N := 4) hx hb hts (fun _ h9 => List.mem_cons_of_mem _ (List.mem_append_right _ h9)) hown hK hP 0 rfl rfl 1 (by decide) (hts (.fieldLink RX0 15 "FontRuns$FontRow" "breadth" "[I") mw_X0_takeFrom_2) (fun _ h9 => h9) rfl dX0_takeFrom_28 ?_
    refine lv_iload_n hx hb dX0_takeFrom_31 rfl (lv_at hl 0 rfl) ?_
    refine lv_aload_n hx hb dX0_takeFrom_32 rfl (lv_at hl 2 rfl) ?_
    refine va_get (D := D) (ci := 0) (v := .ref m2) (C := RX0) (T := TX0) (N := 4) hx hb hts (fun _ h9 => List.mem_cons_of_mem _ (List.mem_append_right _ h9)) hown hK hP 4 rfl rfl 1 (by decide) (hts (.fieldLink RX0 15 "FontRuns$FontRow" "breadth" "[I") mw_X0_takeFrom_2) (fun _ h9 => h9) rfl dX0_takeFrom_33 ?_
    refine lv_iload_n hx hb dX0_takeFrom_36 rfl (lv_at hl 0 rfl) ?_
    refine kz_iald hx hb hK hP 6 4 rfl rfl (by omega) dX0_takeFrom_37 (fun z_4 rz_4 ez_4 => ?_)
    refine kz_iast hx hb hK hP hD hS 2 1 rfl rfl (by omega) dX0_takeFrom_38 (fun H locs hP hD hS => ?_)
    have hP : va_P D vwCl [(h0, .inr (0, [.ref k1, .ref k2, .ref k3, .int (zI n2)])), (k1, .inl (ck1, 4, .inl f_3)), (k2, .inl (ck2, 4, .inl (upd jb (jk).toNat (zI z_4)))), (k3, .inl (ck3, 4, .inl jc)), (h1, .inr (0, [.ref m1, .ref m2, .ref m3, .int (zI n2)])), (m1, .inl (cm1, 4, .inl gk)), (m2, .inl (cm2, 4, .inl gb)), (m3, .inl (cm3, 4, .inl gh))] H := hP
    have hD : va_D A [(h0, .inr (0, [.ref k1, .ref k2, .ref k3, .int (zI n2)])), (k1, .inl (ck1, 4, .inl f_3)), (k2, .inl (ck2, 4, .inl (upd jb (jk).toNat (zI z_4)))), (k3, .inl (ck3, 4, .inl jc)), (h1, .inr (0, [.ref m1, .ref m2, .ref m3, .int (zI n2)])), (m1, .inl (cm1, 4, .inl gk)), (m2, .inl (cm2, 4, .inl gb)), (m3, .inl (cm3, 4, .inl gh))] := hD
    generalize ef_5 : upd jb (jk).toNat (zI z_4) = f_5 at hP hD
    refine lv_aload_n hx hb dX0_takeFrom_39 rfl (lv_at hl 1 rfl) ?_
    refine va_get (D := D) (ci := 0) (v := .ref k3) (C := RX0) (T := TX0) (N := 4) hx hb hts (fun _ h9 => List.mem_cons_of_mem _ (List.mem_append_right _ h9)) hown hK hP 0 rfl rfl 2 (by decide) (hts (.fieldLink RX0 18 "FontRuns$FontRow" "has" "[I") mw_X0_takeFrom_3) (fun _ h9 => h9) rfl dX0_takeFrom_40 ?_
    refine lv_iload_n hx hb dX0_takeFrom_43 rfl (lv_at hl 0 rfl) ?_
    refine lv_aload_n hx hb dX0_takeFrom_44 rfl (lv_at hl 2 rfl) ?_
    refine va_get (D := D) (ci := 0) (v := .ref m3) (C := RX0) (T := TX0) (N := 4) hx hb hts (fun _ h9 => List.mem_cons_of_mem _ (List.mem_append_right _ h9)) hown hK hP 4 rfl rfl 2 (by decide) (hts (.fieldLink RX0 18 "FontRuns$FontRow" "has" "[I") mw_X0_takeFrom_3) (fun _ h9 => h9) rfl dX0_takeFrom_45 ?_
    refine lv_iload_n hx hb dX0_takeFrom_48 rfl (lv_at hl 0 rfl) ?_
    refine kz_iald hx hb hK hP 7 5 rfl rfl (by omega) dX0_takeFrom_49 (fun z_6 rz_6 ez_6 => ?_)
    refine kz_iast hx hb hK hP hD hS 3 2 rfl rfl (by omega) dX0_takeFrom_50 (fun H locs hP hD hS => ?_)
    have hP : va_P D vwCl [(h0, .inr (0, [.ref k1, .ref k2, .ref k3, .int (zI n2)])), (k1, .inl (ck1, 4, .inl f_3)), (k2, .inl (ck2, 4, .inl f_5)), (k3, .inl (ck3, 4, .inl (upd jc (jk).toNat (zI z_6)))), (h1, .inr (0, [.ref m1, .ref m2, .ref m3, .int (zI n2)])), (m1, .inl (cm1, 4, .inl gk)), (m2, .inl (cm2, 4, .inl gb)), (m3, .inl (cm3, 4, .inl gh))] H := hP
    have hD : va_D A [(h0, .inr (0, [.ref k1, .ref k2, .ref k3, .int (zI n2)])), (k1, .inl (ck1, 4, .inl f_3)), (k2, .inl (ck2, 4, .inl f_5)), (k3, .inl (ck3, 4, .inl (upd jc (jk).toNat (zI z_6)))), (h1, .inr (0, [.ref m1, .ref m2, .ref m3, .int (zI n2)])), (m1, .inl (cm1, 4, .inl gk)), (m2, .inl (cm2, 4, .inl gb)), (m3, .inl (cm3, 4, .inl gh))] := hD
    generalize ef_7 : upd jc (jk).toNat (zI z_6) = f_7 at hP hD
    refine lv_iinc (v := (zI (jk + 1))) (lv' := [(2, .int (zI (jk + 1))), (0, .ref h0), (1, .ref h1)]) hx hb dX0_takeFrom_51 hl (k := 0) rfl (kz_inc _ 1) (by decide) rfl (fun ls hl => ?_)
    refine lv_goto (tgt := 10) hx hb dX0_takeFrom_54 (by decide) ?_
    exact ih10 _ (by omega) _ _ _ ⟨(jk + 1), f_3, f_5, f_7, rfl, (by omega), hP, hD, hS, lv_sub hl [0, 1, 2] rfl⟩
