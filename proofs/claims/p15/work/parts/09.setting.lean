theorem dX4_isCluster_0 : decode cX4_isCluster 0 = .ok (.iload_n 1, 1) := by decide +kernel
theorem dX4_isCluster_1 : decode cX4_isCluster 1 = .ok (.iconst 0, 1) := by decide +kernel
theorem dX4_isCluster_2 : decode cX4_isCluster 2 = .ok (.aload_n 0, 1) := by decide +kernel
theorem dX4_isCluster_3 : decode cX4_isCluster 3 = .ok (.getfield 51, 3) := by decide +kernel
theorem dX4_isCluster_6 : decode cX4_isCluster 6 = .ok (.iconst 1, 1) := by decide +kernel
theorem dX4_isCluster_7 : decode cX4_isCluster 7 = .ok (.isub, 1) := by decide +kernel
theorem dX4_isCluster_8 : decode cX4_isCluster 8 = .ok (.invokestatic 55, 3) := by decide +kernel
theorem dX4_isCluster_11 : decode cX4_isCluster 11 = .ok (.ireturn, 1) := by decide +kernel
set_option maxRecDepth 20000 in
theorem ggX4_isCluster_X8_isWithin : GoodIn wsX4_isCluster wsX8_isWithin := goodIn_4 _ (List.forall_mem_cons.mpr ⟨List.mem_cons_of_mem _ (List.mem_append_left _ (List.mem_of_getElem? (i := 3) rfl)), fun _ h9 => absurd h9 List.not_mem_nil⟩) (by decide +kernel)
set_option maxRecDepth 20000 in
theorem gX4_isCluster_X8_isWithin_n55 : GoodIn wsX4_isCluster (wsX8_isWithin) := ggX4_isCluster_X8_isWithin
set_option maxRecDepth 20000 in
theorem mw_X4_isCluster_0 : (.fieldLink RX4 51 "FontRuns$Setting" "count" "I" : Cond) ∈ wsX4_isCluster := List.mem_cons_of_mem _ (List.mem_append_left _ (List.mem_of_getElem? (i := 0) rfl))
set_option maxRecDepth 20000 in
theorem mw_X4_isCluster_1 : (.initialized RX8 : Cond) ∈ wsX4_isCluster := List.mem_cons_of_mem _ (List.mem_append_left _ (List.mem_of_getElem? (i := 2) rfl))
set_option maxRecDepth 20000 in
theorem mw_X4_isCluster_2 : (.static yX8_isWithin : Cond) ∈ wsX4_isCluster := List.mem_cons_of_mem _ (List.mem_append_left _ (List.mem_of_getElem? (i := 1) rfl))
theorem ax_X4_isCluster_0 {e0 : Nat × va_E} : ([] : List Nat).map (fun i => ([e0] : va_W)[i]?) = ([] : va_W).map some := rfl
set_option maxHeartbeats 4000000 in
set_option maxRecDepth 100000 in
theorem c_X4_isCluster (l : Launch) (D : va_G) (sz : Nat) (k : Int) (h0 : Nat) (g1 : Nat) (g2 : Nat) (g3 : Nat) (g4 : Nat) (g5 : Nat) (cn : Int) (bo : Int) (ru : Int) (g6 : Nat) (g7 : Nat) (q0 : rg k) (q1 : 0 ≤ cn ∧ cn ≤ 24) (q2 : 0 ≤ bo ∧ bo ≤ 24) (q3 : 0 ≤ ru ∧ ru ≤ cn) : Met l yX4_isCluster wsX4_isCluster ({ frames := 1, cells := 0, slots := 0, locals := 22 }) (kPre [.ref h0, .int (zI k)] D [(h0, .inr (4, [.ref g1, .ref g2, .ref g3, .ref g4, .ref g5, .int (zI cn), .int (zI bo), .int (zI ru), .ref g6, .ref g7]))] [] sz) (QcRead (if 0 ≤ k ∧ k ≤ cn - 1 then 1 else 0)) 0 0 (fun _ => False) := by
  refine Met.ofW (cc := cX4_isCluster) (maxL := 2) (ret := (some .boolean)) (by decide) rfl ?_
  intro p e s m args below meth c s₁ B hml hv
  obtain ⟨rfl, hsz, hP, hK, hD0, hN⟩ := hv
  have hx := B.exec
  have hb := B.bytes
  have hr := B.returns
  have hts := atoms_spec (ws := wsX4_isCluster) B.pre
  have hown : s.vm.findClass RX4 = some m.cls := findClass_of_methodNamed B.named
  have hlocks := B.notSynchronized
  subst hsz
  have hD := hD0
  have hP : va_P D vwCl [(h0, .inr (4, [.ref g1, .ref g2, .ref g3, .ref g4, .ref g5, .int (zI cn), .int (zI bo), .int (zI ru), .ref g6, .ref g7]))] s.heap := hP
  have hl := lv_entry ([.ref h0, .int (zI k)]) (n := 2) (Nat.le_of_ble_eq_true rfl)
  rw [lg_entry_eq]
  generalize (lg_sl ([.ref h0, .int (zI k)]) ++ List.replicate (2 - (lg_sl ([.ref h0, .int (zI k)])).length) Slot.unset).toArray = ls at hl ⊢
  have hl : lv_has ls 2 [(0, .ref h0), (1, .int (zI k))] := hl
  refine lv_iload_n hx hb dX4_isCluster_0 rfl (lv_at hl 1 rfl) ?_
  refine lv_iconst (v := zI 0) hx hb dX4_isCluster_1 rfl ?_
  refine lv_aload_n hx hb dX4_isCluster_2 rfl (lv_at hl 0 rfl) ?_
  refine va_get (D := D) (ci := 4) (v := .int (zI cn)) (C := RX4) (T := TX4) (N := 10) hx hb hts (fun _ h9 => List.mem_cons_of_mem _ (List.mem_append_right _ h9)) hown hK hP 0 rfl rfl 5 (by decide) (hts (.fieldLink RX4 51 "FontRuns$Setting" "count" "I") mw_X4_isCluster_0) (fun _ h9 => h9) rfl dX4_isCluster_3 ?_
  refine lv_iconst (v := zI 1) hx hb dX4_isCluster_6 rfl ?_
  refine kz_isub hx hb dX4_isCluster_7 ?_
  refine k_callR (va_runSN (As := [.int (zI k), .int (zI 0), .int (zI (cn - 1))]) (rest := []) ⟨hx, hb, hml, hown, hts⟩ (c_X8_isWithin l D s.heap.size (v := k) (a := 0) (b := (cn - 1)) q0 (by omega) (by omega)) (⟨va_cnB 3 hts gX4_isCluster_X8_isWithin_n55 rfl rfl rfl (hN.1 (RX4, 55, yX8_isWithin) (by decide +kernel)) (hts (.initialized RX8) mw_X4_isCluster_1) (by decide +kernel) ⟨Nat.le_of_ble_eq_true rfl, Nat.le_of_ble_eq_true rfl⟩, (hts (.static yX8_isWithin) mw_X4_isCluster_2), trivial⟩) (kPreS hP (kD0 hD) hK hN [] [] ax_X4_isCluster_0 rfl (by decide +kernel)) rfl rfl hl.1 rfl (lv_room (Nat.le_of_ble_eq_true rfl)) dX4_isCluster_8 ⟨Nat.le_of_ble_eq_true rfl, Nat.le_of_ble_eq_true rfl⟩) ?_
  exact W.zret (v := (if 0 ≤ k ∧ k ≤ (cn - 1) then 1 else 0)) hx hb hr kzb (fun t ht hW => kRd (kbc (by constructor <;> (intro h9; omega))) ht) (fun _ h9 => by cases h9) dX4_isCluster_11
theorem dX4_changes_0 : decode cX4_changes 0 = .ok (.aload_n 0, 1) := by decide +kernel
theorem dX4_changes_1 : decode cX4_changes 1 = .ok (.getfield 59, 3) := by decide +kernel
theorem dX4_changes_4 : decode cX4_changes 4 = .ok (.iconst 1, 1) := by decide +kernel
theorem dX4_changes_5 : decode cX4_changes 5 = .ok (.isub, 1) := by decide +kernel
theorem dX4_changes_6 : decode cX4_changes 6 = .ok (.iconst 0, 1) := by decide +kernel
theorem dX4_changes_7 : decode cX4_changes 7 = .ok (.invokestatic 62, 3) := by decide +kernel
theorem dX4_changes_10 : decode cX4_changes 10 = .ok (.ireturn, 1) := by decide +kernel
set_option maxRecDepth 20000 in
theorem mw_X4_changes_0 : (.fieldLink RX4 59 "FontRuns$Setting" "runs" "I" : Cond) ∈ wsX4_changes := List.mem_cons_of_mem _ (List.mem_append_left _ (List.mem_of_getElem? (i := 0) rfl))
set_option maxRecDepth 20000 in
theorem mw_X4_changes_1 : (.methodLink RX4 62 Lib.Math.max.name : Cond) ∈ wsX4_changes := List.mem_cons_of_mem _ (List.mem_append_left _ (List.mem_of_getElem? (i := 1) rfl))
set_option maxRecDepth 20000 in
theorem mw_X4_changes_2 : (.static Lib.Math.max.name : Cond) ∈ wsX4_changes := List.mem_cons_of_mem _ (List.mem_append_left _ (List.mem_of_getElem? (i := 2) rfl))
set_option maxRecDepth 20000 in
theorem mw_X4_changes_3 : (.initialized "java/lang/Math" : Cond) ∈ wsX4_changes := List.mem_cons_of_mem _ (List.mem_append_left _ (List.mem_of_getElem? (i := 3) rfl))
set_option maxRecDepth 20000 in
theorem mw_X4_changes_4 : (.code Lib.Math.max.name Lib.Math.max.code 2 (some .int) : Cond) ∈ wsX4_changes := List.mem_cons_of_mem _ (List.mem_append_left _ (List.mem_of_getElem? (i := 4) rfl))
set_option maxHeartbeats 4000000 in
set_option maxRecDepth 100000 in
theorem c_X4_changes (l : Launch) (D : va_G) (sz : Nat) (h0 : Nat) (g1 : Nat) (g2 : Nat) (g3 : Nat) (g4 : Nat) (g5 : Nat) (cn : Int) (bo : Int) (ru : Int) (g6 : Nat) (g7 : Nat) (q0 : 0 ≤ cn ∧ cn ≤ 24) (q1 : 0 ≤ bo ∧ bo ≤ 24) (q2 : 0 ≤ ru ∧ ru ≤ cn) : Met l yX4_changes wsX4_changes ({ frames := 1, cells := 0, slots := 0, locals := 21 }) (kPre [.ref h0] D [(h0, .inr (4, [.ref g1, .ref g2, .ref g3, .ref g4, .ref g5, .int (zI cn), .int (zI bo), .int (zI ru), .ref g6, .ref g7]))] [] sz) (QcP (fun rz => True)) 0 0 (fun _ => False) := by
  refine Met.ofW (cc := cX4_changes) (maxL := 1) (ret := (some .int)) (by decide) rfl ?_
  intro p e s m args below meth c s₁ B hml hv
  obtain ⟨rfl, hsz, hP, hK, hD0, hN⟩ := hv
  have hx := B.exec
  have hb := B.bytes
  have hr := B.returns
  have hts := atoms_spec (ws := wsX4_changes) B.pre
  have hown : s.vm.findClass RX4 = some m.cls := findClass_of_methodNamed B.named
  have hlocks := B.notSynchronized
  subst hsz
  have hD := hD0
  have hP : va_P D vwCl [(h0, .inr (4, [.ref g1, .ref g2, .ref g3, .ref g4, .ref g5, .int (zI cn), .int (zI bo), .int (zI ru), .ref g6, .ref g7]))] s.heap := hP
  have hl := lv_entry ([.ref h0]) (n := 1) (Nat.le_of_ble_eq_true rfl)
  rw [lg_entry_eq]
  generalize (lg_sl ([.ref h0]) ++ List.replicate (1 - (lg_sl ([.ref h0])).length) Slot.unset).toArray = ls at hl ⊢
  have hl : lv_has ls 1 [(0, .ref h0)] := hl
  refine lv_aload_n hx hb dX4_changes_0 rfl (lv_at hl 0 rfl) ?_
  refine va_get (D := D) (ci := 4) (v := .int (zI ru)) (C := RX4) (T := TX4) (N := 10) hx hb hts (fun _ h9 => List.mem_cons_of_mem _ (List.mem_append_right _ h9)) hown hK hP 0 rfl rfl 7 (by decide) (hts (.fieldLink RX4 59 "FontRuns$Setting" "runs" "I") mw_X4_changes_0) (fun _ h9 => h9) rfl dX4_changes_1 ?_
  refine lv_iconst (v := zI 1) hx hb dX4_changes_4 rfl ?_
  refine kz_isub hx hb dX4_changes_5 ?_
  refine lv_iconst (v := zI 0) hx hb dX4_changes_6 rfl ?_
  refine kz_max hx hb (by rw [hml]; exact hl.1.symm) hown (hts (.methodLink RX4 62 Lib.Math.max.name) mw_X4_changes_1) (hts (.static Lib.Math.max.name) mw_X4_changes_2) (hts (.initialized "java/lang/Math") mw_X4_changes_3) (hts (.code Lib.Math.max.name Lib.Math.max.code 2 (some .int)) mw_X4_changes_4) (Nat.le_of_ble_eq_true rfl) (Nat.le_of_ble_eq_true rfl) (Nat.le_of_ble_eq_true rfl) (Nat.le_of_ble_eq_true rfl) (by omega) (by omega) dX4_changes_7 (fun z_1 rz_1 ez_1 => ?_)
  exact W.iret (v := (zI z_1)) hx hb hr (fun t ht hW => QcP_of (by omega) trivial ht) (fun _ h9 => by cases h9) dX4_changes_10
theorem dX4_advance_0 : decode cX4_advance 0 = .ok (.iconst 0, 1) := by decide +kernel
theorem dX4_advance_1 : decode cX4_advance 1 = .ok (.istore_n 2, 1) := by decide +kernel
theorem dX4_advance_2 : decode cX4_advance 2 = .ok (.iconst 0, 1) := by decide +kernel
theorem dX4_advance_3 : decode cX4_advance 3 = .ok (.istore_n 3, 1) := by decide +kernel
theorem dX4_advance_4 : decode cX4_advance 4 = .ok (.iload_n 3, 1) := by decide +kernel
theorem dX4_advance_5 : decode cX4_advance 5 = .ok (.aload_n 0, 1) := by decide +kernel
theorem dX4_advance_6 : decode cX4_advance 6 = .ok (.getfield 51, 3) := by decide +kernel
theorem dX4_advance_9 : decode cX4_advance 9 = .ok (.if_icmp .ge 22, 3) := by decide +kernel
theorem dX4_advance_12 : decode cX4_advance 12 = .ok (.iload_n 2, 1) := by decide +kernel
theorem dX4_advance_13 : decode cX4_advance 13 = .ok (.aload_n 1, 1) := by decide +kernel
theorem dX4_advance_14 : decode cX4_advance 14 = .ok (.aload_n 0, 1) := by decide +kernel
theorem dX4_advance_15 : decode cX4_advance 15 = .ok (.getfield 21, 3) := by decide +kernel
theorem dX4_advance_18 : decode cX4_advance 18 = .ok (.iload_n 3, 1) := by decide +kernel
theorem dX4_advance_19 : decode cX4_advance 19 = .ok (.iaload, 1) := by decide +kernel
theorem dX4_advance_20 : decode cX4_advance 20 = .ok (.invokevirtual 68, 3) := by decide +kernel
theorem dX4_advance_23 : decode cX4_advance 23 = .ok (.iadd, 1) := by decide +kernel
theorem dX4_advance_24 : decode cX4_advance 24 = .ok (.istore_n 2, 1) := by decide +kernel
theorem dX4_advance_25 : decode cX4_advance 25 = .ok (.iinc 3 1, 3) := by decide +kernel
theorem dX4_advance_28 : decode cX4_advance 28 = .ok (.goto (-24), 3) := by decide +kernel
theorem dX4_advance_31 : decode cX4_advance 31 = .ok (.iload_n 2, 1) := by decide +kernel
theorem dX4_advance_32 : decode cX4_advance 32 = .ok (.ireturn, 1) := by decide +kernel
set_option maxRecDepth 20000 in
theorem ggX4_advance_X0_step : GoodIn wsX4_advance wsX0_step := goodIn_4 _ (List.forall_mem_cons.mpr ⟨List.mem_cons_of_mem _ (List.mem_append_left _ (List.mem_append_left _ (List.mem_of_getElem? (i := 6) rfl))), List.forall_mem_append.mpr ⟨List.forall_mem_cons.mpr ⟨List.mem_cons_of_mem _ (List.mem_append_left _ (List.mem_append_left _ (List.mem_of_getElem? (i := 7) rfl))), List.forall_mem_cons.mpr ⟨List.mem_cons_of_mem _ (List.mem_append_left _ (List.mem_append_left _ (List.mem_of_getElem? (i := 8) rfl))), List.forall_mem_cons.mpr ⟨List.mem_cons_of_mem _ (List.mem_append_left _ (List.mem_append_left _ (List.mem_of_getElem? (i := 9) rfl))), List.forall_mem_cons.mpr ⟨List.mem_cons_of_mem _ (List.mem_append_left _ (List.mem_append_left _ (List.mem_of_getElem? (i := 10) rfl))), List.forall_mem_cons.mpr ⟨List.mem_cons_of_mem _ (List.mem_append_left _ (List.mem_append_left _ (List.mem_of_getElem? (i := 11) rfl))), List.forall_mem_cons.mpr ⟨List.mem_cons_of_mem _ (List.mem_append_left _ (List.mem_append_left _ (List.mem_of_getElem? (i := 5) rfl))), List.forall_mem_cons.mpr ⟨List.mem_cons_of_mem _ (List.mem_append_left _ (List.mem_append_left _ (List.mem_of_getElem? (i := 12) rfl))), List.forall_mem_cons.mpr ⟨List.mem_cons_of_mem _ (List.mem_append_left _ (List.mem_append_left _ (List.mem_of_getElem? (i := 13) rfl))), List.forall_mem_cons.mpr ⟨List.mem_cons_of_mem _ (List.mem_append_left _ (List.mem_append_left _ (List.mem_of_getElem? (i := 14) rfl))), List.forall_mem_cons.mpr ⟨List.mem_cons_of_mem _ (List.mem_append_left _ (List.mem_append_left _ (List.mem_of_getElem? (i := 15) rfl))), List.forall_mem_cons.mpr ⟨List.mem_cons_of_mem _ (List.mem_append_left _ (List.mem_append_left _ (List.mem_of_getElem? (i := 16) rfl))), List.forall_mem_cons.mpr ⟨List.mem_cons_of_mem _ (List.mem_append_left _ (List.mem_append_left _ (List.mem_of_getElem? (i := 17) rfl))), List.forall_mem_cons.mpr ⟨List.mem_cons_of_mem _ (List.mem_append_left _ (List.mem_append_left _ (List.mem_of_getElem? (i := 18) rfl))), fun _ h9 => absurd h9 List.not_mem_nil⟩⟩⟩⟩⟩⟩⟩⟩⟩⟩⟩⟩⟩, fun w h9 => List.mem_cons_of_mem _ (List.mem_append_right _ (h9))⟩⟩) (by decide +kernel)
set_option maxRecDepth 20000 in
theorem gX4_advance_X0_step : GoodIn wsX4_advance (wsV RX4 68 RX0 yX0_step wsX0_step) := goodIn_app (goodIn_4 _ (List.forall_mem_cons.mpr ⟨List.mem_cons_of_mem _ (List.mem_append_left _ (List.mem_append_left _ (List.mem_of_getElem? (i := 2) rfl))), List.forall_mem_cons.mpr ⟨List.mem_cons_of_mem _ (List.mem_append_left _ (List.mem_append_left _ (List.mem_of_getElem? (i := 3) rfl))), List.forall_mem_cons.mpr ⟨List.mem_cons_of_mem _ (List.mem_append_left _ (List.mem_append_left _ (List.mem_of_getElem? (i := 4) rfl))), List.forall_mem_cons.mpr ⟨List.mem_cons_of_mem _ (List.mem_append_left _ (List.mem_append_left _ (List.mem_of_getElem? (i := 5) rfl))), fun _ h9 => absurd h9 List.not_mem_nil⟩⟩⟩⟩) (by decide +kernel)) ggX4_advance_X0_step
set_option maxRecDepth 20000 in
theorem mw_X4_advance_0 : (.fieldLink RX4 51 "FontRuns$Setting" "count" "I" : Cond) ∈ wsX4_advance := List.mem_cons_of_mem _ (List.mem_append_left _ (List.mem_append_left _ (List.mem_of_getElem? (i := 0) rfl)))
set_option maxRecDepth 20000 in
theorem mw_X4_advance_1 : (.fieldLink RX4 21 "FontRuns$Setting" "chosen" "[I" : Cond) ∈ wsX4_advance := List.mem_cons_of_mem _ (List.mem_append_left _ (List.mem_append_left _ (List.mem_of_getElem? (i := 1) rfl)))
theorem ax_X4_advance_0 {e0 e1 e2 e3 e4 : Nat × va_E} : ([2, 3, 4] : List Nat).map (fun i => ([e0, e1, e2, e3, e4] : va_W)[i]?) = ([e2, e3, e4] : va_W).map some := rfl
set_option maxHeartbeats 4000000 in
set_option maxRecDepth 100000 in
theorem c_X4_advance (l : Launch) (D : va_G) (sz : Nat) (fr : Nat) (h0 : Nat) (g1 : Nat) (g2 : Nat) (g3 : Nat) (g4 : Nat) (g5 : Nat) (cn : Int) (bo : Int) (ru : Int) (g6 : Nat) (g7 : Nat) (cg4 : ClassId) (f4 : Nat → Int32) (k1 : Nat) (k2 : Nat) (k3 : Nat) (n : Int) (ck1 : ClassId) (fk : Nat → Int32) (ck2 : ClassId) (fb : Nat → Int32) (q0 : 0 ≤ cn ∧ cn ≤ 24) (q1 : 0 ≤ bo ∧ bo ≤ 24) (q2 : 0 ≤ ru ∧ ru ≤ cn) (q3 : 0 ≤ n ∧ n ≤ 4) : Met l yX4_advance wsX4_advance ({ frames := 3, cells := 0, slots := 0, locals := 64 }) (kPre [.ref h0, .ref fr] D [(h0, .inr (4, [.ref g1, .ref g2, .ref g3, .ref g4, .ref g5, .int (zI cn), .int (zI bo), .int (zI ru), .ref g6, .ref g7])), (g4, .inl (cg4, 24, .inl f4)), (fr, .inr (0, [.ref k1, .ref k2, .ref k3, .int (zI n)])), (k1, .inl (ck1, 4, .inl fk)), (k2, .inl (ck2, 4, .inl fb))] [(cg4, .int), (ck1, .int), (ck2, .int)] sz) (QcP (fun rz => True)) 0 0 (fun _ => False) := by
  refine Met.ofW (cc := cX4_advance) (maxL := 4) (ret := (some .int)) (by decide) rfl ?_
  intro p e s m args below meth c s₁ B hml hv
  obtain ⟨rfl, hsz, hP, hK, hD0, hN⟩ := hv
  have hx := B.exec
  have hb := B.bytes
  have hr := B.returns
  have hts := atoms_spec (ws := wsX4_advance) B.pre
  have hown : s.vm.findClass RX4 = some m.cls := findClass_of_methodNamed B.named
  have hlocks := B.notSynchronized
  subst hsz
  have hD := hD0
  have hP : va_P D vwCl [(h0, .inr (4, [.ref g1, .ref g2, .ref g3, .ref g4, .ref g5, .int (zI cn), .int (zI bo), .int (zI ru), .ref g6, .ref g7])), (g4, .inl (cg4, 24, .inl f4)), (fr, .inr (0, [.ref k1, .ref k2, .ref k3, .int (zI n)])), (k1, .inl (ck1, 4, .inl fk)), (k2, .inl (ck2, 4, .inl fb))] s.heap := hP
  have hl := lv_entry ([.ref h0, .ref fr]) (n := 4) (Nat.le_of_ble_eq_true rfl)
  rw [lg_entry_eq]
  generalize (lg_sl ([.ref h0, .ref fr]) ++ List.replicate (4 - (lg_sl ([.ref h0, .ref fr])).length) Slot.unset).toArray = ls at hl ⊢
  have hl : lv_has ls 4 [(0, .ref h0), (1, .ref fr)] := hl
  refine lv_iconst (v := zI 0) hx hb dX4_advance_0 rfl ?_
  refine lv_istore_n (lv' := [(2, .int (zI 0)), (0, .ref h0), (1, .ref fr)]) hx hb dX4_advance_1 rfl hl (by decide) rfl (fun ls hl => ?_)
  refine lv_iconst (v := zI 0) hx hb dX4_advance_2 rfl ?_
  refine lv_istore_n (lv' := [(3, .int (zI 0)), (2, .int (zI 0)), (0, .ref h0), (1, .ref fr)]) hx hb dX4_advance_3 rfl hl (by decide) rfl (fun ls hl => ?_)
  refine k_loopM (I := fun n9 H locs ls => ∃ (js : Int) (jk : Int), n9 = (cn - jk).toNat ∧ (rg js) ∧ (0 ≤ jk ∧ jk ≤ cn) ∧ H = s.heap ∧ locs = [] ∧ lv_has ls 4 [(3, .int (zI jk)), (2, .int (zI js)), (0, .ref h0), (1, .ref fr)]) ?_ _ ⟨0, 0, rfl, (by omega), (by omega), rfl, rfl, hl⟩
  intro n4 ih4 H locs ls hI
  obtain ⟨js, jk, en4, v_40, v_41, eH, eL, hl⟩ := hI
  subst eH
  subst eL
  refine lv_iload_n hx hb dX4_advance_4 rfl (lv_at hl 0 rfl) ?_
  refine lv_aload_n hx hb dX4_advance_5 rfl (lv_at hl 2 rfl) ?_
  refine va_get (D := D) (ci := 4) (v := .int (zI cn)) (C := RX4) (T := TX4) (N := 10) hx hb hts (fun _ h9 => List.mem_cons_of_mem _ (List.mem_append_left _ (List.mem_append_right _ h9))) hown hK hP 0 rfl rfl 5 (by decide) (hts (.fieldLink RX4 51 "FontRuns$Setting" "count" "I") mw_X4_advance_0) (fun _ h9 => h9) rfl dX4_advance_6 ?_
  refine kz_icmp_ge (tgt := 31) hx hb dX4_advance_9 (by decide) (by omega) (by omega) (fun c_1 => ?_) (fun c_1 => ?_)
  · refine lv_iload_n hx hb dX4_advance_31 rfl (lv_at hl 1 rfl) ?_
    exact W.iret (v := (zI js)) hx hb hr (fun t ht hW => QcP_of (by omega) trivial ht) (fun _ h9 => by cases h9) dX4_advance_32
  · refine lv_iload_n hx hb dX4_advance_12 rfl (lv_at hl 1 rfl) ?_
    refine lv_aload_n hx hb dX4_advance_13 rfl (lv_at hl 3 rfl) ?_
    refine lv_aload_n hx hb dX4_advance_14 rfl (lv_at hl 2 rfl) ?_
    refine va_get (D := D) (ci := 4) (v := .ref g4) (C := RX4) (T := TX4) (N := 10) hx hb hts (fun _ h9 => List.mem_cons_of_mem _ (List.mem_append_left _ (List.mem_append_right _ h9))) hown hK hP 0 rfl rfl 3 (by decide) (hts (.fieldLink RX4 21 "FontRuns$Setting" "chosen" "[I") mw_X4_advance_1) (fun _ h9 => h9) rfl dX4_advance_15 ?_
    refine lv_iload_n hx hb dX4_advance_18 rfl (lv_at hl 0 rfl) ?_
    refine kz_iald hx hb hK hP 1 0 rfl rfl (by omega) dX4_advance_19 (fun z_2 rz_2 ez_2 => ?_)
    refine k_callP (va_runV (As := [.int (zI z_2)]) (rest := [.int (zI js)]) ⟨hx, hb, hml, hown, hts⟩ (c_X0_step l D s.heap.size (f := z_2) (h0 := fr) (k1 := k1) (k2 := k2) (k3 := k3) (n := n) (ck1 := ck1) (fk := fk) (ck2 := ck2) (fb := fb) (by omega) q3) (cwV 1 hts gX4_advance_X0_step rfl rfl rfl (by decide +kernel) ⟨Nat.le_of_ble_eq_true rfl, Nat.le_of_ble_eq_true rfl⟩) (kPreV hP (kD0 hD) hK hN [2, 3, 4] [1, 2] ax_X4_advance_0 rfl (by decide +kernel) 2 0 rfl rfl) rfl rfl hl.1 rfl (lv_room (Nat.le_of_ble_eq_true rfl)) dX4_advance_20 ⟨Nat.le_of_ble_eq_true rfl, Nat.le_of_ble_eq_true rfl⟩) (fun z_3 rz_3 h_4 => ?_)
    refine kz_iadd hx hb dX4_advance_23 ?_
    refine kz_any (fun z_5 rz_5 ez_5 => ?_)
    refine lv_istore_n (lv' := [(2, .int (zI z_5)), (3, .int (zI jk)), (0, .ref h0), (1, .ref fr)]) hx hb dX4_advance_24 rfl hl (by decide) rfl (fun ls hl => ?_)
    refine lv_iinc (v := (zI (jk + 1))) (lv' := [(3, .int (zI (jk + 1))), (2, .int (zI z_5)), (0, .ref h0), (1, .ref fr)]) hx hb dX4_advance_25 hl (k := 1) rfl (kz_inc _ 1) (by decide) rfl (fun ls hl => ?_)
    refine lv_goto (tgt := 4) hx hb dX4_advance_28 (by decide) ?_
    exact ih4 _ (by omega) _ _ _ ⟨z_5, (jk + 1), rfl, (by omega), (by omega), rfl, rfl, lv_sub hl [0, 1, 2, 3] rfl⟩
theorem dX4_clustersIn_0 : decode cX4_clustersIn 0 = .ok (.iconst 0, 1) := by decide +kernel
theorem dX4_clustersIn_1 : decode cX4_clustersIn 1 = .ok (.istore_n 2, 1) := by decide +kernel
theorem dX4_clustersIn_2 : decode cX4_clustersIn 2 = .ok (.iconst 0, 1) := by decide +kernel
theorem dX4_clustersIn_3 : decode cX4_clustersIn 3 = .ok (.istore_n 3, 1) := by decide +kernel
theorem dX4_clustersIn_4 : decode cX4_clustersIn 4 = .ok (.iload_n 3, 1) := by decide +kernel
theorem dX4_clustersIn_5 : decode cX4_clustersIn 5 = .ok (.aload_n 0, 1) := by decide +kernel
theorem dX4_clustersIn_6 : decode cX4_clustersIn 6 = .ok (.getfield 51, 3) := by decide +kernel
theorem dX4_clustersIn_9 : decode cX4_clustersIn 9 = .ok (.if_icmp .ge 22, 3) := by decide +kernel
theorem dX4_clustersIn_12 : decode cX4_clustersIn 12 = .ok (.aload_n 0, 1) := by decide +kernel
theorem dX4_clustersIn_13 : decode cX4_clustersIn 13 = .ok (.getfield 21, 3) := by decide +kernel
theorem dX4_clustersIn_16 : decode cX4_clustersIn 16 = .ok (.iload_n 3, 1) := by decide +kernel
theorem dX4_clustersIn_17 : decode cX4_clustersIn 17 = .ok (.iaload, 1) := by decide +kernel
theorem dX4_clustersIn_18 : decode cX4_clustersIn 18 = .ok (.iload_n 1, 1) := by decide +kernel
theorem dX4_clustersIn_19 : decode cX4_clustersIn 19 = .ok (.if_icmp .ne 6, 3) := by decide +kernel
theorem dX4_clustersIn_22 : decode cX4_clustersIn 22 = .ok (.iinc 2 1, 3) := by decide +kernel
theorem dX4_clustersIn_25 : decode cX4_clustersIn 25 = .ok (.iinc 3 1, 3) := by decide +kernel
theorem dX4_clustersIn_28 : decode cX4_clustersIn 28 = .ok (.goto (-24), 3) := by decide +kernel
theorem dX4_clustersIn_31 : decode cX4_clustersIn 31 = .ok (.iload_n 2, 1) := by decide +kernel
theorem dX4_clustersIn_32 : decode cX4_clustersIn 32 = .ok (.ireturn, 1) := by decide +kernel
set_option maxRecDepth 20000 in
theorem mw_X4_clustersIn_0 : (.fieldLink RX4 51 "FontRuns$Setting" "count" "I" : Cond) ∈ wsX4_clustersIn := List.mem_cons_of_mem _ (List.mem_append_left _ (List.mem_of_getElem? (i := 0) rfl))
set_option maxRecDepth 20000 in
theorem mw_X4_clustersIn_1 : (.fieldLink RX4 21 "FontRuns$Setting" "chosen" "[I" : Cond) ∈ wsX4_clustersIn := List.mem_cons_of_mem _ (List.mem_append_left _ (List.mem_of_getElem? (i := 1) rfl))
set_option maxHeartbeats 4000000 in
set_option maxRecDepth 100000 in
theorem c_X4_clustersIn (l : Launch) (D : va_G) (sz : Nat) (f : Int) (h0 : Nat) (g1 : Nat) (g2 : Nat) (g3 : Nat) (g4 : Nat) (g5 : Nat) (cn : Int) (bo : Int) (ru : Int) (g6 : Nat) (g7 : Nat) (cg4 : ClassId) (f4 : Nat → Int32) (q0 : rg f) (q1 : 0 ≤ cn ∧ cn ≤ 24) (q2 : 0 ≤ bo ∧ bo ≤ 24) (q3 : 0 ≤ ru ∧ ru ≤ cn) : Met l yX4_clustersIn wsX4_clustersIn ({ frames := 0, cells := 0, slots := 0, locals := 0 }) (kPre [.ref h0, .int (zI f)] D [(h0, .inr (4, [.ref g1, .ref g2, .ref g3, .ref g4, .ref g5, .int (zI cn), .int (zI bo), .int (zI ru), .ref g6, .ref g7])), (g4, .inl (cg4, 24, .inl f4))] [(cg4, .int)] sz) (QcP (fun rz => True)) 0 0 (fun _ => False) := by
  refine Met.ofW (cc := cX4_clustersIn) (maxL := 4) (ret := (some .int)) (by decide) rfl ?_
  intro p e s m args below meth c s₁ B hml hv
  obtain ⟨rfl, hsz, hP, hK, hD0, hN⟩ := hv
  have hx := B.exec
  have hb := B.bytes
  have hr := B.returns
  have hts := atoms_spec (ws := wsX4_clustersIn) B.pre
  have hown : s.vm.findClass RX4 = some m.cls := findClass_of_methodNamed B.named
  have hlocks := B.notSynchronized
  subst hsz
  have hD := hD0
  have hP : va_P D vwCl [(h0, .inr (4, [.ref g1, .ref g2, .ref g3, .ref g4, .ref g5, .int (zI cn), .int (zI bo), .int (zI ru), .ref g6, .ref g7])), (g4, .inl (cg4, 24, .inl f4))] s.heap := hP
  have hl := lv_entry ([.ref h0, .int (zI f)]) (n := 4) (Nat.le_of_ble_eq_true rfl)
  rw [lg_entry_eq]
  generalize (lg_sl ([.ref h0, .int (zI f)]) ++ List.replicate (4 - (lg_sl ([.ref h0, .int (zI f)])).length) Slot.unset).toArray = ls at hl ⊢
  have hl : lv_has ls 4 [(0, .ref h0), (1, .int (zI f))] := hl
  refine lv_iconst (v := zI 0) hx hb dX4_clustersIn_0 rfl ?_
  refine lv_istore_n (lv' := [(2, .int (zI 0)), (0, .ref h0), (1, .int (zI f))]) hx hb dX4_clustersIn_1 rfl hl (by decide) rfl (fun ls hl => ?_)
  refine lv_iconst (v := zI 0) hx hb dX4_clustersIn_2 rfl ?_
  refine lv_istore_n (lv' := [(3, .int (zI 0)), (2, .int (zI 0)), (0, .ref h0), (1, .int (zI f))]) hx hb dX4_clustersIn_3 rfl hl (by decide) rfl (fun ls hl => ?_)
  refine k_loopM (I := fun n9 H locs ls => ∃ (js : Int) (jk : Int), n9 = (cn - jk).toNat ∧ (0 ≤ js ∧ js ≤ jk) ∧ (0 ≤ jk ∧ jk ≤ cn) ∧ H = s.heap ∧ locs = [] ∧ lv_has ls 4 [(3, .int (zI jk)), (2, .int (zI js)), (0, .ref h0), (1, .int (zI f))]) ?_ _ ⟨0, 0, rfl, (by omega), (by omega), rfl, rfl, hl⟩
  intro n4 ih4 H locs ls hI
  obtain ⟨js, jk, en4, v_40, v_41, eH, eL, hl⟩ := hI
  subst eH
  subst eL
  refine lv_iload_n hx hb dX4_clustersIn_4 rfl (lv_at hl 0 rfl) ?_
  refine lv_aload_n hx hb dX4_clustersIn_5 rfl (lv_at hl 2 rfl) ?_
  refine va_get (D := D) (ci := 4) (v := .int (zI cn)) (C := RX4) (T := TX4) (N := 10) hx hb hts (fun _ h9 => List.mem_cons_of_mem _ (List.mem_append_right _ h9)) hown hK hP 0 rfl rfl 5 (by decide) (hts (.fieldLink RX4 51 "FontRuns$Setting" "count" "I") mw_X4_clustersIn_0) (fun _ h9 => h9) rfl dX4_clustersIn_6 ?_
  refine kz_icmp_ge (tgt := 31) hx hb dX4_clustersIn_9 (by decide) (by omega) (by omega) (fun c_1 => ?_) (fun c_1 => ?_)
  · refine lv_iload_n hx hb dX4_clustersIn_31 rfl (lv_at hl 1 rfl) ?_
    exact W.iret (v := (zI js)) hx hb hr (fun t ht hW => QcP_of (by omega) trivial ht) (fun _ h9 => by cases h9) dX4_clustersIn_32
  · refine lv_aload_n hx hb dX4_clustersIn_12 rfl (lv_at hl 2 rfl) ?_
    refine va_get (D := D) (ci := 4) (v := .ref g4) (C := RX4) (T := TX4) (N := 10) hx hb hts (fun _ h9 => List.mem_cons_of_mem _ (List.mem_append_right _ h9)) hown hK hP 0 rfl rfl 3 (by decide) (hts (.fieldLink RX4 21 "FontRuns$Setting" "chosen" "[I") mw_X4_clustersIn_1) (fun _ h9 => h9) rfl dX4_clustersIn_13 ?_
    refine lv_iload_n hx hb dX4_clustersIn_16 rfl (lv_at hl 0 rfl) ?_
    refine kz_iald hx hb hK hP 1 0 rfl rfl (by omega) dX4_clustersIn_17 (fun z_2 rz_2 ez_2 => ?_)
    refine lv_iload_n hx hb dX4_clustersIn_18 rfl (lv_at hl 3 rfl) ?_
    refine kz_icmp_ne (tgt := 25) hx hb dX4_clustersIn_19 (by decide) (by omega) (by omega) (fun c_3 => ?_) (fun c_3 => ?_)
    · refine lv_iinc (v := (zI (jk + 1))) (lv' := [(3, .int (zI (jk + 1))), (2, .int (zI js)), (0, .ref h0), (1, .int (zI f))]) hx hb dX4_clustersIn_25 hl (k := 0) rfl (kz_inc _ 1) (by decide) rfl (fun ls hl => ?_)
      refine lv_goto (tgt := 4) hx hb dX4_clustersIn_28 (by decide) ?_
      exact ih4 _ (by omega) _ _ _ ⟨js, (jk + 1), rfl, (by omega), (by omega), rfl, rfl, lv_sub hl [0, 1, 2, 3] rfl⟩
    · refine lv_iinc (v := (zI (js + 1))) (lv' := [(2, .int (zI (js + 1))), (3, .int (zI jk)), (0, .ref h0), (1, .int (zI f))]) hx hb dX4_clustersIn_22 hl (k := 1) rfl (kz_inc _ 1) (by decide) rfl (fun ls hl => ?_)
      refine lv_iinc (v := (zI (jk + 1))) (lv' := [(3, .int (zI (jk + 1))), (2, .int (zI (js + 1))), (0, .ref h0), (1, .int (zI f))]) hx hb dX4_clustersIn_25 hl (k := 1) rfl (kz_inc _ 1) (by decide) rfl (fun ls hl => ?_)
      refine lv_goto (tgt := 4) hx hb dX4_clustersIn_28 (by decide) ?_
      exact ih4 _ (by omega) _ _ _ ⟨(js + 1), (jk + 1), rfl, (by omega), (by omega), rfl, rfl, lv_sub hl [0, 1, 2, 3] rfl⟩
theorem dX4_firstOfRun_0 : decode cX4_firstOfRun 0 = .ok (.iconst 0, 1) := by decide +kernel
theorem dX4_firstOfRun_1 : decode cX4_firstOfRun 1 = .ok (.istore_n 2, 1) := by decide +kernel
theorem dX4_firstOfRun_2 : decode cX4_firstOfRun 2 = .ok (.iload_n 2, 1) := by decide +kernel
theorem dX4_firstOfRun_3 : decode cX4_firstOfRun 3 = .ok (.aload_n 0, 1) := by decide +kernel
theorem dX4_firstOfRun_4 : decode cX4_firstOfRun 4 = .ok (.getfield 51, 3) := by decide +kernel
theorem dX4_firstOfRun_7 : decode cX4_firstOfRun 7 = .ok (.iconst 1, 1) := by decide +kernel
theorem dX4_firstOfRun_8 : decode cX4_firstOfRun 8 = .ok (.isub, 1) := by decide +kernel
theorem dX4_firstOfRun_9 : decode cX4_firstOfRun 9 = .ok (.if_icmp .ge 19, 3) := by decide +kernel
theorem dX4_firstOfRun_12 : decode cX4_firstOfRun 12 = .ok (.aload_n 0, 1) := by decide +kernel
theorem dX4_firstOfRun_13 : decode cX4_firstOfRun 13 = .ok (.getfield 24, 3) := by decide +kernel
theorem dX4_firstOfRun_16 : decode cX4_firstOfRun 16 = .ok (.iload_n 2, 1) := by decide +kernel
theorem dX4_firstOfRun_17 : decode cX4_firstOfRun 17 = .ok (.iaload, 1) := by decide +kernel
theorem dX4_firstOfRun_18 : decode cX4_firstOfRun 18 = .ok (.iload_n 1, 1) := by decide +kernel
theorem dX4_firstOfRun_19 : decode cX4_firstOfRun 19 = .ok (.if_icmp .eq 9, 3) := by decide +kernel
theorem dX4_firstOfRun_22 : decode cX4_firstOfRun 22 = .ok (.iinc 2 1, 3) := by decide +kernel
theorem dX4_firstOfRun_25 : decode cX4_firstOfRun 25 = .ok (.goto (-23), 3) := by decide +kernel
theorem dX4_firstOfRun_28 : decode cX4_firstOfRun 28 = .ok (.iload_n 2, 1) := by decide +kernel
theorem dX4_firstOfRun_29 : decode cX4_firstOfRun 29 = .ok (.ireturn, 1) := by decide +kernel
set_option maxRecDepth 20000 in
theorem mw_X4_firstOfRun_0 : (.fieldLink RX4 51 "FontRuns$Setting" "count" "I" : Cond) ∈ wsX4_firstOfRun := List.mem_cons_of_mem _ (List.mem_append_left _ (List.mem_of_getElem? (i := 0) rfl))
set_option maxRecDepth 20000 in
theorem mw_X4_firstOfRun_1 : (.fieldLink RX4 24 "FontRuns$Setting" "runOf" "[I" : Cond) ∈ wsX4_firstOfRun := List.mem_cons_of_mem _ (List.mem_append_left _ (List.mem_of_getElem? (i := 1) rfl))
set_option maxHeartbeats 4000000 in
set_option maxRecDepth 100000 in
theorem c_X4_firstOfRun (l : Launch) (D : va_G) (sz : Nat) (f : Int) (h0 : Nat) (g1 : Nat) (g2 : Nat) (g3 : Nat) (g4 : Nat) (g5 : Nat) (cn : Int) (bo : Int) (ru : Int) (g6 : Nat) (g7 : Nat) (cg5 : ClassId) (f5 : Nat → Int32) (q0 : rg f) (q1 : 0 ≤ cn ∧ cn ≤ 24) (q2 : 0 ≤ bo ∧ bo ≤ 24) (q3 : 0 ≤ ru ∧ ru ≤ cn) : Met l yX4_firstOfRun wsX4_firstOfRun ({ frames := 0, cells := 0, slots := 0, locals := 0 }) (kPre [.ref h0, .int (zI f)] D [(h0, .inr (4, [.ref g1, .ref g2, .ref g3, .ref g4, .ref g5, .int (zI cn), .int (zI bo), .int (zI ru), .ref g6, .ref g7])), (g5, .inl (cg5, 24, .inl f5))] [(cg5, .int)] sz) (QcP (fun rz => 0 ≤ rz ∧ rz ≤ 23)) 0 0 (fun _ => False) := by
  refine Met.ofW (cc := cX4_firstOfRun) (maxL := 3) (ret := (some .int)) (by decide) rfl ?_
  intro p e s m args below meth c s₁ B hml hv
  obtain ⟨rfl, hsz, hP, hK, hD0, hN⟩ := hv
  have hx := B.exec
  have hb := B.bytes
  have hr := B.returns
  have hts := atoms_spec (ws := wsX4_firstOfRun) B.pre
  have hown : s.vm.findClass RX4 = some m.cls := findClass_of_methodNamed B.named
  have hlocks := B.notSynchronized
  subst hsz
  have hD := hD0
  have hP : va_P D vwCl [(h0, .inr (4, [.ref g1, .ref g2, .ref g3, .ref g4, .ref g5, .int (zI cn), .int (zI bo), .int (zI ru), .ref g6, .ref g7])), (g5, .inl (cg5, 24, .inl f5))] s.heap := hP
  have hl := lv_entry ([.ref h0, .int (zI f)]) (n := 3) (Nat.le_of_ble_eq_true rfl)
  rw [lg_entry_eq]
  generalize (lg_sl ([.ref h0, .int (zI f)]) ++ List.replicate (3 - (lg_sl ([.ref h0, .int (zI f)])).length) Slot.unset).toArray = ls at hl ⊢
  have hl : lv_has ls 3 [(0, .ref h0), (1, .int (zI f))] := hl
  refine lv_iconst (v := zI 0) hx hb dX4_firstOfRun_0 rfl ?_
  refine lv_istore_n (lv' := [(2, .int (zI 0)), (0, .ref h0), (1, .int (zI f))]) hx hb dX4_firstOfRun_1 rfl hl (by decide) rfl (fun ls hl => ?_)
  refine k_loopM (I := fun n9 H locs ls => ∃ (jk : Int), n9 = (cn - jk).toNat ∧ (0 ≤ jk ∧ (jk ≤ cn - 1 ∨ jk = 0)) ∧ H = s.heap ∧ locs = [] ∧ lv_has ls 3 [(2, .int (zI jk)), (0, .ref h0), (1, .int (zI f))]) ?_ _ ⟨0, rfl, (by omega), rfl, rfl, hl⟩
  intro n2 ih2 H locs ls hI
  obtain ⟨jk, en2, v_20, eH, eL, hl⟩ := hI
  subst eH
  subst eL
  refine lv_iload_n hx hb dX4_firstOfRun_2 rfl (lv_at hl 0 rfl) ?_
  refine lv_aload_n hx hb dX4_firstOfRun_3 rfl (lv_at hl 1 rfl) ?_
  refine va_get (D := D) (ci := 4) (v := .int (zI cn)) (C := RX4) (T := TX4) (N := 10) hx hb hts (fun _ h9 => List.mem_cons_of_mem _ (List.mem_append_right _ h9)) hown hK hP 0 rfl rfl 5 (by decide) (hts (.fieldLink RX4 51 "FontRuns$Setting" "count" "I") mw_X4_firstOfRun_0) (fun _ h9 => h9) rfl dX4_firstOfRun_4 ?_
  refine lv_iconst (v := zI 1) hx hb dX4_firstOfRun_7 rfl ?_
  refine kz_isub hx hb dX4_firstOfRun_8 ?_
  refine kz_icmp_ge (tgt := 28) hx hb dX4_firstOfRun_9 (by decide) (by omega) (by omega) (fun c_1 => ?_) (fun c_1 => ?_)
  · refine lv_iload_n hx hb dX4_firstOfRun_28 rfl (lv_at hl 0 rfl) ?_
    exact W.iret (v := (zI jk)) hx hb hr (fun t ht hW => QcP_of (by omega) (by omega) ht) (fun _ h9 => by cases h9) dX4_firstOfRun_29
  · refine lv_aload_n hx hb dX4_firstOfRun_12 rfl (lv_at hl 1 rfl) ?_
    refine va_get (D := D) (ci := 4) (v := .ref g5) (C := RX4) (T := TX4) (N := 10) hx hb hts (fun _ h9 => List.mem_cons_of_mem _ (List.mem_append_right _ h9)) hown hK hP 0 rfl rfl 4 (by decide) (hts (.fieldLink RX4 24 "FontRuns$Setting" "runOf" "[I") mw_X4_firstOfRun_1) (fun _ h9 => h9) rfl dX4_firstOfRun_13 ?_
    refine lv_iload_n hx hb dX4_firstOfRun_16 rfl (lv_at hl 0 rfl) ?_
    refine kz_iald hx hb hK hP 1 0 rfl rfl (by omega) dX4_firstOfRun_17 (fun z_2 rz_2 ez_2 => ?_)
    refine lv_iload_n hx hb dX4_firstOfRun_18 rfl (lv_at hl 2 rfl) ?_
    refine kz_icmp_eq (tgt := 28) hx hb dX4_firstOfRun_19 (by decide) (by omega) (by omega) (fun c_3 => ?_) (fun c_3 => ?_)
    · refine lv_iload_n hx hb dX4_firstOfRun_28 rfl (lv_at hl 0 rfl) ?_
      exact W.iret (v := (zI jk)) hx hb hr (fun t ht hW => QcP_of (by omega) (by omega) ht) (fun _ h9 => by cases h9) dX4_firstOfRun_29
    · refine lv_iinc (v := (zI (jk + 1))) (lv' := [(2, .int (zI (jk + 1))), (0, .ref h0), (1, .int (zI f))]) hx hb dX4_firstOfRun_22 hl (k := 0) rfl (kz_inc _ 1) (by decide) rfl (fun ls hl => ?_)
      refine lv_goto (tgt := 2) hx hb dX4_firstOfRun_25 (by decide) ?_
      exact ih2 _ (by omega) _ _ _ ⟨(jk + 1), rfl, (by omega), rfl, rfl, lv_sub hl [0, 1, 2] rfl⟩
theorem dX4_clustersOfRun_0 : decode cX4_clustersOfRun 0 = .ok (.iconst 0, 1) := by decide +kernel
theorem dX4_clustersOfRun_1 : decode cX4_clustersOfRun 1 = .ok (.istore_n 2, 1) := by decide +kernel
theorem dX4_clustersOfRun_2 : decode cX4_clustersOfRun 2 = .ok (.iconst 0, 1) := by decide +kernel
theorem dX4_clustersOfRun_3 : decode cX4_clustersOfRun 3 = .ok (.istore_n 3, 1) := by decide +kernel
theorem dX4_clustersOfRun_4 : decode cX4_clustersOfRun 4 = .ok (.iload_n 3, 1) := by decide +kernel
theorem dX4_clustersOfRun_5 : decode cX4_clustersOfRun 5 = .ok (.aload_n 0, 1) := by decide +kernel
theorem dX4_clustersOfRun_6 : decode cX4_clustersOfRun 6 = .ok (.getfield 51, 3) := by decide +kernel
theorem dX4_clustersOfRun_9 : decode cX4_clustersOfRun 9 = .ok (.if_icmp .ge 22, 3) := by decide +kernel
theorem dX4_clustersOfRun_12 : decode cX4_clustersOfRun 12 = .ok (.aload_n 0, 1) := by decide +kernel
theorem dX4_clustersOfRun_13 : decode cX4_clustersOfRun 13 = .ok (.getfield 24, 3) := by decide +kernel
theorem dX4_clustersOfRun_16 : decode cX4_clustersOfRun 16 = .ok (.iload_n 3, 1) := by decide +kernel
theorem dX4_clustersOfRun_17 : decode cX4_clustersOfRun 17 = .ok (.iaload, 1) := by decide +kernel
theorem dX4_clustersOfRun_18 : decode cX4_clustersOfRun 18 = .ok (.iload_n 1, 1) := by decide +kernel
theorem dX4_clustersOfRun_19 : decode cX4_clustersOfRun 19 = .ok (.if_icmp .ne 6, 3) := by decide +kernel
theorem dX4_clustersOfRun_22 : decode cX4_clustersOfRun 22 = .ok (.iinc 2 1, 3) := by decide +kernel
theorem dX4_clustersOfRun_25 : decode cX4_clustersOfRun 25 = .ok (.iinc 3 1, 3) := by decide +kernel
theorem dX4_clustersOfRun_28 : decode cX4_clustersOfRun 28 = .ok (.goto (-24), 3) := by decide +kernel
theorem dX4_clustersOfRun_31 : decode cX4_clustersOfRun 31 = .ok (.iload_n 2, 1) := by decide +kernel
theorem dX4_clustersOfRun_32 : decode cX4_clustersOfRun 32 = .ok (.ireturn, 1) := by decide +kernel
set_option maxRecDepth 20000 in
theorem mw_X4_clustersOfRun_0 : (.fieldLink RX4 51 "FontRuns$Setting" "count" "I" : Cond) ∈ wsX4_clustersOfRun := List.mem_cons_of_mem _ (List.mem_append_left _ (List.mem_of_getElem? (i := 0) rfl))
set_option maxRecDepth 20000 in
theorem mw_X4_clustersOfRun_1 : (.fieldLink RX4 24 "FontRuns$Setting" "runOf" "[I" : Cond) ∈ wsX4_clustersOfRun := List.mem_cons_of_mem _ (List.mem_append_left _ (List.mem_of_getElem? (i := 1) rfl))
set_option maxHeartbeats 4000000 in
set_option maxRecDepth 100000 in
theorem c_X4_clustersOfRun (l : Launch) (D : va_G) (sz : Nat) (f : Int) (h0 : Nat) (g1 : Nat) (g2 : Nat) (g3 : Nat) (g4 : Nat) (g5 : Nat) (cn : Int) (bo : Int) (ru : Int) (g6 : Nat) (g7 : Nat) (cg5 : ClassId) (f5 : Nat → Int32) (q0 : rg f) (q1 : 0 ≤ cn ∧ cn ≤ 24) (q2 : 0 ≤ bo ∧ bo ≤ 24) (q3 : 0 ≤ ru ∧ ru ≤ cn) : Met l yX4_clustersOfRun wsX4_clustersOfRun ({ frames := 0, cells := 0, slots := 0, locals := 0 }) (kPre [.ref h0, .int (zI f)] D [(h0, .inr (4, [.ref g1, .ref g2, .ref g3, .ref g4, .ref g5, .int (zI cn), .int (zI bo), .int (zI ru), .ref g6, .ref g7])), (g5, .inl (cg5, 24, .inl f5))] [(cg5, .int)] sz) (QcP (fun rz => 0 ≤ rz ∧ rz ≤ 24)) 0 0 (fun _ => False) := by
  refine Met.ofW (cc := cX4_clustersOfRun) (maxL := 4) (ret := (some .int)) (by decide) rfl ?_
  intro p e s m args below meth c s₁ B hml hv
  obtain ⟨rfl, hsz, hP, hK, hD0, hN⟩ := hv
  have hx := B.exec
  have hb := B.bytes
  have hr := B.returns
  have hts := atoms_spec (ws := wsX4_clustersOfRun) B.pre
  have hown : s.vm.findClass RX4 = some m.cls := findClass_of_methodNamed B.named
  have hlocks := B.notSynchronized
  subst hsz
  have hD := hD0
  have hP : va_P D vwCl [(h0, .inr (4, [.ref g1, .ref g2, .ref g3, .ref g4, .ref g5, .int (zI cn), .int (zI bo), .int (zI ru), .ref g6, .ref g7])), (g5, .inl (cg5, 24, .inl f5))] s.heap := hP
  have hl := lv_entry ([.ref h0, .int (zI f)]) (n := 4) (Nat.le_of_ble_eq_true rfl)
  rw [lg_entry_eq]
  generalize (lg_sl ([.ref h0, .int (zI f)]) ++ List.replicate (4 - (lg_sl ([.ref h0, .int (zI f)])).length) Slot.unset).toArray = ls at hl ⊢
  have hl : lv_has ls 4 [(0, .ref h0), (1, .int (zI f))] := hl
  refine lv_iconst (v := zI 0) hx hb dX4_clustersOfRun_0 rfl ?_
  refine lv_istore_n (lv' := [(2, .int (zI 0)), (0, .ref h0), (1, .int (zI f))]) hx hb dX4_clustersOfRun_1 rfl hl (by decide) rfl (fun ls hl => ?_)
  refine lv_iconst (v := zI 0) hx hb dX4_clustersOfRun_2 rfl ?_
  refine lv_istore_n (lv' := [(3, .int (zI 0)), (2, .int (zI 0)), (0, .ref h0), (1, .int (zI f))]) hx hb dX4_clustersOfRun_3 rfl hl (by decide) rfl (fun ls hl => ?_)
  refine k_loopM (I := fun n9 H locs ls => ∃ (js : Int) (jk : Int), n9 = (cn - jk).toNat ∧ (0 ≤ js ∧ js ≤ jk) ∧ (0 ≤ jk ∧ jk ≤ cn) ∧ H = s.heap ∧ locs = [] ∧ lv_has ls 4 [(3, .int (zI jk)), (2, .int (zI js)), (0, .ref h0), (1, .int (zI f))]) ?_ _ ⟨0, 0, rfl, (by omega), (by omega), rfl, rfl, hl⟩
  intro n4 ih4 H locs ls hI
  obtain ⟨js, jk, en4, v_40, v_41, eH, eL, hl⟩ := hI
  subst eH
  subst eL
  refine lv_iload_n hx hb dX4_clustersOfRun_4 rfl (lv_at hl 0 rfl) ?_
  refine lv_aload_n hx hb dX4_clustersOfRun_5 rfl (lv_at hl 2 rfl) ?_
  refine va_get (D := D) (ci := 4) (v := .int (zI cn)) (C := RX4) (T := TX4) (N := 10) hx hb hts (fun _ h9 => List.mem_cons_of_mem _ (List.mem_append_right _ h9)) hown hK hP 0 rfl rfl 5 (by decide) (hts (.fieldLink RX4 51 "FontRuns$Setting" "count" "I") mw_X4_clustersOfRun_0) (fun _ h9 => h9) rfl dX4_clustersOfRun_6 ?_
  refine kz_icmp_ge (tgt := 31) hx hb dX4_clustersOfRun_9 (by decide) (by omega) (by omega) (fun c_1 => ?_) (fun c_1 => ?_)
  · refine lv_iload_n hx hb dX4_clustersOfRun_31 rfl (lv_at hl 1 rfl) ?_
    exact W.iret (v := (zI js)) hx hb hr (fun t ht hW => QcP_of (by omega) (by omega) ht) (fun _ h9 => by cases h9) dX4_clustersOfRun_32
  · refine lv_aload_n hx hb dX4_clustersOfRun_12 rfl (lv_at hl 2 rfl) ?_
    refine va_get (D := D) (ci := 4) (v := .ref g5) (C := RX4) (T := TX4) (N := 10) hx hb hts (fun _ h9 => List.mem_cons_of_mem _ (List.mem_append_right _ h9)) hown hK hP 0 rfl rfl 4 (by decide) (hts (.fieldLink RX4 24 "FontRuns$Setting" "runOf" "[I") mw_X4_clustersOfRun_1) (fun _ h9 => h9) rfl dX4_clustersOfRun_13 ?_
    refine lv_iload_n hx hb dX4_clustersOfRun_16 rfl (lv_at hl 0 rfl) ?_
    refine kz_iald hx hb hK hP 1 0 rfl rfl (by omega) dX4_clustersOfRun_17 (fun z_2 rz_2 ez_2 => ?_)
    refine lv_iload_n hx hb dX4_clustersOfRun_18 rfl (lv_at hl 3 rfl) ?_
    refine kz_icmp_ne (tgt := 25) hx hb dX4_clustersOfRun_19 (by decide) (by omega) (by omega) (fun c_3 => ?_) (fun c_3 => ?_)
    · refine lv_iinc (v := (zI (jk + 1))) (lv' := [(3, .int (zI (jk + 1))), (2, .int (zI js)), (0, .ref h0), (1, .int (zI f))]) hx hb dX4_clustersOfRun_25 hl (k := 0) rfl (kz_inc _ 1) (by decide) rfl (fun ls hl => ?_)
      refine lv_goto (tgt := 4) hx hb dX4_clustersOfRun_28 (by decide) ?_
      exact ih4 _ (by omega) _ _ _ ⟨js, (jk + 1), rfl, (by omega), (by omega), rfl, rfl, lv_sub hl [0, 1, 2, 3] rfl⟩
    · refine lv_iinc (v := (zI (js + 1))) (lv' := [(2, .int (zI (js + 1))), (3, .int (zI jk)), (0, .ref h0), (1, .int (zI f))]) hx hb dX4_clustersOfRun_22 hl (k := 1) rfl (kz_inc _ 1) (by decide) rfl (fun ls hl => ?_)
      refine lv_iinc (v := (zI (jk + 1))) (lv' := [(3, .int (zI (jk + 1))), (2, .int (zI (js + 1))), (0, .ref h0), (1, .int (zI f))]) hx hb dX4_clustersOfRun_25 hl (k := 1) rfl (kz_inc _ 1) (by decide) rfl (fun ls hl => ?_)
      refine lv_goto (tgt := 4) hx hb dX4_clustersOfRun_28 (by decide) ?_
      exact ih4 _ (by omega) _ _ _ ⟨(js + 1), (jk + 1), rfl, (by omega), (by omega), rfl, rfl, lv_sub hl [0, 1, 2, 3] rfl⟩
theorem dX4_isServedBy_0 : decode cX4_isServedBy 0 = .ok (.iconst 0, 1) := by decide +kernel
theorem dX4_isServedBy_1 : decode cX4_isServedBy 1 = .ok (.istore_n 2, 1) := by decide +kernel
theorem dX4_isServedBy_2 : decode cX4_isServedBy 2 = .ok (.iload_n 2, 1) := by decide +kernel
theorem dX4_isServedBy_3 : decode cX4_isServedBy 3 = .ok (.aload_n 0, 1) := by decide +kernel
theorem dX4_isServedBy_4 : decode cX4_isServedBy 4 = .ok (.getfield 51, 3) := by decide +kernel
theorem dX4_isServedBy_7 : decode cX4_isServedBy 7 = .ok (.if_icmp .ge 31, 3) := by decide +kernel
theorem dX4_isServedBy_10 : decode cX4_isServedBy 10 = .ok (.aload_n 0, 1) := by decide +kernel
theorem dX4_isServedBy_11 : decode cX4_isServedBy 11 = .ok (.getfield 18, 3) := by decide +kernel
theorem dX4_isServedBy_14 : decode cX4_isServedBy 14 = .ok (.iload_n 2, 1) := by decide +kernel
theorem dX4_isServedBy_15 : decode cX4_isServedBy 15 = .ok (.iaload, 1) := by decide +kernel
theorem dX4_isServedBy_16 : decode cX4_isServedBy 16 = .ok (.ifCond .eq 16, 3) := by decide +kernel
theorem dX4_isServedBy_19 : decode cX4_isServedBy 19 = .ok (.aload_n 0, 1) := by decide +kernel
theorem dX4_isServedBy_20 : decode cX4_isServedBy 20 = .ok (.getfield 18, 3) := by decide +kernel
theorem dX4_isServedBy_23 : decode cX4_isServedBy 23 = .ok (.iload_n 2, 1) := by decide +kernel
theorem dX4_isServedBy_24 : decode cX4_isServedBy 24 = .ok (.iaload, 1) := by decide +kernel
theorem dX4_isServedBy_25 : decode cX4_isServedBy 25 = .ok (.iload_n 1, 1) := by decide +kernel
theorem dX4_isServedBy_26 : decode cX4_isServedBy 26 = .ok (.iand, 1) := by decide +kernel
theorem dX4_isServedBy_27 : decode cX4_isServedBy 27 = .ok (.ifCond .ne 5, 3) := by decide +kernel
theorem dX4_isServedBy_30 : decode cX4_isServedBy 30 = .ok (.iconst 0, 1) := by decide +kernel
theorem dX4_isServedBy_31 : decode cX4_isServedBy 31 = .ok (.ireturn, 1) := by decide +kernel
theorem dX4_isServedBy_32 : decode cX4_isServedBy 32 = .ok (.iinc 2 1, 3) := by decide +kernel
theorem dX4_isServedBy_35 : decode cX4_isServedBy 35 = .ok (.goto (-33), 3) := by decide +kernel
theorem dX4_isServedBy_38 : decode cX4_isServedBy 38 = .ok (.iconst 1, 1) := by decide +kernel
theorem dX4_isServedBy_39 : decode cX4_isServedBy 39 = .ok (.ireturn, 1) := by decide +kernel
set_option maxRecDepth 20000 in
theorem mw_X4_isServedBy_0 : (.fieldLink RX4 51 "FontRuns$Setting" "count" "I" : Cond) ∈ wsX4_isServedBy := List.mem_cons_of_mem _ (List.mem_append_left _ (List.mem_of_getElem? (i := 0) rfl))
set_option maxRecDepth 20000 in
theorem mw_X4_isServedBy_1 : (.fieldLink RX4 18 "FontRuns$Setting" "fitting" "[I" : Cond) ∈ wsX4_isServedBy := List.mem_cons_of_mem _ (List.mem_append_left _ (List.mem_of_getElem? (i := 1) rfl))
set_option maxHeartbeats 4000000 in
set_option maxRecDepth 100000 in
theorem c_X4_isServedBy (l : Launch) (D : va_G) (sz : Nat) (f : Int) (h0 : Nat) (g1 : Nat) (g2 : Nat) (g3 : Nat) (g4 : Nat) (g5 : Nat) (cn : Int) (bo : Int) (ru : Int) (g6 : Nat) (g7 : Nat) (cg3 : ClassId) (f3 : Nat → Int32) (q0 : rg f) (q1 : 0 ≤ cn ∧ cn ≤ 24) (q2 : 0 ≤ bo ∧ bo ≤ 24) (q3 : 0 ≤ ru ∧ ru ≤ cn) : Met l yX4_isServedBy wsX4_isServedBy ({ frames := 0, cells := 0, slots := 0, locals := 0 }) (kPre [.ref h0, .int (zI f)] D [(h0, .inr (4, [.ref g1, .ref g2, .ref g3, .ref g4, .ref g5, .int (zI cn), .int (zI bo), .int (zI ru), .ref g6, .ref g7])), (g3, .inl (cg3, 24, .inl f3))] [(cg3, .int)] sz) (QcP (fun rz => True)) 0 0 (fun _ => False) := by
  refine Met.ofW (cc := cX4_isServedBy) (maxL := 3) (ret := (some .boolean)) (by decide) rfl ?_
  intro p e s m args below meth c s₁ B hml hv
  obtain ⟨rfl, hsz, hP, hK, hD0, hN⟩ := hv
  have hx := B.exec
  have hb := B.bytes
  have hr := B.returns
  have hts := atoms_spec (ws := wsX4_isServedBy) B.pre
  have hown : s.vm.findClass RX4 = some m.cls := findClass_of_methodNamed B.named
  have hlocks := B.notSynchronized
  subst hsz
  have hD := hD0
  have hP : va_P D vwCl [(h0, .inr (4, [.ref g1, .ref g2, .ref g3, .ref g4, .ref g5, .int (zI cn), .int (zI bo), .int (zI ru), .ref g6, .ref g7])), (g3, .inl (cg3, 24, .inl f3))] s.heap := hP
  have hl := lv_entry ([.ref h0, .int (zI f)]) (n := 3) (Nat.le_of_ble_eq_true rfl)
  rw [lg_entry_eq]
  generalize (lg_sl ([.ref h0, .int (zI f)]) ++ List.replicate (3 - (lg_sl ([.ref h0, .int (zI f)])).length) Slot.unset).toArray = ls at hl ⊢
  have hl : lv_has ls 3 [(0, .ref h0), (1, .int (zI f))] := hl
  refine lv_iconst (v := zI 0) hx hb dX4_isServedBy_0 rfl ?_
  refine lv_istore_n (lv' := [(2, .int (zI 0)), (0, .ref h0), (1, .int (zI f))]) hx hb dX4_isServedBy_1 rfl hl (by decide) rfl (fun ls hl => ?_)
  refine k_loopM (I := fun n9 H locs ls => ∃ (jk : Int), n9 = (cn - jk).toNat ∧ (0 ≤ jk ∧ jk ≤ cn) ∧ H = s.heap ∧ locs = [] ∧ lv_has ls 3 [(2, .int (zI jk)), (0, .ref h0), (1, .int (zI f))]) ?_ _ ⟨0, rfl, (by omega), rfl, rfl, hl⟩
  intro n2 ih2 H locs ls hI
  obtain ⟨jk, en2, v_20, eH, eL, hl⟩ := hI
  subst eH
  subst eL
  refine lv_iload_n hx hb dX4_isServedBy_2 rfl (lv_at hl 0 rfl) ?_
  refine lv_aload_n hx hb dX4_isServedBy_3 rfl (lv_at hl 1 rfl) ?_
  refine va_get (D := D) (ci := 4) (v := .int (zI cn)) (C := RX4) (T := TX4) (N := 10) hx hb hts (fun _ h9 => List.mem_cons_of_mem _ (List.mem_append_right _ h9)) hown hK hP 0 rfl rfl 5 (by decide) (hts (.fieldLink RX4 51 "FontRuns$Setting" "count" "I") mw_X4_isServedBy_0) (fun _ h9 => h9) rfl dX4_isServedBy_4 ?_
  refine kz_icmp_ge (tgt := 38) hx hb dX4_isServedBy_7 (by decide) (by omega) (by omega) (fun c_1 => ?_) (fun c_1 => ?_)
  · refine lv_iconst (v := zI 1) hx hb dX4_isServedBy_38 rfl ?_
    exact W.zret (v := (zI 1)) hx hb hr rfl (fun t ht hW => QcP_of (by omega) trivial ht) (fun _ h9 => by cases h9) dX4_isServedBy_39
  · refine lv_aload_n hx hb dX4_isServedBy_10 rfl (lv_at hl 1 rfl) ?_
    refine va_get (D := D) (ci := 4) (v := .ref g3) (C := RX4) (T := TX4) (N := 10) hx hb hts (fun _ h9 => List.mem_cons_of_mem _ (List.mem_append_right _ h9)) hown hK hP 0 rfl rfl 2 (by decide) (hts (.fieldLink RX4 18 "FontRuns$Setting" "fitting" "[I") mw_X4_isServedBy_1) (fun _ h9 => h9) rfl dX4_isServedBy_11 ?_
    refine lv_iload_n hx hb dX4_isServedBy_14 rfl (lv_at hl 0 rfl) ?_
    refine kz_iald hx hb hK hP 1 0 rfl rfl (by omega) dX4_isServedBy_15 (fun z_2 rz_2 ez_2 => ?_)
    refine kz_if_eq (tgt := 32) hx hb dX4_isServedBy_16 (by decide) (by omega) (fun c_3 => ?_) (fun c_3 => ?_)
    · refine lv_iinc (v := (zI (jk + 1))) (lv' := [(2, .int (zI (jk + 1))), (0, .ref h0), (1, .int (zI f))]) hx hb dX4_isServedBy_32 hl (k := 0) rfl (kz_inc _ 1) (by decide) rfl (fun ls hl => ?_)
      refine lv_goto (tgt := 2) hx hb dX4_isServedBy_35 (by decide) ?_
      exact ih2 _ (by omega) _ _ _ ⟨(jk + 1), rfl, (by omega), rfl, rfl, lv_sub hl [0, 1, 2] rfl⟩
    · refine lv_aload_n hx hb dX4_isServedBy_19 rfl (lv_at hl 1 rfl) ?_
      refine va_get (D := D) (ci := 4) (v := .ref g3) (C := RX4) (T := TX4) (N := 10) hx hb hts (fun _ h9 => List.mem_cons_of_mem _ (List.mem_append_right _ h9)) hown hK hP 0 rfl rfl 2 (by decide) (hts (.fieldLink RX4 18 "FontRuns$Setting" "fitting" "[I") mw_X4_isServedBy_1) (fun _ h9 => h9) rfl dX4_isServedBy_20 ?_
      refine lv_iload_n hx hb dX4_isServedBy_23 rfl (lv_at hl 0 rfl) ?_
      refine kz_iald hx hb hK hP 1 0 rfl rfl (by omega) dX4_isServedBy_24 (fun z_4 rz_4 ez_4 => ?_)
      refine lv_iload_n hx hb dX4_isServedBy_25 rfl (lv_at hl 2 rfl) ?_
      refine lv_iand hx hb dX4_isServedBy_26 ?_
      refine kz_any (fun z_5 rz_5 ez_5 => ?_)
      refine kz_if_ne (tgt := 32) hx hb dX4_isServedBy_27 (by decide) (by omega) (fun c_6 => ?_) (fun c_6 => ?_)
      · refine lv_iinc (v := (zI (jk + 1))) (lv' := [(2, .int (zI (jk + 1))), (0, .ref h0), (1, .int (zI f))]) hx hb dX4_isServedBy_32 hl (k := 0) rfl (kz_inc _ 1) (by decide) rfl (fun ls hl => ?_)
        refine lv_goto (tgt := 2) hx hb dX4_isServedBy_35 (by decide) ?_
        exact ih2 _ (by omega) _ _ _ ⟨(jk + 1), rfl, (by omega), rfl, rfl, lv_sub hl [0, 1, 2] rfl⟩
      · refine lv_iconst (v := zI 0) hx hb dX4_isServedBy_30 rfl ?_
        exact W.zret (v := (zI 0)) hx hb hr rfl (fun t ht hW => QcP_of (by omega) trivial ht) (fun _ h9 => by cases h9) dX4_isServedBy_31
theorem dX4_cut_0 : decode cX4_cut 0 = .ok (.aload_n 0, 1) := by decide +kernel
theorem dX4_cut_1 : decode cX4_cut 1 = .ok (.iconst 0, 1) := by decide +kernel
theorem dX4_cut_2 : decode cX4_cut 2 = .ok (.putfield 51, 3) := by decide +kernel
theorem dX4_cut_5 : decode cX4_cut 5 = .ok (.iconst 0, 1) := by decide +kernel
theorem dX4_cut_6 : decode cX4_cut 6 = .ok (.istore_n 2, 1) := by decide +kernel
theorem dX4_cut_7 : decode cX4_cut 7 = .ok (.iload_n 2, 1) := by decide +kernel
theorem dX4_cut_8 : decode cX4_cut 8 = .ok (.aload_n 1, 1) := by decide +kernel
theorem dX4_cut_9 : decode cX4_cut 9 = .ok (.getfield 74, 3) := by decide +kernel
theorem dX4_cut_12 : decode cX4_cut 12 = .ok (.if_icmp .ge 101, 3) := by decide +kernel
theorem dX4_cut_15 : decode cX4_cut 15 = .ok (.aload_n 1, 1) := by decide +kernel
theorem dX4_cut_16 : decode cX4_cut 16 = .ok (.getfield 77, 3) := by decide +kernel
theorem dX4_cut_19 : decode cX4_cut 19 = .ok (.iload_n 2, 1) := by decide +kernel
theorem dX4_cut_20 : decode cX4_cut 20 = .ok (.iaload, 1) := by decide +kernel
theorem dX4_cut_21 : decode cX4_cut 21 = .ok (.istore_n 3, 1) := by decide +kernel
theorem dX4_cut_22 : decode cX4_cut 22 = .ok (.aload_n 0, 1) := by decide +kernel
theorem dX4_cut_23 : decode cX4_cut 23 = .ok (.getfield 51, 3) := by decide +kernel
theorem dX4_cut_26 : decode cX4_cut 26 = .ok (.ifCond .eq 9, 3) := by decide +kernel
theorem dX4_cut_29 : decode cX4_cut 29 = .ok (.iload_n 3, 1) := by decide +kernel
theorem dX4_cut_30 : decode cX4_cut 30 = .ok (.bipush 12, 2) := by decide +kernel
theorem dX4_cut_32 : decode cX4_cut 32 = .ok (.if_icmp .ge 43, 3) := by decide +kernel
theorem dX4_cut_35 : decode cX4_cut 35 = .ok (.aload_n 0, 1) := by decide +kernel
theorem dX4_cut_36 : decode cX4_cut 36 = .ok (.getfield 9, 3) := by decide +kernel
theorem dX4_cut_39 : decode cX4_cut 39 = .ok (.aload_n 0, 1) := by decide +kernel
theorem dX4_cut_40 : decode cX4_cut 40 = .ok (.getfield 51, 3) := by decide +kernel
theorem dX4_cut_43 : decode cX4_cut 43 = .ok (.iload_n 2, 1) := by decide +kernel
theorem dX4_cut_44 : decode cX4_cut 44 = .ok (.iastore, 1) := by decide +kernel
theorem dX4_cut_45 : decode cX4_cut 45 = .ok (.aload_n 0, 1) := by decide +kernel
theorem dX4_cut_46 : decode cX4_cut 46 = .ok (.getfield 15, 3) := by decide +kernel
theorem dX4_cut_49 : decode cX4_cut 49 = .ok (.aload_n 0, 1) := by decide +kernel
theorem dX4_cut_50 : decode cX4_cut 50 = .ok (.getfield 51, 3) := by decide +kernel
theorem dX4_cut_53 : decode cX4_cut 53 = .ok (.iconst 0, 1) := by decide +kernel
theorem dX4_cut_54 : decode cX4_cut 54 = .ok (.iastore, 1) := by decide +kernel
theorem dX4_cut_55 : decode cX4_cut 55 = .ok (.aload_n 0, 1) := by decide +kernel
theorem dX4_cut_56 : decode cX4_cut 56 = .ok (.getfield 27, 3) := by decide +kernel
theorem dX4_cut_59 : decode cX4_cut 59 = .ok (.aload_n 0, 1) := by decide +kernel
theorem dX4_cut_60 : decode cX4_cut 60 = .ok (.getfield 51, 3) := by decide +kernel
theorem dX4_cut_63 : decode cX4_cut 63 = .ok (.iconst 0, 1) := by decide +kernel
theorem dX4_cut_64 : decode cX4_cut 64 = .ok (.iastore, 1) := by decide +kernel
theorem dX4_cut_65 : decode cX4_cut 65 = .ok (.aload_n 0, 1) := by decide +kernel
theorem dX4_cut_66 : decode cX4_cut 66 = .ok (.dup, 1) := by decide +kernel
theorem dX4_cut_67 : decode cX4_cut 67 = .ok (.getfield 51, 3) := by decide +kernel
theorem dX4_cut_70 : decode cX4_cut 70 = .ok (.iconst 1, 1) := by decide +kernel
theorem dX4_cut_71 : decode cX4_cut 71 = .ok (.iadd, 1) := by decide +kernel
theorem dX4_cut_72 : decode cX4_cut 72 = .ok (.putfield 51, 3) := by decide +kernel
theorem dX4_cut_75 : decode cX4_cut 75 = .ok (.aload_n 0, 1) := by decide +kernel
theorem dX4_cut_76 : decode cX4_cut 76 = .ok (.getfield 15, 3) := by decide +kernel
theorem dX4_cut_79 : decode cX4_cut 79 = .ok (.aload_n 0, 1) := by decide +kernel
theorem dX4_cut_80 : decode cX4_cut 80 = .ok (.getfield 51, 3) := by decide +kernel
theorem dX4_cut_83 : decode cX4_cut 83 = .ok (.iconst 1, 1) := by decide +kernel
theorem dX4_cut_84 : decode cX4_cut 84 = .ok (.isub, 1) := by decide +kernel
theorem dX4_cut_85 : decode cX4_cut 85 = .ok (.dup2, 1) := by decide +kernel
theorem dX4_cut_86 : decode cX4_cut 86 = .ok (.iaload, 1) := by decide +kernel
theorem dX4_cut_87 : decode cX4_cut 87 = .ok (.iconst 1, 1) := by decide +kernel
theorem dX4_cut_88 : decode cX4_cut 88 = .ok (.iadd, 1) := by decide +kernel
theorem dX4_cut_89 : decode cX4_cut 89 = .ok (.iastore, 1) := by decide +kernel
theorem dX4_cut_90 : decode cX4_cut 90 = .ok (.aload_n 0, 1) := by decide +kernel
theorem dX4_cut_91 : decode cX4_cut 91 = .ok (.getfield 27, 3) := by decide +kernel
theorem dX4_cut_94 : decode cX4_cut 94 = .ok (.aload_n 0, 1) := by decide +kernel
theorem dX4_cut_95 : decode cX4_cut 95 = .ok (.getfield 51, 3) := by decide +kernel
theorem dX4_cut_98 : decode cX4_cut 98 = .ok (.iconst 1, 1) := by decide +kernel
theorem dX4_cut_99 : decode cX4_cut 99 = .ok (.isub, 1) := by decide +kernel
theorem dX4_cut_100 : decode cX4_cut 100 = .ok (.dup2, 1) := by decide +kernel
theorem dX4_cut_101 : decode cX4_cut 101 = .ok (.iaload, 1) := by decide +kernel
theorem dX4_cut_102 : decode cX4_cut 102 = .ok (.iconst 1, 1) := by decide +kernel
theorem dX4_cut_103 : decode cX4_cut 103 = .ok (.iload_n 3, 1) := by decide +kernel
theorem dX4_cut_104 : decode cX4_cut 104 = .ok (.ishl, 1) := by decide +kernel
theorem dX4_cut_105 : decode cX4_cut 105 = .ok (.ior, 1) := by decide +kernel
theorem dX4_cut_106 : decode cX4_cut 106 = .ok (.iastore, 1) := by decide +kernel
theorem dX4_cut_107 : decode cX4_cut 107 = .ok (.iinc 2 1, 3) := by decide +kernel
theorem dX4_cut_110 : decode cX4_cut 110 = .ok (.goto (-103), 3) := by decide +kernel
theorem dX4_cut_113 : decode cX4_cut 113 = .ok (.return_, 1) := by decide +kernel
set_option maxRecDepth 20000 in
theorem mw_X4_cut_0 : (.fieldLink RX4 51 "FontRuns$Setting" "count" "I" : Cond) ∈ wsX4_cut := List.mem_cons_of_mem _ (List.mem_append_left _ (List.mem_append_left _ (List.mem_of_getElem? (i := 0) rfl)))
set_option maxRecDepth 20000 in
theorem mw_X4_cut_1 : (.fieldLink RX4 74 "FontRuns$Writing" "count" "I" : Cond) ∈ wsX4_cut := List.mem_cons_of_mem _ (List.mem_append_left _ (List.mem_append_left _ (List.mem_of_getElem? (i := 1) rfl)))
set_option maxRecDepth 20000 in
theorem mw_X4_cut_2 : (.fieldLink RX4 77 "FontRuns$Writing" "row" "[I" : Cond) ∈ wsX4_cut := List.mem_cons_of_mem _ (List.mem_append_left _ (List.mem_append_left _ (List.mem_of_getElem? (i := 2) rfl)))
set_option maxRecDepth 20000 in
theorem mw_X4_cut_3 : (.fieldLink RX4 9 "FontRuns$Setting" "first" "[I" : Cond) ∈ wsX4_cut := List.mem_cons_of_mem _ (List.mem_append_left _ (List.mem_append_left _ (List.mem_of_getElem? (i := 3) rfl)))
set_option maxRecDepth 20000 in
theorem mw_X4_cut_4 : (.fieldLink RX4 15 "FontRuns$Setting" "length" "[I" : Cond) ∈ wsX4_cut := List.mem_cons_of_mem _ (List.mem_append_left _ (List.mem_append_left _ (List.mem_of_getElem? (i := 4) rfl)))
set_option maxRecDepth 20000 in
theorem mw_X4_cut_5 : (.fieldLink RX4 27 "FontRuns$Setting" "letters" "[I" : Cond) ∈ wsX4_cut := List.mem_cons_of_mem _ (List.mem_append_left _ (List.mem_append_left _ (List.mem_of_getElem? (i := 5) rfl)))
theorem ax_X4_cut_0 {e0 e1 e2 e3 e4 e5 : Nat × va_E} : ([0, 1, 2, 3, 4, 5] : List Nat).map (fun i => ([e0, e1, e2, e3, e4, e5] : va_W)[i]?) = ([e0, e1, e2, e3, e4, e5] : va_W).map some := rfl
set_option maxHeartbeats 4000000 in
set_option maxRecDepth 100000 in
theorem c_X4_cut (l : Launch) (D : va_G) (sz : Nat) (wr : Nat) (h0 : Nat) (g1 : Nat) (g2 : Nat) (g3 : Nat) (g4 : Nat) (g5 : Nat) (cn : Int) (bo : Int) (ru : Int) (g6 : Nat) (g7 : Nat) (cg1 : ClassId) (f1 : Nat → Int32) (cg2 : ClassId) (f2 : Nat → Int32) (cg6 : ClassId) (f6 : Nat → Int32) (w1 : Nat) (wn : Int) (cw1 : ClassId) (fw : Nat → Int32) (q0 : 0 ≤ wn ∧ wn ≤ 24) : Met l yX4_cut wsX4_cut ({ frames := 0, cells := 0, slots := 0, locals := 0 }) (kPre [.ref h0, .ref wr] D [(h0, .inr (4, [.ref g1, .ref g2, .ref g3, .ref g4, .ref g5, .int (zI cn), .int (zI bo), .int (zI ru), .ref g6, .ref g7])), (g1, .inl (cg1, 24, .inl f1)), (g2, .inl (cg2, 24, .inl f2)), (g6, .inl (cg6, 24, .inl f6)), (wr, .inr (7, [.ref w1, .int (zI wn)])), (w1, .inl (cw1, 24, .inl fw))] [(cg1, .int), (cg2, .int), (cg6, .int), (cw1, .int)] sz) (kQV (fun t => ∃ (uc : Int) (v1 : Nat → Int32) (v2 : Nat → Int32) (v6 : Nat → Int32), (0 ≤ uc ∧ uc ≤ 24) ∧ va_P D vwCl [(h0, .inr (4, [.ref g1, .ref g2, .ref g3, .ref g4, .ref g5, .int (zI uc), .int (zI bo), .int (zI ru), .ref g6, .ref g7])), (g1, .inl (cg1, 24, .inl v1)), (g2, .inl (cg2, 24, .inl v2)), (g6, .inl (cg6, 24, .inl v6)), (wr, .inr (7, [.ref w1, .int (zI wn)])), (w1, .inl (cw1, 24, .inl fw))] t.heap ∧ va_D (va_A [(h0, .inr (4, [.ref g1, .ref g2, .ref g3, .ref g4, .ref g5, .int (zI cn), .int (zI bo), .int (zI ru), .ref g6, .ref g7])), (g1, .inl (cg1, 24, .inl f1)), (g2, .inl (cg2, 24, .inl f2)), (g6, .inl (cg6, 24, .inl f6)), (wr, .inr (7, [.ref w1, .int (zI wn)])), (w1, .inl (cw1, 24, .inl fw))] sz) [(h0, .inr (4, [.ref g1, .ref g2, .ref g3, .ref g4, .ref g5, .int (zI uc), .int (zI bo), .int (zI ru), .ref g6, .ref g7])), (g1, .inl (cg1, 24, .inl v1)), (g2, .inl (cg2, 24, .inl v2)), (g6, .inl (cg6, 24, .inl v6)), (wr, .inr (7, [.ref w1, .int (zI wn)])), (w1, .inl (cw1, 24, .inl fw))]) (va_A [(h0, .inr (4, [.ref g1, .ref g2, .ref g3, .ref g4, .ref g5, .int (zI cn), .int (zI bo), .int (zI ru), .ref g6, .ref g7])), (g1, .inl (cg1, 24, .inl f1)), (g2, .inl (cg2, 24, .inl f2)), (g6, .inl (cg6, 24, .inl f6)), (wr, .inr (7, [.ref w1, .int (zI wn)])), (w1, .inl (cw1, 24, .inl fw))] sz)) 0 0 (va_A [(h0, .inr (4, [.ref g1, .ref g2, .ref g3, .ref g4, .ref g5, .int (zI cn), .int (zI bo), .int (zI ru), .ref g6, .ref g7])), (g1, .inl (cg1, 24, .inl f1)), (g2, .inl (cg2, 24, .inl f2)), (g6, .inl (cg6, 24, .inl f6)), (wr, .inr (7, [.ref w1, .int (zI wn)])), (w1, .inl (cw1, 24, .inl fw))] sz) := by
  refine Met.ofW (cc := cX4_cut) (maxL := 4) (ret := none) (by decide) rfl ?_
  intro p e s m args below meth c s₁ B hml hv
  obtain ⟨rfl, hsz, hP, hK, hD0, hN⟩ := hv
  have hx := B.exec
  have hb := B.bytes
  have hr := B.returns
  have hts := atoms_spec (ws := wsX4_cut) B.pre
  have hown : s.vm.findClass RX4 = some m.cls := findClass_of_methodNamed B.named
  have hlocks := B.notSynchronized
  subst hsz
  have hD := hD0.self (sz := s.heap.size)
  generalize hAe : va_A [(h0, .inr (4, [.ref g1, .ref g2, .ref g3, .ref g4, .ref g5, .int (zI cn), .int (zI bo), .int (zI ru), .ref g6, .ref g7])), (g1, .inl (cg1, 24, .inl f1)), (g2, .inl (cg2, 24, .inl f2)), (g6, .inl (cg6, 24, .inl f6)), (wr, .inr (7, [.ref w1, .int (zI wn)])), (w1, .inl (cw1, 24, .inl fw))] s.heap.size = A at hD ⊢
  have hA : ∀ q : Nat, s.heap.size ≤ q → A q := fun q h => by rw [← hAe]; exact Or.inr h
  have hS : va_S A s.heap s.heap [] := va_S.rf
  have hP : va_P D vwCl [(h0, .inr (4, [.ref g1, .ref g2, .ref g3, .ref g4, .ref g5, .int (zI cn), .int (zI bo), .int (zI ru), .ref g6, .ref g7])), (g1, .inl (cg1, 24, .inl f1)), (g2, .inl (cg2, 24, .inl f2)), (g6, .inl (cg6, 24, .inl f6)), (wr, .inr (7, [.ref w1, .int (zI wn)])), (w1, .inl (cw1, 24, .inl fw))] s.heap := hP
  have hl := lv_entry ([.ref h0, .ref wr]) (n := 4) (Nat.le_of_ble_eq_true rfl)
  rw [lg_entry_eq]
  generalize (lg_sl ([.ref h0, .ref wr]) ++ List.replicate (4 - (lg_sl ([.ref h0, .ref wr])).length) Slot.unset).toArray = ls at hl ⊢
  have hl : lv_has ls 4 [(0, .ref h0), (1, .ref wr)] := hl
  refine lv_aload_n hx hb dX4_cut_0 rfl (lv_at hl 0 rfl) ?_
  refine lv_iconst (v := zI 0) hx hb dX4_cut_1 rfl ?_
  refine va_put (D := D) (ci := 4) (v := .int (zI 0)) (ty := .int) (C := RX4) (T := TX4) (N := 10) hx hb hts (fun _ h9 => List.mem_cons_of_mem _ (List.mem_append_left _ (List.mem_append_right _ h9))) tyX4 tyX4_ok nmX4 hown hK hP hD hS 0 rfl rfl 5 (by decide) (hts (.fieldLink RX4 51 "FontRuns$Setting" "count" "I") mw_X4_cut_0) (fun _ h9 => h9) rfl (by decide +kernel) rfl rfl (Nat.le_of_ble_eq_true rfl) dX4_cut_2 (fun H locs hP hD hS => ?_)
  have hP : va_P D vwCl [(h0, .inr (4, [.ref g1, .ref g2, .ref g3, .ref g4, .ref g5, .int (zI 0), .int (zI bo), .int (zI ru), .ref g6, .ref g7])), (g1, .inl (cg1, 24, .inl f1)), (g2, .inl (cg2, 24, .inl f2)), (g6, .inl (cg6, 24, .inl f6)), (wr, .inr (7, [.ref w1, .int (zI wn)])), (w1, .inl (cw1, 24, .inl fw))] H := hP
  have hD : va_D A [(h0, .inr (4, [.ref g1, .ref g2, .ref g3, .ref g4, .ref g5, .int (zI 0), .int (zI bo), .int (zI ru), .ref g6, .ref g7])), (g1, .inl (cg1, 24, .inl f1)), (g2, .inl (cg2, 24, .inl f2)), (g6, .inl (cg6, 24, .inl f6)), (wr, .inr (7, [.ref w1, .int (zI wn)])), (w1, .inl (cw1, 24, .inl fw))] := hD
  refine lv_iconst (v := zI 0) hx hb dX4_cut_5 rfl ?_
  refine lv_istore_n (lv' := [(2, .int (zI 0)), (0, .ref h0), (1, .ref wr)]) hx hb dX4_cut_6 rfl hl (by decide) rfl (fun ls hl => ?_)
  refine k_loopM (I := fun n9 H locs ls => ∃ (jk : Int) (jc : Int) (ja : Nat → Int32) (jb : Nat → Int32) (jl : Nat → Int32), n9 = (wn - jk).toNat ∧ (0 ≤ jk ∧ jk ≤ wn) ∧ (0 ≤ jc ∧ jc ≤ jk) ∧ (jk = 0 ∨ 1 ≤ jc) ∧ va_P D vwCl [(h0, .inr (4, [.ref g1, .ref g2, .ref g3, .ref g4, .ref g5, .int (zI jc), .int (zI bo), .int (zI ru), .ref g6, .ref g7])), (g1, .inl (cg1, 24, .inl ja)), (g2, .inl (cg2, 24, .inl jb)), (g6, .inl (cg6, 24, .inl jl)), (wr, .inr (7, [.ref w1, .int (zI wn)])), (w1, .inl (cw1, 24, .inl fw))] H ∧ va_D A [(h0, .inr (4, [.ref g1, .ref g2, .ref g3, .ref g4, .ref g5, .int (zI jc), .int (zI bo), .int (zI ru), .ref g6, .ref g7])), (g1, .inl (cg1, 24, .inl ja)), (g2, .inl (cg2, 24, .inl jb)), (g6, .inl (cg6, 24, .inl jl)), (wr, .inr (7, [.ref w1, .int (zI wn)])), (w1, .inl (cw1, 24, .inl fw))] ∧ va_S A s.heap H locs ∧ lv_has ls 4 [(2, .int (zI jk)), (0, .ref h0), (1, .ref wr)]) ?_ _ ⟨0, 0, f1, f2, f6, rfl, (by omega), (by omega), (by omega), hP, hD, hS, hl⟩
  intro n7 ih7 H locs ls hI
  obtain ⟨jk, jc, ja, jb, jl, en7, v_70, v_71, v_72, hP, hD, hS, hl⟩ := hI
  refine lv_iload_n hx hb dX4_cut_7 rfl (lv_at hl 0 rfl) ?_
  refine lv_aload_n hx hb dX4_cut_8 rfl (lv_at hl 2 rfl) ?_
  refine va_get (D := D) (ci := 7) (v := .int (zI wn)) (C := RX7) (T := TX7) (N := 2) hx hb hts (fun _ h9 => List.mem_cons_of_mem _ (List.mem_append_right _ h9)) hown hK hP 4 rfl rfl 1 (by decide) (hts (.fieldLink RX4 74 "FontRuns$Writing" "count" "I") mw_X4_cut_1) (fun _ h9 => h9) rfl dX4_cut_9 ?_
  refine kz_icmp_ge (tgt := 113) hx hb dX4_cut_12 (by decide) (by omega) (by omega) (fun c_1 => ?_) (fun c_1 => ?_)
  · have hP9 := hP.sub (ws' := [(h0, .inr (4, [.ref g1, .ref g2, .ref g3, .ref g4, .ref g5, .int (zI jc), .int (zI bo), .int (zI ru), .ref g6, .ref g7])), (g1, .inl (cg1, 24, .inl ja)), (g2, .inl (cg2, 24, .inl jb)), (g6, .inl (cg6, 24, .inl jl)), (wr, .inr (7, [.ref w1, .int (zI wn)])), (w1, .inl (cw1, 24, .inl fw))]) [0, 1, 2, 3, 4, 5] rfl
    have hD9 := hD.sub (ws' := [(h0, .inr (4, [.ref g1, .ref g2, .ref g3, .ref g4, .ref g5, .int (zI jc), .int (zI bo), .int (zI ru), .ref g6, .ref g7])), (g1, .inl (cg1, 24, .inl ja)), (g2, .inl (cg2, 24, .inl jb)), (g6, .inl (cg6, 24, .inl jl)), (wr, .inr (7, [.ref w1, .int (zI wn)])), (w1, .inl (cw1, 24, .inl fw))]) [0, 1, 2, 3, 4, 5] (by decide +kernel) rfl
    exact W.vret hx hb hr (fun t ht hW => kQV_of ⟨jc, ja, jb, jl, (by omega), by rw [ht]; exact hP9, hD9⟩ (hS.F ht)) hS.2.2 dX4_cut_113
  · refine lv_aload_n hx hb dX4_cut_15 rfl (lv_at hl 2 rfl) ?_
    refine va_get (D := D) (ci := 7) (v := .ref w1) (C := RX7) (T := TX7) (N := 2) hx hb hts (fun _ h9 => List.mem_cons_of_mem _ (List.mem_append_right _ h9)) hown hK hP 4 rfl rfl 0 (by decide) (hts (.fieldLink RX4 77 "FontRuns$Writing" "row" "[I") mw_X4_cut_2) (fun _ h9 => h9) rfl dX4_cut_16 ?_
    refine lv_iload_n hx hb dX4_cut_19 rfl (lv_at hl 0 rfl) ?_
    refine kz_iald hx hb hK hP 5 3 rfl rfl (by omega) dX4_cut_20 (fun z_2 rz_2 ez_2 => ?_)
    refine lv_istore_n (lv' := [(3, .int (zI z_2)), (2, .int (zI jk)), (0, .ref h0), (1, .ref wr)]) hx hb dX4_cut_21 rfl hl (by decide) rfl (fun ls hl => ?_)
    refine lv_aload_n hx hb dX4_cut_22 rfl (lv_at hl 2 rfl) ?_
    refine va_get (D := D) (ci := 4) (v := .int (zI jc)) (C := RX4) (T := TX4) (N := 10) hx hb hts (fun _ h9 => List.mem_cons_of_mem _ (List.mem_append_left _ (List.mem_append_right _ h9))) hown hK hP 0 rfl rfl 5 (by decide) (hts (.fieldLink RX4 51 "FontRuns$Setting" "count" "I") mw_X4_cut_0) (fun _ h9 => h9) rfl dX4_cut_23 ?_
    refine kz_if_eq (tgt := 35) hx hb dX4_cut_26 (by decide) (by omega) (fun c_3 => ?_) (fun c_3 => ?_)
    · refine lv_aload_n hx hb dX4_cut_35 rfl (lv_at hl 2 rfl) ?_
      refine va_get (D := D) (ci := 4) (v := .ref g1) (C := RX4) (T := TX4) (N := 10) hx hb hts (fun _ h9 => List.mem_cons_of_mem _ (List.mem_append_left _ (List.mem_append_right _ h9))) hown hK hP 0 rfl rfl 0 (by decide) (hts (.fieldLink RX4 9 "FontRuns$Setting" "first" "[I") mw_X4_cut_3) (fun _ h9 => h9) rfl dX4_cut_36 ?_
      refine lv_aload_n hx hb dX4_cut_39 rfl (lv_at hl 2 rfl) ?_
      refine va_get (D := D) (ci := 4) (v := .int (zI jc)) (C := RX4) (T := TX4) (N := 10) hx hb hts (fun _ h9 => List.mem_cons_of_mem _ (List.mem_append_left _ (List.mem_append_right _ h9))) hown hK hP 0 rfl rfl 5 (by decide) (hts (.fieldLink RX4 51 "FontRuns$Setting" "count" "I") mw_X4_cut_0) (fun _ h9 => h9) rfl dX4_cut_40 ?_
      refine lv_iload_n hx hb dX4_cut_43 rfl (lv_at hl 1 rfl) ?_
      refine kz_iast hx hb hK hP hD hS 1 0 rfl rfl (by omega) dX4_cut_44 (fun H locs hP hD hS => ?_)
      have hP : va_P D vwCl [(h0, .inr (4, [.ref g1, .ref g2, .ref g3, .ref g4, .ref g5, .int (zI jc), .int (zI bo), .int (zI ru), .ref g6, .ref g7])), (g1, .inl (cg1, 24, .inl (upd ja (jc).toNat (zI jk)))), (g2, .inl (cg2, 24, .inl jb)), (g6, .inl (cg6, 24, .inl jl)), (wr, .inr (7, [.ref w1, .int (zI wn)])), (w1, .inl (cw1, 24, .inl fw))] H := hP
      have hD : va_D A [(h0, .inr (4, [.ref g1, .ref g2, .ref g3, .ref g4, .ref g5, .int (zI jc), .int (zI bo), .int (zI ru), .ref g6, .ref g7])), (g1, .inl (cg1, 24, .inl (upd ja (jc).toNat (zI jk)))), (g2, .inl (cg2, 24, .inl jb)), (g6, .inl (cg6, 24, .inl jl)), (wr, .inr (7, [.ref w1, .int (zI wn)])), (w1, .inl (cw1, 24, .inl fw))] := hD
      generalize ef_4 : upd ja (jc).toNat (zI jk) = f_4 at hP hD
      refine lv_aload_n hx hb dX4_cut_45 rfl (lv_at hl 2 rfl) ?_
      refine va_get (D := D) (ci := 4) (v := .ref g2) (C := RX4) (T := TX4) (N := 10) hx hb hts (fun _ h9 => List.mem_cons_of_mem _ (List.mem_append_left _ (List.mem_append_right _ h9))) hown hK hP 0 rfl rfl 1 (by decide) (hts (.fieldLink RX4 15 "FontRuns$Setting" "length" "[I") mw_X4_cut_4) (fun _ h9 => h9) rfl dX4_cut_46 ?_
      refine lv_aload_n hx hb dX4_cut_49 rfl (lv_at hl 2 rfl) ?_
      refine va_get (D := D) (ci := 4) (v := .int (zI jc)) (C := RX4) (T := TX4) (N := 10) hx hb hts (fun _ h9 => List.mem_cons_of_mem _ (List.mem_append_left _ (List.mem_append_right _ h9))) hown hK hP 0 rfl rfl 5 (by decide) (hts (.fieldLink RX4 51 "FontRuns$Setting" "count" "I") mw_X4_cut_0) (fun _ h9 => h9) rfl dX4_cut_50 ?_
      refine lv_iconst (v := zI 0) hx hb dX4_cut_53 rfl ?_
      refine kz_iast hx hb hK hP hD hS 2 1 rfl rfl (by omega) dX4_cut_54 (fun H locs hP hD hS => ?_)
      have hP : va_P D vwCl [(h0, .inr (4, [.ref g1, .ref g2, .ref g3, .ref g4, .ref g5, .int (zI jc), .int (zI bo), .int (zI ru), .ref g6, .ref g7])), (g1, .inl (cg1, 24, .inl f_4)), (g2, .inl (cg2, 24, .inl (upd jb (jc).toNat (zI 0)))), (g6, .inl (cg6, 24, .inl jl)), (wr, .inr (7, [.ref w1, .int (zI wn)])), (w1, .inl (cw1, 24, .inl fw))] H := hP
      have hD : va_D A [(h0, .inr (4, [.ref g1, .ref g2, .ref g3, .ref g4, .ref g5, .int (zI jc), .int (zI bo), .int (zI ru), .ref g6, .ref g7])), (g1, .inl (cg1, 24, .inl f_4)), (g2, .inl (cg2, 24, .inl (upd jb (jc).toNat (zI 0)))), (g6, .inl (cg6, 24, .inl jl)), (wr, .inr (7, [.ref w1, .int (zI wn)])), (w1, .inl (cw1, 24, .inl fw))] := hD
      generalize ef_5 : upd jb (jc).toNat (zI 0) = f_5 at hP hD
      refine lv_aload_n hx hb dX4_cut_55 rfl (lv_at hl 2 rfl) ?_
      refine va_get (D := D) (ci := 4) (v := .ref g6) (C := RX4) (T := TX4) (N := 10) hx hb hts (fun _ h9 => List.mem_cons_of_mem _ (List.mem_append_left _ (List.mem_append_right _ h9))) hown hK hP 0 rfl rfl 8 (by decide) (hts (.fieldLink RX4 27 "FontRuns$Setting" "letters" "[I") mw_X4_cut_5) (fun _ h9 => h9) rfl dX4_cut_56 ?_
      refine lv_aload_n hx hb dX4_cut_59 rfl (lv_at hl 2 rfl) ?_
      refine va_get (D := D) (ci := 4) (v := .int (zI jc)) (C := RX4) (T := TX4) (N := 10) hx hb hts (fun _ h9 => List.mem_cons_of_mem _ (List.mem_append_left _ (List.mem_append_right _ h9))) hown hK hP 0 rfl rfl 5 (by decide) (hts (.fieldLink RX4 51 "FontRuns$Setting" "count" "I") mw_X4_cut_0) (fun _ h9 => h9) rfl dX4_cut_60 ?_
      refine lv_iconst (v := zI 0) hx hb dX4_cut_63 rfl ?_
      refine kz_iast hx hb hK hP hD hS 3 2 rfl rfl (by omega) dX4_cut_64 (fun H locs hP hD hS => ?_)
      have hP : va_P D vwCl [(h0, .inr (4, [.ref g1, .ref g2, .ref g3, .ref g4, .ref g5, .int (zI jc), .int (zI bo), .int (zI ru), .ref g6, .ref g7])), (g1, .inl (cg1, 24, .inl f_4)), (g2, .inl (cg2, 24, .inl f_5)), (g6, .inl (cg6, 24, .inl (upd jl (jc).toNat (zI 0)))), (wr, .inr (7, [.ref w1, .int (zI wn)])), (w1, .inl (cw1, 24, .inl fw))] H := hP
      have hD : va_D A [(h0, .inr (4, [.ref g1, .ref g2, .ref g3, .ref g4, .ref g5, .int (zI jc), .int (zI bo), .int (zI ru), .ref g6, .ref g7])), (g1, .inl (cg1, 24, .inl f_4)), (g2, .inl (cg2, 24, .inl f_5)), (g6, .inl (cg6, 24, .inl (upd jl (jc).toNat (zI 0)))), (wr, .inr (7, [.ref w1, .int (zI wn)])), (w1, .inl (cw1, 24, .inl fw))] := hD
      generalize ef_6 : upd jl (jc).toNat (zI 0) = f_6 at hP hD
      refine lv_aload_n hx hb dX4_cut_65 rfl (lv_at hl 2 rfl) ?_
      refine lv_dup hx hb dX4_cut_66 rfl ?_
      refine va_get (D := D) (ci := 4) (v := .int (zI jc)) (C := RX4) (T := TX4) (N := 10) hx hb hts (fun _ h9 => List.mem_cons_of_mem _ (List.mem_append_left _ (List.mem_append_right _ h9))) hown hK hP 0 rfl rfl 5 (by decide) (hts (.fieldLink RX4 51 "FontRuns$Setting" "count" "I") mw_X4_cut_0) (fun _ h9 => h9) rfl dX4_cut_67 ?_
      refine lv_iconst (v := zI 1) hx hb dX4_cut_70 rfl ?_
      refine kz_iadd hx hb dX4_cut_71 ?_
      refine va_put (D := D) (ci := 4) (v := .int (zI (jc + 1))) (ty := .int) (C := RX4) (T := TX4) (N := 10) hx hb hts (fun _ h9 => List.mem_cons_of_mem _ (List.mem_append_left _ (List.mem_append_right _ h9))) tyX4 tyX4_ok nmX4 hown hK hP hD hS 0 rfl rfl 5 (by decide) (hts (.fieldLink RX4 51 "FontRuns$Setting" "count" "I") mw_X4_cut_0) (fun _ h9 => h9) rfl (by decide +kernel) rfl rfl (Nat.le_of_ble_eq_true rfl) dX4_cut_72 (fun H locs hP hD hS => ?_)
      have hP : va_P D vwCl [(h0, .inr (4, [.ref g1, .ref g2, .ref g3, .ref g4, .ref g5, .int (zI (jc + 1)), .int (zI bo), .int (zI ru), .ref g6, .ref g7])), (g1, .inl (cg1, 24, .inl f_4)), (g2, .inl (cg2, 24, .inl f_5)), (g6, .inl (cg6, 24, .inl f_6)), (wr, .inr (7, [.ref w1, .int (zI wn)])), (w1, .inl (cw1, 24, .inl fw))] H := hP
      have hD : va_D A [(h0, .inr (4, [.ref g1, .ref g2, .ref g3, .ref g4, .ref g5, .int (zI (jc + 1)), .int (zI bo), .int (zI ru), .ref g6, .ref g7])), (g1, .inl (cg1, 24, .inl f_4)), (g2, .inl (cg2, 24, .inl f_5)), (g6, .inl (cg6, 24, .inl f_6)), (wr, .inr (7, [.ref w1, .int (zI wn)])), (w1, .inl (cw1, 24, .inl fw))] := hD
      refine lv_aload_n hx hb dX4_cut_75 rfl (lv_at hl 2 rfl) ?_
      refine va_get (D := D) (ci := 4) (v := .ref g2) (C := RX4) (T := TX4) (N := 10) hx hb hts (fun _ h9 => List.mem_cons_of_mem _ (List.mem_append_left _ (List.mem_append_right _ h9))) hown hK hP 0 rfl rfl 1 (by decide) (hts (.fieldLink RX4 15 "FontRuns$Setting" "length" "[I") mw_X4_cut_4) (fun _ h9 => h9) rfl dX4_cut_76 ?_
      refine lv_aload_n hx hb dX4_cut_79 rfl (lv_at hl 2 rfl) ?_
      refine va_get (D := D) (ci := 4) (v := .int (zI (jc + 1))) (C := RX4) (T := TX4) (N := 10) hx hb hts (fun _ h9 => List.mem_cons_of_mem _ (List.mem_append_left _ (List.mem_append_right _ h9))) hown hK hP 0 rfl rfl 5 (by decide) (hts (.fieldLink RX4 51 "FontRuns$Setting" "count" "I") mw_X4_cut_0) (fun _ h9 => h9) rfl dX4_cut_80 ?_
      refine lv_iconst (v := zI 1) hx hb dX4_cut_83 rfl ?_
      refine kz_isub hx hb dX4_cut_84 ?_
      refine lv_dup2_11 hx hb dX4_cut_85 rfl rfl ?_
      refine kz_iald hx hb hK hP 2 1 rfl rfl (by omega) dX4_cut_86 (fun z_7 rz_7 ez_7 => ?_)
      refine lv_iconst (v := zI 1) hx hb dX4_cut_87 rfl ?_
      refine kz_iadd hx hb dX4_cut_88 ?_
      refine kz_iast hx hb hK hP hD hS 2 1 rfl rfl (by omega) dX4_cut_89 (fun H locs hP hD hS => ?_)
      have hP : va_P D vwCl [(h0, .inr (4, [.ref g1, .ref g2, .ref g3, .ref g4, .ref g5, .int (zI (jc + 1)), .int (zI bo), .int (zI ru), .ref g6, .ref g7])), (g1, .inl (cg1, 24, .inl f_4)), (g2, .inl (cg2, 24, .inl (upd f_5 ((jc + 1) - 1).toNat (zI (z_7 + 1))))), (g6, .inl (cg6, 24, .inl f_6)), (wr, .inr (7, [.ref w1, .int (zI wn)])), (w1, .inl (cw1, 24, .inl fw))] H := hP
      have hD : va_D A [(h0, .inr (4, [.ref g1, .ref g2, .ref g3, .ref g4, .ref g5, .int (zI (jc + 1)), .int (zI bo), .int (zI ru), .ref g6, .ref g7])), (g1, .inl (cg1, 24, .inl f_4)), (g2, .inl (cg2, 24, .inl (upd f_5 ((jc + 1) - 1).toNat (zI (z_7 + 1))))), (g6, .inl (cg6, 24, .inl f_6)), (wr, .inr (7, [.ref w1, .int (zI wn)])), (w1, .inl (cw1, 24, .inl fw))] := hD
      generalize ef_8 : upd f_5 ((jc + 1) - 1).toNat (zI (z_7 + 1)) = f_8 at hP hD
      refine lv_aload_n hx hb dX4_cut_90 rfl (lv_at hl 2 rfl) ?_
      refine va_get (D := D) (ci := 4) (v := .ref g6) (C := RX4) (T := TX4) (N := 10) hx hb hts (fun _ h9 => List.mem_cons_of_mem _ (List.mem_append_left _ (List.mem_append_right _ h9))) hown hK hP 0 rfl rfl 8 (by decide) (hts (.fieldLink RX4 27 "FontRuns$Setting" "letters" "[I") mw_X4_cut_5) (fun _ h9 => h9) rfl dX4_cut_91 ?_
      refine lv_aload_n hx hb dX4_cut_94 rfl (lv_at hl 2 rfl) ?_
      refine va_get (D := D) (ci := 4) (v := .int (zI (jc + 1))) (C := RX4) (T := TX4) (N := 10) hx hb hts (fun _ h9 => List.mem_cons_of_mem _ (List.mem_append_left _ (List.mem_append_right _ h9))) hown hK hP 0 rfl rfl 5 (by decide) (hts (.fieldLink RX4 51 "FontRuns$Setting" "count" "I") mw_X4_cut_0) (fun _ h9 => h9) rfl dX4_cut_95 ?_
      refine lv_iconst (v := zI 1) hx hb dX4_cut_98 rfl ?_
      refine kz_isub hx hb dX4_cut_99 ?_
      refine lv_dup2_11 hx hb dX4_cut_100 rfl rfl ?_
      refine kz_iald hx hb hK hP 3 2 rfl rfl (by omega) dX4_cut_101 (fun z_9 rz_9 ez_9 => ?_)
      refine lv_iconst (v := zI 1) hx hb dX4_cut_102 rfl ?_
      refine lv_iload_n hx hb dX4_cut_103 rfl (lv_at hl 0 rfl) ?_
      refine lv_ishl hx hb dX4_cut_104 ?_
      refine kz_any (fun z_10 rz_10 ez_10 => ?_)
      refine lv_ior hx hb dX4_cut_105 ?_
      refine kz_any (fun z_11 rz_11 ez_11 => ?_)
      refine kz_iast hx hb hK hP hD hS 3 2 rfl rfl (by omega) dX4_cut_106 (fun H locs hP hD hS => ?_)
      have hP : va_P D vwCl [(h0, .inr (4, [.ref g1, .ref g2, .ref g3, .ref g4, .ref g5, .int (zI (jc + 1)), .int (zI bo), .int (zI ru), .ref g6, .ref g7])), (g1, .inl (cg1, 24, .inl f_4)), (g2, .inl (cg2, 24, .inl f_8)), (g6, .inl (cg6, 24, .inl (upd f_6 ((jc + 1) - 1).toNat (zI z_11)))), (wr, .inr (7, [.ref w1, .int (zI wn)])), (w1, .inl (cw1, 24, .inl fw))] H := hP
      have hD : va_D A [(h0, .inr (4, [.ref g1, .ref g2, .ref g3, .ref g4, .ref g5, .int (zI (jc + 1)), .int (zI bo), .int (zI ru), .ref g6, .ref g7])), (g1, .inl (cg1, 24, .inl f_4)), (g2, .inl (cg2, 24, .inl f_8)), (g6, .inl (cg6, 24, .inl (upd f_6 ((jc + 1) - 1).toNat (zI z_11)))), (wr, .inr (7, [.ref w1, .int (zI wn)])), (w1, .inl (cw1, 24, .inl fw))] := hD
      generalize ef_12 : upd f_6 ((jc + 1) - 1).toNat (zI z_11) = f_12 at hP hD
      refine lv_iinc (v := (zI (jk + 1))) (lv' := [(2, .int (zI (jk + 1))), (3, .int (zI z_2)), (0, .ref h0), (1, .ref wr)]) hx hb dX4_cut_107 hl (k := 1) rfl (kz_inc _ 1) (by decide) rfl (fun ls hl => ?_)
      refine lv_goto (tgt := 7) hx hb dX4_cut_110 (by decide) ?_
      exact ih7 _ (by omega) _ _ _ ⟨(jk + 1), (jc + 1), f_4, f_8, f_12, rfl, (by omega), (by omega), (by omega), hP, hD, hS, lv_sub hl [0, 2, 3] rfl⟩
    · refine lv_iload_n hx hb dX4_cut_29 rfl (lv_at hl 0 rfl) ?_
      refine lv_bipush (v := zI 12) hx hb dX4_cut_30 (by decide) ?_
      refine kz_icmp_ge (tgt := 75) hx hb dX4_cut_32 (by decide) (by omega) (by omega) (fun c_13 => ?_) (fun c_13 => ?_)
      · refine lv_aload_n hx hb dX4_cut_75 rfl (lv_at hl 2 rfl) ?_
        refine va_get (D := D) (ci := 4) (v := .ref g2) (C := RX4) (T := TX4) (N := 10) hx hb hts (fun _ h9 => List.mem_cons_of_mem _ (List.mem_append_left _ (List.mem_append_right _ h9))) hown hK hP 0 rfl rfl 1 (by decide) (hts (.fieldLink RX4 15 "FontRuns$Setting" "length" "[I") mw_X4_cut_4) (fun _ h9 => h9) rfl dX4_cut_76 ?_
        refine lv_aload_n hx hb dX4_cut_79 rfl (lv_at hl 2 rfl) ?_
        refine va_get (D := D) (ci := 4) (v := .int (zI jc)) (C := RX4) (T := TX4) (N := 10) hx hb hts (fun _ h9 => List.mem_cons_of_mem _ (List.mem_append_left _ (List.mem_append_right _ h9))) hown hK hP 0 rfl rfl 5 (by decide) (hts (.fieldLink RX4 51 "FontRuns$Setting" "count" "I") mw_X4_cut_0) (fun _ h9 => h9) rfl dX4_cut_80 ?_
        refine lv_iconst (v := zI 1) hx hb dX4_cut_83 rfl ?_
        refine kz_isub hx hb dX4_cut_84 ?_
        refine lv_dup2_11 hx hb dX4_cut_85 rfl rfl ?_
        refine kz_iald hx hb hK hP 2 1 rfl rfl (by omega) dX4_cut_86 (fun z_14 rz_14 ez_14 => ?_)
        refine lv_iconst (v := zI 1) hx hb dX4_cut_87 rfl ?_
        refine kz_iadd hx hb dX4_cut_88 ?_
        refine kz_iast hx hb hK hP hD hS 2 1 rfl rfl (by omega) dX4_cut_89 (fun H locs hP hD hS => ?_)
        have hP : va_P D vwCl [(h0, .inr (4, [.ref g1, .ref g2, .ref g3, .ref g4, .ref g5, .int (zI jc), .int (zI bo), .int (zI ru), .ref g6, .ref g7])), (g1, .inl (cg1, 24, .inl ja)), (g2, .inl (cg2, 24, .inl (upd jb (jc - 1).toNat (zI (z_14 + 1))))), (g6, .inl (cg6, 24, .inl jl)), (wr, .inr (7, [.ref w1, .int (zI wn)])), (w1, .inl (cw1, 24, .inl fw))] H := hP
        have hD : va_D A [(h0, .inr (4, [.ref g1, .ref g2, .ref g3, .ref g4, .ref g5, .int (zI jc), .int (zI bo), .int (zI ru), .ref g6, .ref g7])), (g1, .inl (cg1, 24, .inl ja)), (g2, .inl (cg2, 24, .inl (upd jb (jc - 1).toNat (zI (z_14 + 1))))), (g6, .inl (cg6, 24, .inl jl)), (wr, .inr (7, [.ref w1, .int (zI wn)])), (w1, .inl (cw1, 24, .inl fw))] := hD
        generalize ef_15 : upd jb (jc - 1).toNat (zI (z_14 + 1)) = f_15 at hP hD
        refine lv_aload_n hx hb dX4_cut_90 rfl (lv_at hl 2 rfl) ?_
        refine va_get (D := D) (ci := 4) (v := .ref g6) (C := RX4) (T := TX4) (N := 10) hx hb hts (fun _ h9 => List.mem_cons_of_mem _ (List.mem_append_left _ (List.mem_append_right _ h9))) hown hK hP 0 rfl rfl 8 (by decide) (hts (.fieldLink RX4 27 "FontRuns$Setting" "letters" "[I") mw_X4_cut_5) (fun _ h9 => h9) rfl dX4_cut_91 ?_
        refine lv_aload_n hx hb dX4_cut_94 rfl (lv_at hl 2 rfl) ?_
        refine va_get (D := D) (ci := 4) (v := .int (zI jc)) (C := RX4) (T := TX4) (N := 10) hx hb hts (fun _ h9 => List.mem_cons_of_mem _ (List.mem_append_left _ (List.mem_append_right _ h9))) hown hK hP 0 rfl rfl 5 (by decide) (hts (.fieldLink RX4 51 "FontRuns$Setting" "count" "I") mw_X4_cut_0) (fun _ h9 => h9) rfl dX4_cut_95 ?_
        refine lv_iconst (v := zI 1) hx hb dX4_cut_98 rfl ?_
        refine kz_isub hx hb dX4_cut_99 ?_
        refine lv_dup2_11 hx hb dX4_cut_100 rfl rfl ?_
        refine kz_iald hx hb hK hP 3 2 rfl rfl (by omega) dX4_cut_101 (fun z_16 rz_16 ez_16 => ?_)
        refine lv_iconst (v := zI 1) hx hb dX4_cut_102 rfl ?_
        refine lv_iload_n hx hb dX4_cut_103 rfl (lv_at hl 0 rfl) ?_
        refine lv_ishl hx hb dX4_cut_104 ?_
        refine kz_any (fun z_17 rz_17 ez_17 => ?_)
        refine lv_ior hx hb dX4_cut_105 ?_
        refine kz_any (fun z_18 rz_18 ez_18 => ?_)
        refine kz_iast hx hb hK hP hD hS 3 2 rfl rfl (by omega) dX4_cut_106 (fun H locs hP hD hS => ?_)
        have hP : va_P D vwCl [(h0, .inr (4, [.ref g1, .ref g2, .ref g3, .ref g4, .ref g5, .int (zI jc), .int (zI bo), .int (zI ru), .ref g6, .ref g7])), (g1, .inl (cg1, 24, .inl ja)), (g2, .inl (cg2, 24, .inl f_15)), (g6, .inl (cg6, 24, .inl (upd jl (jc - 1).toNat (zI z_18)))), (wr, .inr (7, [.ref w1, .int (zI wn)])), (w1, .inl (cw1, 24, .inl fw))] H := hP
        have hD : va_D A [(h0, .inr (4, [.ref g1, .ref g2, .ref g3, .ref g4, .ref g5, .int (zI jc), .int (zI bo), .int (zI ru), .ref g6, .ref g7])), (g1, .inl (cg1, 24, .inl ja)), (g2, .inl (cg2, 24, .inl f_15)), (g6, .inl (cg6, 24, .inl (upd jl (jc - 1).toNat (zI z_18)))), (wr, .inr (7, [.ref w1, .int (zI wn)])), (w1, .inl (cw1, 24, .inl fw))] := hD
        generalize ef_19 : upd jl (jc - 1).toNat (zI z_18) = f_19 at hP hD
        refine lv_iinc (v := (zI (jk + 1))) (lv' := [(2, .int (zI (jk + 1))), (3, .int (zI z_2)), (0, .ref h0), (1, .ref wr)]) hx hb dX4_cut_107 hl (k := 1) rfl (kz_inc _ 1) (by decide) rfl (fun ls hl => ?_)
        refine lv_goto (tgt := 7) hx hb dX4_cut_110 (by decide) ?_
        exact ih7 _ (by omega) _ _ _ ⟨(jk + 1), jc, ja, f_15, f_19, rfl, (by omega), (by omega), (by omega), hP, hD, hS, lv_sub hl [0, 2, 3] rfl⟩
      · refine lv_aload_n hx hb dX4_cut_35 rfl (lv_at hl 2 rfl) ?_
        refine va_get (D := D) (ci := 4) (v := .ref g1) (C := RX4) (T := TX4) (N := 10) hx hb hts (fun _ h9 => List.mem_cons_of_mem _ (List.mem_append_left _ (List.mem_append_right _ h9))) hown hK hP 0 rfl rfl 0 (by decide) (hts (.fieldLink RX4 9 "FontRuns$Setting" "first" "[I") mw_X4_cut_3) (fun _ h9 => h9) rfl dX4_cut_36 ?_
        refine lv_aload_n hx hb dX4_cut_39 rfl (lv_at hl 2 rfl) ?_
        refine va_get (D := D) (ci := 4) (v := .int (zI jc)) (C := RX4) (T := TX4) (N := 10) hx hb hts (fun _ h9 => List.mem_cons_of_mem _ (List.mem_append_left _ (List.mem_append_right _ h9))) hown hK hP 0 rfl rfl 5 (by decide) (hts (.fieldLink RX4 51 "FontRuns$Setting" "count" "I") mw_X4_cut_0) (fun _ h9 => h9) rfl dX4_cut_40 ?_
        refine lv_iload_n hx hb dX4_cut_43 rfl (lv_at hl 1 rfl) ?_
        refine kz_iast hx hb hK hP hD hS 1 0 rfl rfl (by omega) dX4_cut_44 (fun H locs hP hD hS => ?_)
        have hP : va_P D vwCl [(h0, .inr (4, [.ref g1, .ref g2, .ref g3, .ref g4, .ref g5, .int (zI jc), .int (zI bo), .int (zI ru), .ref g6, .ref g7])), (g1, .inl (cg1, 24, .inl (upd ja (jc).toNat (zI jk)))), (g2, .inl (cg2, 24, .inl jb)), (g6, .inl (cg6, 24, .inl jl)), (wr, .inr (7, [.ref w1, .int (zI wn)])), (w1, .inl (cw1, 24, .inl fw))] H := hP
        have hD : va_D A [(h0, .inr (4, [.ref g1, .ref g2, .ref g3, .ref g4, .ref g5, .int (zI jc), .int (zI bo), .int (zI ru), .ref g6, .ref g7])), (g1, .inl (cg1, 24, .inl (upd ja (jc).toNat (zI jk)))), (g2, .inl (cg2, 24, .inl jb)), (g6, .inl (cg6, 24, .inl jl)), (wr, .inr (7, [.ref w1, .int (zI wn)])), (w1, .inl (cw1, 24, .inl fw))] := hD
        generalize ef_20 : upd ja (jc).toNat (zI jk) = f_20 at hP hD
        refine lv_aload_n hx hb dX4_cut_45 rfl (lv_at hl 2 rfl) ?_
        refine va_get (D := D) (ci := 4) (v := .ref g2) (C := RX4) (T := TX4) (N := 10) hx hb hts (fun _ h9 => List.mem_cons_of_mem _ (List.mem_append_left _ (List.mem_append_right _ h9))) hown hK hP 0 rfl rfl 1 (by decide) (hts (.fieldLink RX4 15 "FontRuns$Setting" "length" "[I") mw_X4_cut_4) (fun _ h9 => h9) rfl dX4_cut_46 ?_
        refine lv_aload_n hx hb dX4_cut_49 rfl (lv_at hl 2 rfl) ?_
        refine va_get (D := D) (ci := 4) (v := .int (zI jc)) (C := RX4) (T := TX4) (N := 10) hx hb hts (fun _ h9 => List.mem_cons_of_mem _ (List.mem_append_left _ (List.mem_append_right _ h9))) hown hK hP 0 rfl rfl 5 (by decide) (hts (.fieldLink RX4 51 "FontRuns$Setting" "count" "I") mw_X4_cut_0) (fun _ h9 => h9) rfl dX4_cut_50 ?_
        refine lv_iconst (v := zI 0) hx hb dX4_cut_53 rfl ?_
        refine kz_iast hx hb hK hP hD hS 2 1 rfl rfl (by omega) dX4_cut_54 (fun H locs hP hD hS => ?_)
        have hP : va_P D vwCl [(h0, .inr (4, [.ref g1, .ref g2, .ref g3, .ref g4, .ref g5, .int (zI jc), .int (zI bo), .int (zI ru), .ref g6, .ref g7])), (g1, .inl (cg1, 24, .inl f_20)), (g2, .inl (cg2, 24, .inl (upd jb (jc).toNat (zI 0)))), (g6, .inl (cg6, 24, .inl jl)), (wr, .inr (7, [.ref w1, .int (zI wn)])), (w1, .inl (cw1, 24, .inl fw))] H := hP
        have hD : va_D A [(h0, .inr (4, [.ref g1, .ref g2, .ref g3, .ref g4, .ref g5, .int (zI jc), .int (zI bo), .int (zI ru), .ref g6, .ref g7])), (g1, .inl (cg1, 24, .inl f_20)), (g2, .inl (cg2, 24, .inl (upd jb (jc).toNat (zI 0)))), (g6, .inl (cg6, 24, .inl jl)), (wr, .inr (7, [.ref w1, .int (zI wn)])), (w1, .inl (cw1, 24, .inl fw))] := hD
        generalize ef_21 : upd jb (jc).toNat (zI 0) = f_21 at hP hD
        refine lv_aload_n hx hb dX4_cut_55 rfl (lv_at hl 2 rfl) ?_
        refine va_get (D := D) (ci := 4) (v := .ref g6) (C := RX4) (T := TX4) (N := 10) hx hb hts (fun _ h9 => List.mem_cons_of_mem _ (List.mem_append_left _ (List.mem_append_right _ h9))) hown hK hP 0 rfl rfl 8 (by decide) (hts (.fieldLink RX4 27 "FontRuns$Setting" "letters" "[I") mw_X4_cut_5) (fun _ h9 => h9) rfl dX4_cut_56 ?_
        refine lv_aload_n hx hb dX4_cut_59 rfl (lv_at hl 2 rfl) ?_
        refine va_get (D := D) (ci := 4) (v := .int (zI jc)) (C := RX4) (T := TX4) (N := 10) hx hb hts (fun _ h9 => List.mem_cons_of_mem _ (List.mem_append_left _ (List.mem_append_right _ h9))) hown hK hP 0 rfl rfl 5 (by decide) (hts (.fieldLink RX4 51 "FontRuns$Setting" "count" "I") mw_X4_cut_0) (fun _ h9 => h9) rfl dX4_cut_60 ?_
        refine lv_iconst (v := zI 0) hx hb dX4_cut_63 rfl ?_
        refine kz_iast hx hb hK hP hD hS 3 2 rfl rfl (by omega) dX4_cut_64 (fun H locs hP hD hS => ?_)
        have hP : va_P D vwCl [(h0, .inr (4, [.ref g1, .ref g2, .ref g3, .ref g4, .ref g5, .int (zI jc), .int (zI bo), .int (zI ru), .ref g6, .ref g7])), (g1, .inl (cg1, 24, .inl f_20)), (g2, .inl (cg2, 24, .inl f_21)), (g6, .inl (cg6, 24, .inl (upd jl (jc).toNat (zI 0)))), (wr, .inr (7, [.ref w1, .int (zI wn)])), (w1, .inl (cw1, 24, .inl fw))] H := hP
        have hD : va_D A [(h0, .inr (4, [.ref g1, .ref g2, .ref g3, .ref g4, .ref g5, .int (zI jc), .int (zI bo), .int (zI ru), .ref g6, .ref g7])), (g1, .inl (cg1, 24, .inl f_20)), (g2, .inl (cg2, 24, .inl f_21)), (g6, .inl (cg6, 24, .inl (upd jl (jc).toNat (zI 0)))), (wr, .inr (7, [.ref w1, .int (zI wn)])), (w1, .inl (cw1, 24, .inl fw))] := hD
        generalize ef_22 : upd jl (jc).toNat (zI 0) = f_22 at hP hD
        refine lv_aload_n hx hb dX4_cut_65 rfl (lv_at hl 2 rfl) ?_
        refine lv_dup hx hb dX4_cut_66 rfl ?_
        refine va_get (D := D) (ci := 4) (v := .int (zI jc)) (C := RX4) (T := TX4) (N := 10) hx hb hts (fun _ h9 => List.mem_cons_of_mem _ (List.mem_append_left _ (List.mem_append_right _ h9))) hown hK hP 0 rfl rfl 5 (by decide) (hts (.fieldLink RX4 51 "FontRuns$Setting" "count" "I") mw_X4_cut_0) (fun _ h9 => h9) rfl dX4_cut_67 ?_
        refine lv_iconst (v := zI 1) hx hb dX4_cut_70 rfl ?_
        refine kz_iadd hx hb dX4_cut_71 ?_
        refine va_put (D := D) (ci := 4) (v := .int (zI (jc + 1))) (ty := .int) (C := RX4) (T := TX4) (N := 10) hx hb hts (fun _ h9 => List.mem_cons_of_mem _ (List.mem_append_left _ (List.mem_append_right _ h9))) tyX4 tyX4_ok nmX4 hown hK hP hD hS 0 rfl rfl 5 (by decide) (hts (.fieldLink RX4 51 "FontRuns$Setting" "count" "I") mw_X4_cut_0) (fun _ h9 => h9) rfl (by decide +kernel) rfl rfl (Nat.le_of_ble_eq_true rfl) dX4_cut_72 (fun H locs hP hD hS => ?_)
        have hP : va_P D vwCl [(h0, .inr (4, [.ref g1, .ref g2, .ref g3, .ref g4, .ref g5, .int (zI (jc + 1)), .int (zI bo), .int (zI ru), .ref g6, .ref g7])), (g1, .inl (cg1, 24, .inl f_20)), (g2, .inl (cg2, 24, .inl f_21)), (g6, .inl (cg6, 24, .inl f_22)), (wr, .inr (7, [.ref w1, .int (zI wn)])), (w1, .inl (cw1, 24, .inl fw))] H := hP
        have hD : va_D A [(h0, .inr (4, [.ref g1, .ref g2, .ref g3, .ref g4, .ref g5, .int (zI (jc + 1)), .int (zI bo), .int (zI ru), .ref g6, .ref g7])), (g1, .inl (cg1, 24, .inl f_20)), (g2, .inl (cg2, 24, .inl f_21)), (g6, .inl (cg6, 24, .inl f_22)), (wr, .inr (7, [.ref w1, .int (zI wn)])), (w1, .inl (cw1, 24, .inl fw))] := hD
        refine lv_aload_n hx hb dX4_cut_75 rfl (lv_at hl 2 rfl) ?_
        refine va_get (D := D) (ci := 4) (v := .ref g2) (C := RX4) (T := TX4) (N := 10) hx hb hts (fun _ h9 => List.mem_cons_of_mem _ (List.mem_append_left _ (List.mem_append_right _ h9))) hown hK hP 0 rfl rfl 1 (by decide) (hts (.fieldLink RX4 15 "FontRuns$Setting" "length" "[I") mw_X4_cut_4) (fun _ h9 => h9) rfl dX4_cut_76 ?_
        refine lv_aload_n hx hb dX4_cut_79 rfl (lv_at hl 2 rfl) ?_
        refine va_get (D := D) (ci := 4) (v := .int (zI (jc + 1))) (C := RX4) (T := TX4) (N := 10) hx hb hts (fun _ h9 => List.mem_cons_of_mem _ (List.mem_append_left _ (List.mem_append_right _ h9))) hown hK hP 0 rfl rfl 5 (by decide) (hts (.fieldLink RX4 51 "FontRuns$Setting" "count" "I") mw_X4_cut_0) (fun _ h9 => h9) rfl dX4_cut_80 ?_
        refine lv_iconst (v := zI 1) hx hb dX4_cut_83 rfl ?_
        refine kz_isub hx hb dX4_cut_84 ?_
        refine lv_dup2_11 hx hb dX4_cut_85 rfl rfl ?_
        refine kz_iald hx hb hK hP 2 1 rfl rfl (by omega) dX4_cut_86 (fun z_23 rz_23 ez_23 => ?_)
        refine lv_iconst (v := zI 1) hx hb dX4_cut_87 rfl ?_
        refine kz_iadd hx hb dX4_cut_88 ?_
        refine kz_iast hx hb hK hP hD hS 2 1 rfl rfl (by omega) dX4_cut_89 (fun H locs hP hD hS => ?_)
        have hP : va_P D vwCl [(h0, .inr (4, [.ref g1, .ref g2, .ref g3, .ref g4, .ref g5, .int (zI (jc + 1)), .int (zI bo), .int (zI ru), .ref g6, .ref g7])), (g1, .inl (cg1, 24, .inl f_20)), (g2, .inl (cg2, 24, .inl (upd f_21 ((jc + 1) - 1).toNat (zI (z_23 + 1))))), (g6, .inl (cg6, 24, .inl f_22)), (wr, .inr (7, [.ref w1, .int (zI wn)])), (w1, .inl (cw1, 24, .inl fw))] H := hP
        have hD : va_D A [(h0, .inr (4, [.ref g1, .ref g2, .ref g3, .ref g4, .ref g5, .int (zI (jc + 1)), .int (zI bo), .int (zI ru), .ref g6, .ref g7])), (g1, .inl (cg1, 24, .inl f_20)), (g2, .inl (cg2, 24, .inl (upd f_21 ((jc + 1) - 1).toNat (zI (z_23 + 1))))), (g6, .inl (cg6, 24, .inl f_22)), (wr, .inr (7, [.ref w1, .int (zI wn)])), (w1, .inl (cw1, 24, .inl fw))] := hD
        generalize ef_24 : upd f_21 ((jc + 1) - 1).toNat (zI (z_23 + 1)) = f_24 at hP hD
        refine lv_aload_n hx hb dX4_cut_90 rfl (lv_at hl 2 rfl) ?_
        refine va_get (D := D) (ci := 4) (v := .ref g6) (C := RX4) (T := TX4) (N := 10) hx hb hts (fun _ h9 => List.mem_cons_of_mem _ (List.mem_append_left _ (List.mem_append_right _ h9))) hown hK hP 0 rfl rfl 8 (by decide) (hts (.fieldLink RX4 27 "FontRuns$Setting" "letters" "[I") mw_X4_cut_5) (fun _ h9 => h9) rfl dX4_cut_91 ?_
        refine lv_aload_n hx hb dX4_cut_94 rfl (lv_at hl 2 rfl) ?_
        refine va_get (D := D) (ci := 4) (v := .int (zI (jc + 1))) (C := RX4) (T := TX4) (N := 10) hx hb hts (fun _ h9 => List.mem_cons_of_mem _ (List.mem_append_left _ (List.mem_append_right _ h9))) hown hK hP 0 rfl rfl 5 (by decide) (hts (.fieldLink RX4 51 "FontRuns$Setting" "count" "I") mw_X4_cut_0) (fun _ h9 => h9) rfl dX4_cut_95 ?_
        refine lv_iconst (v := zI 1) hx hb dX4_cut_98 rfl ?_
        refine kz_isub hx hb dX4_cut_99 ?_
        refine lv_dup2_11 hx hb dX4_cut_100 rfl rfl ?_
        refine kz_iald hx hb hK hP 3 2 rfl rfl (by omega) dX4_cut_101 (fun z_25 rz_25 ez_25 => ?_)
        refine lv_iconst (v := zI 1) hx hb dX4_cut_102 rfl ?_
        refine lv_iload_n hx hb dX4_cut_103 rfl (lv_at hl 0 rfl) ?_
        refine lv_ishl hx hb dX4_cut_104 ?_
        refine kz_any (fun z_26 rz_26 ez_26 => ?_)
        refine lv_ior hx hb dX4_cut_105 ?_
        refine kz_any (fun z_27 rz_27 ez_27 => ?_)
        refine kz_iast hx hb hK hP hD hS 3 2 rfl rfl (by omega) dX4_cut_106 (fun H locs hP hD hS => ?_)
        have hP : va_P D vwCl [(h0, .inr (4, [.ref g1, .ref g2, .ref g3, .ref g4, .ref g5, .int (zI (jc + 1)), .int (zI bo), .int (zI ru), .ref g6, .ref g7])), (g1, .inl (cg1, 24, .inl f_20)), (g2, .inl (cg2, 24, .inl f_24)), (g6, .inl (cg6, 24, .inl (upd f_22 ((jc + 1) - 1).toNat (zI z_27)))), (wr, .inr (7, [.ref w1, .int (zI wn)])), (w1, .inl (cw1, 24, .inl fw))] H := hP
        have hD : va_D A [(h0, .inr (4, [.ref g1, .ref g2, .ref g3, .ref g4, .ref g5, .int (zI (jc + 1)), .int (zI bo), .int (zI ru), .ref g6, .ref g7])), (g1, .inl (cg1, 24, .inl f_20)), (g2, .inl (cg2, 24, .inl f_24)), (g6, .inl (cg6, 24, .inl (upd f_22 ((jc + 1) - 1).toNat (zI z_27)))), (wr, .inr (7, [.ref w1, .int (zI wn)])), (w1, .inl (cw1, 24, .inl fw))] := hD
        generalize ef_28 : upd f_22 ((jc + 1) - 1).toNat (zI z_27) = f_28 at hP hD
        refine lv_iinc (v := (zI (jk + 1))) (lv' := [(2, .int (zI (jk + 1))), (3, .int (zI z_2)), (0, .ref h0), (1, .ref wr)]) hx hb dX4_cut_107 hl (k := 1) rfl (kz_inc _ 1) (by decide) rfl (fun ls hl => ?_)
        refine lv_goto (tgt := 7) hx hb dX4_cut_110 (by decide) ?_
        exact ih7 _ (by omega) _ _ _ ⟨(jk + 1), (jc + 1), f_20, f_24, f_28, rfl, (by omega), (by omega), (by omega), hP, hD, hS, lv_sub hl [0, 2, 3] rfl⟩
theorem dX4_findFitting_0 : decode cX4_findFitting 0 = .ok (.aload_n 0, 1) := by decide +kernel
theorem dX4_findFitting_1 : decode cX4_findFitting 1 = .ok (.iconst 0, 1) := by decide +kernel
theorem dX4_findFitting_2 : decode cX4_findFitting 2 = .ok (.putfield 80, 3) := by decide +kernel
theorem dX4_findFitting_5 : decode cX4_findFitting 5 = .ok (.iconst 0, 1) := by decide +kernel
theorem dX4_findFitting_6 : decode cX4_findFitting 6 = .ok (.istore_n 3, 1) := by decide +kernel
theorem dX4_findFitting_7 : decode cX4_findFitting 7 = .ok (.iload_n 3, 1) := by decide +kernel
theorem dX4_findFitting_8 : decode cX4_findFitting 8 = .ok (.aload_n 0, 1) := by decide +kernel
theorem dX4_findFitting_9 : decode cX4_findFitting 9 = .ok (.getfield 51, 3) := by decide +kernel
theorem dX4_findFitting_12 : decode cX4_findFitting 12 = .ok (.if_icmp .ge 46, 3) := by decide +kernel
theorem dX4_findFitting_15 : decode cX4_findFitting 15 = .ok (.aload_n 0, 1) := by decide +kernel
theorem dX4_findFitting_16 : decode cX4_findFitting 16 = .ok (.getfield 18, 3) := by decide +kernel
theorem dX4_findFitting_19 : decode cX4_findFitting 19 = .ok (.iload_n 3, 1) := by decide +kernel
theorem dX4_findFitting_20 : decode cX4_findFitting 20 = .ok (.aload_n 1, 1) := by decide +kernel
theorem dX4_findFitting_21 : decode cX4_findFitting 21 = .ok (.aload_n 0, 1) := by decide +kernel
theorem dX4_findFitting_22 : decode cX4_findFitting 22 = .ok (.getfield 27, 3) := by decide +kernel
theorem dX4_findFitting_25 : decode cX4_findFitting 25 = .ok (.iload_n 3, 1) := by decide +kernel
theorem dX4_findFitting_26 : decode cX4_findFitting 26 = .ok (.iaload, 1) := by decide +kernel
theorem dX4_findFitting_27 : decode cX4_findFitting 27 = .ok (.invokevirtual 83, 3) := by decide +kernel
theorem dX4_findFitting_30 : decode cX4_findFitting 30 = .ok (.iload_n 2, 1) := by decide +kernel
theorem dX4_findFitting_31 : decode cX4_findFitting 31 = .ok (.iand, 1) := by decide +kernel
theorem dX4_findFitting_32 : decode cX4_findFitting 32 = .ok (.iastore, 1) := by decide +kernel
theorem dX4_findFitting_33 : decode cX4_findFitting 33 = .ok (.aload_n 0, 1) := by decide +kernel
theorem dX4_findFitting_34 : decode cX4_findFitting 34 = .ok (.getfield 18, 3) := by decide +kernel
theorem dX4_findFitting_37 : decode cX4_findFitting 37 = .ok (.iload_n 3, 1) := by decide +kernel
theorem dX4_findFitting_38 : decode cX4_findFitting 38 = .ok (.iaload, 1) := by decide +kernel
theorem dX4_findFitting_39 : decode cX4_findFitting 39 = .ok (.ifCond .ne 13, 3) := by decide +kernel
theorem dX4_findFitting_42 : decode cX4_findFitting 42 = .ok (.aload_n 0, 1) := by decide +kernel
theorem dX4_findFitting_43 : decode cX4_findFitting 43 = .ok (.dup, 1) := by decide +kernel
theorem dX4_findFitting_44 : decode cX4_findFitting 44 = .ok (.getfield 80, 3) := by decide +kernel
theorem dX4_findFitting_47 : decode cX4_findFitting 47 = .ok (.iconst 1, 1) := by decide +kernel
theorem dX4_findFitting_48 : decode cX4_findFitting 48 = .ok (.iadd, 1) := by decide +kernel
theorem dX4_findFitting_49 : decode cX4_findFitting 49 = .ok (.putfield 80, 3) := by decide +kernel
theorem dX4_findFitting_52 : decode cX4_findFitting 52 = .ok (.iinc 3 1, 3) := by decide +kernel
theorem dX4_findFitting_55 : decode cX4_findFitting 55 = .ok (.goto (-48), 3) := by decide +kernel
theorem dX4_findFitting_58 : decode cX4_findFitting 58 = .ok (.return_, 1) := by decide +kernel
set_option maxRecDepth 20000 in
theorem ggX4_findFitting_X0_fitting : GoodIn wsX4_findFitting wsX0_fitting := goodIn_4 _ (List.forall_mem_cons.mpr ⟨List.mem_cons_of_mem _ (List.mem_append_left _ (List.mem_append_left _ (List.mem_of_getElem? (i := 8) rfl))), List.forall_mem_append.mpr ⟨List.forall_mem_cons.mpr ⟨List.mem_cons_of_mem _ (List.mem_append_left _ (List.mem_append_left _ (List.mem_of_getElem? (i := 9) rfl))), List.forall_mem_cons.mpr ⟨List.mem_cons_of_mem _ (List.mem_append_left _ (List.mem_append_left _ (List.mem_of_getElem? (i := 10) rfl))), fun _ h9 => absurd h9 List.not_mem_nil⟩⟩, fun w h9 => List.mem_cons_of_mem _ (List.mem_append_right _ (h9))⟩⟩) (by decide +kernel)
set_option maxRecDepth 20000 in
theorem gX4_findFitting_X0_fitting : GoodIn wsX4_findFitting (wsV RX4 83 RX0 yX0_fitting wsX0_fitting) := goodIn_app (goodIn_4 _ (List.forall_mem_cons.mpr ⟨List.mem_cons_of_mem _ (List.mem_append_left _ (List.mem_append_left _ (List.mem_of_getElem? (i := 4) rfl))), List.forall_mem_cons.mpr ⟨List.mem_cons_of_mem _ (List.mem_append_left _ (List.mem_append_left _ (List.mem_of_getElem? (i := 5) rfl))), List.forall_mem_cons.mpr ⟨List.mem_cons_of_mem _ (List.mem_append_left _ (List.mem_append_left _ (List.mem_of_getElem? (i := 6) rfl))), List.forall_mem_cons.mpr ⟨List.mem_cons_of_mem _ (List.mem_append_left _ (List.mem_append_left _ (List.mem_of_getElem? (i := 7) rfl))), fun _ h9 => absurd h9 List.not_mem_nil⟩⟩⟩⟩) (by decide +kernel)) ggX4_findFitting_X0_fitting
set_option maxRecDepth 20000 in
theorem mw_X4_findFitting_0 : (.fieldLink RX4 80 "FontRuns$Setting" "boxes" "I" : Cond) ∈ wsX4_findFitting := List.mem_cons_of_mem _ (List.mem_append_left _ (List.mem_append_left _ (List.mem_of_getElem? (i := 0) rfl)))
set_option maxRecDepth 20000 in
theorem mw_X4_findFitting_1 : (.fieldLink RX4 51 "FontRuns$Setting" "count" "I" : Cond) ∈ wsX4_findFitting := List.mem_cons_of_mem _ (List.mem_append_left _ (List.mem_append_left _ (List.mem_of_getElem? (i := 1) rfl)))
set_option maxRecDepth 20000 in
theorem mw_X4_findFitting_2 : (.fieldLink RX4 18 "FontRuns$Setting" "fitting" "[I" : Cond) ∈ wsX4_findFitting := List.mem_cons_of_mem _ (List.mem_append_left _ (List.mem_append_left _ (List.mem_of_getElem? (i := 2) rfl)))
set_option maxRecDepth 20000 in
theorem mw_X4_findFitting_3 : (.fieldLink RX4 27 "FontRuns$Setting" "letters" "[I" : Cond) ∈ wsX4_findFitting := List.mem_cons_of_mem _ (List.mem_append_left _ (List.mem_append_left _ (List.mem_of_getElem? (i := 3) rfl)))
theorem ax_X4_findFitting_0 {e0 e1 e2 e3 e4 : Nat × va_E} : ([0, 1, 2, 3, 4] : List Nat).map (fun i => ([e0, e1, e2, e3, e4] : va_W)[i]?) = ([e0, e1, e2, e3, e4] : va_W).map some := rfl
theorem ax_X4_findFitting_1 {e0 e1 e2 e3 e4 : Nat × va_E} : ([3, 4] : List Nat).map (fun i => ([e0, e1, e2, e3, e4] : va_W)[i]?) = ([e3, e4] : va_W).map some := rfl
set_option maxHeartbeats 4000000 in
set_option maxRecDepth 100000 in
theorem c_X4_findFitting (l : Launch) (D : va_G) (sz : Nat) (fr : Nat) (al : Int) (h0 : Nat) (g1 : Nat) (g2 : Nat) (g3 : Nat) (g4 : Nat) (g5 : Nat) (cn : Int) (bo : Int) (ru : Int) (g6 : Nat) (g7 : Nat) (cg3 : ClassId) (f3 : Nat → Int32) (cg6 : ClassId) (f6 : Nat → Int32) (k1 : Nat) (k2 : Nat) (k3 : Nat) (n : Int) (ck3 : ClassId) (fh : Nat → Int32) (q0 : rg al) (q1 : 0 ≤ cn ∧ cn ≤ 24) (q2 : 0 ≤ n ∧ n ≤ 4) : Met l yX4_findFitting wsX4_findFitting ({ frames := 1, cells := 0, slots := 0, locals := 23 }) (kPre [.ref h0, .ref fr, .int (zI al)] D [(h0, .inr (4, [.ref g1, .ref g2, .ref g3, .ref g4, .ref g5, .int (zI cn), .int (zI bo), .int (zI ru), .ref g6, .ref g7])), (g3, .inl (cg3, 24, .inl f3)), (g6, .inl (cg6, 24, .inl f6)), (fr, .inr (0, [.ref k1, .ref k2, .ref k3, .int (zI n)])), (k3, .inl (ck3, 4, .inl fh))] [(cg3, .int), (cg6, .int), (ck3, .int)] sz) (kQV (fun t => ∃ (ub : Int) (v3 : Nat → Int32), (0 ≤ ub ∧ ub ≤ 24) ∧ va_P D vwCl [(h0, .inr (4, [.ref g1, .ref g2, .ref g3, .ref g4, .ref g5, .int (zI cn), .int (zI ub), .int (zI ru), .ref g6, .ref g7])), (g3, .inl (cg3, 24, .inl v3)), (g6, .inl (cg6, 24, .inl f6)), (fr, .inr (0, [.ref k1, .ref k2, .ref k3, .int (zI n)])), (k3, .inl (ck3, 4, .inl fh))] t.heap ∧ va_D (va_A [(h0, .inr (4, [.ref g1, .ref g2, .ref g3, .ref g4, .ref g5, .int (zI cn), .int (zI bo), .int (zI ru), .ref g6, .ref g7])), (g3, .inl (cg3, 24, .inl f3)), (g6, .inl (cg6, 24, .inl f6)), (fr, .inr (0, [.ref k1, .ref k2, .ref k3, .int (zI n)])), (k3, .inl (ck3, 4, .inl fh))] sz) [(h0, .inr (4, [.ref g1, .ref g2, .ref g3, .ref g4, .ref g5, .int (zI cn), .int (zI ub), .int (zI ru), .ref g6, .ref g7])), (g3, .inl (cg3, 24, .inl v3)), (g6, .inl (cg6, 24, .inl f6)), (fr, .inr (0, [.ref k1, .ref k2, .ref k3, .int (zI n)])), (k3, .inl (ck3, 4, .inl fh))]) (va_A [(h0, .inr (4, [.ref g1, .ref g2, .ref g3, .ref g4, .ref g5, .int (zI cn), .int (zI bo), .int (zI ru), .ref g6, .ref g7])), (g3, .inl (cg3, 24, .inl f3)), (g6, .inl (cg6, 24, .inl f6)), (fr, .inr (0, [.ref k1, .ref k2, .ref k3, .int (zI n)])), (k3, .inl (ck3, 4, .inl fh))] sz)) 0 0 (va_A [(h0, .inr (4, [.ref g1, .ref g2, .ref g3, .ref g4, .ref g5, .int (zI cn), .int (zI bo), .int (zI ru), .ref g6, .ref g7])), (g3, .inl (cg3, 24, .inl f3)), (g6, .inl (cg6, 24, .inl f6)), (fr, .inr (0, [.ref k1, .ref k2, .ref k3, .int (zI n)])), (k3, .inl (ck3, 4, .inl fh))] sz) := by
  refine Met.ofW (cc := cX4_findFitting) (maxL := 4) (ret := none) (by decide) rfl ?_
  intro p e s m args below meth c s₁ B hml hv
  obtain ⟨rfl, hsz, hP, hK, hD0, hN⟩ := hv
  have hx := B.exec
  have hb := B.bytes
  have hr := B.returns
  have hts := atoms_spec (ws := wsX4_findFitting) B.pre
  have hown : s.vm.findClass RX4 = some m.cls := findClass_of_methodNamed B.named
  have hlocks := B.notSynchronized
  subst hsz
  have hD := hD0.self (sz := s.heap.size)
  generalize hAe : va_A [(h0, .inr (4, [.ref g1, .ref g2, .ref g3, .ref g4, .ref g5, .int (zI cn), .int (zI bo), .int (zI ru), .ref g6, .ref g7])), (g3, .inl (cg3, 24, .inl f3)), (g6, .inl (cg6, 24, .inl f6)), (fr, .inr (0, [.ref k1, .ref k2, .ref k3, .int (zI n)])), (k3, .inl (ck3, 4, .inl fh))] s.heap.size = A at hD ⊢
  have hA : ∀ q : Nat, s.heap.size ≤ q → A q := fun q h => by rw [← hAe]; exact Or.inr h
  have hS : va_S A s.heap s.heap [] := va_S.rf
  have hP : va_P D vwCl [(h0, .inr (4, [.ref g1, .ref g2, .ref g3, .ref g4, .ref g5, .int (zI cn), .int (zI bo), .int (zI ru), .ref g6, .ref g7])), (g3, .inl (cg3, 24, .inl f3)), (g6, .inl (cg6, 24, .inl f6)), (fr, .inr (0, [.ref k1, .ref k2, .ref k3, .int (zI n)])), (k3, .inl (ck3, 4, .inl fh))] s.heap := hP
  have hl := lv_entry ([.ref h0, .ref fr, .int (zI al)]) (n := 4) (Nat.le_of_ble_eq_true rfl)
  rw [lg_entry_eq]
  generalize (lg_sl ([.ref h0, .ref fr, .int (zI al)]) ++ List.replicate (4 - (lg_sl ([.ref h0, .ref fr, .int (zI al)])).length) Slot.unset).toArray = ls at hl ⊢
  have hl : lv_has ls 4 [(0, .ref h0), (1, .ref fr), (2, .int (zI al))] := hl
  refine lv_aload_n hx hb dX4_findFitting_0 rfl (lv_at hl 0 rfl) ?_
  refine lv_iconst (v := zI 0) hx hb dX4_findFitting_1 rfl ?_
  refine va_put (D := D) (ci := 4) (v := .int (zI 0)) (ty := .int) (C := RX4) (T := TX4) (N := 10) hx hb hts (fun _ h9 => List.mem_cons_of_mem _ (List.mem_append_left _ (List.mem_append_right _ h9))) tyX4 tyX4_ok nmX4 hown hK hP hD hS 0 rfl rfl 6 (by decide) (hts (.fieldLink RX4 80 "FontRuns$Setting" "boxes" "I") mw_X4_findFitting_0) (fun _ h9 => h9) rfl (by decide +kernel) rfl rfl (Nat.le_of_ble_eq_true rfl) dX4_findFitting_2 (fun H locs hP hD hS => ?_)
  have hP : va_P D vwCl [(h0, .inr (4, [.ref g1, .ref g2, .ref g3, .ref g4, .ref g5, .int (zI cn), .int (zI 0), .int (zI ru), .ref g6, .ref g7])), (g3, .inl (cg3, 24, .inl f3)), (g6, .inl (cg6, 24, .inl f6)), (fr, .inr (0, [.ref k1, .ref k2, .ref k3, .int (zI n)])), (k3, .inl (ck3, 4, .inl fh))] H := hP
  have hD : va_D A [(h0, .inr (4, [.ref g1, .ref g2, .ref g3, .ref g4, .ref g5, .int (zI cn), .int (zI 0), .int (zI ru), .ref g6, .ref g7])), (g3, .inl (cg3, 24, .inl f3)), (g6, .inl (cg6, 24, .inl f6)), (fr, .inr (0, [.ref k1, .ref k2, .ref k3, .int (zI n)])), (k3, .inl (ck3, 4, .inl fh))] := hD
  refine lv_iconst (v := zI 0) hx hb dX4_findFitting_5 rfl ?_
  refine lv_istore_n (lv' := [(3, .int (zI 0)), (0, .ref h0), (1, .ref fr), (2, .int (zI al))]) hx hb dX4_findFitting_6 rfl hl (by decide) rfl (fun ls hl => ?_)
  refine k_loopM (I := fun n9 H locs ls => ∃ (jk : Int) (jc : Int) (ja : Nat → Int32), n9 = (cn - jk).toNat ∧ (0 ≤ jk ∧ jk ≤ cn) ∧ (0 ≤ jc ∧ jc ≤ jk) ∧ va_P D vwCl [(h0, .inr (4, [.ref g1, .ref g2, .ref g3, .ref g4, .ref g5, .int (zI cn), .int (zI jc), .int (zI ru), .ref g6, .ref g7])), (g3, .inl (cg3, 24, .inl ja)), (g6, .inl (cg6, 24, .inl f6)), (fr, .inr (0, [.ref k1, .ref k2, .ref k3, .int (zI n)])), (k3, .inl (ck3, 4, .inl fh))] H ∧ va_D A [(h0, .inr (4, [.ref g1, .ref g2, .ref g3, .ref g4, .ref g5, .int (zI cn), .int (zI jc), .int (zI ru), .ref g6, .ref g7])), (g3, .inl (cg3, 24, .inl ja)), (g6, .inl (cg6, 24, .inl f6)), (fr, .inr (0, [.ref k1, .ref k2, .ref k3, .int (zI n)])), (k3, .inl (ck3, 4, .inl fh))] ∧ va_S A s.heap H locs ∧ lv_has ls 4 [(3, .int (zI jk)), (0, .ref h0), (1, .ref fr), (2, .int (zI al))]) ?_ _ ⟨0, 0, f3, rfl, (by omega), (by omega), hP, hD, hS, hl⟩
  intro n7 ih7 H locs ls hI
  obtain ⟨jk, jc, ja, en7, v_70, v_71, hP, hD, hS, hl⟩ := hI
  refine lv_iload_n hx hb dX4_findFitting_7 rfl (lv_at hl 0 rfl) ?_
  refine lv_aload_n hx hb dX4_findFitting_8 rfl (lv_at hl 1 rfl) ?_
  refine va_get (D := D) (ci := 4) (v := .int (zI cn)) (C := RX4) (T := TX4) (N := 10) hx hb hts (fun _ h9 => List.mem_cons_of_mem _ (List.mem_append_left _ (List.mem_append_right _ h9))) hown hK hP 0 rfl rfl 5 (by decide) (hts (.fieldLink RX4 51 "FontRuns$Setting" "count" "I") mw_X4_findFitting_1) (fun _ h9 => h9) rfl dX4_findFitting_9 ?_
  refine kz_icmp_ge (tgt := 58) hx hb dX4_findFitting_12 (by decide) (by omega) (by omega) (fun c_1 => ?_) (fun c_1 => ?_)
  · have hP9 := hP.sub (ws' := [(h0, .inr (4, [.ref g1, .ref g2, .ref g3, .ref g4, .ref g5, .int (zI cn), .int (zI jc), .int (zI ru), .ref g6, .ref g7])), (g3, .inl (cg3, 24, .inl ja)), (g6, .inl (cg6, 24, .inl f6)), (fr, .inr (0, [.ref k1, .ref k2, .ref k3, .int (zI n)])), (k3, .inl (ck3, 4, .inl fh))]) [0, 1, 2, 3, 4] rfl
    have hD9 := hD.sub (ws' := [(h0, .inr (4, [.ref g1, .ref g2, .ref g3, .ref g4, .ref g5, .int (zI cn), .int (zI jc), .int (zI ru), .ref g6, .ref g7])), (g3, .inl (cg3, 24, .inl ja)), (g6, .inl (cg6, 24, .inl f6)), (fr, .inr (0, [.ref k1, .ref k2, .ref k3, .int (zI n)])), (k3, .inl (ck3, 4, .inl fh))]) [0, 1, 2, 3, 4] (by decide +kernel) rfl
    exact W.vret hx hb hr (fun t ht hW => kQV_of ⟨jc, ja, (by omega), by rw [ht]; exact hP9, hD9⟩ (hS.F ht)) hS.2.2 dX4_findFitting_58
  · refine lv_aload_n hx hb dX4_findFitting_15 rfl (lv_at hl 1 rfl) ?_
    refine va_get (D := D) (ci := 4) (v := .ref g3) (C := RX4) (T := TX4) (N := 10) hx hb hts (fun _ h9 => List.mem_cons_of_mem _ (List.mem_append_left _ (List.mem_append_right _ h9))) hown hK hP 0 rfl rfl 2 (by decide) (hts (.fieldLink RX4 18 "FontRuns$Setting" "fitting" "[I") mw_X4_findFitting_2) (fun _ h9 => h9) rfl dX4_findFitting_16 ?_
    refine lv_iload_n hx hb dX4_findFitting_19 rfl (lv_at hl 0 rfl) ?_
    refine lv_aload_n hx hb dX4_findFitting_20 rfl (lv_at hl 2 rfl) ?_
    refine lv_aload_n hx hb dX4_findFitting_21 rfl (lv_at hl 1 rfl) ?_
    refine va_get (D := D) (ci := 4) (v := .ref g6) (C := RX4) (T := TX4) (N := 10) hx hb hts (fun _ h9 => List.mem_cons_of_mem _ (List.mem_append_left _ (List.mem_append_right _ h9))) hown hK hP 0 rfl rfl 8 (by decide) (hts (.fieldLink RX4 27 "FontRuns$Setting" "letters" "[I") mw_X4_findFitting_3) (fun _ h9 => h9) rfl dX4_findFitting_22 ?_
    refine lv_iload_n hx hb dX4_findFitting_25 rfl (lv_at hl 0 rfl) ?_
    refine kz_iald hx hb hK hP 2 1 rfl rfl (by omega) dX4_findFitting_26 (fun z_2 rz_2 ez_2 => ?_)
    refine k_callP (va_runV (As := [.int (zI z_2)]) (rest := [.int (zI jk), .ref g3]) ⟨hx, hb, hml, hown, hts⟩ (c_X0_fitting l D H.size (le := z_2) (h0 := fr) (k1 := k1) (k2 := k2) (k3 := k3) (n := n) (ck3 := ck3) (fh := fh) (by omega) q2) (cwV 1 hts gX4_findFitting_X0_fitting rfl rfl rfl (by decide +kernel) ⟨Nat.le_of_ble_eq_true rfl, Nat.le_of_ble_eq_true rfl⟩) (kPreV hP (kD0 hD) hK hN [3, 4] [2] ax_X4_findFitting_1 rfl (by decide +kernel) 3 0 rfl rfl) rfl rfl hl.1 rfl (lv_room (Nat.le_of_ble_eq_true rfl)) dX4_findFitting_27 ⟨Nat.le_of_ble_eq_true rfl, Nat.le_of_ble_eq_true rfl⟩) (fun z_3 rz_3 h_4 => ?_)
    refine lv_iload_n hx hb dX4_findFitting_30 rfl (lv_at hl 3 rfl) ?_
    refine lv_iand hx hb dX4_findFitting_31 ?_
    refine kz_any (fun z_5 rz_5 ez_5 => ?_)
    refine kz_iast hx hb hK hP hD hS 1 0 rfl rfl (by omega) dX4_findFitting_32 (fun H locs hP hD hS => ?_)
    have hP : va_P D vwCl [(h0, .inr (4, [.ref g1, .ref g2, .ref g3, .ref g4, .ref g5, .int (zI cn), .int (zI jc), .int (zI ru), .ref g6, .ref g7])), (g3, .inl (cg3, 24, .inl (upd ja (jk).toNat (zI z_5)))), (g6, .inl (cg6, 24, .inl f6)), (fr, .inr (0, [.ref k1, .ref k2, .ref k3, .int (zI n)])), (k3, .inl (ck3, 4, .inl fh))] H := hP
    have hD : va_D A [(h0, .inr (4, [.ref g1, .ref g2, .ref g3, .ref g4, .ref g5, .int (zI cn), .int (zI jc), .int (zI ru), .ref g6, .ref g7])), (g3, .inl (cg3, 24, .inl (upd ja (jk).toNat (zI z_5)))), (g6, .inl (cg6, 24, .inl f6)), (fr, .inr (0, [.ref k1, .ref k2, .ref k3, .int (zI n)])), (k3, .inl (ck3, 4, .inl fh))] := hD
    generalize ef_6 : upd ja (jk).toNat (zI z_5) = f_6 at hP hD
    refine lv_aload_n hx hb dX4_findFitting_33 rfl (lv_at hl 1 rfl) ?_
    refine va_get (D := D) (ci := 4) (v := .ref g3) (C := RX4) (T := TX4) (N := 10) hx hb hts (fun _ h9 => List.mem_cons_of_mem _ (List.mem_append_left _ (List.mem_append_right _ h9))) hown hK hP 0 rfl rfl 2 (by decide) (hts (.fieldLink RX4 18 "FontRuns$Setting" "fitting" "[I") mw_X4_findFitting_2) (fun _ h9 => h9) rfl dX4_findFitting_34 ?_
    refine lv_iload_n hx hb dX4_findFitting_37 rfl (lv_at hl 0 rfl) ?_
    refine kz_iald hx hb hK hP 1 0 rfl rfl (by omega) dX4_findFitting_38 (fun z_7 rz_7 ez_7 => ?_)
    refine kz_if_ne (tgt := 52) hx hb dX4_findFitting_39 (by decide) (by omega) (fun c_8 => ?_) (fun c_8 => ?_)
    · refine lv_iinc (v := (zI (jk + 1))) (lv' := [(3, .int (zI (jk + 1))), (0, .ref h0), (1, .ref fr), (2, .int (zI al))]) hx hb dX4_findFitting_52 hl (k := 0) rfl (kz_inc _ 1) (by decide) rfl (fun ls hl => ?_)
      refine lv_goto (tgt := 7) hx hb dX4_findFitting_55 (by decide) ?_
      exact ih7 _ (by omega) _ _ _ ⟨(jk + 1), jc, f_6, rfl, (by omega), (by omega), hP, hD, hS, lv_sub hl [0, 1, 2, 3] rfl⟩
    · refine lv_aload_n hx hb dX4_findFitting_42 rfl (lv_at hl 1 rfl) ?_
      refine lv_dup hx hb dX4_findFitting_43 rfl ?_
      refine va_get (D := D) (ci := 4) (v := .int (zI jc)) (C := RX4) (T := TX4) (N := 10) hx hb hts (fun _ h9 => List.mem_cons_of_mem _ (List.mem_append_left _ (List.mem_append_right _ h9))) hown hK hP 0 rfl rfl 6 (by decide) (hts (.fieldLink RX4 80 "FontRuns$Setting" "boxes" "I") mw_X4_findFitting_0) (fun _ h9 => h9) rfl dX4_findFitting_44 ?_
      refine lv_iconst (v := zI 1) hx hb dX4_findFitting_47 rfl ?_
      refine kz_iadd hx hb dX4_findFitting_48 ?_
      refine va_put (D := D) (ci := 4) (v := .int (zI (jc + 1))) (ty := .int) (C := RX4) (T := TX4) (N := 10) hx hb hts (fun _ h9 => List.mem_cons_of_mem _ (List.mem_append_left _ (List.mem_append_right _ h9))) tyX4 tyX4_ok nmX4 hown hK hP hD hS 0 rfl rfl 6 (by decide) (hts (.fieldLink RX4 80 "FontRuns$Setting" "boxes" "I") mw_X4_findFitting_0) (fun _ h9 => h9) rfl (by decide +kernel) rfl rfl (Nat.le_of_ble_eq_true rfl) dX4_findFitting_49 (fun H locs hP hD hS => ?_)
      have hP : va_P D vwCl [(h0, .inr (4, [.ref g1, .ref g2, .ref g3, .ref g4, .ref g5, .int (zI cn), .int (zI (jc + 1)), .int (zI ru), .ref g6, .ref g7])), (g3, .inl (cg3, 24, .inl f_6)), (g6, .inl (cg6, 24, .inl f6)), (fr, .inr (0, [.ref k1, .ref k2, .ref k3, .int (zI n)])), (k3, .inl (ck3, 4, .inl fh))] H := hP
      have hD : va_D A [(h0, .inr (4, [.ref g1, .ref g2, .ref g3, .ref g4, .ref g5, .int (zI cn), .int (zI (jc + 1)), .int (zI ru), .ref g6, .ref g7])), (g3, .inl (cg3, 24, .inl f_6)), (g6, .inl (cg6, 24, .inl f6)), (fr, .inr (0, [.ref k1, .ref k2, .ref k3, .int (zI n)])), (k3, .inl (ck3, 4, .inl fh))] := hD
      refine lv_iinc (v := (zI (jk + 1))) (lv' := [(3, .int (zI (jk + 1))), (0, .ref h0), (1, .ref fr), (2, .int (zI al))]) hx hb dX4_findFitting_52 hl (k := 0) rfl (kz_inc _ 1) (by decide) rfl (fun ls hl => ?_)
      refine lv_goto (tgt := 7) hx hb dX4_findFitting_55 (by decide) ?_
      exact ih7 _ (by omega) _ _ _ ⟨(jk + 1), (jc + 1), f_6, rfl, (by omega), (by omega), hP, hD, hS, lv_sub hl [0, 1, 2, 3] rfl⟩
