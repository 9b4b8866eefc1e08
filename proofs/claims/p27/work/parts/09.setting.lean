theorem dX4_isCluster_0 : decode cX4_isCluster 0 = .ok (.iload_n 1, 1) := kqo_1b kbl_X4_isCluster (pc := 0) rfl
theorem dX4_isCluster_1 : decode cX4_isCluster 1 = .ok (.iconst 0, 1) := kqo_03 kbl_X4_isCluster (pc := 1) rfl
theorem dX4_isCluster_2 : decode cX4_isCluster 2 = .ok (.aload_n 0, 1) := kqo_2a kbl_X4_isCluster (pc := 2) rfl
theorem dX4_isCluster_3 : decode cX4_isCluster 3 = .ok (.getfield 51, 3) := kqo_b4 (x1 := 0) (x2 := 51) kbl_X4_isCluster (pc := 3) rfl rfl
theorem dX4_isCluster_6 : decode cX4_isCluster 6 = .ok (.iconst 1, 1) := kqo_04 kbl_X4_isCluster (pc := 6) rfl
theorem dX4_isCluster_7 : decode cX4_isCluster 7 = .ok (.isub, 1) := kqo_64 kbl_X4_isCluster (pc := 7) rfl
theorem dX4_isCluster_8 : decode cX4_isCluster 8 = .ok (.invokestatic 55, 3) := kqo_b8 (x1 := 0) (x2 := 55) kbl_X4_isCluster (pc := 8) rfl rfl
theorem dX4_isCluster_11 : decode cX4_isCluster 11 = .ok (.ireturn, 1) := kqo_ac kbl_X4_isCluster (pc := 11) rfl
set_option maxRecDepth 20000 in
theorem ggX4_isCluster_X8_isWithin : GoodIn wsX4_isCluster wsX8_isWithin := goodIn_4 _ (List.forall_mem_cons.mpr ⟨List.mem_cons_of_mem _ (List.mem_append_left _ (List.mem_of_getElem? (i := 3) rfl)), fun _ h9 => absurd h9 List.not_mem_nil⟩) (by decide +kernel)
set_option maxRecDepth 20000 in
theorem gX4_isCluster_X8_isWithin_n55 : GoodIn wsX4_isCluster (wsX8_isWithin) := ggX4_isCluster_X8_isWithin
set_option maxRecDepth 20000 in
theorem mw_X4_isCluster_0 : (.fieldLink RX4 51 "FontRuns$Setting" "count" "I" : Cond) ∈ wsX4_isCluster := List.mem_cons_of_mem _ (List.mem_append_left _ (List.mem_of_getElem? (i := 0) rfl))
set_option maxRecDepth 20000 in
theorem mw_X4_isCluster_1 : (.initialized RX8 : Cond) ∈ wsX4_isCluster := List.mem_cons_of_mem _ (List.mem_append_left _ (List.mem_of_getElem? (i := 2) rfl))
set_option maxRecDepth 20000 in
theorem mw_X4_isCluster_2 : (.static yX8_isWithin : Cond) ∈ wsX4_isCluster := List.mem_cons_of_mem _ (List.mem_append_left _ (List.mem_of_getElem? (i := 1) rfl))
theorem ax_X4_isCluster_0 {e0 : Nat × va_E} : ([] : List Nat).map (fun i => ([e0] : va_W)[i]?) = ([] : va_W).map some := rfl
set_option maxHeartbeats 4000000 in
set_option maxRecDepth 100000 in
theorem c_X4_isCluster (l : Launch) (D : va_G) (sz : Nat) (k : Int) (h0 : Nat) (g1 : Nat) (g2 : Nat) (g3 : Nat) (g4 : Nat) (g5 : Nat) (cn : Int) (bo : Int) (ru : Int) (g6 : Nat) (g7 : Nat) (q0 : rg k) (q1 : 0 ≤ cn ∧ cn ≤ 24) (q2 : 0 ≤ bo ∧ bo ≤ 24) (q3 : 0 ≤ ru ∧ ru ≤ cn) : Met l yX4_isCluster wsX4_isCluster ({ frames := 1, cells := 0, slots := 0, locals := 22 }) (kPre [.ref h0, .int (zI k)] D [(h0, .inr (4, [.ref g1, .ref g2, .ref g3, .ref g4, .ref g5, .int (zI cn), .int (zI bo), .int (zI ru), .ref g6, .ref g7]))] [] sz) (QcRead (if 0 ≤ k ∧ k ≤ cn - 1 then 1 else 0)) 0 0 (fun _ => False) := by
  refine Met.ofW (cc := cX4_isCluster) (maxL := 2) (ret := (some .boolean)) (by decide) rfl ?_
  intro p e s m args below meth c s₁ B hml hv
  obtain ⟨rfl, hsz, hP, hK, hD0, hN⟩ := hv
  have hx := B.exec
  have hb := B.bytes
  have hr := B.returns
  have hts := atoms_spec (ws := wsX4_isCluster) B.pre
  have hown : s.vm.findClass RX4 = some m.cls := findClass_of_methodNamed B.named
  have hlocks := B.notSynchronized
  subst hsz
  have hD := hD0
  have hP : va_P D vwCl [(h0, .inr (4, [.ref g1, .ref g2, .ref g3, .ref g4, .ref g5, .int (zI cn), .int (zI bo), .int (zI ru), .ref g6, .ref g7]))] s.heap := hP
  have hl := lv_entry ([.ref h0, .int (zI k)]) (n := 2) (Nat.le_of_ble_eq_true rfl)
  rw [lg_entry_eq]
  generalize (lg_sl ([.ref h0, .int (zI k)]) ++ List.replicate (2 - (lg_sl ([.ref h0, .int (zI k)])).length) Slot.unset).toArray = ls at hl ⊢
  have hl : lv_has ls 2 [(0, .ref h0), (1, .int (zI k))] := hl
  refine lv_iload_n hx hb dX4_isCluster_0 rfl (lv_at hl 1 rfl) ?_
  refine lv_iconst (v := zI 0) hx hb dX4_isCluster_1 rfl ?_
  refine lv_aload_n hx hb dX4_isCluster_2 rfl (lv_at hl 0 rfl) ?_
  refine va_get (D := D) (ci := 4) (v := .int (zI cn)) (C := RX4) (T := TX4) (N := 10) hx hb hts (fun _ h9 => List.mem_cons_of_mem _ (List.mem_append_right _ h9)) hown hK hP 0 rfl rfl 5 (by decide) (hts (.fieldLink RX4 51 "FontRuns$Setting" "count" "I") mw_X4_isCluster_0) (fun _ h9 => h9) rfl dX4_isCluster_3 ?_
  refine lv_iconst (v := zI 1) hx hb dX4_isCluster_6 rfl ?_
  refine kz_isub hx hb dX4_isCluster_7 ?_
  refine k_callR (va_runSN (As := [.int (zI k), .int (zI 0), .int (zI (cn - 1))]) (rest := []) ⟨hx, hb, hml, hown, hts⟩ (c_X8_isWithin l D s.heap.size (v := k) (a := 0) (b := (cn - 1)) q0 (by omega) (by omega)) (⟨va_cnB 3 hts gX4_isCluster_X8_isWithin_n55 rfl rfl rfl (hN.1 (RX4, 55, yX8_isWithin) (by decide +kernel)) (hts (.initialized RX8) mw_X4_isCluster_1) (by decide +kernel) ⟨Nat.le_of_ble_eq_true rfl, Nat.le_of_ble_eq_true rfl⟩, (hts (.static yX8_isWithin) mw_X4_isCluster_2), trivial⟩) (kPreS hP (kD0 hD) hK hN [] [] ax_X4_isCluster_0 rfl (by decide +kernel)) rfl rfl hl.1 rfl (lv_room (Nat.le_of_ble_eq_true rfl)) dX4_isCluster_8 ⟨Nat.le_of_ble_eq_true rfl, Nat.le_of_ble_eq_true rfl⟩) ?_
  exact W.zret (v := (if 0 ≤ k ∧ k ≤ (cn - 1) then 1 else 0)) hx hb hr kzb (fun t ht hW => kRd (kbc (by constructor <;> (intro h9; omega))) ht) (fun _ h9 => by cases h9) dX4_isCluster_11
theorem dX4_changes_0 : decode cX4_changes 0 = .ok (.aload_n 0, 1) := kqo_2a kbl_X4_changes (pc := 0) rfl
theorem dX4_changes_1 : decode cX4_changes 1 = .ok (.getfield 59, 3) := kqo_b4 (x1 := 0) (x2 := 59) kbl_X4_changes (pc := 1) rfl rfl
theorem dX4_changes_4 : decode cX4_changes 4 = .ok (.iconst 1, 1) := kqo_04 kbl_X4_changes (pc := 4) rfl
theorem dX4_changes_5 : decode cX4_changes 5 = .ok (.isub, 1) := kqo_64 kbl_X4_changes (pc := 5) rfl
theorem dX4_changes_6 : decode cX4_changes 6 = .ok (.iconst 0, 1) := kqo_03 kbl_X4_changes (pc := 6) rfl
theorem dX4_changes_7 : decode cX4_changes 7 = .ok (.invokestatic 62, 3) := kqo_b8 (x1 := 0) (x2 := 62) kbl_X4_changes (pc := 7) rfl rfl
theorem dX4_changes_10 : decode cX4_changes 10 = .ok (.ireturn, 1) := kqo_ac kbl_X4_changes (pc := 10) rfl
set_option maxRecDepth 20000 in
theorem mw_X4_changes_0 : (.fieldLink RX4 59 "FontRuns$Setting" "runs" "I" : Cond) ∈ wsX4_changes := List.mem_cons_of_mem _ (List.mem_append_left _ (List.mem_of_getElem? (i := 0) rfl))
set_option maxRecDepth 20000 in
theorem mw_X4_changes_1 : (.methodLink RX4 62 Lib.Math.max.name : Cond) ∈ wsX4_changes := List.mem_cons_of_mem _ (List.mem_append_left _ (List.mem_of_getElem? (i := 1) rfl))
set_option maxRecDepth 20000 in
theorem mw_X4_changes_2 : (.static Lib.Math.max.name : Cond) ∈ wsX4_changes := List.mem_cons_of_mem _ (List.mem_append_left _ (List.mem_of_getElem? (i := 2) rfl))
set_option maxRecDepth 20000 in
theorem mw_X4_changes_3 : (.initialized "java/lang/Math" : Cond) ∈ wsX4_changes := List.mem_cons_of_mem _ (List.mem_append_left _ (List.mem_of_getElem? (i := 3) rfl))
set_option maxRecDepth 20000 in
theorem mw_X4_changes_4 : (.code Lib.Math.max.name Lib.Math.max.code 2 (some .int) : Cond) ∈ wsX4_changes := List.mem_cons_of_mem _ (List.mem_append_left _ (List.mem_of_getElem? (i := 4) rfl))
set_option maxHeartbeats 4000000 in
set_option maxRecDepth 100000 in
theorem c_X4_changes (l : Launch) (D : va_G) (sz : Nat) (h0 : Nat) (g1 : Nat) (g2 : Nat) (g3 : Nat) (g4 : Nat) (g5 : Nat) (cn : Int) (bo : Int) (ru : Int) (g6 : Nat) (g7 : Nat) (q0 : 0 ≤ cn ∧ cn ≤ 24) (q1 : 0 ≤ bo ∧ bo ≤ 24) (q2 : 0 ≤ ru ∧ ru ≤ cn) : Met l yX4_changes wsX4_changes ({ frames := 1, cells := 0, slots := 0, locals := 21 }) (kPre [.ref h0] D [(h0, .inr (4, [.ref g1, .ref g2, .ref g3, .ref g4, .ref g5, .int (zI cn), .int (zI bo), .int (zI ru), .ref g6, .ref g7]))] [] sz) (QcP (fun rz => True)) 0 0 (fun _ => False) := by
  refine Met.ofW (cc := cX4_changes) (maxL := 1) (ret := (some .int)) (by decide) rfl ?_
  intro p e s m args below meth c s₁ B hml hv
  obtain ⟨rfl, hsz, hP, hK, hD0, hN⟩ := hv
  have hx := B.exec
  have hb := B.bytes
  have hr := B.returns
  have hts := atoms_spec (ws := wsX4_changes) B.pre
  have hown : s.vm.findClass RX4 = some m.cls := findClass_of_methodNamed B.named
  have hlocks := B.notSynchronized
  subst hsz
  have hD := hD0
  have hP : va_P D vwCl [(h0, .inr (4, [.ref g1, .ref g2, .ref g3, .ref g4, .ref g5, .int (zI cn), .int (zI bo), .int (zI ru), .ref g6, .ref g7]))] s.heap := hP
  have hl := lv_entry ([.ref h0]) (n := 1) (Nat.le_of_ble_eq_true rfl)
  rw [lg_entry_eq]
  generalize (lg_sl ([.ref h0]) ++ List.replicate (1 - (lg_sl ([.ref h0])).length) Slot.unset).toArray = ls at hl ⊢
  have hl : lv_has ls 1 [(0, .ref h0)] := hl
  refine lv_aload_n hx hb dX4_changes_0 rfl (lv_at hl 0 rfl) ?_
  refine va_get (D := D) (ci := 4) (v := .int (zI ru)) (C := RX4) (T := TX4) (N := 10) hx hb hts (fun _ h9 => List.mem_cons_of_mem _ (List.mem_append_right _ h9)) hown hK hP 0 rfl rfl 7 (by decide) (hts (.fieldLink RX4 59 "FontRuns$Setting" "runs" "I") mw_X4_changes_0) (fun _ h9 => h9) rfl dX4_changes_1 ?_
  refine lv_iconst (v := zI 1) hx hb dX4_changes_4 rfl ?_
  refine kz_isub hx hb dX4_changes_5 ?_
  refine lv_iconst (v := zI 0) hx hb dX4_changes_6 rfl ?_
  refine kz_max hx hb (by rw [hml]; exact hl.1.symm) hown (hts (.methodLink RX4 62 Lib.Math.max.name) mw_X4_changes_1) (hts (.static Lib.Math.max.name) mw_X4_changes_2) (hts (.initialized "java/lang/Math") mw_X4_changes_3) (hts (.code Lib.Math.max.name Lib.Math.max.code 2 (some .int)) mw_X4_changes_4) (Nat.le_of_ble_eq_true rfl) (Nat.le_of_ble_eq_true rfl) (Nat.le_of_ble_eq_true rfl) (Nat.le_of_ble_eq_true rfl) (by omega) (by omega) dX4_changes_7 (fun z_1 rz_1 ez_1 => ?_)
  exact W.iret (v := (zI z_1)) hx hb hr (fun t ht hW => QcP_of (by omega) trivial ht) (fun _ h9 => by cases h9) dX4_changes_10
theorem dX4_advance_0 : decode cX4_advance 0 = .ok (.iconst 0, 1) := kqo_03 kbl_X4_advance (pc := 0) rfl
theorem dX4_advance_1 : decode cX4_advance 1 = .ok (.istore_n 2, 1) := kqo_3d kbl_X4_advance (pc := 1) rfl
theorem dX4_advance_2 : decode cX4_advance 2 = .ok (.iconst 0, 1) := kqo_03 kbl_X4_advance (pc := 2) rfl
theorem dX4_advance_3 : decode cX4_advance 3 = .ok (.istore_n 3, 1) := kqo_3e kbl_X4_advance (pc := 3) rfl
theorem dX4_advance_4 : decode cX4_advance 4 = .ok (.iload_n 3, 1) := kqo_1d kbl_X4_advance (pc := 4) rfl
theorem dX4_advance_5 : decode cX4_advance 5 = .ok (.aload_n 0, 1) := kqo_2a kbl_X4_advance (pc := 5) rfl
theorem dX4_advance_6 : decode cX4_advance 6 = .ok (.getfield 51, 3) := kqo_b4 (x1 := 0) (x2 := 51) kbl_X4_advance (pc := 6) rfl rfl
theorem dX4_advance_9 : decode cX4_advance 9 = .ok (.if_icmp .ge 22, 3) := kqo_a2 (x1 := 0) (x2 := 22) kbl_X4_advance (pc := 9) rfl rfl
theorem dX4_advance_12 : decode cX4_advance 12 = .ok (.iload_n 2, 1) := kqo_1c kbl_X4_advance (pc := 12) rfl
theorem dX4_advance_13 : decode cX4_advance 13 = .ok (.aload_n 1, 1) := kqo_2b kbl_X4_advance (pc := 13) rfl
theorem dX4_advance_14 : decode cX4_advance 14 = .ok (.aload_n 0, 1) := kqo_2a kbl_X4_advance (pc := 14) rfl
theorem dX4_advance_15 : decode cX4_advance 15 = .ok (.getfield 21, 3) := kqo_b4 (x1 := 0) (x2 := 21) kbl_X4_advance (pc := 15) rfl rfl
theorem dX4_advance_18 : decode cX4_advance 18 = .ok (.iload_n 3, 1) := kqo_1d kbl_X4_advance (pc := 18) rfl
theorem dX4_advance_19 : decode cX4_advance 19 = .ok (.iaload, 1) := kqo_2e kbl_X4_advance (pc := 19) rfl
theorem dX4_advance_20 : decode cX4_advance 20 = .ok (.invokevirtual 68, 3) := kqo_b6 (x1 := 0) (x2 := 68) kbl_X4_advance (pc := 20) rfl rfl
theorem dX4_advance_23 : decode cX4_advance 23 = .ok (.iadd, 1) := kqo_60 kbl_X4_advance (pc := 23) rfl
theorem dX4_advance_24 : decode cX4_advance 24 = .ok (.istore_n 2, 1) := kqo_3d kbl_X4_advance (pc := 24) rfl
theorem dX4_advance_25 : decode cX4_advance 25 = .ok (.iinc 3 1, 3) := kqo_84 (x1 := 3) (x2 := 1) kbl_X4_advance (pc := 25) rfl rfl
theorem dX4_advance_28 : decode cX4_advance 28 = .ok (.goto (-24), 3) := kqo_a7 (x1 := 255) (x2 := 232) kbl_X4_advance (pc := 28) rfl rfl
theorem dX4_advance_31 : decode cX4_advance 31 = .ok (.iload_n 2, 1) := kqo_1c kbl_X4_advance (pc := 31) rfl
theorem dX4_advance_32 : decode cX4_advance 32 = .ok (.ireturn, 1) := kqo_ac kbl_X4_advance (pc := 32) rfl
set_option maxRecDepth 20000 in
theorem ggX4_advance_X0_step : GoodIn wsX4_advance wsX0_step := goodIn_4 _ (List.forall_mem_cons.mpr ⟨List.mem_cons_of_mem _ (List.mem_append_left _ (List.mem_append_left _ (List.mem_of_getElem? (i := 6) rfl))), List.forall_mem_append.mpr ⟨List.forall_mem_cons.mpr ⟨List.mem_cons_of_mem _ (List.mem_append_left _ (List.mem_append_left _ (List.mem_of_getElem? (i := 7) rfl))), List.forall_mem_cons.mpr ⟨List.mem_cons_of_mem _ (List.mem_append_left _ (List.mem_append_left _ (List.mem_of_getElem? (i := 8) rfl))), List.forall_mem_cons.mpr ⟨List.mem_cons_of_mem _ (List.mem_append_left _ (List.mem_append_left _ (List.mem_of_getElem? (i := 9) rfl))), List.forall_mem_cons.mpr ⟨List.mem_cons_of_mem _ (List.mem_append_left _ (List.mem_append_left _ (List.mem_of_getElem? (i := 10) rfl))), List.forall_mem_cons.mpr ⟨List.mem_cons_of_mem _ (List.mem_append_left _ (List.mem_append_left _ (List.mem_of_getElem? (i := 11) rfl))), List.forall_mem_cons.mpr ⟨List.mem_cons_of_mem _ (List.mem_append_left _ (List.mem_append_left _ (List.mem_of_getElem? (i := 5) rfl))), List.forall_mem_cons.mpr ⟨List.mem_cons_of_mem _ (List.mem_append_left _ (List.mem_append_left _ (List.mem_of_getElem? (i := 12) rfl))), List.forall_mem_cons.mpr ⟨List.mem_cons_of_mem _ (List.mem_append_left _ (List.mem_append_left _ (List.mem_of_getElem? (i := 13) rfl))), List.forall_mem_cons.mpr ⟨List.mem_cons_of_mem _ (List.mem_append_left _ (List.mem_append_left _ (List.mem_of_getElem? (i := 14) rfl))), List.forall_mem_cons.mpr ⟨List.mem_cons_of_mem _ (List.mem_append_left _ (List.mem_append_left _ (List.mem_of_getElem? (i := 15) rfl))), List.forall_mem_cons.mpr ⟨List.mem_cons_of_mem _ (List.mem_append_left _ (List.mem_append_left _ (List.mem_of_getElem? (i := 16) rfl))), List.forall_mem_cons.mpr ⟨List.mem_cons_of_mem _ (List.mem_append_left _ (List.mem_append_left _ (List.mem_of_getElem? (i := 17) rfl))), List.forall_mem_cons.mpr ⟨List.mem_cons_of_mem _ (List.mem_append_left _ (List.mem_append_left _ (List.mem_of_getElem? (i := 18) rfl))), fun _ h9 => absurd h9 List.not_mem_nil⟩⟩⟩⟩⟩⟩⟩⟩⟩⟩⟩⟩⟩, fun w h9 => List.mem_cons_of_mem _ (List.mem_append_right _ (h9))⟩⟩) (by decide +kernel)
set_option maxRecDepth 20000 in
theorem gX4_advance_X0_step : GoodIn wsX4_advance (wsV RX4 68 RX0 yX0_step wsX0_step) := goodIn_app (goodIn_4 _ (List.forall_mem_cons.mpr ⟨List.mem_cons_of_mem _ (List.mem_append_left _ (List.mem_append_left _ (List.mem_of_getElem? (i := 2) rfl))), List.forall_mem_cons.mpr ⟨List.mem_cons_of_mem _ (List.mem_append_left _ (List.mem_append_left _ (List.mem_of_getElem? (i := 3) rfl))), List.forall_mem_cons.mpr ⟨List.mem_cons_of_mem _ (List.mem_append_left _ (List.mem_append_left _ (List.mem_of_getElem? (i := 4) rfl))), List.forall_mem_cons.mpr ⟨List.mem_cons_of_mem _ (List.mem_append_left _ (List.mem_append_left _ (List.mem_of_getElem? (i := 5) rfl))), fun _ h9 => absurd h9 List.not_mem_nil⟩⟩⟩⟩) (by decide +kernel)) ggX4_advance_X0_step
set_option maxRecDepth 20000 in
theorem mw_X4_advance_0 : (.fieldLink RX4 51 "FontRuns$Setting" "count" "I" : Cond) ∈ wsX4_advance := List.mem_cons_of_mem _ (List.mem_append_left _ (List.mem_append_left _ (List.mem_of_getElem? (i := 0) rfl)))
set_option maxRecDepth 20000 in
theorem mw_X4_advance_1 : (.fieldLink RX4 21 "FontRuns$Setting" "chosen" "[I" : Cond) ∈ wsX4_advance := List.mem_cons_of_mem _ (List.mem_append_left _ (List.mem_append_left _ (List.mem_of_getElem? (i := 1) rfl)))
theorem ax_X4_advance_0 {e0 e1 e2 e3 e4 : Nat × va_E} : ([2, 3, 4] : List Nat).map (fun i => ([e0, e1, e2, e3, e4] : va_W)[i]?) = ([e2, e3, e4] : va_W).map some := rfl
set_option maxHeartbeats 4000000 in
set_option maxRecDepth 100000 in
theorem c_X4_advance (l : Launch) (D : va_G) (sz : Nat) (fr : Nat) (h0 : Nat) (g1 : Nat) (g2 : Nat) (g3 : Nat) (g4 : Nat) (g5 : Nat) (cn : Int) (bo : Int) (ru : Int) (g6 : Nat) (g7 : Nat) (cg4 : ClassId) (f4 : Nat → Int32) (k1 : Nat) (k2 : Nat) (k3 : Nat) (n : Int) (ck1 : ClassId) (fk : Nat → Int32) (ck2 : ClassId) (fb : Nat → Int32) (q0 : 0 ≤ cn ∧ cn ≤ 24) (q1 : 0 ≤ bo ∧ bo ≤ 24) (q2 : 0 ≤ ru ∧ ru ≤ cn) (q3 : 0 ≤ n ∧ n ≤ 4) : Met l yX4_advance wsX4_advance ({ frames := 3, cells := 0, slots := 0, locals := 64 }) (kPre [.ref h0, .ref fr] D [(h0, .inr (4, [.ref g1, .ref g2, .ref g3, .ref g4, .ref g5, .int (zI cn), .int (zI bo), .int (zI ru), .ref g6, .ref g7])), (g4, .inl (cg4, 24, .inl f4)), (fr, .inr (0, [.ref k1, .ref k2, .ref k3, .int (zI n)])), (k1, .inl (ck1, 4, .inl fk)), (k2, .inl (ck2, 4, .inl fb))] [(cg4, .int), (ck1, .int), (ck2, .int)] sz) (QcP (fun rz => True)) 0 0 (fun _ => False) := by
  refine Met.ofW (cc := cX4_advance) (maxL := 4) (ret := (some .int)) (by decide) rfl ?_
  intro p e s m args below meth c s₁ B hml hv
  obtain ⟨rfl, hsz, hP, hK, hD0, hN⟩ := hv
  have hx := B.exec
  have hb := B.bytes
  have hr := B.returns
  have hts := atoms_spec (ws := wsX4_advance) B.pre
  have hown : s.vm.findClass RX4 = some m.cls := findClass_of_methodNamed B.named
  have hlocks := B.notSynchronized
  subst hsz
  have hD := hD0
  have hP : va_P D vwCl [(h0, .inr (4, [.ref g1, .ref g2, .ref g3, .ref g4, .ref g5, .int (zI cn), .int (zI bo), .int (zI ru), .ref g6, .ref g7])), (g4, .inl (cg4, 24, .inl f4)), (fr, .inr (0, [.ref k1, .ref k2, .ref k3, .int (zI n)])), (k1, .inl (ck1, 4, .inl fk)), (k2, .inl (ck2, 4, .inl fb))] s.heap := hP
  have hl := lv_entry ([.ref h0, .ref fr]) (n := 4) (Nat.le_of_ble_eq_true rfl)
  rw [lg_entry_eq]
  generalize (lg_sl ([.ref h0, .ref fr]) ++ List.replicate (4 - (lg_sl ([.ref h0, .ref fr])).length) Slot.unset).toArray = ls at hl ⊢
  have hl : lv_has ls 4 [(0, .ref h0), (1, .ref fr)] := hl
  refine lv_iconst (v := zI 0) hx hb dX4_advance_0 rfl ?_
  refine lv_istore_n (lv' := [(2, .int (zI 0)), (0, .ref h0), (1, .ref fr)]) hx hb dX4_advance_1 rfl hl (by decide) rfl (fun ls hl => ?_)
  refine lv_iconst (v := zI 0) hx hb dX4_advance_2 rfl ?_
  refine lv_istore_n (lv' := [(3, .int (zI 0)), (2, .int (zI 0)), (0, .ref h0), (1, .ref fr)]) hx hb dX4_advance_3 rfl hl (by decide) rfl (fun ls hl => ?_)
  refine k_loopM (I := fun n9 H locs ls => ∃ (js : Int) (jk : Int), n9 = (cn - jk).toNat ∧ (rg js) ∧ (0 ≤ jk ∧ jk ≤ cn) ∧ H = s.heap ∧ locs = [] ∧ lv_has ls 4 [(3, .int (zI jk)), (2, .int (zI js)), (0, .ref h0), (1, .ref fr)]) ?_ _ ⟨0, 0, rfl, (by omega), (by omega), rfl, rfl, hl⟩
  intro n4 ih4 H locs ls hI
  obtain ⟨js, jk, en4, v_40, v_41, eH, eL, hl⟩ := hI
  subst eH
  subst eL
  refine lv_iload_n hx hb dX4_advance_4 rfl (lv_at hl 0 rfl) ?_
  refine lv_aload_n hx hb dX4_advance_5 rfl (lv_at hl 2 rfl) ?_
  refine va_get (D := D) (ci := 4) (v := .int (zI cn)) (C := RX4) (T := TX4) (N := 10) hx hb hts (fun _ h9 => List.mem_cons_of_mem _ (List.mem_append_left _ (List.mem_append_right _ h9))) hown hK hP 0 rfl rfl 5 (by decide) (hts (.fieldLink RX4 51 "FontRuns$Setting" "count" "I") mw_X4_advance_0) (fun _ h9 => h9) rfl dX4_advance_6 ?_
  refine kz_icmp_ge (tgt := 31) hx hb dX4_advance_9 (by decide) (by omega) (by omega) (fun c_1 => ?_) (fun c_1 => ?_)
  · refine lv_iload_n hx hb dX4_advance_31 rfl (lv_at hl 1 rfl) ?_
    exact W.iret (v := (zI js)) hx hb hr (fun t ht hW => QcP_of (by omega) trivial ht) (fun _ h9 => by cases h9) dX4_advance_32
  · refine lv_iload_n hx hb dX4_advance_12 rfl (lv_at hl 1 rfl) ?_
    refine lv_aload_n hx hb dX4_advance_13 rfl (lv_at hl 3 rfl) ?_
    refine lv_aload_n hx hb dX4_advance_14 rfl (lv_at hl 2 rfl) ?_
    refine va_get (D := D) (ci := 4) (v := .ref g4) (C := RX4) (T := TX4) (N := 10) hx hb hts (fun _ h9 => List.mem_cons_of_mem _ (List.mem_append_left _ (List.mem_append_right _ h9))) hown hK hP 0 rfl rfl 3 (by decide) (hts (.fieldLink RX4 21 "FontRuns$Setting" "chosen" "[I") mw_X4_advance_1) (fun _ h9 => h9) rfl dX4_advance_15 ?_
    refine lv_iload_n hx hb dX4_advance_18 rfl (lv_at hl 0 rfl) ?_
    refine kz_iald hx hb hK hP 1 0 rfl rfl (by omega) dX4_advance_19 (fun z_2 rz_2 ez_2 => ?_)
    refine k_callP (va_runV (As := [.int (zI z_2)]) (rest := [.int (zI js)]) ⟨hx, hb, hml, hown, hts⟩ (c_X0_step l D s.heap.size (f := z_2) (h0 := fr) (k1 := k1) (k2 := k2) (k3 := k3) (n := n) (ck1 := ck1) (fk := fk) (ck2 := ck2) (fb := fb) (by omega) q3) (cwV 1 hts gX4_advance_X0_step rfl rfl rfl (by decide +kernel) ⟨Nat.le_of_ble_eq_true rfl, Nat.le_of_ble_eq_true rfl⟩) (kPreV hP (kD0 hD) hK hN [2, 3, 4] [1, 2] ax_X4_advance_0 rfl (by decide +kernel) 2 0 rfl rfl) rfl rfl hl.1 rfl (lv_room (Nat.le_of_ble_eq_true rfl)) dX4_advance_20 ⟨Nat.le_of_ble_eq_true rfl, Nat.le_of_ble_eq_true rfl⟩) (fun z_3 rz_3 h_4 => ?_)
    refine kz_iadd hx hb dX4_advance_23 ?_
    refine kz_any (fun z_5 rz_5 ez_5 => ?_)
    refine lv_istore_n (lv' := [(2, .int (zI z_5)), (3, .int (zI jk)), (0, .ref h0), (1, .ref fr)]) hx hb dX4_advance_24 rfl hl (by decide) rfl (fun ls hl => ?_)
    refine lv_iinc (v := (zI (jk + 1))) (lv' := [(3, .int (zI (jk + 1))), (2, .int (zI z_5)), (0, .ref h0), (1, .ref fr)]) hx hb dX4_advance_25 hl (k := 1) rfl (kz_inc _ 1) (by decide) rfl (fun ls hl => ?_)
    refine lv_goto (tgt := 4) hx hb dX4_advance_28 (by decide) ?_
    exact ih4 _ (by omega) _ _ _ ⟨z_5, (jk + 1), rfl, (by omega), (by omega), rfl, rfl, lv_sub hl [0, 1, 2, 3] rfl⟩
theorem dX4_clustersIn_0 : decode cX4_clustersIn 0 = .ok (.iconst 0, 1) := kqo_03 kbl_X4_clustersIn (pc := 0) rfl
theorem dX4_clustersIn_1 : decode cX4_clustersIn 1 = .ok (.istore_n 2, 1) := kqo_3d kbl_X4_clustersIn (pc := 1) rfl
theorem dX4_clustersIn_2 : decode cX4_clustersIn 2 = .ok (.iconst 0, 1) := kqo_03 kbl_X4_clustersIn (pc := 2) rfl
theorem dX4_clustersIn_3 : decode cX4_clustersIn 3 = .ok (.istore_n 3, 1) := kqo_3e kbl_X4_clustersIn (pc := 3) rfl
theorem dX4_clustersIn_4 : decode cX4_clustersIn 4 = .ok (.iload_n 3, 1) := kqo_1d kbl_X4_clustersIn (pc := 4) rfl
theorem dX4_clustersIn_5 : decode cX4_clustersIn 5 = .ok (.aload_n 0, 1) := kqo_2a kbl_X4_clustersIn (pc := 5) rfl
theorem dX4_clustersIn_6 : decode cX4_clustersIn 6 = .ok (.getfield 51, 3) := kqo_b4 (x1 := 0) (x2 := 51) kbl_X4_clustersIn (pc := 6) rfl rfl
theorem dX4_clustersIn_9 : decode cX4_clustersIn 9 = .ok (.if_icmp .ge 22, 3) := kqo_a2 (x1 := 0) (x2 := 22) kbl_X4_clustersIn (pc := 9) rfl rfl
theorem dX4_clustersIn_12 : decode cX4_clustersIn 12 = .ok (.aload_n 0, 1) := kqo_2a kbl_X4_clustersIn (pc := 12) rfl
theorem dX4_clustersIn_13 : decode cX4_clustersIn 13 = .ok (.getfield 21, 3) := kqo_b4 (x1 := 0) (x2 := 21) kbl_X4_clustersIn (pc := 13) rfl rfl
theorem dX4_clustersIn_16 : decode cX4_clustersIn 16 = .ok (.iload_n 3, 1) := kqo_1d kbl_X4_clustersIn (pc := 16) rfl
theorem dX4_clustersIn_17 : decode cX4_clustersIn 17 = .ok (.iaload, 1) := kqo_2e kbl_X4_clustersIn (pc := 17) rfl
theorem dX4_clustersIn_18 : decode cX4_clustersIn 18 = .ok (.iload_n 1, 1) := kqo_1b kbl_X4_clustersIn (pc := 18) rfl
theorem dX4_clustersIn_19 : decode cX4_clustersIn 19 = .ok (.if_icmp .ne 6, 3) := kqo_a0 (x1 := 0) (x2 := 6) kbl_X4_clustersIn (pc := 19) rfl rfl
theorem dX4_clustersIn_22 : decode cX4_clustersIn 22 = .ok (.iinc 2 1, 3) := kqo_84 (x1 := 2) (x2 := 1) kbl_X4_clustersIn (pc := 22) rfl rfl
theorem dX4_clustersIn_25 : decode cX4_clustersIn 25 = .ok (.iinc 3 1, 3) := kqo_84 (x1 := 3) (x2 := 1) kbl_X4_clustersIn (pc := 25) rfl rfl
theorem dX4_clustersIn_28 : decode cX4_clustersIn 28 = .ok (.goto (-24), 3) := kqo_a7 (x1 := 255) (x2 := 232) kbl_X4_clustersIn (pc := 28) rfl rfl
theorem dX4_clustersIn_31 : decode cX4_clustersIn 31 = .ok (.iload_n 2, 1) := kqo_1c kbl_X4_clustersIn (pc := 31) rfl
theorem dX4_clustersIn_32 : decode cX4_clustersIn 32 = .ok (.ireturn, 1) := kqo_ac kbl_X4_clustersIn (pc := 32) rfl
set_option maxRecDepth 20000 in
theorem mw_X4_clustersIn_0 : (.fieldLink RX4 51 "FontRuns$Setting" "count" "I" : Cond) ∈ wsX4_clustersIn := List.mem_cons_of_mem _ (List.mem_append_left _ (List.mem_of_getElem? (i := 0) rfl))
set_option maxRecDepth 20000 in
theorem mw_X4_clustersIn_1 : (.fieldLink RX4 21 "FontRuns$Setting" "chosen" "[I" : Cond) ∈ wsX4_clustersIn := List.mem_cons_of_mem _ (List.mem_append_left _ (List.mem_of_getElem? (i := 1) rfl))
set_option maxHeartbeats 4000000 in
set_option maxRecDepth 100000 in
theorem c_X4_clustersIn (l : Launch) (D : va_G) (sz : Nat) (f : Int) (h0 : Nat) (g1 : Nat) (g2 : Nat) (g3 : Nat) (g4 : Nat) (g5 : Nat) (cn : Int) (bo : Int) (ru : Int) (g6 : Nat) (g7 : Nat) (cg4 : ClassId) (f4 : Nat → Int32) (q0 : rg f) (q1 : 0 ≤ cn ∧ cn ≤ 24) (q2 : 0 ≤ bo ∧ bo ≤ 24) (q3 : 0 ≤ ru ∧ ru ≤ cn) : Met l yX4_clustersIn wsX4_clustersIn ({ frames := 0, cells := 0, slots := 0, locals := 0 }) (kPre [.ref h0, .int (zI f)] D [(h0, .inr (4, [.ref g1, .ref g2, .ref g3, .ref g4, .ref g5, .int (zI cn), .int (zI bo), .int (zI ru), .ref g6, .ref g7])), (g4, .inl (cg4, 24, .inl f4))] [(cg4, .int)] sz) (QcP (fun rz => True)) 0 0 (fun _ => False) := by
  refine Met.ofW (cc := cX4_clustersIn) (maxL := 4) (ret := (some .int)) (by decide) rfl ?_
  intro p e s m args below meth c s₁ B hml hv
  obtain ⟨rfl, hsz, hP, hK, hD0, hN⟩ := hv
  have hx := B.exec
  have hb := B.bytes
  have hr := B.returns
  have hts := atoms_spec (ws := wsX4_clustersIn) B.pre
  have hown : s.vm.findClass RX4 = some m.cls := findClass_of_methodNamed B.named
  have hlocks := B.notSynchronized
  subst hsz
  have hD := hD0
  have hP : va_P D vwCl [(h0, .inr (4, [.ref g1, .ref g2, .ref g3, .ref g4, .ref g5, .int (zI cn), .int (zI bo), .int (zI ru), .ref g6, .ref g7])), (g4, .inl (cg4, 24, .inl f4))] s.heap := hP
  have hl := lv_entry ([.ref h0, .int (zI f)]) (n := 4) (Nat.le_of_ble_eq_true rfl)
  rw [lg_entry_eq]
  generalize (lg_sl ([.ref h0, .int (zI f)]) ++ List.replicate (4 - (lg_sl ([.ref h0, .int (zI f)])).length) Slot.unset).toArray = ls at hl ⊢
  have hl : lv_has ls 4 [(0, .ref h0), (1, .int (zI f))] := hl
  refine lv_iconst (v := zI 0) hx hb dX4_clustersIn_0 rfl ?_
  refine lv_istore_n (lv' := [(2, .int (zI 0)), (0, .ref h0), (1, .int (zI f))]) hx hb dX4_clustersIn_1 rfl hl (by decide) rfl (fun ls hl => ?_)
  refine lv_iconst (v := zI 0) hx hb dX4_clustersIn_2 rfl ?_
  refine lv_istore_n (lv' := [(3, .int (zI 0)), (2, .int (zI 0)), (0, .ref h0), (1, .int (zI f))]) hx hb dX4_clustersIn_3 rfl hl (by decide) rfl (fun ls hl => ?_)
  refine k_loopM (I := fun n9 H locs ls => ∃ (js : Int) (jk : Int), n9 = (cn - jk).toNat ∧ (0 ≤ js ∧ js ≤ jk) ∧ (0 ≤ jk ∧ jk ≤ cn) ∧ H = s.heap ∧ locs = [] ∧ lv_has ls 4 [(3, .int (zI jk)), (2, .int (zI js)), (0, .ref h0), (1, .int (zI f))]) ?_ _ ⟨0, 0, rfl, (by omega), (by omega), rfl, rfl, hl⟩
  intro n4 ih4 H locs ls hI
  obtain ⟨js, jk, en4, v_40, v_41, eH, eL, hl⟩ := hI
  subst eH
  subst eL
  refine lv_iload_n hx hb dX4_clustersIn_4 rfl (lv_at hl 0 rfl) ?_
  refine lv_aload_n hx hb dX4_clustersIn_5 rfl (lv_at hl 2 rfl) ?_
  refine va_get (D := D) (ci := 4) (v := .int (zI cn)) (C := RX4) (T := TX4) (N := 10) hx hb hts (fun _ h9 => List.mem_cons_of_mem _ (List.mem_append_right _ h9)) hown hK hP 0 rfl rfl 5 (by decide) (hts (.fieldLink RX4 51 "FontRuns$Setting" "count" "I") mw_X4_clustersIn_0) (fun _ h9 => h9) rfl dX4_clustersIn_6 ?_
  refine kz_icmp_ge (tgt := 31) hx hb dX4_clustersIn_9 (by decide) (by omega) (by omega) (fun c_1 => ?_) (fun c_1 => ?_)
  · refine lv_iload_n hx hb dX4_clustersIn_31 rfl (lv_at hl 1 rfl) ?_
    exact W.iret (v := (zI js)) hx hb hr (fun t ht hW => QcP_of (by omega) trivial ht) (fun _ h9 => by cases h9) dX4_clustersIn_32
  · refine lv_aload_n hx hb dX4_clustersIn_12 rfl (lv_at hl 2 rfl) ?_
    refine va_get (D := D) (ci := 4) (v := .ref g4) (C := RX4) (T := TX4) (N := 10) hx hb hts (fun _ h9 => List.mem_cons_of_mem _ (List.mem_append_right _ h9)) hown hK hP 0 rfl rfl 3 (by decide) (hts (.fieldLink RX4 21 "FontRuns$Setting" "chosen" "[I") mw_X4_clustersIn_1) (fun _ h9 => h9) rfl dX4_clustersIn_13 ?_
    refine lv_iload_n hx hb dX4_clustersIn_16 rfl (lv_at hl 0 rfl) ?_
    refine kz_iald hx hb hK hP 1 0 rfl rfl (by omega) dX4_clustersIn_17 (fun z_2 rz_2 ez_2 => ?_)
    refine lv_iload_n hx hb dX4_clustersIn_18 rfl (lv_at hl 3 rfl) ?_
    refine kz_icmp_ne (tgt := 25) hx hb dX4_clustersIn_19 (by decide) (by omega) (by omega) (fun c_3 => ?_) (fun c_3 => ?_)
    · refine lv_iinc (v := (zI (jk + 1))) (lv' := [(3, .int (zI (jk + 1))), (2, .int (zI js)), (0, .ref h0), (1, .int (zI f))]) hx hb dX4_clustersIn_25 hl (k := 0) rfl (kz_inc _ 1) (by decide) rfl (fun ls hl => ?_)
      refine lv_goto (tgt := 4) hx hb dX4_clustersIn_28 (by decide) ?_
      exact ih4 _ (by omega) _ _ _ ⟨js, (jk + 1), rfl, (by omega), (by omega), rfl, rfl, lv_sub hl [0, 1, 2, 3] rfl⟩
    · refine lv_iinc (v := (zI (js + 1))) (lv' := [(2, .int (zI (js + 1))), (3, .int (zI jk)), (0, .ref h0), (1, .int (zI f))]) hx hb dX4_clustersIn_22 hl (k := 1) rfl (kz_inc _ 1) (by decide) rfl (fun ls hl => ?_)
      refine lv_iinc (v := (zI (jk + 1))) (lv' := [(3, .int (zI (jk + 1))), (2, .int (zI (js + 1))), (0, .ref h0), (1, .int (zI f))]) hx hb dX4_clustersIn_25 hl (k := 1) rfl (kz_inc _ 1) (by decide) rfl (fun ls hl => ?_)
      refine lv_goto (tgt := 4) hx hb dX4_clustersIn_28 (by decide) ?_
      exact ih4 _ (by omega) _ _ _ ⟨(js + 1), (jk + 1), rfl, (by omega), (by omega), rfl, rfl, lv_sub hl [0, 1, 2, 3] rfl⟩
theorem dX4_firstOfRun_0 : decode cX4_firstOfRun 0 = .ok (.iconst 0, 1) := kqo_03 kbl_X4_firstOfRun (pc := 0) rfl
theorem dX4_firstOfRun_1 : decode cX4_firstOfRun 1 = .ok (.istore_n 2, 1) := kqo_3d kbl_X4_firstOfRun (pc := 1) rfl
theorem dX4_firstOfRun_2 : decode cX4_firstOfRun 2 = .ok (.iload_n 2, 1) := kqo_1c kbl_X4_firstOfRun (pc := 2) rfl
theorem dX4_firstOfRun_3 : decode cX4_firstOfRun 3 = .ok (.aload_n 0, 1) := kqo_2a kbl_X4_firstOfRun (pc := 3) rfl
theorem dX4_firstOfRun_4 : decode cX4_firstOfRun 4 = .ok (.getfield 51, 3) := kqo_b4 (x1 := 0) (x2 := 51) kbl_X4_firstOfRun (pc := 4) rfl rfl
theorem dX4_firstOfRun_7 : decode cX4_firstOfRun 7 = .ok (.iconst 1, 1) := kqo_04 kbl_X4_firstOfRun (pc := 7) rfl
theorem dX4_firstOfRun_8 : decode cX4_firstOfRun 8 = .ok (.isub, 1) := kqo_64 kbl_X4_firstOfRun (pc := 8) rfl
theorem dX4_firstOfRun_9 : decode cX4_firstOfRun 9 = .ok (.if_icmp .ge 19, 3) := kqo_a2 (x1 := 0) (x2 := 19) kbl_X4_firstOfRun (pc := 9) rfl rfl
theorem dX4_firstOfRun_12 : decode cX4_firstOfRun 12 = .ok (.aload_n 0, 1) := kqo_2a kbl_X4_firstOfRun (pc := 12) rfl
theorem dX4_firstOfRun_13 : decode cX4_firstOfRun 13 = .ok (.getfield 24, 3) := kqo_b4 (x1 := 0) (x2 := 24) kbl_X4_firstOfRun (pc := 13) rfl rfl
theorem dX4_firstOfRun_16 : decode cX4_firstOfRun 16 = .ok (.iload_n 2, 1) := kqo_1c kbl_X4_firstOfRun (pc := 16) rfl
theorem dX4_firstOfRun_17 : decode cX4_firstOfRun 17 = .ok (.iaload, 1) := kqo_2e kbl_X4_firstOfRun (pc := 17) rfl
theorem dX4_firstOfRun_18 : decode cX4_firstOfRun 18 = .ok (.iload_n 1, 1) := kqo_1b kbl_X4_firstOfRun (pc := 18) rfl
theorem dX4_firstOfRun_19 : decode cX4_firstOfRun 19 = .ok (.if_icmp .eq 9, 3) := kqo_9f (x1 := 0) (x2 := 9) kbl_X4_firstOfRun (pc := 19) rfl rfl
theorem dX4_firstOfRun_22 : decode cX4_firstOfRun 22 = .ok (.iinc 2 1, 3) := kqo_84 (x1 := 2) (x2 := 1) kbl_X4_firstOfRun (pc := 22) rfl rfl
theorem dX4_firstOfRun_25 : decode cX4_firstOfRun 25 = .ok (.goto (-23), 3) := kqo_a7 (x1 := 255) (x2 := 233) kbl_X4_firstOfRun (pc := 25) rfl rfl
theorem dX4_firstOfRun_28 : decode cX4_firstOfRun 28 = .ok (.iload_n 2, 1) := kqo_1c kbl_X4_firstOfRun (pc := 28) rfl
theorem dX4_firstOfRun_29 : decode cX4_firstOfRun 29 = .ok (.ireturn, 1) := kqo_ac kbl_X4_firstOfRun (pc := 29) rfl
set_option maxRecDepth 20000 in
theorem mw_X4_firstOfRun_0 : (.fieldLink RX4 51 "FontRuns$Setting" "count" "I" : Cond) ∈ wsX4_firstOfRun := List.mem_cons_of_mem _ (List.mem_append_left _ (List.mem_of_getElem? (i := 0) rfl))
set_option maxRecDepth 20000 in
theorem mw_X4_firstOfRun_1 : (.fieldLink RX4 24 "FontRuns$Setting" "runOf" "[I" : Cond) ∈ wsX4_firstOfRun := List.mem_cons_of_mem _ (List.mem_append_left _ (List.mem_of_getElem? (i := 1) rfl))
set_option maxHeartbeats 4000000 in
set_option maxRecDepth 100000 in
theorem c_X4_firstOfRun (l : Launch) (D : va_G) (sz : Nat) (f : Int) (h0 : Nat) (g1 : Nat) (g2 : Nat) (g3 : Nat) (g4 : Nat) (g5 : Nat) (cn : Int) (bo : Int) (ru : Int) (g6 : Nat) (g7 : Nat) (cg5 : ClassId) (f5 : Nat → Int32) (q0 : rg f) (q1 : 0 ≤ cn ∧ cn ≤ 24) (q2 : 0 ≤ bo ∧ bo ≤ 24) (q3 : 0 ≤ ru ∧ ru ≤ cn) : Met l yX4_firstOfRun wsX4_firstOfRun ({ frames := 0, cells := 0, slots := 0, locals := 0 }) (kPre [.ref h0, .int (zI f)] D [(h0, .inr (4, [.ref g1, .ref g2, .ref g3, .ref g4, .ref g5, .int (zI cn), .int (zI bo), .int (zI ru), .ref g6, .ref g7])), (g5, .inl (cg5, 24, .inl f5))] [(cg5, .int)] sz) (QcP (fun rz => 0 ≤ rz ∧ rz ≤ 23)) 0 0 (fun _ => False) := by
  refine Met.ofW (cc := cX4_firstOfRun) (maxL := 3) (ret := (some .int)) (by decide) rfl ?_
  intro p e s m args below meth c s₁ B hml hv
  obtain ⟨rfl, hsz, hP, hK, hD0, hN⟩ := hv
  have hx := B.exec
  have hb := B.bytes
  have hr := B.returns
  have hts := atoms_spec (ws := wsX4_firstOfRun) B.pre
  have hown : s.vm.findClass RX4 = some m.cls := findClass_of_methodNamed B.named
  have hlocks := B.notSynchronized
  subst hsz
  have hD := hD0
  have hP : va_P D vwCl [(h0, .inr (4, [.ref g1, .ref g2, .ref g3, .ref g4, .ref g5, .int (zI cn), .int (zI bo), .int (zI ru), .ref g6, .ref g7])), (g5, .inl (cg5, 24, .inl f5))] s.heap := hP
  have hl := lv_entry ([.ref h0, .int (zI f)]) (n := 3) (Nat.le_of_ble_eq_true rfl)
  rw [lg_entry_eq]
  generalize (lg_sl ([.ref h0, .int (zI f)]) ++ List.replicate (3 - (lg_sl ([.ref h0, .int (zI f)])).length) Slot.unset).toArray = ls at hl ⊢
  have hl : lv_has ls 3 [(0, .ref h0), (1, .int (zI f))] := hl
  refine lv_iconst (v := zI 0) hx hb dX4_firstOfRun_0 rfl ?_
  refine lv_istore_n (lv' := [(2, .int (zI 0)), (0, .ref h0), (1, .int (zI f))]) hx hb dX4_firstOfRun_1 rfl hl (by decide) rfl (fun ls hl => ?_)
  refine k_loopM (I := fun n9 H locs ls => ∃ (jk : Int), n9 = (cn - jk).toNat ∧ (0 ≤ jk ∧ (jk ≤ cn - 1 ∨ jk = 0)) ∧ H = s.heap ∧ locs = [] ∧ lv_has ls 3 [(2, .int (zI jk)), (0, .ref h0), (1, .int (zI f))]) ?_ _ ⟨0, rfl, (by omega), rfl, rfl, hl⟩
  intro n2 ih2 H locs ls hI
  obtain ⟨jk, en2, v_20, eH, eL, hl⟩ := hI
  subst eH
  subst eL
  refine lv_iload_n hx hb dX4_firstOfRun_2 rfl (lv_at hl 0 rfl) ?_
  refine lv_aload_n hx hb dX4_firstOfRun_3 rfl (lv_at hl 1 rfl) ?_
  refine va_get (D := D) (ci := 4) (v := .int (zI cn)) (C := RX4) (T := TX4) (N := 10) hx hb hts (fun _ h9 => List.mem_cons_of_mem _ (List.mem_append_right _ h9)) hown hK hP 0 rfl rfl 5 (by decide) (hts (.fieldLink RX4 51 "FontRuns$Setting" "count" "I") mw_X4_firstOfRun_0) (fun _ h9 => h9) rfl dX4_firstOfRun_4 ?_
  refine lv_iconst (v := zI 1) hx hb dX4_firstOfRun_7 rfl ?_
  refine kz_isub hx hb dX4_firstOfRun_8 ?_
  refine kz_icmp_ge (tgt := 28) hx hb dX4_firstOfRun_9 (by decide) (by omega) (by omega) (fun c_1 => ?_) (fun c_1 => ?_)
  · refine lv_iload_n hx hb dX4_firstOfRun_28 rfl (lv_at hl 0 rfl) ?_
    exact W.iret (v := (zI jk)) hx hb hr (fun t ht hW => QcP_of (by omega) (by omega) ht) (fun _ h9 => by cases h9) dX4_firstOfRun_29
  · refine lv_aload_n hx hb dX4_firstOfRun_12 rfl (lv_at hl 1 rfl) ?_
    refine va_get (D := D) (ci := 4) (v := .ref g5) (C := RX4) (T := TX4) (N := 10) hx hb hts (fun _ h9 => List.mem_cons_of_mem _ (List.mem_append_right _ h9)) hown hK hP 0 rfl rfl 4 (by decide) (hts (.fieldLink RX4 24 "FontRuns$Setting" "runOf" "[I") mw_X4_firstOfRun_1) (fun _ h9 => h9) rfl dX4_firstOfRun_13 ?_
    refine lv_iload_n hx hb dX4_firstOfRun_16 rfl (lv_at hl 0 rfl) ?_
    refine kz_iald hx hb hK hP 1 0 rfl rfl (by omega) dX4_firstOfRun_17 (fun z_2 rz_2 ez_2 => ?_)
    refine lv_iload_n hx hb dX4_firstOfRun_18 rfl (lv_at hl 2 rfl) ?_
    refine kz_icmp_eq (tgt := 28) hx hb dX4_firstOfRun_19 (by decide) (by omega) (by omega) (fun c_3 => ?_) (fun c_3 => ?_)
    · refine lv_iload_n hx hb dX4_firstOfRun_28 rfl (lv_at hl 0 rfl) ?_
      exact W.iret (v := (zI jk)) hx hb hr (fun t ht hW => QcP_of (by omega) (by omega) ht) (fun _ h9 => by cases h9) dX4_firstOfRun_29
    · refine lv_iinc (v := (zI (jk + 1))) (lv' := [(2, .int (zI (jk + 1))), (0, .ref h0), (1, .int (zI f))]) hx hb dX4_firstOfRun_22 hl (k := 0) rfl (kz_inc _ 1) (by decide) rfl (fun ls hl => ?_)
      refine lv_goto (tgt := 2) hx hb dX4_firstOfRun_25 (by decide) ?_
      exact ih2 _ (by omega) _ _ _ ⟨(jk + 1), rfl, (by omega), rfl, rfl, lv_sub hl [0, 1, 2] rfl⟩
theorem dX4_clustersOfRun_0 : decode cX4_clustersOfRun 0 = .ok (.iconst 0, 1) := kqo_03 kbl_X4_clustersOfRun (pc := 0) rfl
theorem dX4_clustersOfRun_1 : decode cX4_clustersOfRun 1 = .ok (.istore_n 2, 1) := kqo_3d kbl_X4_clustersOfRun (pc := 1) rfl
theorem dX4_clustersOfRun_2 : decode cX4_clustersOfRun 2 = .ok (.iconst 0, 1) := kqo_03 kbl_X4_clustersOfRun (pc := 2) rfl
theorem dX4_clustersOfRun_3 : decode cX4_clustersOfRun 3 = .ok (.istore_n 3, 1) := kqo_3e kbl_X4_clustersOfRun (pc := 3) rfl
theorem dX4_clustersOfRun_4 : decode cX4_clustersOfRun 4 = .ok (.iload_n 3, 1) := kqo_1d kbl_X4_clustersOfRun (pc := 4) rfl
theorem dX4_clustersOfRun_5 : decode cX4_clustersOfRun 5 = .ok (.aload_n 0, 1) := kqo_2a kbl_X4_clustersOfRun (pc := 5) rfl
theorem dX4_clustersOfRun_6 : decode cX4_clustersOfRun 6 = .ok (.getfield 51, 3) := kqo_b4 (x1 := 0) (x2 := 51) kbl_X4_clustersOfRun (pc := 6) rfl rfl
theorem dX4_clustersOfRun_9 : decode cX4_clustersOfRun 9 = .ok (.if_icmp .ge 22, 3) := kqo_a2 (x1 := 0) (x2 := 22) kbl_X4_clustersOfRun (pc := 9) rfl rfl
theorem dX4_clustersOfRun_12 : decode cX4_clustersOfRun 12 = .ok (.aload_n 0, 1) := kqo_2a kbl_X4_clustersOfRun (pc := 12) rfl
theorem dX4_clustersOfRun_13 : decode cX4_clustersOfRun 13 = .ok (.getfield 24, 3) := kqo_b4 (x1 := 0) (x2 := 24) kbl_X4_clustersOfRun (pc := 13) rfl rfl
theorem dX4_clustersOfRun_16 : decode cX4_clustersOfRun 16 = .ok (.iload_n 3, 1) := kqo_1d kbl_X4_clustersOfRun (pc := 16) rfl
theorem dX4_clustersOfRun_17 : decode cX4_clustersOfRun 17 = .ok (.iaload, 1) := kqo_2e kbl_X4_clustersOfRun (pc := 17) rfl
theorem dX4_clustersOfRun_18 : decode cX4_clustersOfRun 18 = .ok (.iload_n 1, 1) := kqo_1b kbl_X4_clustersOfRun (pc := 18) rfl
theorem dX4_clustersOfRun_19 : decode cX4_clustersOfRun 19 = .ok (.if_icmp .ne 6, 3) := kqo_a0 (x1 := 0) (x2 := 6) kbl_X4_clustersOfRun (pc := 19) rfl rfl
theorem dX4_clustersOfRun_22 : decode cX4_clustersOfRun 22 = .ok (.iinc 2 1, 3) := kqo_84 (x1 := 2) (x2 := 1) kbl_X4_clustersOfRun (pc := 22) rfl rfl
theorem dX4_clustersOfRun_25 : decode cX4_clustersOfRun 25 = .ok (.iinc 3 1, 3) := kqo_84 (x1 := 3) (x2 := 1) kbl_X4_clustersOfRun (pc := 25) rfl rfl
theorem dX4_clustersOfRun_28 : decode cX4_clustersOfRun 28 = .ok (.goto (-24), 3) := kqo_a7 (x1 := 255) (x2 := 232) kbl_X4_clustersOfRun (pc := 28) rfl rfl
theorem dX4_clustersOfRun_31 : decode cX4_clustersOfRun 31 = .ok (.iload_n 2, 1) := kqo_1c kbl_X4_clustersOfRun (pc := 31) rfl
theorem dX4_clustersOfRun_32 : decode cX4_clustersOfRun 32 = .ok (.ireturn, 1) := kqo_ac kbl_X4_clustersOfRun (pc := 32) rfl
set_option maxRecDepth 20000 in
theorem mw_X4_clustersOfRun_0 : (.fieldLink RX4 51 "FontRuns$Setting" "count" "I" : Cond) ∈ wsX4_clustersOfRun := List.mem_cons_of_mem _ (List.mem_append_left _ (List.mem_of_getElem? (i := 0) rfl))
set_option maxRecDepth 20000 in
theorem mw_X4_clustersOfRun_1 : (.fieldLink RX4 24 "FontRuns$Setting" "runOf" "[I" : Cond) ∈ wsX4_clustersOfRun := List.mem_cons_of_mem _ (List.mem_append_left _ (List.mem_of_getElem? (i := 1) rfl))
set_option maxHeartbeats 4000000 in
set_option maxRecDepth 100000 in
theorem c_X4_clustersOfRun (l : Launch) (D : va_G) (sz : Nat) (f : Int) (h0 : Nat) (g1 : Nat) (g2 : Nat) (g3 : Nat) (g4 : Nat) (g5 : Nat) (cn : Int) (bo : Int) (ru : Int) (g6 : Nat) (g7 : Nat) (cg5 : ClassId) (f5 : Nat → Int32) (q0 : rg f) (q1 : 0 ≤ cn ∧ cn ≤ 24) (q2 : 0 ≤ bo ∧ bo ≤ 24) (q3 : 0 ≤ ru ∧ ru ≤ cn) : Met l yX4_clustersOfRun wsX4_clustersOfRun ({ frames := 0, cells := 0, slots := 0, locals := 0 }) (kPre [.ref h0, .int (zI f)] D [(h0, .inr (4, [.ref g1, .ref g2, .ref g3, .ref g4, .ref g5, .int (zI cn), .int (zI bo), .int (zI ru), .ref g6, .ref g7])), (g5, .inl (cg5, 24, .inl f5))] [(cg5, .int)] sz) (QcP (fun rz => 0 ≤ rz ∧ rz ≤ 24)) 0 0 (fun _ => False) := by
  refine Met.ofW (cc := cX4_clustersOfRun) (maxL := 4) (ret := (some .int)) (by decide) rfl ?_
  intro p e s m args below meth c s₁ B hml hv
  obtain ⟨rfl, hsz, hP, hK, hD0, hN⟩ := hv
  have hx := B.exec
  have hb := B.bytes
  have hr := B.returns
  have hts := atoms_spec (ws := wsX4_clustersOfRun) B.pre
  have hown : s.vm.findClass RX4 = some m.cls := findClass_of_methodNamed B.named
  have hlocks := B.notSynchronized
  subst hsz
  have hD := hD0
  have hP : va_P D vwCl [(h0, .inr (4, [.ref g1, .ref g2, .ref g3, .ref g4, .ref g5, .int (zI cn), .int (zI bo), .int (zI ru), .ref g6, .ref g7])), (g5, .inl (cg5, 24, .inl f5))] s.heap := hP
  have hl := lv_entry ([.ref h0, .int (zI f)]) (n := 4) (Nat.le_of_ble_eq_true rfl)
  rw [lg_entry_eq]
  generalize (lg_sl ([.ref h0, .int (zI f)]) ++ List.replicate (4 - (lg_sl ([.ref h0, .int (zI f)])).length) Slot.unset).toArray = ls at hl ⊢
  have hl : lv_has ls 4 [(0, .ref h0), (1, .int (zI f))] := hl
  refine lv_iconst (v := zI 0) hx hb dX4_clustersOfRun_0 rfl ?_
  refine lv_istore_n (lv' := [(2, .int (zI 0)), (0, .ref h0), (1, .int (zI f))]) hx hb dX4_clustersOfRun_1 rfl hl (by decide) rfl (fun ls hl => ?_)
  refine lv_iconst (v := zI 0) hx hb dX4_clustersOfRun_2 rfl ?_
  refine lv_istore_n (lv' := [(3, .int (zI 0)), (2, .int (zI 0)), (0, .ref h0), (1, .int (zI f))]) hx hb dX4_clustersOfRun_3 rfl hl (by decide) rfl (fun ls hl => ?_)
  refine k_loopM (I := fun n9 H locs ls => ∃ (js : Int) (jk : Int), n9 = (cn - jk).toNat ∧ (0 ≤ js ∧ js ≤ jk) ∧ (0 ≤ jk ∧ jk ≤ cn) ∧ H = s.heap ∧ locs = [] ∧ lv_has ls 4 [(3, .int (zI jk)), (2, .int (zI js)), (0, .ref h0), (1, .int (zI f))]) ?_ _ ⟨0, 0, rfl, (by omega), (by omega), rfl, rfl, hl⟩
  intro n4 ih4 H locs ls hI
  obtain ⟨js, jk, en4, v_40, v_41, eH, eL, hl⟩ := hI
  subst eH
  subst eL
  refine lv_iload_n hx hb dX4_clustersOfRun_4 rfl (lv_at hl 0 rfl) ?_
  refine lv_aload_n hx hb dX4_clustersOfRun_5 rfl (lv_at hl 2 rfl) ?_
  refine va_get (D := D) (ci := 4) (v := .int (zI cn)) (C := RX4) (T := TX4) (N := 10) hx hb hts (fun _ h9 => List.mem_cons_of_mem _ (List.mem_append_right _ h9)) hown hK hP 0 rfl rfl 5 (by decide) (hts (.fieldLink RX4 51 "FontRuns$Setting" "count" "I") mw_X4_clustersOfRun_0) (fun _ h9 => h9) rfl dX4_clustersOfRun_6 ?_
  refine kz_icmp_ge (tgt := 31) hx hb dX4_clustersOfRun_9 (by decide) (by omega) (by omega) (fun c_1 => ?_) (fun c_1 => ?_)
  · refine lv_iload_n hx hb dX4_clustersOfRun_31 rfl (lv_at hl 1 rfl) ?_
    exact W.iret (v := (zI js)) hx hb hr (fun t ht hW => QcP_of (by omega) (by omega) ht) (fun _ h9 => by cases h9) dX4_clustersOfRun_32
  · refine lv_aload_n hx hb dX4_clustersOfRun_12 rfl (lv_at hl 2 rfl) ?_
    refine va_get (D := D) (ci := 4) (v := .ref g5) (C := RX4) (T := TX4) (N := 10) hx hb hts (fun _ h9 => List.mem_cons_of_mem _ (List.mem_append_right _ h9)) hown hK hP 0 rfl rfl 4 (by decide) (hts (.fieldLink RX4 24 "FontRuns$Setting" "runOf" "[I") mw_X4_clustersOfRun_1) (fun _ h9 => h9) rfl dX4_clustersOfRun_13 ?_
    refine lv_iload_n hx hb dX4_clustersOfRun_16 rfl (lv_at hl 0 rfl) ?_
    refine kz_iald hx hb hK hP 1 0 rfl rfl (by omega) dX4_clustersOfRun_17 (fun z_2 rz_2 ez_2 => ?_)
    refine lv_iload_n hx hb dX4_clustersOfRun_18 rfl (lv_at hl 3 rfl) ?_
    refine kz_icmp_ne (tgt := 25) hx hb dX4_clustersOfRun_19 (by decide) (by omega) (by omega) (fun c_3 => ?_) (fun c_3 => ?_)
    · refine lv_iinc (v := (zI (jk + 1))) (lv' := [(3, .int (zI (jk + 1))), (2, .int (zI js)), (0, .ref h0), (1, .int (zI f))]) hx hb dX4_clustersOfRun_25 hl (k := 0) rfl (kz_inc _ 1) (by decide) rfl (fun ls hl => ?_)
      refine lv_goto (tgt := 4) hx hb dX4_clustersOfRun_28 (by decide) ?_
      exact ih4 _ (by omega) _ _ _ ⟨js, (jk + 1), rfl, (by omega), (by omega), rfl, rfl, lv_sub hl [0, 1, 2, 3] rfl⟩
    · refine lv_iinc (v := (zI (js + 1))) (lv' := [(2, .int (zI (js + 1))), (3, .int (zI jk)), (0, .ref h0), (1, .int (zI f))]) hx hb dX4_clustersOfRun_22 hl (k := 1) rfl (kz_inc _ 1) (by decide) rfl (fun ls hl => ?_)
      refine lv_iinc (v := (zI (jk + 1))) (lv' := [(3, .int (zI (jk + 1))), (2, .int (zI (js + 1))), (0, .ref h0), (1, .int (zI f))]) hx hb dX4_clustersOfRun_25 hl (k := 1) rfl (kz_inc _ 1) (by decide) rfl (fun ls hl => ?_)
      refine lv_goto (tgt := 4) hx hb dX4_clustersOfRun_28 (by decide) ?_
      exact ih4 _ (by omega) _ _ _ ⟨(js + 1), (jk + 1), rfl, (by omega), (by omega), rfl, rfl, lv_sub hl [0, 1, 2, 3] rfl⟩
theorem dX4_isServedBy_0 : decode cX4_isServedBy 0 = .ok (.iconst 0, 1) := kqo_03 kbl_X4_isServedBy (pc := 0) rfl
theorem dX4_isServedBy_1 : decode cX4_isServedBy 1 = .ok (.istore_n 2, 1) := kqo_3d kbl_X4_isServedBy (pc := 1) rfl
theorem dX4_isServedBy_2 : decode cX4_isServedBy 2 = .ok (.iload_n 2, 1) := kqo_1c kbl_X4_isServedBy (pc := 2) rfl
theorem dX4_isServedBy_3 : decode cX4_isServedBy 3 = .ok (.aload_n 0, 1) := kqo_2a kbl_X4_isServedBy (pc := 3) rfl
theorem dX4_isServedBy_4 : decode cX4_isServedBy 4 = .ok (.getfield 51, 3) := kqo_b4 (x1 := 0) (x2 := 51) kbl_X4_isServedBy (pc := 4) rfl rfl
theorem dX4_isServedBy_7 : decode cX4_isServedBy 7 = .ok (.if_icmp .ge 31, 3) := kqo_a2 (x1 := 0) (x2 := 31) kbl_X4_isServedBy (pc := 7) rfl rfl
theorem dX4_isServedBy_10 : decode cX4_isServedBy 10 = .ok (.aload_n 0, 1) := kqo_2a kbl_X4_isServedBy (pc := 10) rfl
theorem dX4_isServedBy_11 : decode cX4_isServedBy 11 = .ok (.getfield 18, 3) := kqo_b4 (x1 := 0) (x2 := 18) kbl_X4_isServedBy (pc := 11) rfl rfl
theorem dX4_isServedBy_14 : decode cX4_isServedBy 14 = .ok (.iload_n 2, 1) := kqo_1c kbl_X4_isServedBy (pc := 14) rfl
theorem dX4_isServedBy_15 : decode cX4_isServedBy 15 = .ok (.iaload, 1) := kqo_2e kbl_X4_isServedBy (pc := 15) rfl
theorem dX4_isServedBy_16 : decode cX4_isServedBy 16 = .ok (.ifCond .eq 16, 3) := kqo_99 (x1 := 0) (x2 := 16) kbl_X4_isServedBy (pc := 16) rfl rfl
theorem dX4_isServedBy_19 : decode cX4_isServedBy 19 = .ok (.aload_n 0, 1) := kqo_2a kbl_X4_isServedBy (pc := 19) rfl
theorem dX4_isServedBy_20 : decode cX4_isServedBy 20 = .ok (.getfield 18, 3) := kqo_b4 (x1 := 0) (x2 := 18) kbl_X4_isServedBy (pc := 20) rfl rfl
theorem dX4_isServedBy_23 : decode cX4_isServedBy 23 = .ok (.iload_n 2, 1) := kqo_1c kbl_X4_isServedBy (pc := 23) rfl
theorem dX4_isServedBy_24 : decode cX4_isServedBy 24 = .ok (.iaload, 1) := kqo_2e kbl_X4_isServedBy (pc := 24) rfl
theorem dX4_isServedBy_25 : decode cX4_isServedBy 25 = .ok (.iload_n 1, 1) := kqo_1b kbl_X4_isServedBy (pc := 25) rfl
theorem dX4_isServedBy_26 : decode cX4_isServedBy 26 = .ok (.iand, 1) := kqo_7e kbl_X4_isServedBy (pc := 26) rfl
theorem dX4_isServedBy_27 : decode cX4_isServedBy 27 = .ok (.ifCond .ne 5, 3) := kqo_9a (x1 := 0) (x2 := 5) kbl_X4_isServedBy (pc := 27) rfl rfl
theorem dX4_isServedBy_30 : decode cX4_isServedBy 30 = .ok (.iconst 0, 1) := kqo_03 kbl_X4_isServedBy (pc := 30) rfl
theorem dX4_isServedBy_31 : decode cX4_isServedBy 31 = .ok (.ireturn, 1) := kqo_ac kbl_X4_isServedBy (pc := 31) rfl
theorem dX4_isServedBy_32 : decode cX4_isServedBy 32 = .ok (.iinc 2 1, 3) := kqo_84 (x1 := 2) (x2 := 1) kbl_X4_isServedBy (pc := 32) rfl rfl
theorem dX4_isServedBy_35 : decode cX4_isServedBy 35 = .ok (.goto (-33), 3) := kqo_a7 (x1 := 255) (x2 := 223) kbl_X4_isServedBy (pc := 35) rfl rfl
theorem dX4_isServedBy_38 : decode cX4_isServedBy 38 = .ok (.iconst 1, 1) := kqo_04 kbl_X4_isServedBy (pc := 38) rfl
theorem dX4_isServedBy_39 : decode cX4_isServedBy 39 = .ok (.ireturn, 1) := kqo_ac kbl_X4_isServedBy (pc := 39) rfl
set_option maxRecDepth 20000 in
theorem mw_X4_isServedBy_0 : (.fieldLink RX4 51 "FontRuns$Setting" "count" "I" : Cond) ∈ wsX4_isServedBy := List.mem_cons_of_mem _ (List.mem_append_left _ (List.mem_of_getElem? (i := 0) rfl))
set_option maxRecDepth 20000 in
theorem mw_X4_isServedBy_1 : (.fieldLink RX4 18 "FontRuns$Setting" "fitting" "[I" : Cond) ∈ wsX4_isServedBy := List.mem_cons_of_mem _ (List.mem_append_left _ (List.mem_of_getElem? (i := 1) rfl))
set_option maxHeartbeats 4000000 in
set_option maxRecDepth 100000 in
theorem c_X4_isServedBy (l : Launch) (D : va_G) (sz : Nat) (f : Int) (h0 : Nat) (g1 : Nat) (g2 : Nat) (g3 : Nat) (g4 : Nat) (g5 : Nat) (cn : Int) (bo : Int) (ru : Int) (g6 : Nat) (g7 : Nat) (cg3 : ClassId) (f3 : Nat → Int32) (q0 : rg f) (q1 : 0 ≤ cn ∧ cn ≤ 24) (q2 : 0 ≤ bo ∧ bo ≤ 24) (q3 : 0 ≤ ru ∧ ru ≤ cn) : Met l yX4_isServedBy wsX4_isServedBy ({ frames := 0, cells := 0, slots := 0, locals := 0 }) (kPre [.ref h0, .int (zI f)] D [(h0, .inr (4, [.ref g1, .ref g2, .ref g3, .ref g4, .ref g5, .int (zI cn), .int (zI bo), .int (zI ru), .ref g6, .ref g7])), (g3, .inl (cg3, 24, .inl f3))] [(cg3, .int)] sz) (QcP (fun rz => True)) 0 0 (fun _ => False) := by
  refine Met.ofW (cc := cX4_isServedBy) (maxL := 3) (ret := (some .boolean)) (by decide) rfl ?_
  intro p e s m args below meth c s₁ B hml hv
  obtain ⟨rfl, hsz, hP, hK, hD0, hN⟩ := hv
  have hx := B.exec
  have hb := B.bytes
  have hr := B.returns
  have hts := atoms_spec (ws := wsX4_isServedBy) B.pre
  have hown : s.vm.findClass RX4 = some m.cls := findClass_of_methodNamed B.named
  have hlocks := B.notSynchronized
  subst hsz
  have hD := hD0
  have hP : va_P D vwCl [(h0, .inr (4, [.ref g1, .ref g2, .ref g3, .ref g4, .ref g5, .int (zI cn), .int (zI bo), .int (zI ru), .ref g6, .ref g7])), (g3, .inl (cg3, 24, .inl f3))] s.heap := hP
  have hl := lv_entry ([.ref h0, .int (zI f)]) (n := 3) (Nat.le_of_ble_eq_true rfl)
  rw [lg_entry_eq]
  generalize (lg_sl ([.ref h0, .int (zI f)]) ++ List.replicate (3 - (lg_sl ([.ref h0, .int (zI f)])).length) Slot.unset).toArray = ls at hl ⊢
  have hl : lv_has ls 3 [(0, .ref h0), (1, .int (zI f))] := hl
  refine lv_iconst (v := zI 0) hx hb dX4_isServedBy_0 rfl ?_
  refine lv_istore_n (lv' := [(2, .int (zI 0)), (0, .ref h0), (1, .int (zI f))]) hx hb dX4_isServedBy_1 rfl hl (by decide) rfl (fun ls hl => ?_)
  refine k_loopM (I := fun n9 H locs ls => ∃ (jk : Int), n9 = (cn - jk).toNat ∧ (0 ≤ jk ∧ jk ≤ cn) ∧ H = s.heap ∧ locs = [] ∧ lv_has ls 3 [(2, .int (zI jk)), (0, .ref h0), (1, .int (zI f))]) ?_ _ ⟨0, rfl, (by omega), rfl, rfl, hl⟩
  intro n2 ih2 H locs ls hI
  obtain ⟨jk, en2, v_20, eH, eL, hl⟩ := hI
  subst eH
  subst eL
  refine lv_iload_n hx hb dX4_isServedBy_2 rfl (lv_at hl 0 rfl) ?_
  refine lv_aload_n hx hb dX4_isServedBy_3 rfl (lv_at hl 1 rfl) ?_
  refine va_get (D := D) (ci := 4) (v := .int (zI cn)) (C := RX4) (T := TX4) (N := 10) hx hb hts (fun _ h9 => List.mem_cons_of_mem _ (List.mem_append_right _ h9)) hown hK hP 0 rfl rfl 5 (by decide) (hts (.fieldLink RX4 51 "FontRuns$Setting" "count" "I") mw_X4_isServedBy_0) (fun _ h9 => h9) rfl dX4_isServedBy_4 ?_
  refine kz_icmp_ge (tgt := 38) hx hb dX4_isServedBy_7 (by decide) (by omega) (by omega) (fun c_1 => ?_) (fun c_1 => ?_)
  · refine lv_iconst (v := zI 1) hx hb dX4_isServedBy_38 rfl ?_
    exact W.zret (v := (zI 1)) hx hb hr rfl (fun t ht hW => QcP_of (by omega) trivial ht) (fun _ h9 => by cases h9) dX4_isServedBy_39
  · refine lv_aload_n hx hb dX4_isServedBy_10 rfl (lv_at hl 1 rfl) ?_
    refine va_get (D := D) (ci := 4) (v := .ref g3) (C := RX4) (T := TX4) (N := 10) hx hb hts (fun _ h9 => List.mem_cons_of_mem _ (List.mem_append_right _ h9)) hown hK hP 0 rfl rfl 2 (by decide) (hts (.fieldLink RX4 18 "FontRuns$Setting" "fitting" "[I") mw_X4_isServedBy_1) (fun _ h9 => h9) rfl dX4_isServedBy_11 ?_
    refine lv_iload_n hx hb dX4_isServedBy_14 rfl (lv_at hl 0 rfl) ?_
    refine kz_iald hx hb hK hP 1 0 rfl rfl (by omega) dX4_isServedBy_15 (fun z_2 rz_2 ez_2 => ?_)
    refine kz_if_eq (tgt := 32) hx hb dX4_isServedBy_16 (by decide) (by omega) (fun c_3 => ?_) (fun c_3 => ?_)
    · refine lv_iinc (v := (zI (jk + 1))) (lv' := [(2, .int (zI (jk + 1))), (0, .ref h0), (1, .int (zI f))]) hx hb dX4_isServedBy_32 hl (k := 0) rfl (kz_inc _ 1) (by decide) rfl (fun ls hl => ?_)
      refine lv_goto (tgt := 2) hx hb dX4_isServedBy_35 (by decide) ?_
      exact ih2 _ (by omega) _ _ _ ⟨(jk + 1), rfl, (by omega), rfl, rfl, lv_sub hl [0, 1, 2] rfl⟩
    · refine lv_aload_n hx hb dX4_isServedBy_19 rfl (lv_at hl 1 rfl) ?_
      refine va_get (D := D) (ci := 4) (v := .ref g3) (C := RX4) (T := TX4) (N := 10) hx hb hts (fun _ h9 => List.mem_cons_of_mem _ (List.mem_append_right _ h9)) hown hK hP 0 rfl rfl 2 (by decide) (hts (.fieldLink RX4 18 "FontRuns$Setting" "fitting" "[I") mw_X4_isServedBy_1) (fun _ h9 => h9) rfl dX4_isServedBy_20 ?_
      refine lv_iload_n hx hb dX4_isServedBy_23 rfl (lv_at hl 0 rfl) ?_
      refine kz_iald hx hb hK hP 1 0 rfl rfl (by omega) dX4_isServedBy_24 (fun z_4 rz_4 ez_4 => ?_)
      refine lv_iload_n hx hb dX4_isServedBy_25 rfl (lv_at hl 2 rfl) ?_
      refine lv_iand hx hb dX4_isServedBy_26 ?_
      refine kz_any (fun z_5 rz_5 ez_5 => ?_)
      refine kz_if_ne (tgt := 32) hx hb dX4_isServedBy_27 (by decide) (by omega) (fun c_6 => ?_) (fun c_6 => ?_)
      · refine lv_iinc (v := (zI (jk + 1))) (lv' := [(2, .int (zI (jk + 1))), (0, .ref h0), (1, .int (zI f))]) hx hb dX4_isServedBy_32 hl (k := 0) rfl (kz_inc _ 1) (by decide) rfl (fun ls hl => ?_)
        refine lv_goto (tgt := 2) hx hb dX4_isServedBy_35 (by decide) ?_
        exact ih2 _ (by omega) _ _ _ ⟨(jk + 1), rfl, (by omega), rfl, rfl, lv_sub hl [0, 1, 2] rfl⟩
      · refine lv_iconst (v := zI 0) hx hb dX4_isServedBy_30 rfl ?_
        exact W.zret (v := (zI 0)) hx hb hr rfl (fun t ht hW => QcP_of (by omega) trivial ht) (fun _ h9 => by cases h9) dX4_isServedBy_31
theorem dX4_cut_0 : decode cX4_cut 0 = .ok (.aload_n 0, 1) := kqo_2a kbl_X4_cut (pc := 0) rfl
theorem dX4_cut_1 : decode cX4_cut 1 = .ok (.iconst 0, 1) := kqo_03 kbl_X4_cut (pc := 1) rfl
theorem dX4_cut_2 : decode cX4_cut 2 = .ok (.putfield 51, 3) := kqo_b5 (x1 := 0) (x2 := 51) kbl_X4_cut (pc := 2) rfl rfl
theorem dX4_cut_5 : decode cX4_cut 5 = .ok (.iconst 0, 1) := kqo_03 kbl_X4_cut (pc := 5) rfl
theorem dX4_cut_6 : decode cX4_cut 6 = .ok (.istore_n 2, 1) := kqo_3d kbl_X4_cut (pc := 6) rfl
theorem dX4_cut_7 : decode cX4_cut 7 = .ok (.iload_n 2, 1) := kqo_1c kbl_X4_cut (pc := 7) rfl
theorem dX4_cut_8 : decode cX4_cut 8 = .ok (.aload_n 1, 1) := kqo_2b kbl_X4_cut (pc := 8) rfl
theorem dX4_cut_9 : decode cX4_cut 9 = .ok (.getfield 74, 3) := kqo_b4 (x1 := 0) (x2 := 74) kbl_X4_cut (pc := 9) rfl rfl
theorem dX4_cut_12 : decode cX4_cut 12 = .ok (.if_icmp .ge 101, 3) := kqo_a2 (x1 := 0) (x2 := 101) kbl_X4_cut (pc := 12) rfl rfl
theorem dX4_cut_15 : decode cX4_cut 15 = .ok (.aload_n 1, 1) := kqo_2b kbl_X4_cut (pc := 15) rfl
theorem dX4_cut_16 : decode cX4_cut 16 = .ok (.getfield 77, 3) := kqo_b4 (x1 := 0) (x2 := 77) kbl_X4_cut (pc := 16) rfl rfl
theorem dX4_cut_19 : decode cX4_cut 19 = .ok (.iload_n 2, 1) := kqo_1c kbl_X4_cut (pc := 19) rfl
theorem dX4_cut_20 : decode cX4_cut 20 = .ok (.iaload, 1) := kqo_2e kbl_X4_cut (pc := 20) rfl
theorem dX4_cut_21 : decode cX4_cut 21 = .ok (.istore_n 3, 1) := kqo_3e kbl_X4_cut (pc := 21) rfl
theorem dX4_cut_22 : decode cX4_cut 22 = .ok (.aload_n 0, 1) := kqo_2a kbl_X4_cut (pc := 22) rfl
theorem dX4_cut_23 : decode cX4_cut 23 = .ok (.getfield 51, 3) := kqo_b4 (x1 := 0) (x2 := 51) kbl_X4_cut (pc := 23) rfl rfl
theorem dX4_cut_26 : decode cX4_cut 26 = .ok (.ifCond .eq 9, 3) := kqo_99 (x1 := 0) (x2 := 9) kbl_X4_cut (pc := 26) rfl rfl
theorem dX4_cut_29 : decode cX4_cut 29 = .ok (.iload_n 3, 1) := kqo_1d kbl_X4_cut (pc := 29) rfl
theorem dX4_cut_30 : decode cX4_cut 30 = .ok (.bipush 12, 2) := kqo_10 (x1 := 12) kbl_X4_cut (pc := 30) rfl rfl
theorem dX4_cut_32 : decode cX4_cut 32 = .ok (.if_icmp .ge 43, 3) := kqo_a2 (x1 := 0) (x2 := 43) kbl_X4_cut (pc := 32) rfl rfl
theorem dX4_cut_35 : decode cX4_cut 35 = .ok (.aload_n 0, 1) := kqo_2a kbl_X4_cut (pc := 35) rfl
theorem dX4_cut_36 : decode cX4_cut 36 = .ok (.getfield 9, 3) := kqo_b4 (x1 := 0) (x2 := 9) kbl_X4_cut (pc := 36) rfl rfl
theorem dX4_cut_39 : decode cX4_cut 39 = .ok (.aload_n 0, 1) := kqo_2a kbl_X4_cut (pc := 39) rfl
theorem dX4_cut_40 : decode cX4_cut 40 = .ok (.getfield 51, 3) := kqo_b4 (x1 := 0) (x2 := 51) kbl_X4_cut (pc := 40) rfl rfl
theorem dX4_cut_43 : decode cX4_cut 43 = .ok (.iload_n 2, 1) := kqo_1c kbl_X4_cut (pc := 43) rfl
theorem dX4_cut_44 : decode cX4_cut 44 = .ok (.iastore, 1) := kqo_4f kbl_X4_cut (pc := 44) rfl
theorem dX4_cut_45 : decode cX4_cut 45 = .ok (.aload_n 0, 1) := kqo_2a kbl_X4_cut (pc := 45) rfl
theorem dX4_cut_46 : decode cX4_cut 46 = .ok (.getfield 15, 3) := kqo_b4 (x1 := 0) (x2 := 15) kbl_X4_cut (pc := 46) rfl rfl
theorem dX4_cut_49 : decode cX4_cut 49 = .ok (.aload_n 0, 1) := kqo_2a kbl_X4_cut (pc := 49) rfl
theorem dX4_cut_50 : decode cX4_cut 50 = .ok (.getfield 51, 3) := kqo_b4 (x1 := 0) (x2 := 51) kbl_X4_cut (pc := 50) rfl rfl
theorem dX4_cut_53 : decode cX4_cut 53 = .ok (.iconst 0, 1) := kqo_03 kbl_X4_cut (pc := 53) rfl
theorem dX4_cut_54 : decode cX4_cut 54 = .ok (.iastore, 1) := kqo_4f kbl_X4_cut (pc := 54) rfl
theorem dX4_cut_55 : decode cX4_cut 55 = .ok (.aload_n 0, 1) := kqo_2a kbl_X4_cut (pc := 55) rfl
theorem dX4_cut_56 : decode cX4_cut 56 = .ok (.getfield 27, 3) := kqo_b4 (x1 := 0) (x2 := 27) kbl_X4_cut (pc := 56) rfl rfl
theorem dX4_cut_59 : decode cX4_cut 59 = .ok (.aload_n 0, 1) := kqo_2a kbl_X4_cut (pc := 59) rfl
theorem dX4_cut_60 : decode cX4_cut 60 = .ok (.getfield 51, 3) := kqo_b4 (x1 := 0) (x2 := 51) kbl_X4_cut (pc := 60) rfl rfl
theorem dX4_cut_63 : decode cX4_cut 63 = .ok (.iconst 0, 1) := kqo_03 kbl_X4_cut (pc := 63) rfl
theorem dX4_cut_64 : decode cX4_cut 64 = .ok (.iastore, 1) := kqo_4f kbl_X4_cut (pc := 64) rfl
theorem dX4_cut_65 : decode cX4_cut 65 = .ok (.aload_n 0, 1) := kqo_2a kbl_X4_cut (pc := 65) rfl
theorem dX4_cut_66 : decode cX4_cut 66 = .ok (.dup, 1) := kqo_59 kbl_X4_cut (pc := 66) rfl
theorem dX4_cut_67 : decode cX4_cut 67 = .ok (.getfield 51, 3) := kqo_b4 (x1 := 0) (x2 := 51) kbl_X4_cut (pc := 67) rfl rfl
theorem dX4_cut_70 : decode cX4_cut 70 = .ok (.iconst 1, 1) := kqo_04 kbl_X4_cut (pc := 70) rfl
theorem dX4_cut_71 : decode cX4_cut 71 = .ok (.iadd, 1) := kqo_60 kbl_X4_cut (pc := 71) rfl
theorem dX4_cut_72 : decode cX4_cut 72 = .ok (.putfield 51, 3) := kqo_b5 (x1 := 0) (x2 := 51) kbl_X4_cut (pc := 72) rfl rfl
theorem dX4_cut_75 : decode cX4_cut 75 = .ok (.aload_n 0, 1) := kqo_2a kbl_X4_cut (pc := 75) rfl
theorem dX4_cut_76 : decode cX4_cut 76 = .ok (.getfield 15, 3) := kqo_b4 (x1 := 0) (x2 := 15) kbl_X4_cut (pc := 76) rfl rfl
theorem dX4_cut_79 : decode cX4_cut 79 = .ok (.aload_n 0, 1) := kqo_2a kbl_X4_cut (pc := 79) rfl
theorem dX4_cut_80 : decode cX4_cut 80 = .ok (.getfield 51, 3) := kqo_b4 (x1 := 0) (x2 := 51) kbl_X4_cut (pc := 80) rfl rfl
theorem dX4_cut_83 : decode cX4_cut 83 = .ok (.iconst 1, 1) := kqo_04 kbl_X4_cut (pc := 83) rfl
theorem dX4_cut_84 : decode cX4_cut 84 = .ok (.isub, 1) := kqo_64 kbl_X4_cut (pc := 84) rfl
theorem dX4_cut_85 : decode cX4_cut 85 = .ok (.dup2, 1) := kqo_5c kbl_X4_cut (pc := 85) rfl
theorem dX4_cut_86 : decode cX4_cut 86 = .ok (.iaload, 1) := kqo_2e kbl_X4_cut (pc := 86) rfl
theorem dX4_cut_87 : decode cX4_cut 87 = .ok (.iconst 1, 1) := kqo_04 kbl_X4_cut (pc := 87) rfl
theorem dX4_cut_88 : decode cX4_cut 88 = .ok (.iadd, 1) := kqo_60 kbl_X4_cut (pc := 88) rfl
theorem dX4_cut_89 : decode cX4_cut 89 = .ok (.iastore, 1) := kqo_4f kbl_X4_cut (pc := 89) rfl
theorem dX4_cut_90 : decode cX4_cut 90 = .ok (.aload_n 0, 1) := kqo_2a kbl_X4_cut (pc := 90) rfl
theorem dX4_cut_91 : decode cX4_cut 91 = .ok (.getfield 27, 3) := kqo_b4 (x1 := 0) (x2 := 27) kbl_X4_cut (pc := 91) rfl rfl
theorem dX4_cut_94 : decode cX4_cut 94 = .ok (.aload_n 0, 1) := kqo_2a kbl_X4_cut (pc := 94) rfl
theorem dX4_cut_95 : decode cX4_cut 95 = .ok (.getfield 51, 3) := kqo_b4 (x1 := 0) (x2 := 51) kbl_X4_cut (pc := 95) rfl rfl
theorem dX4_cut_98 : decode cX4_cut 98 = .ok (.iconst 1, 1) := kqo_04 kbl_X4_cut (pc := 98) rfl
theorem dX4_cut_99 : decode cX4_cut 99 = .ok (.isub, 1) := kqo_64 kbl_X4_cut (pc := 99) rfl
theorem dX4_cut_100 : decode cX4_cut 100 = .ok (.dup2, 1) := kqo_5c kbl_X4_cut (pc := 100) rfl
theorem dX4_cut_101 : decode cX4_cut 101 = .ok (.iaload, 1) := kqo_2e kbl_X4_cut (pc := 101) rfl
theorem dX4_cut_102 : decode cX4_cut 102 = .ok (.iconst 1, 1) := kqo_04 kbl_X4_cut (pc := 102) rfl
theorem dX4_cut_103 : decode cX4_cut 103 = .ok (.iload_n 3, 1) := kqo_1d kbl_X4_cut (pc := 103) rfl
theorem dX4_cut_104 : decode cX4_cut 104 = .ok (.ishl, 1) := kqo_78 kbl_X4_cut (pc := 104) rfl
theorem dX4_cut_105 : decode cX4_cut 105 = .ok (.ior, 1) := kqo_80 kbl_X4_cut (pc := 105) rfl
theorem dX4_cut_106 : decode cX4_cut 106 = .ok (.iastore, 1) := kqo_4f kbl_X4_cut (pc := 106) rfl
theorem dX4_cut_107 : decode cX4_cut 107 = .ok (.iinc 2 1, 3) := kqo_84 (x1 := 2) (x2 := 1) kbl_X4_cut (pc := 107) rfl rfl
theorem dX4_cut_110 : decode cX4_cut 110 = .ok (.goto (-103), 3) := kqo_a7 (x1 := 255) (x2 := 153) kbl_X4_cut (pc := 110) rfl rfl
theorem dX4_cut_113 : decode cX4_cut 113 = .ok (.return_, 1) := kqo_b1 kbl_X4_cut (pc := 113) rfl
set_option maxRecDepth 20000 in
theorem mw_X4_cut_0 : (.fieldLink RX4 51 "FontRuns$Setting" "count" "I" : Cond) ∈ wsX4_cut := List.mem_cons_of_mem _ (List.mem_append_left _ (List.mem_append_left _ (List.mem_of_getElem? (i := 0) rfl)))
set_option maxRecDepth 20000 in
theorem mw_X4_cut_1 : (.fieldLink RX4 74 "FontRuns$Writing" "count" "I" : Cond) ∈ wsX4_cut := List.mem_cons_of_mem _ (List.mem_append_left _ (List.mem_append_left _ (List.mem_of_getElem? (i := 1) rfl)))
set_option maxRecDepth 20000 in
theorem mw_X4_cut_2 : (.fieldLink RX4 77 "FontRuns$Writing" "row" "[I" : Cond) ∈ wsX4_cut := List.mem_cons_of_mem _ (List.mem_append_left _ (List.mem_append_left _ (List.mem_of_getElem? (i := 2) rfl)))
set_option maxRecDepth 20000 in
theorem mw_X4_cut_3 : (.fieldLink RX4 9 "FontRuns$Setting" "first" "[I" : Cond) ∈ wsX4_cut := List.mem_cons_of_mem _ (List.mem_append_left _ (List.mem_append_left _ (List.mem_of_getElem? (i := 3) rfl)))
set_option maxRecDepth 20000 in
theorem mw_X4_cut_4 : (.fieldLink RX4 15 "FontRuns$Setting" "length" "[I" : Cond) ∈ wsX4_cut := List.mem_cons_of_mem _ (List.mem_append_left _ (List.mem_append_left _ (List.mem_of_getElem? (i := 4) rfl)))
set_option maxRecDepth 20000 in
theorem mw_X4_cut_5 : (.fieldLink RX4 27 "FontRuns$Setting" "letters" "[I" : Cond) ∈ wsX4_cut := List.mem_cons_of_mem _ (List.mem_append_left _ (List.mem_append_left _ (List.mem_of_getElem? (i := 5) rfl)))
theorem ax_X4_cut_0 {e0 e1 e2 e3 e4 e5 : Nat × va_E} : ([0, 1, 2, 3, 4, 5] : List Nat).map (fun i => ([e0, e1, e2, e3, e4, e5] : va_W)[i]?) = ([e0, e1, e2, e3, e4, e5] : va_W).map some := rfl
set_option maxHeartbeats 4000000 in
set_option maxRecDepth 100000 in
theorem c_X4_cut (l : Launch) (D : va_G) (sz : Nat) (wr : Nat) (h0 : Nat) (g1 : Nat) (g2 : Nat) (g3 : Nat) (g4 : Nat) (g5 : Nat) (cn : Int) (bo : Int) (ru : Int) (g6 : Nat) (g7 : Nat) (cg1 : ClassId) (f1 : Nat → Int32) (cg2 : ClassId) (f2 : Nat → Int32) (cg6 : ClassId) (f6 : Nat → Int32) (w1 : Nat) (wn : Int) (cw1 : ClassId) (fw : Nat → Int32) (q0 : 0 ≤ wn ∧ wn ≤ 24) : Met l yX4_cut wsX4_cut ({ frames := 0, cells := 0, slots := 0, locals := 0 }) (kPre [.ref h0, .ref wr] D [(h0, .inr (4, [.ref g1, .ref g2, .ref g3, .ref g4, .ref g5, .int (zI cn), .int (zI bo), .int (zI ru), .ref g6, .ref g7])), (g1, .inl (cg1, 24, .inl f1)), (g2, .inl (cg2, 24, .inl f2)), (g6, .inl (cg6, 24, .inl f6)), (wr, .inr (7, [.ref w1, .int (zI wn)])), (w1, .inl (cw1, 24, .inl fw))] [(cg1, .int), (cg2, .int), (cg6, .int), (cw1, .int)] sz) (kQV (fun t => ∃ (uc : Int) (v1 : Nat → Int32) (v2 : Nat → Int32) (v6 : Nat → Int32), (0 ≤ uc ∧ uc ≤ 24) ∧ va_P D vwCl [(h0, .inr (4, [.ref g1, .ref g2, .ref g3, .ref g4, .ref g5, .int (zI uc), .int (zI bo), .int (zI ru), .ref g6, .ref g7])), (g1, .inl (cg1, 24, .inl v1)), (g2, .inl (cg2, 24, .inl v2)), (g6, .inl (cg6, 24, .inl v6)), (wr, .inr (7, [.ref w1, .int (zI wn)])), (w1, .inl (cw1, 24, .inl fw))] t.heap ∧ va_D (va_A [(h0, .inr (4, [.ref g1, .ref g2, .ref g3, .ref g4, .ref g5, .int (zI cn), .int (zI bo), .int (zI ru), .ref g6, .ref g7])), (g1, .inl (cg1, 24, .inl f1)), (g2, .inl (cg2, 24, .inl f2)), (g6, .inl (cg6, 24, .inl f6)), (wr, .inr (7, [.ref w1, .int (zI wn)])), (w1, .inl (cw1, 24, .inl fw))] sz) [(h0, .inr (4, [.ref g1, .ref g2, .ref g3, .ref g4, .ref g5, .int (zI uc), .int (zI bo), .int (zI ru), .ref g6, .ref g7])), (g1, .inl (cg1, 24, .inl v1)), (g2, .inl (cg2, 24, .inl v2)), (g6, .inl (cg6, 24, .inl v6)), (wr, .inr (7, [.ref w1, .int (zI wn)])), (w1, .inl (cw1, 24, .inl fw))]) (va_A [(h0, .inr (4, [.ref g1, .ref g2, .ref g3, .ref g4, .ref g5, .int (zI cn), .int (zI bo), .int (zI ru), .ref g6, .ref g7])), (g1, .inl (cg1, 24, .inl f1)), (g2, .inl (cg2, 24, .inl f2)), (g6, .inl (cg6, 24, .inl f6)), (wr, .inr (7, [.ref w1, .int (zI wn)])), (w1, .inl (cw1, 24, .inl fw))] sz)) 0 0 (va_A [(h0, .inr (4, [.ref g1, .ref g2, .ref g3, .ref g4, .ref g5, .int (zI cn), .int (zI bo), .int (zI ru), .ref g6, .ref g7])), (g1, .inl (cg1, 24, .inl f1)), (g2, .inl (cg2, 24, .inl f2)), (g6, .inl (cg6, 24, .inl f6)), (wr, .inr (7, [.ref w1, .int (zI wn)])), (w1, .inl (cw1, 24, .inl fw))] sz) := by
  refine Met.ofW (cc := cX4_cut) (maxL := 4) (ret := none) (by decide) rfl ?_
  intro p e s m args below meth c s₁ B hml hv
  obtain ⟨rfl, hsz, hP, hK, hD0, hN⟩ := hv
  have hx := B.exec
  have hb := B.bytes
  have hr := B.returns
  have hts := atoms_spec (ws := wsX4_cut) B.pre
  have hown : s.vm.findClass RX4 = some m.cls := findClass_of_methodNamed B.named
  have hlocks := B.notSynchronized
  subst hsz
  have hD := hD0.self (sz := s.heap.size)
  generalize hAe : va_A [(h0, .inr (4, [.ref g1, .ref g2, .ref g3, .ref g4, .ref g5, .int (zI cn), .int (zI bo), .int (zI ru), .ref g6, .ref g7])), (g1, .inl (cg1, 24, .inl f1)), (g2, .inl (cg2, 24, .inl f2)), (g6, .inl (cg6, 24, .inl f6)), (wr, .inr (7, [.ref w1, .int (zI wn)])), (w1, .inl (cw1, 24, .inl fw))] s.heap.size = A at hD ⊢
  have hA : ∀ q : Nat, s.heap.size ≤ q → A q := fun q h => by rw [← hAe]; exact Or.inr h
  have hS : va_S A s.heap s.heap [] := va_S.rf
  have hP : va_P D vwCl [(h0, .inr (4, [.ref g1, .ref g2, .ref g3, .ref g4, .ref g5, .int (zI cn), .int (zI bo), .int (zI ru), .ref g6, .ref g7])), (g1, .inl (cg1, 24, .inl f1)), (g2, .inl (cg2, 24, .inl f2)), (g6, .inl (cg6, 24, .inl f6)), (wr, .inr (7, [.ref w1, .int (zI wn)])), (w1, .inl (cw1, 24, .inl fw))] s.heap := hP
  have hl := lv_entry ([.ref h0, .ref wr]) (n := 4) (Nat.le_of_ble_eq_true rfl)
  rw [lg_entry_eq]
  generalize (lg_sl ([.ref h0, .ref wr]) ++ List.replicate (4 - (lg_sl ([.ref h0, .ref wr])).length) Slot.unset).toArray = ls at hl ⊢
  have hl : lv_has ls 4 [(0, .ref h0), (1, .ref wr)] := hl
  refine lv_aload_n hx hb dX4_cut_0 rfl (lv_at hl 0 rfl) ?_
  refine lv_iconst (v := zI 0) hx hb dX4_cut_1 rfl ?_
  refine va_put (D := D) (ci := 4) (v := .int (zI 0)) (ty := .int) (C := RX4) (T := TX4) (N := 10) hx hb hts (fun _ h9 => List.mem_cons_of_mem _ (List.mem_append_left _ (List.mem_append_right _ h9))) tyX4 tyX4_ok nmX4 hown hK hP hD hS 0 rfl rfl 5 (by decide) (hts (.fieldLink RX4 51 "FontRuns$Setting" "count" "I") mw_X4_cut_0) (fun _ h9 => h9) rfl (by decide +kernel) rfl rfl (Nat.le_of_ble_eq_true rfl) dX4_cut_2 (fun H locs hP hD hS => ?_)
  have hP : va_P D vwCl [(h0, .inr (4, [.ref g1, .ref g2, .ref g3, .ref g4, .ref g5, .int (zI 0), .int (zI bo), .int (zI ru), .ref g6, .ref g7])), (g1, .inl (cg1, 24, .inl f1)), (g2, .inl (cg2, 24, .inl f2)), (g6, .inl (cg6, 24, .inl f6)), (wr, .inr (7, [.ref w1, .int (zI wn)])), (w1, .inl (cw1, 24, .inl fw))] H := hP
  have hD : va_D A [(h0, .inr (4, [.ref g1, .ref g2, .ref g3, .ref g4, .ref g5, .int (zI 0), .int (zI bo), .int (zI ru), .ref g6, .ref g7])), (g1, .inl (cg1, 24, .inl f1)), (g2, .inl (cg2, 24, .inl f2)), (g6, .inl (cg6, 24, .inl f6)), (wr, .inr (7, [.ref w1, .int (zI wn)])), (w1, .inl (cw1, 24, .inl fw))] := hD
  refine lv_iconst (v := zI 0) hx hb dX4_cut_5 rfl ?_
  refine lv_istore_n (lv' := [(2, .int (zI 0)), (0, .ref h0), (1, .ref wr)]) hx hb dX4_cut_6 rfl hl (by decide) rfl (fun ls hl => ?_)
  refine k_loopM (I := fun n9 H locs ls => ∃ (jk : Int) (jc : Int) (ja : Nat → Int32) (jb : Nat → Int32) (jl : Nat → Int32), n9 = (wn - jk).toNat ∧ (0 ≤ jk ∧ jk ≤ wn) ∧ (0 ≤ jc ∧ jc ≤ jk) ∧ (jk = 0 ∨ 1 ≤ jc) ∧ va_P D vwCl [(h0, .inr (4, [.ref g1, .ref g2, .ref g3, .ref g4, .ref g5, .int (zI jc), .int (zI bo), .int (zI ru), .ref g6, .ref g7])), (g1, .inl (cg1, 24, .inl ja)), (g2, .inl (cg2, 24, .inl jb)), (g6, .inl (cg6, 24, .inl jl)), (wr, .inr (7, [.ref w1, .int (zI wn)])), (w1, .inl (cw1, 24, .inl fw))] H ∧ va_D A [(h0, .inr (4, [.ref g1, .ref g2, .ref g3, .ref g4, .ref g5, .int (zI jc), .int (zI bo), .int (zI ru), .ref g6, .ref g7])), (g1, .inl (cg1, 24, .inl ja)), (g2, .inl (cg2, 24, .inl jb)), (g6, .inl (cg6, 24, .inl jl)), (wr, .inr (7, [.ref w1, .int (zI wn)])), (w1, .inl (cw1, 24, .inl fw))] ∧ va_S A s.heap H locs ∧ lv_has ls 4 [(2, .int (zI jk)), (0, .ref h0), (1, .ref wr)]) ?_ _ ⟨0, 0, f1, f2, f6, rfl, (by omega), (by omega), (by omega), hP, hD, hS, hl⟩
  intro n7 ih7 H locs ls hI
  obtain ⟨jk, jc, ja, jb, jl, en7, v_70, v_71, v_72, hP, hD, hS, hl⟩ := hI
  refine lv_iload_n hx hb dX4_cut_7 rfl (lv_at hl 0 rfl) ?_
  refine lv_aload_n hx hb dX4_cut_8 rfl (lv_at hl 2 rfl) ?_
  refine va_get (D := D) (ci := 7) (v := .int (zI wn)) (C := RX7) (T := TX7) (N := 2) hx hb hts (fun _ h9 => List.mem_cons_of_mem _ (List.mem_append_right _ h9)) hown hK hP 4 rfl rfl 1 (by decide) (hts (.fieldLink RX4 74 "FontRuns$Writing" "count" "I") mw_X4_cut_1) (fun _ h9 => h9) rfl dX4_cut_9 ?_
  refine kz_icmp_ge (tgt := 113) hx hb dX4_cut_12 (by decide) (by omega) (by omega) (fun c_1 => ?_) (fun c_1 => ?_)
  · have hP9 := hP.sub (ws' := [(h0, .inr (4, [.ref g1, .ref g2, .ref g3, .ref g4, .ref g5, .int (zI jc), .int (zI bo), .int (zI ru), .ref g6, .ref g7])), (g1, .inl (cg1, 24, .inl ja)), (g2, .inl (cg2, 24, .inl jb)), (g6, .inl (cg6, 24, .inl jl)), (wr, .inr (7, [.ref w1, .int (zI wn)])), (w1, .inl (cw1, 24, .inl fw))]) [0, 1, 2, 3, 4, 5] rfl
    have hD9 := hD.sub (ws' := [(h0, .inr (4, [.ref g1, .ref g2, .ref g3, .ref g4, .ref g5, .int (zI jc), .int (zI bo), .int (zI ru), .ref g6, .ref g7])), (g1, .inl (cg1, 24, .inl ja)), (g2, .inl (cg2, 24, .inl jb)), (g6, .inl (cg6, 24, .inl jl)), (wr, .inr (7, [.ref w1, .int (zI wn)])), (w1, .inl (cw1, 24, .inl fw))]) [0, 1, 2, 3, 4, 5] (by decide +kernel) rfl
    exact W.vret hx hb hr (fun t ht hW => kQV_of ⟨jc, ja, jb, jl, (by omega), by rw [ht]; exact hP9, hD9⟩ (hS.F ht)) hS.2.2 dX4_cut_113
  · refine lv_aload_n hx hb dX4_cut_15 rfl (lv_at hl 2 rfl) ?_
    refine va_get (D := D) (ci := 7) (v := .ref w1) (C := RX7) (T := TX7) (N := 2) hx hb hts (fun _ h9 => List.mem_cons_of_mem _ (List.mem_append_right _ h9)) hown hK hP 4 rfl rfl 0 (by decide) (hts (.fieldLink RX4 77 "FontRuns$Writing" "row" "[I") mw_X4_cut_2) (fun _ h9 => h9) rfl dX4_cut_16 ?_
    refine lv_iload_n hx hb dX4_cut_19 rfl (lv_at hl 0 rfl) ?_
    refine kz_iald hx hb hK hP 5 3 rfl rfl (by omega) dX4_cut_20 (fun z_2 rz_2 ez_2 => ?_)
    refine lv_istore_n (lv' := [(3, .int (zI z_2)), (2, .int (zI jk)), (0, .ref h0), (1, .ref wr)]) hx hb dX4_cut_21 rfl hl (by decide) rfl (fun ls hl => ?_)
    refine lv_aload_n hx hb dX4_cut_22 rfl (lv_at hl 2 rfl) ?_
    refine va_get (D := D) (ci := 4) (v := .int (zI jc)) (C := RX4) (T := TX4) (N := 10) hx hb hts (fun _ h9 => List.mem_cons_of_mem _ (List.mem_append_left _ (List.mem_append_right _ h9))) hown hK hP 0 rfl rfl 5 (by decide) (hts (.fieldLink RX4 51 "FontRuns$Setting" "count" "I") mw_X4_cut_0) (fun _ h9 => h9) rfl dX4_cut_23 ?_
    refine kz_if_eq (tgt := 35) hx hb dX4_cut_26 (by decide) (by omega) (fun c_3 => ?_) (fun c_3 => ?_)
    · refine lv_aload_n hx hb dX4_cut_35 rfl (lv_at hl 2 rfl) ?_
      refine va_get (D := D) (ci := 4) (v := .ref g1) (C := RX4) (T := TX4) (N := 10) hx hb hts (fun _ h9 => List.mem_cons_of_mem _ (List.mem_append_left _ (List.mem_append_right _ h9))) hown hK hP 0 rfl rfl 0 (by decide) (hts (.fieldLink RX4 9 "FontRuns$Setting" "first" "[I") mw_X4_cut_3) (fun _ h9 => h9) rfl dX4_cut_36 ?_
      refine lv_aload_n hx hb dX4_cut_39 rfl (lv_at hl 2 rfl) ?_
      refine va_get (D := D) (ci := 4) (v := .int (zI jc)) (C := RX4) (T := TX4) (N := 10) hx hb hts (fun _ h9 => List.mem_cons_of_mem _ (List.mem_append_left _ (List.mem_append_right _ h9))) hown hK hP 0 rfl rfl 5 (by decide) (hts (.fieldLink RX4 51 "FontRuns$Setting" "count" "I") mw_X4_cut_0) (fun _ h9 => h9) rfl dX4_cut_40 ?_
      refine lv_iload_n hx hb dX4_cut_43 rfl (lv_at hl 1 rfl) ?_
      refine kz_iast hx hb hK hP hD hS 1 0 rfl rfl (by omega) dX4_cut_44 (fun H locs hP hD hS => ?_)
      have hP : va_P D vwCl [(h0, .inr (4, [.ref g1, .ref g2, .ref g3, .ref g4, .ref g5, .int (zI jc), .int (zI bo), .int (zI ru), .ref g6, .ref g7])), (g1, .inl (cg1, 24, .inl (upd ja (jc).toNat (zI jk)))), (g2, .inl (cg2, 24, .inl jb)), (g6, .inl (cg6, 24, .inl jl)), (wr, .inr (7, [.ref w1, .int (zI wn)])), (w1, .inl (cw1, 24, .inl fw))] H := hP
      have hD : va_D A [(h0, .inr (4, [.ref g1, .ref g2, .ref g3, .ref g4, .ref g5, .int (zI jc), .int (zI bo), .int (zI ru), .ref g6, .ref g7])), (g1, .inl (cg1, 24, .inl (upd ja (jc).toNat (zI jk)))), (g2, .inl (cg2, 24, .inl jb)), (g6, .inl (cg6, 24, .inl jl)), (wr, .inr (7, [.ref w1, .int (zI wn)])), (w1, .inl (cw1, 24, .inl fw))] := hD
      generalize ef_4 : upd ja (jc).toNat (zI jk) = f_4 at hP hD
      refine lv_aload_n hx hb dX4_cut_45 rfl (lv_at hl 2 rfl) ?_
      refine va_get (D := D) (ci := 4) (v := .ref g2) (C := RX4) (T := TX4) (N := 10) hx hb hts (fun _ h9 => List.mem_cons_of_mem _ (List.mem_append_left _ (List.mem_append_right _ h9))) hown hK hP 0 rfl rfl 1 (by decide) (hts (.fieldLink RX4 15 "FontRuns$Setting" "length" "[I") mw_X4_cut_4) (fun _ h9 => h9) rfl dX4_cut_46 ?_
      refine lv_aload_n hx hb dX4_cut_49 rfl (lv_at hl 2 rfl) ?_
      refine va_get (D := D) (ci := 4) (v := .int (zI jc)) (C := RX4) (T := TX4) (N := 10) hx hb hts (fun _ h9 => List.mem_cons_of_mem _ (List.mem_append_left _ (List.mem_append_right _ h9))) hown hK hP 0 rfl rfl 5 (by decide) (hts (.fieldLink RX4 51 "FontRuns$Setting" "count" "I") mw_X4_cut_0) (fun _ h9 => h9) rfl dX4_cut_50 ?_
      refine lv_iconst (v := zI 0) hx hb dX4_cut_53 rfl ?_
      refine kz_iast hx hb hK hP hD hS 2 1 rfl rfl (by omega) dX4_cut_54 (fun H locs hP hD hS => ?_)
      have hP : va_P D vwCl [(h0, .inr (4, [.ref g1, .ref g2, .ref g3, .ref g4, .ref g5, .int (zI jc), .int (zI bo), .int (zI ru), .ref g6, .ref g7])), (g1, .inl (cg1, 24, .inl f_4)), (g2, .inl (cg2, 24, .inl (upd jb (jc).toNat (zI 0)))), (g6, .inl (cg6, 24, .inl jl)), (wr, .inr (7, [.ref w1, .int (zI wn)])), (w1, .inl (cw1, 24, .inl fw))] H := hP
      have hD : va_D A [(h0, .inr (4, [.ref g1, .ref g2, .ref g3, .ref g4, .ref g5, .int (zI jc), .int (zI bo), .int (zI ru), .ref g6, .ref g7])), (g1, .inl (cg1, 24, .inl f_4)), (g2, .inl (cg2, 24, .inl (upd jb (jc).toNat (zI 0)))), (g6, .inl (cg6, 24, .inl jl)), (wr, .inr (7, [.ref w1, .int (zI wn)])), (w1, .inl (cw1, 24, .inl fw))] := hD
      generalize ef_5 : upd jb (jc).toNat (zI 0) = f_5 at hP hD
      refine lv_aload_n hx hb dX4_cut_55 rfl (lv_at hl 2 rfl) ?_
      refine va_get (D := D) (ci := 4) (v := .ref g6) (C := RX4) (T := TX4) (N := 10) hx hb hts (fun _ h9 => List.mem_cons_of_mem _ (List.mem_append_left _ (List.mem_append_right _ h9))) hown hK hP 0 rfl rfl 8 (by decide) (hts (.fieldLink RX4 27 "FontRuns$Setting" "letters" "[I") mw_X4_cut_5) (fun _ h9 => h9) rfl dX4_cut_56 ?_
      refine lv_aload_n hx hb dX4_cut_59 rfl (lv_at hl 2 rfl) ?_
      refine va_get (D := D) (ci := 4) (v := .int (zI jc)) (C := RX4) (T := TX4) (N := 10) hx hb hts (fun _ h9 => List.mem_cons_of_mem _ (List.mem_append_left _ (List.mem_append_right _ h9))) hown hK hP 0 rfl rfl 5 (by decide) (hts (.fieldLink RX4 51 "FontRuns$Setting" "count" "I") mw_X4_cut_0) (fun _ h9 => h9) rfl dX4_cut_60 ?_
      refine lv_iconst (v := zI 0) hx hb dX4_cut_63 rfl ?_
      refine kz_iast hx hb hK hP hD hS 3 2 rfl rfl (by omega) dX4_cut_64 (fun H locs hP hD hS => ?_)
      have hP : va_P D vwCl [(h0, .inr (4, [.ref g1, .ref g2, .ref g3, .ref g4, .ref g5, .int (zI jc), .int (zI bo), .int (zI ru), .ref g6, .ref g7])), (g1, .inl (cg1, 24, .inl f_4)), (g2, .inl (cg2, 24, .inl f_5)), (g6, .inl (cg6, 24, .inl (upd jl (jc).toNat (zI 0)))), (wr, .inr (7, [.ref w1, .int (zI wn)])), (w1, .inl (cw1, 24, .inl fw))] H := hP
      have hD : va_D A [(h0, .inr (4, [.ref g1, .ref g2, .ref g3, .ref g4, .ref g5, .int (zI jc), .int (zI bo), .int (zI ru), .ref g6, .ref g7])), (g1, .inl (cg1, 24, .inl f_4)), (g2, .inl (cg2, 24, .inl f_5)), (g6, .inl (cg6, 24, .inl (upd jl (jc).toNat (zI 0)))), (wr, .inr (7, [.ref w1, .int (zI wn)])), (w1, .inl (cw1, 24, .inl fw))] := hD
      generalize ef_6 : upd jl (jc).toNat (zI 0) = f_6 at hP hD
      refine lv_aload_n hx hb dX4_cut_65 rfl (lv_at hl 2 rfl) ?_
      refine lv_dup hx hb dX4_cut_66 rfl ?_
      refine va_get (D := D) (ci := 4) (v := .int (zI jc)) (C := RX4) (T := TX4) (N := 10) hx hb hts (fun _ h9 => List.mem_cons_of_mem _ (List.mem_append_left _ (List.mem_append_right _ h9))) hown hK hP 0 rfl rfl 5 (by decide) (hts (.fieldLink RX4 51 "FontRuns$Setting" "count" "I") mw_X4_cut_0) (fun _ h9 => h9) rfl dX4_cut_67 ?_
      refine lv_iconst (v := zI 1) hx hb dX4_cut_70 rfl ?_
      refine kz_iadd hx hb dX4_cut_71 ?_
      refine va_put (D := D) (ci := 4) (v := .int (zI (jc + 1))) (ty := .int) (C := RX4) (T := TX4) (N := 10) hx hb hts (fun _ h9 => List.mem_cons_of_mem _ (List.mem_append_left _ (List.mem_append_right _ h9))) tyX4 tyX4_ok nmX4 hown hK hP hD hS 0 rfl rfl 5 (by decide) (hts (.fieldLink RX4 51 "FontRuns$Setting" "count" "I") mw_X4_cut_0) (fun _ h9 => h9) rfl (by decide +kernel) rfl rfl (Nat.le_of_ble_eq_true rfl) dX4_cut_72 (fun H locs hP hD hS => ?_)
      have hP : va_P D vwCl [(h0, .inr (4, [.ref g1, .ref g2, .ref g3, .ref g4, .ref g5, .int (zI (jc + 1)), .int (zI bo), .int (zI ru), .ref g6, .ref g7])), (g1, .inl (cg1, 24, .inl f_4)), (g2, .inl (cg2, 24, .inl f_5)), (g6, .inl (cg6, 24, .inl f_6)), (wr, .inr (7, [.ref w1, .int (zI wn)])), (w1, .inl (cw1, 24, .inl fw))] H := hP
      have hD : va_D A [(h0, .inr (4, [.ref g1, .ref g2, .ref g3, .ref g4, .ref g5, .int (zI (jc + 1)), .int (zI bo), .int (zI ru), .ref g6, .ref g7])), (g1, .inl (cg1, 24, .inl f_4)), (g2, .inl (cg2, 24, .inl f_5)), (g6, .inl (cg6, 24, .inl f_6)), (wr, .inr (7, [.ref w1, .int (zI wn)])), (w1, .inl (cw1, 24, .inl fw))] := hD
      refine lv_aload_n hx hb dX4_cut_75 rfl (lv_at hl 2 rfl) ?_
      refine va_get (D := D) (ci := 4) (v := .ref g2) (C := RX4) (T := TX4) (N := 10) hx hb hts (fun _ h9 => List.mem_cons_of_mem _ (List.mem_append_left _ (List.mem_append_right _ h9))) hown hK hP 0 rfl rfl 1 (by decide) (hts (.fieldLink RX4 15 "FontRuns$Setting" "length" "[I") mw_X4_cut_4) (fun _ h9 => h9) rfl dX4_cut_76 ?_
      refine lv_aload_n hx hb dX4_cut_79 rfl (lv_at hl 2 rfl) ?_
      refine va_get (D := D) (ci := 4) (v := .int (zI (jc + 1))) (C := RX4) (T := TX4) (N := 10) hx hb hts (fun _ h9 => List.mem_cons_of_mem _ (List.mem_append_left _ (List.mem_append_right _ h9))) hown hK hP 0 rfl rfl 5 (by decide) (hts (.fieldLink RX4 51 "FontRuns$Setting" "count" "I") mw_X4_cut_0) (fun _ h9 => h9) rfl dX4_cut_80 ?_
      refine lv_iconst (v := zI 1) hx hb dX4_cut_83 rfl ?_
      refine kz_isub hx hb dX4_cut_84 ?_
      refine lv_dup2_11 hx hb dX4_cut_85 rfl rfl ?_
      refine kz_iald hx hb hK hP 2 1 rfl rfl (by omega) dX4_cut_86 (fun z_7 rz_7 ez_7 => ?_)
      refine lv_iconst (v := zI 1) hx hb dX4_cut_87 rfl ?_
      refine kz_iadd hx hb dX4_cut_88 ?_
      refine kz_iast hx hb hK hP hD hS 2 1 rfl rfl (by omega) dX4_cut_89 (fun H locs hP hD hS => ?_)
      have hP : va_P D vwCl [(h0, .inr (4, [.ref g1, .ref g2, .ref g3, .ref g4, .ref g5, .int (zI (jc + 1)), .int (zI bo), .int (zI ru), .ref g6, .ref g7])), (g1, .inl (cg1, 24, .inl f_4)), (g2, .inl (cg2, 24, .inl (upd f_5 ((jc + 1) - 1).toNat (zI (z_7 + 1))))), (g6, .inl (cg6, 24, .inl f_6)), (wr, .inr (7, [.ref w1, .int (zI wn)])), (w1, .inl (cw1, 24, .inl fw))] H := hP
      have hD : va_D A [(h0, .inr (4, [.ref g1, .ref g2, .ref g3, .ref g4, .ref g5, .int (zI (jc + 1)), .int (zI bo), .int (zI ru), .ref g6, .ref g7])), (g1, .inl (cg1, 24, .inl f_4)), (g2, .inl (cg2, 24, .inl (upd f_5 ((jc + 1) - 1).toNat (zI (z_7 + 1))))), (g6, .inl (cg6, 24, .inl f_6)), (wr, .inr (7, [.ref w1, .int (zI wn)])), (w1, .inl (cw1, 24, .inl fw))] := hD
      generalize ef_8 : upd f_5 ((jc + 1) - 1).toNat (zI (z_7 + 1)) = f_8 at hP hD
      refine lv_aload_n hx hb dX4_cut_90 rfl (lv_at hl 2 rfl) ?_
      refine va_get (D := D) (ci := 4) (v := .ref g6) (C := RX4) (T := TX4) (N := 10) hx hb hts (fun _ h9 => List.mem_cons_of_mem _ (List.mem_append_left _ (List.mem_append_right _ h9))) hown hK hP 0 rfl rfl 8 (by decide) (hts (.fieldLink RX4 27 "FontRuns$Setting" "letters" "[I") mw_X4_cut_5) (fun _ h9 => h9) rfl dX4_cut_91 ?_
      refine lv_aload_n hx hb dX4_cut_94 rfl (lv_at hl 2 rfl) ?_
      refine va_get (D := D) (ci := 4) (v := .int (zI (jc + 1))) (C := RX4) (T := TX4) (N := 10) hx hb hts (fun _ h9 => List.mem_cons_of_mem _ (List.mem_append_left _ (List.mem_append_right _ h9))) hown hK hP 0 rfl rfl 5 (by decide) (hts (.fieldLink RX4 51 "FontRuns$Setting" "count" "I") mw_X4_cut_0) (fun _ h9 => h9) rfl dX4_cut_95 ?_
      refine lv_iconst (v := zI 1) hx hb dX4_cut_98 rfl ?_
      refine kz_isub hx hb dX4_cut_99 ?_
      refine lv_dup2_11 hx hb dX4_cut_100 rfl rfl ?_
      refine kz_iald hx hb hK hP 3 2 rfl rfl (by omega) dX4_cut_101 (fun z_9 rz_9 ez_9 => ?_)
      refine lv_iconst (v := zI 1) hx hb dX4_cut_102 rfl ?_
      refine lv_iload_n hx hb dX4_cut_103 rfl (lv_at hl 0 rfl) ?_
      refine lv_ishl hx hb dX4_cut_104 ?_
      refine kz_any (fun z_10 rz_10 ez_10 => ?_)
      refine lv_ior hx hb dX4_cut_105 ?_
      refine kz_any (fun z_11 rz_11 ez_11 => ?_)
      refine kz_iast hx hb hK hP hD hS 3 2 rfl rfl (by omega) dX4_cut_106 (fun H locs hP hD hS => ?_)
      have hP : va_P D vwCl [(h0, .inr (4, [.ref g1, .ref g2, .ref g3, .ref g4, .ref g5, .int (zI (jc + 1)), .int (zI bo), .int (zI ru), .ref g6, .ref g7])), (g1, .inl (cg1, 24, .inl f_4)), (g2, .inl (cg2, 24, .inl f_8)), (g6, .inl (cg6, 24, .inl (upd f_6 ((jc + 1) - 1).toNat (zI z_11)))), (wr, .inr (7, [.ref w1, .int (zI wn)])), (w1, .inl (cw1, 24, .inl fw))] H := hP
      have hD : va_D A [(h0, .inr (4, [.ref g1, .ref g2, .ref g3, .ref g4, .ref g5, .int (zI (jc + 1)), .int (zI bo), .int (zI ru), .ref g6, .ref g7])), (g1, .inl (cg1, 24, .inl f_4)), (g2, .inl (cg2, 24, .inl f_8)), (g6, .inl (cg6, 24, .inl (upd f_6 ((jc + 1) - 1).toNat (zI z_11)))), (wr, .inr (7, [.ref w1, .int (zI wn)])), (w1, .inl (cw1, 24, .inl fw))] := hD
      generalize ef_12 : upd f_6 ((jc + 1) - 1).toNat (zI z_11) = f_12 at hP hD
      refine lv_iinc (v := (zI (jk + 1))) (lv' := [(2, .int (zI (jk + 1))), (3, .int (zI z_2)), (0, .ref h0), (1, .ref wr)]) hx hb dX4_cut_107 hl (k := 1) rfl (kz_inc _ 1) (by decide) rfl (fun ls hl => ?_)
      refine lv_goto (tgt := 7) hx hb dX4_cut_110 (by decide) ?_
      exact ih7 _ (by omega) _ _ _ ⟨(jk + 1), (jc + 1), f_4, f_8, f_12, rfl, (by omega), (by omega), (by omega), hP, hD, hS, lv_sub hl [0, 2, 3] rfl⟩
    · refine lv_iload_n hx hb dX4_cut_29 rfl (lv_at hl 0 rfl) ?_
      refine lv_bipush (v := zI 12) hx hb dX4_cut_30 (by decide) ?_
      refine kz_icmp_ge (tgt := 75) hx hb dX4_cut_32 (by decide) (by omega) (by omega) (fun c_13 => ?_) (fun c_13 => ?_)
      · refine lv_aload_n hx hb dX4_cut_75 rfl (lv_at hl 2 rfl) ?_
        refine va_get (D := D) (ci := 4) (v := .ref g2) (C := RX4) (T := TX4) (N := 10) hx hb hts (fun _ h9 => List.mem_cons_of_mem _ (List.mem_append_left _ (List.mem_append_right _ h9))) hown hK hP 0 rfl rfl 1 (by decide) (hts (.fieldLink RX4 15 "FontRuns$Setting" "length" "[I") mw_X4_cut_4) (fun _ h9 => h9) rfl dX4_cut_76 ?_
        refine lv_aload_n hx hb dX4_cut_79 rfl (lv_at hl 2 rfl) ?_
        refine va_get (D := D) (ci := 4) (v := .int (zI jc)) (C := RX4) (T := TX4) (N := 10) hx hb hts (fun _ h9 => List.mem_cons_of_mem _ (List.mem_append_left _ (List.mem_append_right _ h9))) hown hK hP 0 rfl rfl 5 (by decide) (hts (.fieldLink RX4 51 "FontRuns$Setting" "count" "I") mw_X4_cut_0) (fun _ h9 => h9) rfl dX4_cut_80 ?_
        refine lv_iconst (v := zI 1) hx hb dX4_cut_83 rfl ?_
        refine kz_isub hx hb dX4_cut_84 ?_
        refine lv_dup2_11 hx hb dX4_cut_85 rfl rfl ?_
        refine kz_iald hx hb hK hP 2 1 rfl rfl (by omega) dX4_cut_86 (fun z_14 rz_14 ez_14 => ?_)
        refine lv_iconst (v := zI 1) hx hb dX4_cut_87 rfl ?_
        refine kz_iadd hx hb dX4_cut_88 ?_
        refine kz_iast hx hb hK hP hD hS 2 1 rfl rfl (by omega) dX4_cut_89 (fun H locs hP hD hS => ?_)
        have hP : va_P D vwCl [(h0, .inr (4, [.ref g1, .ref g2, .ref g3, .ref g4, .ref g5, .int (zI jc), .int (zI bo), .int (zI ru), .ref g6, .ref g7])), (g1, .inl (cg1, 24, .inl ja)), (g2, .inl (cg2, 24, .inl (upd jb (jc - 1).toNat (zI (z_14 + 1))))), (g6, .inl (cg6, 24, .inl jl)), (wr, .inr (7, [.ref w1, .int (zI wn)])), (w1, .inl (cw1, 24, .inl fw))] H := hP
        have hD : va_D A [(h0, .inr (4, [.ref g1, .ref g2, .ref g3, .ref g4, .ref g5, .int (zI jc), .int (zI bo), .int (zI ru), .ref g6, .ref g7])), (g1, .inl (cg1, 24, .inl ja)), (g2, .inl (cg2, 24, .inl (upd jb (jc - 1).toNat (zI (z_14 + 1))))), (g6, .inl (cg6, 24, .inl jl)), (wr, .inr (7, [.ref w1, .int (zI wn)])), (w1, .inl (cw1, 24, .inl fw))] := hD
        generalize ef_15 : upd jb (jc - 1).toNat (zI (z_14 + 1)) = f_15 at hP hD
        refine lv_aload_n hx hb dX4_cut_90 rfl (lv_at hl 2 rfl) ?_
        refine va_get (D := D) (ci := 4) (v := .ref g6) (C := RX4) (T := TX4) (N := 10) hx hb hts (fun _ h9 => List.mem_cons_of_mem _ (List.mem_append_left _ (List.mem_append_right _ h9))) hown hK hP 0 rfl rfl 8 (by decide) (hts (.fieldLink RX4 27 "FontRuns$Setting" "letters" "[I") mw_X4_cut_5) (fun _ h9 => h9) rfl dX4_cut_91 ?_
        refine lv_aload_n hx hb dX4_cut_94 rfl (lv_at hl 2 rfl) ?_
        refine va_get (D := D) (ci := 4) (v := .int (zI jc)) (C := RX4) (T := TX4) (N := 10) hx hb hts (fun _ h9 => List.mem_cons_of_mem _ (List.mem_append_left _ (List.mem_append_right _ h9))) hown hK hP 0 rfl rfl 5 (by decide) (hts (.fieldLink RX4 51 "FontRuns$Setting" "count" "I") mw_X4_cut_0) (fun _ h9 => h9) rfl dX4_cut_95 ?_
        refine lv_iconst (v := zI 1) hx hb dX4_cut_98 rfl ?_
        refine kz_isub hx hb dX4_cut_99 ?_
        refine lv_dup2_11 hx hb dX4_cut_100 rfl rfl ?_
        refine kz_iald hx hb hK hP 3 2 rfl rfl (by omega) dX4_cut_101 (fun z_16 rz_16 ez_16 => ?_)
        refine lv_iconst (v := zI 1) hx hb dX4_cut_102 rfl ?_
        refine lv_iload_n hx hb dX4_cut_103 rfl (lv_at hl 0 rfl) ?_
        refine lv_ishl hx hb dX4_cut_104 ?_
        refine kz_any (fun z_17 rz_17 ez_17 => ?_)
        refine lv_ior hx hb dX4_cut_105 ?_
        refine kz_any (fun z_18 rz_18 ez_18 => ?_)
        refine kz_iast hx hb hK hP hD hS 3 2 rfl rfl (by omega) dX4_cut_106 (fun H locs hP hD hS => ?_)
        have hP : va_P D vwCl [(h0, .inr (4, [.ref g1, .ref g2, .ref g3, .ref g4, .ref g5, .int (zI jc), .int (zI bo), .int (zI ru), .ref g6, .ref g7])), (g1, .inl (cg1, 24, .inl ja)), (g2, .inl (cg2, 24, .inl f_15)), (g6, .inl (cg6, 24, .inl (upd jl (jc - 1).toNat (zI z_18)))), (wr, .inr (7, [.ref w1, .int (zI wn)])), (w1, .inl (cw1, 24, .inl fw))] H := hP
        have hD : va_D A [(h0, .inr (4, [.ref g1, .ref g2, .ref g3, .ref g4, .ref g5, .int (zI jc), .int (zI bo), .int (zI ru), .ref g6, .ref g7])), (g1, .inl (cg1, 24, .inl ja)), (g2, .inl (cg2, 24, .inl f_15)), (g6, .inl (cg6, 24, .inl (upd jl (jc - 1).toNat (zI z_18)))), (wr, .inr (7, [.ref w1, .int (zI wn)])), (w1, .inl (cw1, 24, .inl fw))] := hD
        generalize ef_19 : upd jl (jc - 1).toNat (zI z_18) = f_19 at hP hD
        refine lv_iinc (v := (zI (jk + 1))) (lv' := [(2, .int (zI (jk + 1))), (3, .int (zI z_2)), (0, .ref h0), (1, .ref wr)]) hx hb dX4_cut_107 hl (k := 1) rfl (kz_inc _ 1) (by decide) rfl (fun ls hl => ?_)
        refine lv_goto (tgt := 7) hx hb dX4_cut_110 (by decide) ?_
        exact ih7 _ (by omega) _ _ _ ⟨(jk + 1), jc, ja, f_15, f_19, rfl, (by omega), (by omega), (by omega), hP, hD, hS, lv_sub hl [0, 2, 3] rfl⟩
      · refine lv_aload_n hx hb dX4_cut_35 rfl (lv_at hl 2 rfl) ?_
        refine va_get (D := D) (ci := 4) (v := .ref g1) (C := RX4) (T := TX4) (N := 10) hx hb hts (fun _ h9 => List.mem_cons_of_mem _ (List.mem_append_left _ (List.mem_append_right _ h9))) hown hK hP 0 rfl rfl 0 (by decide) (hts (.fieldLink RX4 9 "FontRuns$Setting" "first" "[I") mw_X4_cut_3) (fun _ h9 => h9) rfl dX4_cut_36 ?_
        refine lv_aload_n hx hb dX4_cut_39 rfl (lv_at hl 2 rfl) ?_
        refine va_get (D := D) (ci := 4) (v := .int (zI jc)) (C := RX4) (T := TX4) (N := 10) hx hb hts (fun _ h9 => List.mem_cons_of_mem _ (List.mem_append_left _ (List.mem_append_right _ h9))) hown hK hP 0 rfl rfl 5 (by decide) (hts (.fieldLink RX4 51 "FontRuns$Setting" "count" "I") mw_X4_cut_0) (fun _ h9 => h9) rfl dX4_cut_40 ?_
        refine lv_iload_n hx hb dX4_cut_43 rfl (lv_at hl 1 rfl) ?_
        refine kz_iast hx hb hK hP hD hS 1 0 rfl rfl (by omega) dX4_cut_44 (fun H locs hP hD hS => ?_)
        have hP : va_P D vwCl [(h0, .inr (4, [.ref g1, .ref g2, .ref g3, .ref g4, .ref g5, .int (zI jc), .int (zI bo), .int (zI ru), .ref g6, .ref g7])), (g1, .inl (cg1, 24, .inl (upd ja (jc).toNat (zI jk)))), (g2, .inl (cg2, 24, .inl jb)), (g6, .inl (cg6, 24, .inl jl)), (wr, .inr (7, [.ref w1, .int (zI wn)])), (w1, .inl (cw1, 24, .inl fw))] H := hP
        have hD : va_D A [(h0, .inr (4, [.ref g1, .ref g2, .ref g3, .ref g4, .ref g5, .int (zI jc), .int (zI bo), .int (zI ru), .ref g6, .ref g7])), (g1, .inl (cg1, 24, .inl (upd ja (jc).toNat (zI jk)))), (g2, .inl (cg2, 24, .inl jb)), (g6, .inl (cg6, 24, .inl jl)), (wr, .inr (7, [.ref w1, .int (zI wn)])), (w1, .inl (cw1, 24, .inl fw))] := hD
        generalize ef_20 : upd ja (jc).toNat (zI jk) = f_20 at hP hD
        refine lv_aload_n hx hb dX4_cut_45 rfl (lv_at hl 2 rfl) ?_
        refine va_get (D := D) (ci := 4) (v := .ref g2) (C := RX4) (T := TX4) (N := 10) hx hb hts (fun _ h9 => List.mem_cons_of_mem _ (List.mem_append_left _ (List.mem_append_right _ h9))) hown hK hP 0 rfl rfl 1 (by decide) (hts (.fieldLink RX4 15 "FontRuns$Setting" "length" "[I") mw_X4_cut_4) (fun _ h9 => h9) rfl dX4_cut_46 ?_
        refine lv_aload_n hx hb dX4_cut_49 rfl (lv_at hl 2 rfl) ?_
        refine va_get (D := D) (ci := 4) (v := .int (zI jc)) (C := RX4) (T := TX4) (N := 10) hx hb hts (fun _ h9 => List.mem_cons_of_mem _ (List.mem_append_left _ (List.mem_append_right _ h9))) hown hK hP 0 rfl rfl 5 (by decide) (hts (.fieldLink RX4 51 "FontRuns$Setting" "count" "I") mw_X4_cut_0) (fun _ h9 => h9) rfl dX4_cut_50 ?_
        refine lv_iconst (v := zI 0) hx hb dX4_cut_53 rfl ?_
        refine kz_iast hx hb hK hP hD hS 2 1 rfl rfl (by omega) dX4_cut_54 (fun H locs hP hD hS => ?_)
        have hP : va_P D vwCl [(h0, .inr (4, [.ref g1, .ref g2, .ref g3, .ref g4, .ref g5, .int (zI jc), .int (zI bo), .int (zI ru), .ref g6, .ref g7])), (g1, .inl (cg1, 24, .inl f_20)), (g2, .inl (cg2, 24, .inl (upd jb (jc).toNat (zI 0)))), (g6, .inl (cg6, 24, .inl jl)), (wr, .inr (7, [.ref w1, .int (zI wn)])), (w1, .inl (cw1, 24, .inl fw))] H := hP
        have hD : va_D A [(h0, .inr (4, [.ref g1, .ref g2, .ref g3, .ref g4, .ref g5, .int (zI jc), .int (zI bo), .int (zI ru), .ref g6, .ref g7])), (g1, .inl (cg1, 24, .inl f_20)), (g2, .inl (cg2, 24, .inl (upd jb (jc).toNat (zI 0)))), (g6, .inl (cg6, 24, .inl jl)), (wr, .inr (7, [.ref w1, .int (zI wn)])), (w1, .inl (cw1, 24, .inl fw))] := hD
        generalize ef_21 : upd jb (jc).toNat (zI 0) = f_21 at hP hD
        refine lv_aload_n hx hb dX4_cut_55 rfl (lv_at hl 2 rfl) ?_
        refine va_get (D := D) (ci := 4) (v := .ref g6) (C := RX4) (T := TX4) (N := 10) hx hb hts (fun _ h9 => List.mem_cons_of_mem _ (List.mem_append_left _ (List.mem_append_right _ h9))) hown hK hP 0 rfl rfl 8 (by decide) (hts (.fieldLink RX4 27 "FontRuns$Setting" "letters" "[I") mw_X4_cut_5) (fun _ h9 => h9) rfl dX4_cut_56 ?_
        refine lv_aload_n hx hb dX4_cut_59 rfl (lv_at hl 2 rfl) ?_
        refine va_get (D := D) (ci := 4) (v := .int (zI jc)) (C := RX4) (T := TX4) (N := 10) hx hb hts (fun _ h9 => List.mem_cons_of_mem _ (List.mem_append_left _ (List.mem_append_right _ h9))) hown hK hP 0 rfl rfl 5 (by decide) (hts (.fieldLink RX4 51 "FontRuns$Setting" "count" "I") mw_X4_cut_0) (fun _ h9 => h9) rfl dX4_cut_60 ?_
        refine lv_iconst (v := zI 0) hx hb dX4_cut_63 rfl ?_
        refine kz_iast hx hb hK hP hD hS 3 2 rfl rfl (by omega) dX4_cut_64 (fun H locs hP hD hS => ?_)
        have hP : va_P D vwCl [(h0, .inr (4, [.ref g1, .ref g2, .ref g3, .ref g4, .ref g5, .int (zI jc), .int (zI bo), .int (zI ru), .ref g6, .ref g7])), (g1, .inl (cg1, 24, .inl f_20)), (g2, .inl (cg2, 24, .inl f_21)), (g6, .inl (cg6, 24, .inl (upd jl (jc).toNat (zI 0)))), (wr, .inr (7, [.ref w1, .int (zI wn)])), (w1, .inl (cw1, 24, .inl fw))] H := hP
        have hD : va_D A [(h0, .inr (4, [.ref g1, .ref g2, .ref g3, .ref g4, .ref g5, .int (zI jc), .int (zI bo), .int (zI ru), .ref g6, .ref g7])), (g1, .inl (cg1, 24, .inl f_20)), (g2, .inl (cg2, 24, .inl f_21)), (g6, .inl (cg6, 24, .inl (upd jl (jc).toNat (zI 0)))), (wr, .inr (7, [.ref w1, .int (zI wn)])), (w1, .inl (cw1, 24, .inl fw))] := hD
        generalize ef_22 : upd jl (jc).toNat (zI 0) = f_22 at hP hD
        refine lv_aload_n hx hb dX4_cut_65 rfl (lv_at hl 2 rfl) ?_
        refine lv_dup hx hb dX4_cut_66 rfl ?_
        refine va_get (D := D) (ci := 4) (v := .int (zI jc)) (C := RX4) (T := TX4) (N := 10) hx hb hts (fun _ h9 => List.mem_cons_of_mem _ (List.mem_append_left _ (List.mem_append_right _ h9))) hown hK hP 0 rfl rfl 5 (by decide) (hts (.fieldLink RX4 51 "FontRuns$Setting" "count" "I") mw_X4_cut_0) (fun _ h9 => h9) rfl dX4_cut_67 ?_
        refine lv_iconst (v := zI 1) hx hb dX4_cut_70 rfl ?_
        refine kz_iadd hx hb dX4_cut_71 ?_
        refine va_put (D := D) (ci := 4) (v := .int (zI (jc + 1))) (ty := .int) (C := RX4) (T := TX4) (N := 10) hx hb hts (fun _ h9 => List.mem_cons_of_mem _ (List.mem_append_left _ (List.mem_append_right _ h9))) tyX4 tyX4_ok nmX4 hown hK hP hD hS 0 rfl rfl 5 (by decide) (hts (.fieldLink RX4 51 "FontRuns$Setting" "count" "I") mw_X4_cut_0) (fun _ h9 => h9) rfl (by decide +kernel) rfl rfl (Nat.le_of_ble_eq_true rfl) dX4_cut_72 (fun H locs hP hD hS => ?_)
        have hP : va_P D vwCl [(h0, .inr (4, [.ref g1, .ref g2, .ref g3, .ref g4, .ref g5, .int (zI (jc + 1)), .int (zI bo), .int (zI ru), .ref g6, .ref g7])), (g1, .inl (cg1, 24, .inl f_20)), (g2, .inl (cg2, 24, .inl f_21)), (g6, .inl (cg6, 24, .inl f_22)), (wr, .inr (7, [.ref w1, .int (zI wn)])), (w1, .inl (cw1, 24, .inl fw))] H := hP
        have hD : va_D A [(h0, .inr (4, [.ref g1, .ref g2, .ref g3, .ref g4, .ref g5, .int (zI (jc + 1)), .int (zI bo), .int (zI ru), .ref g6, .ref g7])), (g1, .inl (cg1, 24, .inl f_20)), (g2, .inl (cg2, 24, .inl f_21)), (g6, .inl (cg6, 24, .inl f_22)), (wr, .inr (7, [.ref w1, .int (zI wn)])), (w1, .inl (cw1, 24, .inl fw))] := hD
        refine lv_aload_n hx hb dX4_cut_75 rfl (lv_at hl 2 rfl) ?_
        refine va_get (D := D) (ci := 4) (v := .ref g2) (C := RX4) (T := TX4) (N := 10) hx hb hts (fun _ h9 => List.mem_cons_of_mem _ (List.mem_append_left _ (List.mem_append_right _ h9))) hown hK hP 0 rfl rfl 1 (by decide) (hts (.fieldLink RX4 15 "FontRuns$Setting" "length" "[I") mw_X4_cut_4) (fun _ h9 => h9) rfl dX4_cut_76 ?_
        refine lv_aload_n hx hb dX4_cut_79 rfl (lv_at hl 2 rfl) ?_
        refine va_get (D := D) (ci := 4) (v := .int (zI (jc + 1))) (C := RX4) (T := TX4) (N := 10) hx hb hts (fun _ h9 => List.mem_cons_of_mem _ (List.mem_append_left _ (List.mem_append_right _ h9))) hown hK hP 0 rfl rfl 5 (by decide) (hts (.fieldLink RX4 51 "FontRuns$Setting" "count" "I") mw_X4_cut_0) (fun _ h9 => h9) rfl dX4_cut_80 ?_
        refine lv_iconst (v := zI 1) hx hb dX4_cut_83 rfl ?_
        refine kz_isub hx hb dX4_cut_84 ?_
        refine lv_dup2_11 hx hb dX4_cut_85 rfl rfl ?_
        refine kz_iald hx hb hK hP 2 1 rfl rfl (by omega) dX4_cut_86 (fun z_23 rz_23 ez_23 => ?_)
        refine lv_iconst (v := zI 1) hx hb dX4_cut_87 rfl ?_
        refine kz_iadd hx hb dX4_cut_88 ?_
        refine kz_iast hx hb hK hP hD hS 2 1 rfl rfl (by omega) dX4_cut_89 (fun H locs hP hD hS => ?_)
        have hP : va_P D vwCl [(h0, .inr (4, [.ref g1, .ref g2, .ref g3, .ref g4, .ref g5, .int (zI (jc + 1)), .int (zI bo), .int (zI ru), .ref g6, .ref g7])), (g1, .inl (cg1, 24, .inl f_20)), (g2, .inl (cg2, 24, .inl (upd f_21 ((jc + 1) - 1).toNat (zI (z_23 + 1))))), (g6, .inl (cg6, 24, .inl f_22)), (wr, .inr (7, [.ref w1, .int (zI wn)])), (w1, .inl (cw1, 24, .inl fw))] H := hP
        have hD : va_D A [(h0, .inr (4, [.ref g1, .ref g2, .ref g3, .ref g4, .ref g5, .int (zI (jc + 1)), .int (zI bo), .int (zI ru), .ref g6, .ref g7])), (g1, .inl (cg1, 24, .inl f_20)), (g2, .inl (cg2, 24, .inl (upd f_21 ((jc + 1) - 1).toNat (zI (z_23 + 1))))), (g6, .inl (cg6, 24, .inl f_22)), (wr, .inr (7, [.ref w1, .int (zI wn)])), (w1, .inl (cw1, 24, .inl fw))] := hD
        generalize ef_24 : upd f_21 ((jc + 1) - 1).toNat (zI (z_23 + 1)) = f_24 at hP hD
        refine lv_aload_n hx hb dX4_cut_90 rfl (lv_at hl 2 rfl) ?_
        refine va_get (D := D) (ci := 4) (v := .ref g6) (C := RX4) (T := TX4) (N := 10) hx hb hts (fun _ h9 => List.mem_cons_of_mem _ (List.mem_append_left _ (List.mem_append_right _ h9))) hown hK hP 0 rfl rfl 8 (by decide) (hts (.fieldLink RX4 27 "FontRuns$Setting" "letters" "[I") mw_X4_cut_5) (fun _ h9 => h9) rfl dX4_cut_91 ?_
        refine lv_aload_n hx hb dX4_cut_94 rfl (lv_at hl 2 rfl) ?_
        refine va_get (D := D) (ci := 4) (v := .int (zI (jc + 1))) (C := RX4) (T := TX4) (N := 10) hx hb hts (fun _ h9 => List.mem_cons_of_mem _ (List.mem_append_left _ (List.mem_append_right _ h9))) hown hK hP 0 rfl rfl 5 (by decide) (hts (.fieldLink RX4 51 "FontRuns$Setting" "count" "I") mw_X4_cut_0) (fun _ h9 => h9) rfl dX4_cut_95 ?_
        refine lv_iconst (v := zI 1) hx hb dX4_cut_98 rfl ?_
        refine kz_isub hx hb dX4_cut_99 ?_
        refine lv_dup2_11 hx hb dX4_cut_100 rfl rfl ?_
        refine kz_iald hx hb hK hP 3 2 rfl rfl (by omega) dX4_cut_101 (fun z_25 rz_25 ez_25 => ?_)
        refine lv_iconst (v := zI 1) hx hb dX4_cut_102 rfl ?_
        refine lv_iload_n hx hb dX4_cut_103 rfl (lv_at hl 0 rfl) ?_
        refine lv_ishl hx hb dX4_cut_104 ?_
        refine kz_any (fun z_26 rz_26 ez_26 => ?_)
        refine lv_ior hx hb dX4_cut_105 ?_
        refine kz_any (fun z_27 rz_27 ez_27 => ?_)
        refine kz_iast hx hb hK hP hD hS 3 2 rfl rfl (by omega) dX4_cut_106 (fun H locs hP hD hS => ?_)
        have hP : va_P D vwCl [(h0, .inr (4, [.ref g1, .ref g2, .ref g3, .ref g4, .ref g5, .int (zI (jc + 1)), .int (zI bo), .int (zI ru), .ref g6, .ref g7])), (g1, .inl (cg1, 24, .inl f_20)), (g2, .inl (cg2, 24, .inl f_24)), (g6, .inl (cg6, 24, .inl (upd f_22 ((jc + 1) - 1).toNat (zI z_27)))), (wr, .inr (7, [.ref w1, .int (zI wn)])), (w1, .inl (cw1, 24, .inl fw))] H := hP
        have hD : va_D A [(h0, .inr (4, [.ref g1, .ref g2, .ref g3, .ref g4, .ref g5, .int (zI (jc + 1)), .int (zI bo), .int (zI ru), .ref g6, .ref g7])), (g1, .inl (cg1, 24, .inl f_20)), (g2, .inl (cg2, 24, .inl f_24)), (g6, .inl (cg6, 24, .inl (upd f_22 ((jc + 1) - 1).toNat (zI z_27)))), (wr, .inr (7, [.ref w1, .int (zI wn)])), (w1, .inl (cw1, 24, .inl fw))] := hD
        generalize ef_28 : upd f_22 ((jc + 1) - 1).toNat (zI z_27) = f_28 at hP hD
        refine lv_iinc (v := (zI (jk + 1))) (lv' := [(2, .int (zI (jk + 1))), (3, .int (zI z_2)), (0, .ref h0), (1, .ref wr)]) hx hb dX4_cut_107 hl (k := 1) rfl (kz_inc _ 1) (by decide) rfl (fun ls hl => ?_)
        refine lv_goto (tgt := 7) hx hb dX4_cut_110 (by decide) ?_
        exact ih7 _ (by omega) _ _ _ ⟨(jk + 1), (jc + 1), f_20, f_24, f_28, rfl, (by omega), (by omega), (by omega), hP, hD, hS, lv_sub hl [0, 2, 3] rfl⟩
theorem dX4_findFitting_0 : decode cX4_findFitting 0 = .ok (.aload_n 0, 1) := kqo_2a kbl_X4_findFitting (pc := 0) rfl
theorem dX4_findFitting_1 : decode cX4_findFitting 1 = .ok (.iconst 0, 1) := kqo_03 kbl_X4_findFitting (pc := 1) rfl
theorem dX4_findFitting_2 : decode cX4_findFitting 2 = .ok (.putfield 80, 3) := kqo_b5 (x1 := 0) (x2 := 80) kbl_X4_findFitting (pc := 2) rfl rfl
theorem dX4_findFitting_5 : decode cX4_findFitting 5 = .ok (.iconst 0, 1) := kqo_03 kbl_X4_findFitting (pc := 5) rfl
theorem dX4_findFitting_6 : decode cX4_findFitting 6 = .ok (.istore_n 3, 1) := kqo_3e kbl_X4_findFitting (pc := 6) rfl
theorem dX4_findFitting_7 : decode cX4_findFitting 7 = .ok (.iload_n 3, 1) := kqo_1d kbl_X4_findFitting (pc := 7) rfl
theorem dX4_findFitting_8 : decode cX4_findFitting 8 = .ok (.aload_n 0, 1) := kqo_2a kbl_X4_findFitting (pc := 8) rfl
theorem dX4_findFitting_9 : decode cX4_findFitting 9 = .ok (.getfield 51, 3) := kqo_b4 (x1 := 0) (x2 := 51) kbl_X4_findFitting (pc := 9) rfl rfl
theorem dX4_findFitting_12 : decode cX4_findFitting 12 = .ok (.if_icmp .ge 46, 3) := kqo_a2 (x1 := 0) (x2 := 46) kbl_X4_findFitting (pc := 12) rfl rfl
theorem dX4_findFitting_15 : decode cX4_findFitting 15 = .ok (.aload_n 0, 1) := kqo_2a kbl_X4_findFitting (pc := 15) rfl
theorem dX4_findFitting_16 : decode cX4_findFitting 16 = .ok (.getfield 18, 3) := kqo_b4 (x1 := 0) (x2 := 18) kbl_X4_findFitting (pc := 16) rfl rfl
theorem dX4_findFitting_19 : decode cX4_findFitting 19 = .ok (.iload_n 3, 1) := kqo_1d kbl_X4_findFitting (pc := 19) rfl
theorem dX4_findFitting_20 : decode cX4_findFitting 20 = .ok (.aload_n 1, 1) := kqo_2b kbl_X4_findFitting (pc := 20) rfl
theorem dX4_findFitting_21 : decode cX4_findFitting 21 = .ok (.aload_n 0, 1) := kqo_2a kbl_X4_findFitting (pc := 21) rfl
theorem dX4_findFitting_22 : decode cX4_findFitting 22 = .ok (.getfield 27, 3) := kqo_b4 (x1 := 0) (x2 := 27) kbl_X4_findFitting (pc := 22) rfl rfl
theorem dX4_findFitting_25 : decode cX4_findFitting 25 = .ok (.iload_n 3, 1) := kqo_1d kbl_X4_findFitting (pc := 25) rfl
theorem dX4_findFitting_26 : decode cX4_findFitting 26 = .ok (.iaload, 1) := kqo_2e kbl_X4_findFitting (pc := 26) rfl
theorem dX4_findFitting_27 : decode cX4_findFitting 27 = .ok (.invokevirtual 83, 3) := kqo_b6 (x1 := 0) (x2 := 83) kbl_X4_findFitting (pc := 27) rfl rfl
theorem dX4_findFitting_30 : decode cX4_findFitting 30 = .ok (.iload_n 2, 1) := kqo_1c kbl_X4_findFitting (pc := 30) rfl
theorem dX4_findFitting_31 : decode cX4_findFitting 31 = .ok (.iand, 1) := kqo_7e kbl_X4_findFitting (pc := 31) rfl
theorem dX4_findFitting_32 : decode cX4_findFitting 32 = .ok (.iastore, 1) := kqo_4f kbl_X4_findFitting (pc := 32) rfl
theorem dX4_findFitting_33 : decode cX4_findFitting 33 = .ok (.aload_n 0, 1) := kqo_2a kbl_X4_findFitting (pc := 33) rfl
theorem dX4_findFitting_34 : decode cX4_findFitting 34 = .ok (.getfield 18, 3) := kqo_b4 (x1 := 0) (x2 := 18) kbl_X4_findFitting (pc := 34) rfl rfl
theorem dX4_findFitting_37 : decode cX4_findFitting 37 = .ok (.iload_n 3, 1) := kqo_1d kbl_X4_findFitting (pc := 37) rfl
theorem dX4_findFitting_38 : decode cX4_findFitting 38 = .ok (.iaload, 1) := kqo_2e kbl_X4_findFitting (pc := 38) rfl
theorem dX4_findFitting_39 : decode cX4_findFitting 39 = .ok (.ifCond .ne 13, 3) := kqo_9a (x1 := 0) (x2 := 13) kbl_X4_findFitting (pc := 39) rfl rfl
theorem dX4_findFitting_42 : decode cX4_findFitting 42 = .ok (.aload_n 0, 1) := kqo_2a kbl_X4_findFitting (pc := 42) rfl
theorem dX4_findFitting_43 : decode cX4_findFitting 43 = .ok (.dup, 1) := kqo_59 kbl_X4_findFitting (pc := 43) rfl
theorem dX4_findFitting_44 : decode cX4_findFitting 44 = .ok (.getfield 80, 3) := kqo_b4 (x1 := 0) (x2 := 80) kbl_X4_findFitting (pc := 44) rfl rfl
theorem dX4_findFitting_47 : decode cX4_findFitting 47 = .ok (.iconst 1, 1) := kqo_04 kbl_X4_findFitting (pc := 47) rfl
theorem dX4_findFitting_48 : decode cX4_findFitting 48 = .ok (.iadd, 1) := kqo_60 kbl_X4_findFitting (pc := 48) rfl
theorem dX4_findFitting_49 : decode cX4_findFitting 49 = .ok (.putfield 80, 3) := kqo_b5 (x1 := 0) (x2 := 80) kbl_X4_findFitting (pc := 49) rfl rfl
theorem dX4_findFitting_52 : decode cX4_findFitting 52 = .ok (.iinc 3 1, 3) := kqo_84 (x1 := 3) (x2 := 1) kbl_X4_findFitting (pc := 52) rfl rfl
theorem dX4_findFitting_55 : decode cX4_findFitting 55 = .ok (.goto (-48), 3) := kqo_a7 (x1 := 255) (x2 := 208) kbl_X4_findFitting (pc := 55) rfl rfl
theorem dX4_findFitting_58 : decode cX4_findFitting 58 = .ok (.return_, 1) := kqo_b1 kbl_X4_findFitting (pc := 58) rfl
set_option maxRecDepth 20000 in
theorem ggX4_findFitting_X0_fitting : GoodIn wsX4_findFitting wsX0_fitting := goodIn_4 _ (List.forall_mem_cons.mpr ⟨List.mem_cons_of_mem _ (List.mem_append_left _ (List.mem_append_left _ (List.mem_of_getElem? (i := 8) rfl))), List.forall_mem_append.mpr ⟨List.forall_mem_cons.mpr ⟨List.mem_cons_of_mem _ (List.mem_append_left _ (List.mem_append_left _ (List.mem_of_getElem? (i := 9) rfl))), List.forall_mem_cons.mpr ⟨List.mem_cons_of_mem _ (List.mem_append_left _ (List.mem_append_left _ (List.mem_of_getElem? (i := 10) rfl))), fun _ h9 => absurd h9 List.not_mem_nil⟩⟩, fun w h9 => List.mem_cons_of_mem _ (List.mem_append_right _ (h9))⟩⟩) (by decide +kernel)
set_option maxRecDepth 20000 in
theorem gX4_findFitting_X0_fitting : GoodIn wsX4_findFitting (wsV RX4 83 RX0 yX0_fitting wsX0_fitting) := goodIn_app (goodIn_4 _ (List.forall_mem_cons.mpr ⟨List.mem_cons_of_mem _ (List.mem_append_left _ (List.mem_append_left _ (List.mem_of_getElem? (i := 4) rfl))), List.forall_mem_cons.mpr ⟨List.mem_cons_of_mem _ (List.mem_append_left _ (List.mem_append_left _ (List.mem_of_getElem? (i := 5) rfl))), List.forall_mem_cons.mpr ⟨List.mem_cons_of_mem _ (List.mem_append_left _ (List.mem_append_left _ (List.mem_of_getElem? (i := 6) rfl))), List.forall_mem_cons.mpr ⟨List.mem_cons_of_mem _ (List.mem_append_left _ (List.mem_append_left _ (List.mem_of_getElem? (i := 7) rfl))), fun _ h9 => absurd h9 List.not_mem_nil⟩⟩⟩⟩) (by decide +kernel)) ggX4_findFitting_X0_fitting
set_option maxRecDepth 20000 in
theorem mw_X4_findFitting_0 : (.fieldLink RX4 80 "FontRuns$Setting" "boxes" "I" : Cond) ∈ wsX4_findFitting := List.mem_cons_of_mem _ (List.mem_append_left _ (List.mem_append_left _ (List.mem_of_getElem? (i := 0) rfl)))
set_option maxRecDepth 20000 in
theorem mw_X4_findFitting_1 : (.fieldLink RX4 51 "FontRuns$Setting" "count" "I" : Cond) ∈ wsX4_findFitting := List.mem_cons_of_mem _ (List.mem_append_left _ (List.mem_append_left _ (List.mem_of_getElem? (i := 1) rfl)))
set_option maxRecDepth 20000 in
theorem mw_X4_findFitting_2 : (.fieldLink RX4 18 "FontRuns$Setting" "fitting" "[I" : Cond) ∈ wsX4_findFitting := List.mem_cons_of_mem _ (List.mem_append_left _ (List.mem_append_left _ (List.mem_of_getElem? (i := 2) rfl)))
set_option maxRecDepth 20000 in
theorem mw_X4_findFitting_3 : (.fieldLink RX4 27 "FontRuns$Setting" "letters" "[I" : Cond) ∈ wsX4_findFitting := List.mem_cons_of_mem _ (List.mem_append_left _ (List.mem_append_left _ (List.mem_of_getElem? (i := 3) rfl)))
theorem ax_X4_findFitting_0 {e0 e1 e2 e3 e4 : Nat × va_E} : ([0, 1, 2, 3, 4] : List Nat).map (fun i => ([e0, e1, e2, e3, e4] : va_W)[i]?) = ([e0, e1, e2, e3, e4] : va_W).map some := rfl
theorem ax_X4_findFitting_1 {e0 e1 e2 e3 e4 : Nat × va_E} : ([3, 4] : List Nat).map (fun i => ([e0, e1, e2, e3, e4] : va_W)[i]?) = ([e3, e4] : va_W).map some := rfl
set_option maxHeartbeats 4000000 in
set_option maxRecDepth 100000 in
theorem c_X4_findFitting (l : Launch) (D : va_G) (sz : Nat) (fr : Nat) (al : Int) (h0 : Nat) (g1 : Nat) (g2 : Nat) (g3 : Nat) (g4 : Nat) (g5 : Nat) (cn : Int) (bo : Int) (ru : Int) (g6 : Nat) (g7 : Nat) (cg3 : ClassId) (f3 : Nat → Int32) (cg6 : ClassId) (f6 : Nat → Int32) (k1 : Nat) (k2 : Nat) (k3 : Nat) (n : Int) (ck3 : ClassId) (fh : Nat → Int32) (q0 : rg al) (q1 : 0 ≤ cn ∧ cn ≤ 24) (q2 : 0 ≤ n ∧ n ≤ 4) : Met l yX4_findFitting wsX4_findFitting ({ frames := 1, cells := 0, slots := 0, locals := 23 }) (kPre [.ref h0, .ref fr, .int (zI al)] D [(h0, .inr (4, [.ref g1, .ref g2, .ref g3, .ref g4, .ref g5, .int (zI cn), .int (zI bo), .int (zI ru), .ref g6, .ref g7])), (g3, .inl (cg3, 24, .inl f3)), (g6, .inl (cg6, 24, .inl f6)), (fr, .inr (0, [.ref k1, .ref k2, .ref k3, .int (zI n)])), (k3, .inl (ck3, 4, .inl fh))] [(cg3, .int), (cg6, .int), (ck3, .int)] sz) (kQV (fun t => ∃ (ub : Int) (v3 : Nat → Int32), (0 ≤ ub ∧ ub ≤ 24) ∧ va_P D vwCl [(h0, .inr (4, [.ref g1, .ref g2, .ref g3, .ref g4, .ref g5, .int (zI cn), .int (zI ub), .int (zI ru), .ref g6, .ref g7])), (g3, .inl (cg3, 24, .inl v3)), (g6, .inl (cg6, 24, .inl f6)), (fr, .inr (0, [.ref k1, .ref k2, .ref k3, .int (zI n)])), (k3, .inl (ck3, 4, .inl fh))] t.heap ∧ va_D (va_A [(h0, .inr (4, [.ref g1, .ref g2, .ref g3, .ref g4, .ref g5, .int (zI cn), .int (zI bo), .int (zI ru), .ref g6, .ref g7])), (g3, .inl (cg3, 24, .inl f3)), (g6, .inl (cg6, 24, .inl f6)), (fr, .inr (0, [.ref k1, .ref k2, .ref k3, .int (zI n)])), (k3, .inl (ck3, 4, .inl fh))] sz) [(h0, .inr (4, [.ref g1, .ref g2, .ref g3, .ref g4, .ref g5, .int (zI cn), .int (zI ub), .int (zI ru), .ref g6, .ref g7])), (g3, .inl (cg3, 24, .inl v3)), (g6, .inl (cg6, 24, .inl f6)), (fr, .inr (0, [.ref k1, .ref k2, .ref k3, .int (zI n)])), (k3, .inl (ck3, 4, .inl fh))]) (va_A [(h0, .inr (4, [.ref g1, .ref g2, .ref g3, .ref g4, .ref g5, .int (zI cn), .int (zI bo), .int (zI ru), .ref g6, .ref g7])), (g3, .inl (cg3, 24, .inl f3)), (g6, .inl (cg6, 24, .inl f6)), (fr, .inr (0, [.ref k1, .ref k2, .ref k3, .int (zI n)])), (k3, .inl (ck3, 4, .inl fh))] sz)) 0 0 (va_A [(h0, .inr (4, [.ref g1, .ref g2, .ref g3, .ref g4, .ref g5, .int (zI cn), .int (zI bo), .int (zI ru), .ref g6, .ref g7])), (g3, .inl (cg3, 24, .inl f3)), (g6, .inl (cg6, 24, .inl f6)), (fr, .inr (0, [.ref k1, .ref k2, .ref k3, .int (zI n)])), (k3, .inl (ck3, 4, .inl fh))] sz) := by
  refine Met.ofW (cc := cX4_findFitting) (maxL := 4) (ret := none) (by decide) rfl ?_
  intro p e s m args below meth c s₁ B hml hv
  obtain ⟨rfl, hsz, hP, hK, hD0, hN⟩ := hv
  have hx := B.exec
  have hb := B.bytes
  have hr := B.returns
  have hts := atoms_spec (ws := wsX4_findFitting) B.pre
  have hown : s.vm.findClass RX4 = some m.cls := findClass_of_methodNamed B.named
  have hlocks := B.notSynchronized
  subst hsz
  have hD := hD0.self (sz := s.heap.size)
  generalize hAe : va_A [(h0, .inr (4, [.ref g1, .ref g2, .ref g3, .ref g4, .ref g5, .int (zI cn), .int (zI bo), .int (zI ru), .ref g6, .ref g7])), (g3, .inl (cg3, 24, .inl f3)), (g6, .inl (cg6, 24, .inl f6)), (fr, .inr (0, [.ref k1, .ref k2, .ref k3, .int (zI n)])), (k3, .inl (ck3, 4, .inl fh))] s.heap.size = A at hD ⊢
  have hA : ∀ q : Nat, s.heap.size ≤ q → A q := fun q h => by rw [← hAe]; exact Or.inr h
  have hS : va_S A s.heap s.heap [] := va_S.rf
  have hP : va_P D vwCl [(h0, .inr (4, [.ref g1, .ref g2, .ref g3, .ref g4, .ref g5, .int (zI cn), .int (zI bo), .int (zI ru), .ref g6, .ref g7])), (g3, .inl (cg3, 24, .inl f3)), (g6, .inl (cg6, 24, .inl f6)), (fr, .inr (0, [.ref k1, .ref k2, .ref k3, .int (zI n)])), (k3, .inl (ck3, 4, .inl fh))] s.heap := hP
  have hl := lv_entry ([.ref h0, .ref fr, .int (zI al)]) (n := 4) (Nat.le_of_ble_eq_true rfl)
  rw [lg_entry_eq]
  generalize (lg_sl ([.ref h0, .ref fr, .int (zI al)]) ++ List.replicate (4 - (lg_sl ([.ref h0, .ref fr, .int (zI al)])).length) Slot.unset).toArray = ls at hl ⊢
  have hl : lv_has ls 4 [(0, .ref h0), (1, .ref fr), (2, .int (zI al))] := hl
  refine lv_aload_n hx hb dX4_findFitting_0 rfl (lv_at hl 0 rfl) ?_
  refine lv_iconst (v := zI 0) hx hb dX4_findFitting_1 rfl ?_
  refine va_put (D := D) (ci := 4) (v := .int (zI 0)) (ty := .int) (C := RX4) (T := TX4) (N := 10) hx hb hts (fun _ h9 => List.mem_cons_of_mem _ (List.mem_append_left _ (List.mem_append_right _ h9))) tyX4 tyX4_ok nmX4 hown hK hP hD hS 0 rfl rfl 6 (by decide) (hts (.fieldLink RX4 80 "FontRuns$Setting" "boxes" "I") mw_X4_findFitting_0) (fun _ h9 => h9) rfl (by decide +kernel) rfl rfl (Nat.le_of_ble_eq_true rfl) dX4_findFitting_2 (fun H locs hP hD hS => ?_)
  have hP : va_P D vwCl [(h0, .inr (4, [.ref g1, .ref g2, .ref g3, .ref g4, .ref g5, .int (zI cn), .int (zI 0), .int (zI ru), .ref g6, .ref g7])), (g3, .inl (cg3, 24, .inl f3)), (g6, .inl (cg6, 24, .inl f6)), (fr, .inr (0, [.ref k1, .ref k2, .ref k3, .int (zI n)])), (k3, .inl (ck3, 4, .inl fh))] H := hP
  have hD : va_D A [(h0, .inr (4, [.ref g1, .ref g2, .ref g3, .ref g4, .ref g5, .int (zI cn), .int (zI 0), .int (zI ru), .ref g6, .ref g7])), (g3, .inl (cg3, 24, .inl f3)), (g6, .inl (cg6, 24, .inl f6)), (fr, .inr (0, [.ref k1, .ref k2, .ref k3, .int (zI n)])), (k3, .inl (ck3, 4, .inl fh))] := hD
  refine lv_iconst (v := zI 0) hx hb dX4_findFitting_5 rfl ?_
  refine lv_istore_n (lv' := [(3, .int (zI 0)), (0, .ref h0), (1, .ref fr), (2, .int (zI al))]) hx hb dX4_findFitting_6 rfl hl (by decide) rfl (fun ls hl => ?_)
  refine k_loopM (I := fun n9 H locs ls => ∃ (jk : Int) (jc : Int) (ja : Nat → Int32), n9 = (cn - jk).toNat ∧ (0 ≤ jk ∧ jk ≤ cn) ∧ (0 ≤ jc ∧ jc ≤ jk) ∧ va_P D vwCl [(h0, .inr (4, [.ref g1, .ref g2, .ref g3, .ref g4, .ref g5, .int (zI cn), .int (zI jc), .int (zI ru), .ref g6, .ref g7])), (g3, .inl (cg3, 24, .inl ja)), (g6, .inl (cg6, 24, .inl f6)), (fr, .inr (0, [.ref k1, .ref k2, .ref k3, .int (zI n)])), (k3, .inl (ck3, 4, .inl fh))] H ∧ va_D A [(h0, .inr (4, [.ref g1, .ref g2, .ref g3, .ref g4, .ref g5, .int (zI cn), .int (zI jc), .int (zI ru), .ref g6, .ref g7])), (g3, .inl (cg3, 24, .inl ja)), (g6, .inl (cg6, 24, .inl f6)), (fr, .inr (0, [.ref k1, .ref k2, .ref k3, .int (zI n)])), (k3, .inl (ck3, 4, .inl fh))] ∧ va_S A s.heap H locs ∧ lv_has ls 4 [(3, .int (zI jk)), (0, .ref h0), (1, .ref fr), (2, .int (zI al))]) ?_ _ ⟨0, 0, f3, rfl, (by omega), (by omega), hP, hD, hS, hl⟩
  intro n7 ih7 H locs ls hI
  obtain ⟨jk, jc, ja, en7, v_70, v_71, hP, hD, hS, hl⟩ := hI
  refine lv_iload_n hx hb dX4_findFitting_7 rfl (lv_at hl 0 rfl) ?_
  refine lv_aload_n hx hb dX4_findFitting_8 rfl (lv_at hl 1 rfl) ?_
  refine va_get (D := D) (ci := 4) (v := .int (zI cn)) (C := RX4) (T := TX4) (N := 10) hx hb hts (fun _ h9 => List.mem_cons_of_mem _ (List.mem_append_left _ (List.mem_append_right _ h9))) hown hK hP 0 rfl rfl 5 (by decide) (hts (.fieldLink RX4 51 "FontRuns$Setting" "count" "I") mw_X4_findFitting_1) (fun _ h9 => h9) rfl dX4_findFitting_9 ?_
  refine kz_icmp_ge (tgt := 58) hx hb dX4_findFitting_12 (by decide) (by omega) (by omega) (fun c_1 => ?_) (fun c_1 => ?_)
  · have hP9 := hP.sub (ws' := [(h0, .inr (4, [.ref g1, .ref g2, .ref g3, .ref g4, .ref g5, .int (zI cn), .int (zI jc), .int (zI ru), .ref g6, .ref g7])), (g3, .inl (cg3, 24, .inl ja)), (g6, .inl (cg6, 24, .inl f6)), (fr, .inr (0, [.ref k1, .ref k2, .ref k3, .int (zI n)])), (k3, .inl (ck3, 4, .inl fh))]) [0, 1, 2, 3, 4] rfl
    have hD9 := hD.sub (ws' := [(h0, .inr (4, [.ref g1, .ref g2, .ref g3, .ref g4, .ref g5, .int (zI cn), .int (zI jc), .int (zI ru), .ref g6, .ref g7])), (g3, .inl (cg3, 24, .inl ja)), (g6, .inl (cg6, 24, .inl f6)), (fr, .inr (0, [.ref k1, .ref k2, .ref k3, .int (zI n)])), (k3, .inl (ck3, 4, .inl fh))]) [0, 1, 2, 3, 4] (by decide +kernel) rfl
    exact W.vret hx hb hr (fun t ht hW => kQV_of ⟨jc, ja, (by omega), by rw [ht]; exact hP9, hD9⟩ (hS.F ht)) hS.2.2 dX4_findFitting_58
  · refine lv_aload_n hx hb dX4_findFitting_15 rfl (lv_at hl 1 rfl) ?_
    refine va_get (D := D) (ci := 4) (v := .ref g3) (C := RX4) (T := TX4) (N := 10) hx hb hts (fun _ h9 => List.mem_cons_of_mem _ (List.mem_append_left _ (List.mem_append_right _ h9))) hown hK hP 0 rfl rfl 2 (by decide) (hts (.fieldLink RX4 18 "FontRuns$Setting" "fitting" "[I") mw_X4_findFitting_2) (fun _ h9 => h9) rfl dX4_findFitting_16 ?_
    refine lv_iload_n hx hb dX4_findFitting_19 rfl (lv_at hl 0 rfl) ?_
    refine lv_aload_n hx hb dX4_findFitting_20 rfl (lv_at hl 2 rfl) ?_
    refine lv_aload_n hx hb dX4_findFitting_21 rfl (lv_at hl 1 rfl) ?_
    refine va_get (D := D) (ci := 4) (v := .ref g6) (C := RX4) (T := TX4) (N := 10) hx hb hts (fun _ h9 => List.mem_cons_of_mem _ (List.mem_append_left _ (List.mem_append_right _ h9))) hown hK hP 0 rfl rfl 8 (by decide) (hts (.fieldLink RX4 27 "FontRuns$Setting" "letters" "[I") mw_X4_findFitting_3) (fun _ h9 => h9) rfl dX4_findFitting_22 ?_
    refine lv_iload_n hx hb dX4_findFitting_25 rfl (lv_at hl 0 rfl) ?_
    refine kz_iald hx hb hK hP 2 1 rfl rfl (by omega) dX4_findFitting_26 (fun z_2 rz_2 ez_2 => ?_)
    refine k_callP (va_runV (As := [.int (zI z_2)]) (rest := [.int (zI jk), .ref g3]) ⟨hx, hb, hml, hown, hts⟩ (c_X0_fitting l D H.size (le := z_2) (h0 := fr) (k1 := k1) (k2 := k2) (k3 := k3) (n := n) (ck3 := ck3) (fh := fh) (by omega) q2) (cwV 1 hts gX4_findFitting_X0_fitting rfl rfl rfl (by decide +kernel) ⟨Nat.le_of_ble_eq_true rfl, Nat.le_of_ble_eq_true rfl⟩) (kPreV hP (kD0 hD) hK hN [3, 4] [2] ax_X4_findFitting_1 rfl (by decide +kernel) 3 0 rfl rfl) rfl rfl hl.1 rfl (lv_room (Nat.le_of_ble_eq_true rfl)) dX4_findFitting_27 ⟨Nat.le_of_ble_eq_true rfl, Nat.le_of_ble_eq_true rfl⟩) (fun z_3 rz_3 h_4 => ?_)
    refine lv_iload_n hx hb dX4_findFitting_30 rfl (lv_at hl 3 rfl) ?_
    refine lv_iand hx hb dX4_findFitting_31 ?_
    refine kz_any (fun z_5 rz_5 ez_5 => ?_)
    refine kz_iast hx hb hK hP hD hS 1 0 rfl rfl (by omega) dX4_findFitting_32 (fun H locs hP hD hS => ?_)
    have hP : va_P D vwCl [(h0, .inr (4, [.ref g1, .ref g2, .ref g3, .ref g4, .ref g5, .int (zI cn), .int (zI jc), .int (zI ru), .ref g6, .ref g7])), (g3, .inl (cg3, 24, .inl (upd ja (jk).toNat (zI z_5)))), (g6, .inl (cg6, 24, .inl f6)), (fr, .inr (0, [.ref k1, .ref k2, .ref k3, .int (zI n)])), (k3, .inl (ck3, 4, .inl fh))] H := hP
    have hD : va_D A [(h0, .inr (4, [.ref g1, .ref g2, .ref g3, .ref g4, .ref g5, .int (zI cn), .int (zI jc), .int (zI ru), .ref g6, .ref g7])), (g3, .inl (cg3, 24, .inl (upd ja (jk).toNat (zI z_5)))), (g6, .inl (cg6, 24, .inl f6)), (fr, .inr (0, [.ref k1, .ref k2, .ref k3, .int (zI n)])), (k3, .inl (ck3, 4, .inl fh))] := hD
    generalize ef_6 : upd ja (jk).toNat (zI z_5) = f_6 at hP hD
    refine lv_aload_n hx hb dX4_findFitting_33 rfl (lv_at hl 1 rfl) ?_
    refine va_get (D := D) (ci := 4) (v := .ref g3) (C := RX4) (T := TX4) (N := 10) hx hb hts (fun _ h9 => List.mem_cons_of_mem _ (List.mem_append_left _ (List.mem_append_right _ h9))) hown hK hP 0 rfl rfl 2 (by decide) (hts (.fieldLink RX4 18 "FontRuns$Setting" "fitting" "[I") mw_X4_findFitting_2) (fun _ h9 => h9) rfl dX4_findFitting_34 ?_
    refine lv_iload_n hx hb dX4_findFitting_37 rfl (lv_at hl 0 rfl) ?_
    refine kz_iald hx hb hK hP 1 0 rfl rfl (by omega) dX4_findFitting_38 (fun z_7 rz_7 ez_7 => ?_)
    refine kz_if_ne (tgt := 52) hx hb dX4_findFitting_39 (by decide) (by omega) (fun c_8 => ?_) (fun c_8 => ?_)
    · refine lv_iinc (v := (zI (jk + 1))) (lv' := [(3, .int (zI (jk + 1))), (0, .ref h0), (1, .ref fr), (2, .int (zI al))]) hx hb dX4_findFitting_52 hl (k := 0) rfl (kz_inc _ 1) (by decide) rfl (fun ls hl => ?_)
      refine lv_goto (tgt := 7) hx hb dX4_findFitting_55 (by decide) ?_
      exact ih7 _ (by omega) _ _ _ ⟨(jk + 1), jc, f_6, rfl, (by omega), (by omega), hP, hD, hS, lv_sub hl [0, 1, 2, 3] rfl⟩
    · refine lv_aload_n hx hb dX4_findFitting_42 rfl (lv_at hl 1 rfl) ?_
      refine lv_dup hx hb dX4_findFitting_43 rfl ?_
      refine va_get (D := D) (ci := 4) (v := .int (zI jc)) (C := RX4) (T := TX4) (N := 10) hx hb hts (fun _ h9 => List.mem_cons_of_mem _ (List.mem_append_left _ (List.mem_append_right _ h9))) hown hK hP 0 rfl rfl 6 (by decide) (hts (.fieldLink RX4 80 "FontRuns$Setting" "boxes" "I") mw_X4_findFitting_0) (fun _ h9 => h9) rfl dX4_findFitting_44 ?_
      refine lv_iconst (v := zI 1) hx hb dX4_findFitting_47 rfl ?_
      refine kz_iadd hx hb dX4_findFitting_48 ?_
      refine va_put (D := D) (ci := 4) (v := .int (zI (jc + 1))) (ty := .int) (C := RX4) (T := TX4) (N := 10) hx hb hts (fun _ h9 => List.mem_cons_of_mem _ (List.mem_append_left _ (List.mem_append_right _ h9))) tyX4 tyX4_ok nmX4 hown hK hP hD hS 0 rfl rfl 6 (by decide) (hts (.fieldLink RX4 80 "FontRuns$Setting" "boxes" "I") mw_X4_findFitting_0) (fun _ h9 => h9) rfl (by decide +kernel) rfl rfl (Nat.le_of_ble_eq_true rfl) dX4_findFitting_49 (fun H locs hP hD hS => ?_)
      have hP : va_P D vwCl [(h0, .inr (4, [.ref g1, .ref g2, .ref g3, .ref g4, .ref g5, .int (zI cn), .int (zI (jc + 1)), .int (zI ru), .ref g6, .ref g7])), (g3, .inl (cg3, 24, .inl f_6)), (g6, .inl (cg6, 24, .inl f6)), (fr, .inr (0, [.ref k1, .ref k2, .ref k3, .int (zI n)])), (k3, .inl (ck3, 4, .inl fh))] H := hP
      have hD : va_D A [(h0, .inr (4, [.ref g1, .ref g2, .ref g3, .ref g4, .ref g5, .int (zI cn), .int (zI (jc + 1)), .int (zI ru), .ref g6, .ref g7])), (g3, .inl (cg3, 24, .inl f_6)), (g6, .inl (cg6, 24, .inl f6)), (fr, .inr (0, [.ref k1, .ref k2, .ref k3, .int (zI n)])), (k3, .inl (ck3, 4, .inl fh))] := hD
      refine lv_iinc (v := (zI (jk + 1))) (lv' := [(3, .int (zI (jk + 1))), (0, .ref h0), (1, .ref fr), (2, .int (zI al))]) hx hb dX4_findFitting_52 hl (k := 0) rfl (kz_inc _ 1) (by decide) rfl (fun ls hl => ?_)
      refine lv_goto (tgt := 7) hx hb dX4_findFitting_55 (by decide) ?_
      exact ih7 _ (by omega) _ _ _ ⟨(jk + 1), (jc + 1), f_6, rfl, (by omega), (by omega), hP, hD, hS, lv_sub hl [0, 1, 2, 3] rfl⟩
/-! the rows of arrays of arrays: one pool of 56 rows of four -/
def kRows (r : Nat → Nat) (gp : Nat → Nat → Int32) (cy : ClassId) : va_W := (List.range 56).map (fun i => (r i, .inl (cy, 4, .inl (gp i))))
def kOut (fo : Nat → Option Nat) (r : Nat → Nat) (o n : Nat) : Prop := ∀ i, i < n → fo i = some (r (o + i))
theorem kRows_at (X : va_W) (r : Nat → Nat) (gp : Nat → Nat → Int32) (cy : ClassId) {j : Nat} (hj : j < 56) : (X ++ kRows r gp cy)[X.length + j]? = some (r j, .inl (cy, 4, .inl (gp j))) := by
  rw [List.getElem?_append_right (by omega)]
  simp [kRows, hj]
theorem kRows_set (X : va_W) (r : Nat → Nat) (gp : Nat → Nat → Int32) (cy : ClassId) {j : Nat} (g : Nat → Int32) (hj : j < 56) : (X ++ kRows r gp cy).set (X.length + j) (r j, .inl (cy, 4, .inl g)) = X ++ kRows r (va_up gp j g) cy := by
  rw [List.set_append_right _ _ (by omega)]
  congr 1
  apply List.ext_getElem?
  intro i
  rw [List.getElem?_set]
  by_cases h : i < 56
  · by_cases e : X.length + j - X.length = i
    · have e2 : j = i := by omega
      subst e2
      simp [kRows, hj, va_up_self]
    · have e2 : i ≠ j := by omega
      simp [kRows, h, va_up_ne _ _ e2, show ¬ j = i from fun q => e2 q.symm]
  · have e2 : ¬ X.length + j - X.length = i := by omega
    simp [kRows, h, show ¬ j = i by omega]
section
variable {p : Program} {l : Launch} {e : Env} {R : Room} {s : State} {m : MethodId} {args : Array Value} {below : List Frame} {meth : Method} {c : Code} {H : Heap} {locs : List Loc} {cells slots : Nat} {Q : State → Prop} {cc : ByteArray} {pc : Nat} {ls : Array Slot} {rest : List Value} {D : va_G} {cl : List vw_C} {A : Nat → Prop} {a : Nat} {tys : List (ClassId × FieldType)} {ws : va_W} {H0 : Heap}
theorem kz_aald (hexec : p.tables.exec = Jvm.exec) (hb : c.code = cc) (hK : va_K D cl tys s) (hP : va_P D cl ws H) (q0 t0 : Nat) {cA : ClassId} {n : Nat} {f : Nat → Option Nat} (ha : ws[q0]? = some (a, .inl (cA, n, .inr (.inr (.inr (.inr f)))))) (ht : tys[t0]? = some (cA, .array .int)) {i : Int} (hi : 0 ≤ i ∧ i < n ∧ i < 2147483648) (hdg : decode cc pc = .ok (.aaload, 1)) {y : Nat} (hy : f i.toNat = some y) (kk : W p l e R s m args below meth c H locs cells slots Q (F0 m (pc + 1) ls (.ref y :: rest))) : W p l e R s m args below meth c H locs cells slots Q (F0 m pc ls (.int (zI i) :: .ref a :: rest)) := by
  have hin : vp_in (zI i) n := zI_in hi
  have hlt : (zI i).toNatClampNeg < n := Nat.not_le.mp fun q => hin (Or.inr q)
  refine W.aald (v := va_rf (f (zI i).toNatClampNeg)) (ty := .array .int) hexec hb (hP q0 _ ha) ((hK.2 t0 _ ht).1 n (fun j => va_rf (f j))) rfl (fun q => by cases q) (by show ¬ (zI i < 0 ∨ (arrV _ _ _).slots.size ≤ _); rw [arrV_size]; exact hin) (by show (arrV _ _ _).slots[_]? = _; rw [arrV_read _ _ hlt]) rfl rfl hdg ?_
  rw [zI_cl (by omega), hy]
  exact kk
theorem kz_aldq (hexec : p.tables.exec = Jvm.exec) (hb : c.code = cc) (hK : va_K D cl tys s) (hP : va_P D cl ws H) (q0 t0 : Nat) {cA : ClassId} {C : String} {n : Nat} {f : Nat → Option Nat} (ha : ws[q0]? = some (a, .inl (cA, n, .inr (.inr (.inr (.inr f)))))) (ht : tys[t0]? = some (cA, .object C)) {i : Int} (hi : 0 ≤ i ∧ i < n ∧ i < 2147483648) (hdg : decode cc pc = .ok (.aaload, 1)) {y : Nat} (hy : f i.toNat = some y) (kk : W p l e R s m args below meth c H locs cells slots Q (F0 m (pc + 1) ls (.ref y :: rest))) : W p l e R s m args below meth c H locs cells slots Q (F0 m pc ls (.int (zI i) :: .ref a :: rest)) := by
  refine va_aldq hexec hb hK hP q0 t0 ha ht (zI_in hi) hdg ?_
  rw [zI_cl (by omega), hy]
  exact kk
theorem kz_copy (hexec : p.tables.exec = Jvm.exec) (hb : c.code = cc) (hml : c.maxLocals = ls.size) {own : String} {index : Nat} (hown : s.vm.findClass own = some m.cls) (hlink : (Cond.methodLink own index arraycopyName).before args s = true) (hnat : (Cond.native arraycopyName).before args s = true) (hstat : (Cond.static arraycopyName).before args s = true) (hini : (Cond.initialized "java/lang/System").before args s = true) (hK : va_K D cl tys s) (hP : va_P D cl ws H) (hD : va_D A ws) (hS : va_S A H0 H locs) (q0 q1 t0 t1 : Nat) {a0 : Nat} {c0 c1 : ClassId} {n0 n1 : Nat} {f g : Nat → Int32} (ha0 : ws[q0]? = some (a0, .inl (c0, n0, .inl f))) (ha1 : ws[q1]? = some (a, .inl (c1, n1, .inl g))) (ht0 : tys[t0]? = some (c0, .int)) (ht1 : tys[t1]? = some (c1, .int)) {i j k : Int} (h1 : 0 ≤ i ∧ 0 ≤ j ∧ 0 ≤ k ∧ i + k ≤ n0 ∧ j + k ≤ n1 ∧ i < 2147483648 ∧ j < 2147483648 ∧ k < 2147483648) (hframes : 1 ≤ R.frames) (hlocals : (rest.map fun v => v.category).sum + (nativeFrameWords "java/lang/System" "arraycopy" 5 + 11) ≤ R.locals) (hdg : decode cc pc = .ok (.invokestatic index, 3)) (kk : ∀ (H1 : Heap) (locs1 : List Loc), va_P D cl (ws.set q1 (a, .inl (c1, n1, .inl (va_cpy f g i.toNat j.toNat k.toNat)))) H1 → va_D A (ws.set q1 (a, .inl (c1, n1, .inl (va_cpy f g i.toNat j.toNat k.toNat)))) → va_S A H0 H1 locs1 → W p l e R s m args below meth c H1 locs1 cells slots Q (F0 m (pc + 3) ls rest)) : W p l e R s m args below meth c H locs cells slots Q (F0 m pc ls (.int (zI k) :: .int (zI j) :: .ref a :: .int (zI i) :: .ref a0 :: rest)) := by
  have e0 : (0 : Int32) = zI 0 := rfl
  refine va_copyi hexec hb hml hown hlink hnat hstat hini hK hP hD hS q0 q1 t0 t1 ha0 ha1 ht0 ht1 rfl (by rw [e0, zI_lt (by omega) (by omega)]; omega) (by rw [e0, zI_lt (by omega) (by omega)]; omega) (by rw [e0, zI_lt (by omega) (by omega)]; omega) (by rw [zI_cl (by omega), zI_cl (by omega)]; omega) (by rw [zI_cl (by omega), zI_cl (by omega)]; omega) (fun _ _ => rfl) hframes hlocals hdg ?_
  rw [zI_cl (i := i) (by omega), zI_cl (i := j) (by omega), zI_cl (i := k) (by omega)]
  exact kk
theorem kz_idiv2 (hexec : p.tables.exec = Jvm.exec) (hb : c.code = cc) {x : Int} (hdg : decode cc pc = .ok (.idiv, 1)) (hx : 0 ≤ x ∧ x < 2147483648) (k : W p l e R s m args below meth c H locs cells slots Q (F0 m (pc + 1) ls (.int (zI (x / 2)) :: rest))) : W p l e R s m args below meth c H locs cells slots Q (F0 m pc ls (.int (zI 2) :: .int (zI x) :: rest)) := by
  refine lv_idiv hexec hb hdg (by decide) ?_
  have e : zI x / zI 2 = zI (x / 2) := by
    obtain ⟨n, rfl⟩ := Int.eq_ofNat_of_zero_le hx.1
    exact pk_div (a := n) (d := 2) (by omega) (by omega) (by omega)
  rw [e]
  exact k
theorem kz_rowld {X : va_W} {r : Nat → Nat} {gp : Nat → Nat → Int32} {cy : ClassId} (hexec : p.tables.exec = Jvm.exec) (hb : c.code = cc) (hK : va_K D cl tys s) (hP : va_P D cl (X ++ kRows r gp cy) H) (t0 : Nat) (ht : tys[t0]? = some (cy, .int)) {j : Nat} (hj : j < 56) {i : Int} (hi : 0 ≤ i ∧ i < 4) (hdg : decode cc pc = .ok (.iaload, 1)) (kk : ∀ z : Int, rg z → gp j i.toNat = zI z → W p l e R s m args below meth c H locs cells slots Q (F0 m (pc + 1) ls (.int (zI z) :: rest))) : W p l e R s m args below meth c H locs cells slots Q (F0 m pc ls (.int (zI i) :: .ref (r j) :: rest)) := kz_iald hexec hb hK hP (X.length + j) t0 (kRows_at X r gp cy hj) ht (by omega) hdg kk
theorem kz_rowst {X : va_W} {r : Nat → Nat} {gp : Nat → Nat → Int32} {cy : ClassId} (hexec : p.tables.exec = Jvm.exec) (hb : c.code = cc) (hK : va_K D cl tys s) (hP : va_P D cl (X ++ kRows r gp cy) H) (hD : va_D A (X ++ kRows r gp cy)) (hS : va_S A H0 H locs) (t0 : Nat) (ht : tys[t0]? = some (cy, .int)) {j : Nat} (hj : j < 56) {i : Int} {x : Int32} (hi : 0 ≤ i ∧ i < 4) (hdg : decode cc pc = .ok (.iastore, 1)) (kk : ∀ (H1 : Heap) (locs1 : List Loc), va_P D cl (X ++ kRows r (va_up gp j (upd (gp j) i.toNat x)) cy) H1 → va_D A (X ++ kRows r (va_up gp j (upd (gp j) i.toNat x)) cy) → va_S A H0 H1 locs1 → W p l e R s m args below meth c H1 locs1 cells slots Q (F0 m (pc + 1) ls rest)) : W p l e R s m args below meth c H locs cells slots Q (F0 m pc ls (.int x :: .int (zI i) :: .ref (r j) :: rest)) := by
  refine kz_iast hexec hb hK hP hD hS (X.length + j) t0 (kRows_at X r gp cy hj) ht (by omega) hdg (fun H1 locs1 h1 h2 h3 => ?_)
  rw [kRows_set X r gp cy _ hj] at h1 h2
  exact kk H1 locs1 h1 h2 h3
end
theorem kPre_atP {s : State} {H : Heap} {D : va_G} {X cx pl : va_W} {tys t0 : List (ClassId × FieldType)} {av : List Value} (hP : va_P D vwCl (X ++ pl) H) (hD : va_D (fun _ => True) (X ++ pl)) (hK : va_K D vwCl tys s) (hN : kN s) (is ts : List Nat) (hs : is.map (fun i => X[i]?) = cx.map some) (ht : ts.filterMap (fun i => tys[i]?) = t0) (hn : va_nd is = true) (U : State) (hU : U.heap = H) (hW : s.WarmedH U.vm) : kPre av D (cx ++ pl) t0 H.size av.toArray U :=
  ⟨rfl, by rw [hU], by rw [hU]; exact hP.part is hs, va_K.moved hW.alike (hK.sub ts ht), hD.part is hn hs, kN_warm hW hN⟩
theorem kPreSP {s : State} {H : Heap} {D : va_G} {X cx pl : va_W} {tys t0 : List (ClassId × FieldType)} {As : List Value} (hP : va_P D vwCl (X ++ pl) H) (hD : va_D (fun _ => True) (X ++ pl)) (hK : va_K D vwCl tys s) (hN : kN s) (is ts : List Nat) (hs : is.map (fun i => X[i]?) = cx.map some) (ht : ts.filterMap (fun i => tys[i]?) = t0) (hn : va_nd is = true) : PreS s H (kPre As D (cx ++ pl) t0 H.size) As := ⟨kPre_blind, fun U hU hW => kPre_atP hP hD hK hN is ts hs ht hn U hU hW⟩
theorem kPreVP {s : State} {H : Heap} {D : va_G} {X cx pl : va_W} {tys t0 : List (ClassId × FieldType)} {As : List Value} {b : Nat} {C : String} {T : u_T} {N : Nat} {fs : List Value} (hP : va_P D vwCl (X ++ pl) H) (hD : va_D (fun _ => True) (X ++ pl)) (hK : va_K D vwCl tys s) (hN : kN s) (is ts : List Nat) (hs : is.map (fun i => X[i]?) = cx.map some) (ht : ts.filterMap (fun i => tys[i]?) = t0) (hn : va_nd is = true) (q0 ci : Nat) (he : (X ++ pl)[q0]? = some (b, .inr (ci, fs))) (hc : vwCl[ci]? = some (C, T, N)) : PreV s H C b (kPre (.ref b :: As) D (cx ++ pl) t0 H.size) As := ⟨kPre_blind, va_recv hK hP hc he, fun U hU hW => kPre_atP hP hD hK hN is ts hs ht hn U hU hW⟩
theorem dX4_findBehind_0 : decode cX4_findBehind 0 = .ok (.iconst 0, 1) := kqo_03 kbl_X4_findBehind (pc := 0) rfl
theorem dX4_findBehind_1 : decode cX4_findBehind 1 = .ok (.istore_n 2, 1) := kqo_3d kbl_X4_findBehind (pc := 1) rfl
theorem dX4_findBehind_2 : decode cX4_findBehind 2 = .ok (.aload_n 0, 1) := kqo_2a kbl_X4_findBehind (pc := 2) rfl
theorem dX4_findBehind_3 : decode cX4_findBehind 3 = .ok (.getfield 51, 3) := kqo_b4 (x1 := 0) (x2 := 51) kbl_X4_findBehind (pc := 3) rfl rfl
theorem dX4_findBehind_6 : decode cX4_findBehind 6 = .ok (.iconst 1, 1) := kqo_04 kbl_X4_findBehind (pc := 6) rfl
theorem dX4_findBehind_7 : decode cX4_findBehind 7 = .ok (.isub, 1) := kqo_64 kbl_X4_findBehind (pc := 7) rfl
theorem dX4_findBehind_8 : decode cX4_findBehind 8 = .ok (.istore_n 3, 1) := kqo_3e kbl_X4_findBehind (pc := 8) rfl
theorem dX4_findBehind_9 : decode cX4_findBehind 9 = .ok (.iload_n 3, 1) := kqo_1d kbl_X4_findBehind (pc := 9) rfl
theorem dX4_findBehind_10 : decode cX4_findBehind 10 = .ok (.ifCond .lt 129, 3) := kqo_9b (x1 := 0) (x2 := 129) kbl_X4_findBehind (pc := 10) rfl rfl
theorem dX4_findBehind_13 : decode cX4_findBehind 13 = .ok (.aload_n 0, 1) := kqo_2a kbl_X4_findBehind (pc := 13) rfl
theorem dX4_findBehind_14 : decode cX4_findBehind 14 = .ok (.getfield 18, 3) := kqo_b4 (x1 := 0) (x2 := 18) kbl_X4_findBehind (pc := 14) rfl rfl
theorem dX4_findBehind_17 : decode cX4_findBehind 17 = .ok (.iload_n 3, 1) := kqo_1d kbl_X4_findBehind (pc := 17) rfl
theorem dX4_findBehind_18 : decode cX4_findBehind 18 = .ok (.iaload, 1) := kqo_2e kbl_X4_findBehind (pc := 18) rfl
theorem dX4_findBehind_19 : decode cX4_findBehind 19 = .ok (.ifCond .ne 7, 3) := kqo_9a (x1 := 0) (x2 := 7) kbl_X4_findBehind (pc := 19) rfl rfl
theorem dX4_findBehind_22 : decode cX4_findBehind 22 = .ok (.iload_n 1, 1) := kqo_1b kbl_X4_findBehind (pc := 22) rfl
theorem dX4_findBehind_23 : decode cX4_findBehind 23 = .ok (.goto 9, 3) := kqo_a7 (x1 := 0) (x2 := 9) kbl_X4_findBehind (pc := 23) rfl rfl
theorem dX4_findBehind_26 : decode cX4_findBehind 26 = .ok (.aload_n 0, 1) := kqo_2a kbl_X4_findBehind (pc := 26) rfl
theorem dX4_findBehind_27 : decode cX4_findBehind 27 = .ok (.getfield 18, 3) := kqo_b4 (x1 := 0) (x2 := 18) kbl_X4_findBehind (pc := 27) rfl rfl
theorem dX4_findBehind_30 : decode cX4_findBehind 30 = .ok (.iload_n 3, 1) := kqo_1d kbl_X4_findBehind (pc := 30) rfl
theorem dX4_findBehind_31 : decode cX4_findBehind 31 = .ok (.iaload, 1) := kqo_2e kbl_X4_findBehind (pc := 31) rfl
theorem dX4_findBehind_32 : decode cX4_findBehind 32 = .ok (.istore 4, 2) := kqo_36 (x1 := 4) kbl_X4_findBehind (pc := 32) rfl rfl
theorem dX4_findBehind_34 : decode cX4_findBehind 34 = .ok (.sipush 1000, 3) := kqo_11 (x1 := 3) (x2 := 232) kbl_X4_findBehind (pc := 34) rfl rfl
theorem dX4_findBehind_37 : decode cX4_findBehind 37 = .ok (.istore 5, 2) := kqo_36 (x1 := 5) kbl_X4_findBehind (pc := 37) rfl rfl
theorem dX4_findBehind_39 : decode cX4_findBehind 39 = .ok (.iconst 0, 1) := kqo_03 kbl_X4_findBehind (pc := 39) rfl
theorem dX4_findBehind_40 : decode cX4_findBehind 40 = .ok (.istore 6, 2) := kqo_36 (x1 := 6) kbl_X4_findBehind (pc := 40) rfl rfl
theorem dX4_findBehind_42 : decode cX4_findBehind 42 = .ok (.iload 6, 2) := kqo_15 (x1 := 6) kbl_X4_findBehind (pc := 42) rfl rfl
theorem dX4_findBehind_44 : decode cX4_findBehind 44 = .ok (.iconst 4, 1) := kqo_07 kbl_X4_findBehind (pc := 44) rfl
theorem dX4_findBehind_45 : decode cX4_findBehind 45 = .ok (.if_icmp .ge 85, 3) := kqo_a2 (x1 := 0) (x2 := 85) kbl_X4_findBehind (pc := 45) rfl rfl
theorem dX4_findBehind_48 : decode cX4_findBehind 48 = .ok (.iload_n 3, 1) := kqo_1d kbl_X4_findBehind (pc := 48) rfl
theorem dX4_findBehind_49 : decode cX4_findBehind 49 = .ok (.iconst 1, 1) := kqo_04 kbl_X4_findBehind (pc := 49) rfl
theorem dX4_findBehind_50 : decode cX4_findBehind 50 = .ok (.iadd, 1) := kqo_60 kbl_X4_findBehind (pc := 50) rfl
theorem dX4_findBehind_51 : decode cX4_findBehind 51 = .ok (.aload_n 0, 1) := kqo_2a kbl_X4_findBehind (pc := 51) rfl
theorem dX4_findBehind_52 : decode cX4_findBehind 52 = .ok (.getfield 51, 3) := kqo_b4 (x1 := 0) (x2 := 51) kbl_X4_findBehind (pc := 52) rfl rfl
theorem dX4_findBehind_55 : decode cX4_findBehind 55 = .ok (.if_icmp .ge 17, 3) := kqo_a2 (x1 := 0) (x2 := 17) kbl_X4_findBehind (pc := 55) rfl rfl
theorem dX4_findBehind_58 : decode cX4_findBehind 58 = .ok (.aload_n 0, 1) := kqo_2a kbl_X4_findBehind (pc := 58) rfl
theorem dX4_findBehind_59 : decode cX4_findBehind 59 = .ok (.getfield 32, 3) := kqo_b4 (x1 := 0) (x2 := 32) kbl_X4_findBehind (pc := 59) rfl rfl
theorem dX4_findBehind_62 : decode cX4_findBehind 62 = .ok (.iload_n 3, 1) := kqo_1d kbl_X4_findBehind (pc := 62) rfl
theorem dX4_findBehind_63 : decode cX4_findBehind 63 = .ok (.iconst 1, 1) := kqo_04 kbl_X4_findBehind (pc := 63) rfl
theorem dX4_findBehind_64 : decode cX4_findBehind 64 = .ok (.iadd, 1) := kqo_60 kbl_X4_findBehind (pc := 64) rfl
theorem dX4_findBehind_65 : decode cX4_findBehind 65 = .ok (.aaload, 1) := kqo_32 kbl_X4_findBehind (pc := 65) rfl
theorem dX4_findBehind_66 : decode cX4_findBehind 66 = .ok (.iload 6, 2) := kqo_15 (x1 := 6) kbl_X4_findBehind (pc := 66) rfl rfl
theorem dX4_findBehind_68 : decode cX4_findBehind 68 = .ok (.iaload, 1) := kqo_2e kbl_X4_findBehind (pc := 68) rfl
theorem dX4_findBehind_69 : decode cX4_findBehind 69 = .ok (.goto 4, 3) := kqo_a7 (x1 := 0) (x2 := 4) kbl_X4_findBehind (pc := 69) rfl rfl
theorem dX4_findBehind_72 : decode cX4_findBehind 72 = .ok (.iconst 0, 1) := kqo_03 kbl_X4_findBehind (pc := 72) rfl
theorem dX4_findBehind_73 : decode cX4_findBehind 73 = .ok (.istore 7, 2) := kqo_36 (x1 := 7) kbl_X4_findBehind (pc := 73) rfl rfl
theorem dX4_findBehind_75 : decode cX4_findBehind 75 = .ok (.aload_n 0, 1) := kqo_2a kbl_X4_findBehind (pc := 75) rfl
theorem dX4_findBehind_76 : decode cX4_findBehind 76 = .ok (.getfield 32, 3) := kqo_b4 (x1 := 0) (x2 := 32) kbl_X4_findBehind (pc := 76) rfl rfl
theorem dX4_findBehind_79 : decode cX4_findBehind 79 = .ok (.iload_n 3, 1) := kqo_1d kbl_X4_findBehind (pc := 79) rfl
theorem dX4_findBehind_80 : decode cX4_findBehind 80 = .ok (.aaload, 1) := kqo_32 kbl_X4_findBehind (pc := 80) rfl
theorem dX4_findBehind_81 : decode cX4_findBehind 81 = .ok (.iload 6, 2) := kqo_15 (x1 := 6) kbl_X4_findBehind (pc := 81) rfl rfl
theorem dX4_findBehind_83 : decode cX4_findBehind 83 = .ok (.iload 4, 2) := kqo_15 (x1 := 4) kbl_X4_findBehind (pc := 83) rfl rfl
theorem dX4_findBehind_85 : decode cX4_findBehind 85 = .ok (.iload 6, 2) := kqo_15 (x1 := 6) kbl_X4_findBehind (pc := 85) rfl rfl
theorem dX4_findBehind_87 : decode cX4_findBehind 87 = .ok (.ishr, 1) := kqo_7a kbl_X4_findBehind (pc := 87) rfl
theorem dX4_findBehind_88 : decode cX4_findBehind 88 = .ok (.iconst 1, 1) := kqo_04 kbl_X4_findBehind (pc := 88) rfl
theorem dX4_findBehind_89 : decode cX4_findBehind 89 = .ok (.iand, 1) := kqo_7e kbl_X4_findBehind (pc := 89) rfl
theorem dX4_findBehind_90 : decode cX4_findBehind 90 = .ok (.ifCond .ne 9, 3) := kqo_9a (x1 := 0) (x2 := 9) kbl_X4_findBehind (pc := 90) rfl rfl
theorem dX4_findBehind_93 : decode cX4_findBehind 93 = .ok (.sipush 1000, 3) := kqo_11 (x1 := 3) (x2 := 232) kbl_X4_findBehind (pc := 93) rfl rfl
theorem dX4_findBehind_96 : decode cX4_findBehind 96 = .ok (.goto 11, 3) := kqo_a7 (x1 := 0) (x2 := 11) kbl_X4_findBehind (pc := 96) rfl rfl
theorem dX4_findBehind_99 : decode cX4_findBehind 99 = .ok (.iload 7, 2) := kqo_15 (x1 := 7) kbl_X4_findBehind (pc := 99) rfl rfl
theorem dX4_findBehind_101 : decode cX4_findBehind 101 = .ok (.iload_n 2, 1) := kqo_1c kbl_X4_findBehind (pc := 101) rfl
theorem dX4_findBehind_102 : decode cX4_findBehind 102 = .ok (.iconst 1, 1) := kqo_04 kbl_X4_findBehind (pc := 102) rfl
theorem dX4_findBehind_103 : decode cX4_findBehind 103 = .ok (.iadd, 1) := kqo_60 kbl_X4_findBehind (pc := 103) rfl
theorem dX4_findBehind_104 : decode cX4_findBehind 104 = .ok (.invokestatic 85, 3) := kqo_b8 (x1 := 0) (x2 := 85) kbl_X4_findBehind (pc := 104) rfl rfl
theorem dX4_findBehind_107 : decode cX4_findBehind 107 = .ok (.iastore, 1) := kqo_4f kbl_X4_findBehind (pc := 107) rfl
theorem dX4_findBehind_108 : decode cX4_findBehind 108 = .ok (.iload 5, 2) := kqo_15 (x1 := 5) kbl_X4_findBehind (pc := 108) rfl rfl
theorem dX4_findBehind_110 : decode cX4_findBehind 110 = .ok (.aload_n 0, 1) := kqo_2a kbl_X4_findBehind (pc := 110) rfl
theorem dX4_findBehind_111 : decode cX4_findBehind 111 = .ok (.getfield 32, 3) := kqo_b4 (x1 := 0) (x2 := 32) kbl_X4_findBehind (pc := 111) rfl rfl
theorem dX4_findBehind_114 : decode cX4_findBehind 114 = .ok (.iload_n 3, 1) := kqo_1d kbl_X4_findBehind (pc := 114) rfl
theorem dX4_findBehind_115 : decode cX4_findBehind 115 = .ok (.aaload, 1) := kqo_32 kbl_X4_findBehind (pc := 115) rfl
theorem dX4_findBehind_116 : decode cX4_findBehind 116 = .ok (.iload 6, 2) := kqo_15 (x1 := 6) kbl_X4_findBehind (pc := 116) rfl rfl
theorem dX4_findBehind_118 : decode cX4_findBehind 118 = .ok (.iaload, 1) := kqo_2e kbl_X4_findBehind (pc := 118) rfl
theorem dX4_findBehind_119 : decode cX4_findBehind 119 = .ok (.invokestatic 85, 3) := kqo_b8 (x1 := 0) (x2 := 85) kbl_X4_findBehind (pc := 119) rfl rfl
theorem dX4_findBehind_122 : decode cX4_findBehind 122 = .ok (.istore 5, 2) := kqo_36 (x1 := 5) kbl_X4_findBehind (pc := 122) rfl rfl
theorem dX4_findBehind_124 : decode cX4_findBehind 124 = .ok (.iinc 6 1, 3) := kqo_84 (x1 := 6) (x2 := 1) kbl_X4_findBehind (pc := 124) rfl rfl
theorem dX4_findBehind_127 : decode cX4_findBehind 127 = .ok (.goto (-85), 3) := kqo_a7 (x1 := 255) (x2 := 171) kbl_X4_findBehind (pc := 127) rfl rfl
theorem dX4_findBehind_130 : decode cX4_findBehind 130 = .ok (.iload 5, 2) := kqo_15 (x1 := 5) kbl_X4_findBehind (pc := 130) rfl rfl
theorem dX4_findBehind_132 : decode cX4_findBehind 132 = .ok (.istore_n 2, 1) := kqo_3d kbl_X4_findBehind (pc := 132) rfl
theorem dX4_findBehind_133 : decode cX4_findBehind 133 = .ok (.iinc 3 (-1), 3) := kqo_84 (x1 := 3) (x2 := 255) kbl_X4_findBehind (pc := 133) rfl rfl
theorem dX4_findBehind_136 : decode cX4_findBehind 136 = .ok (.goto (-127), 3) := kqo_a7 (x1 := 255) (x2 := 129) kbl_X4_findBehind (pc := 136) rfl rfl
theorem dX4_findBehind_139 : decode cX4_findBehind 139 = .ok (.return_, 1) := kqo_b1 kbl_X4_findBehind (pc := 139) rfl
set_option maxRecDepth 20000 in
theorem mw_X4_findBehind_0 : (.fieldLink RX4 51 "FontRuns$Setting" "count" "I" : Cond) ∈ wsX4_findBehind := List.mem_cons_of_mem _ (List.mem_append_left _ (List.mem_of_getElem? (i := 0) rfl))
set_option maxRecDepth 20000 in
theorem mw_X4_findBehind_1 : (.fieldLink RX4 18 "FontRuns$Setting" "fitting" "[I" : Cond) ∈ wsX4_findBehind := List.mem_cons_of_mem _ (List.mem_append_left _ (List.mem_of_getElem? (i := 1) rfl))
set_option maxRecDepth 20000 in
theorem mw_X4_findBehind_2 : (.fieldLink RX4 32 "FontRuns$Setting" "behind" "[[I" : Cond) ∈ wsX4_findBehind := List.mem_cons_of_mem _ (List.mem_append_left _ (List.mem_of_getElem? (i := 2) rfl))
set_option maxRecDepth 20000 in
theorem mw_X4_findBehind_3 : (.methodLink RX4 85 Lib.Math.min.name : Cond) ∈ wsX4_findBehind := List.mem_cons_of_mem _ (List.mem_append_left _ (List.mem_of_getElem? (i := 3) rfl))
set_option maxRecDepth 20000 in
theorem mw_X4_findBehind_4 : (.static Lib.Math.min.name : Cond) ∈ wsX4_findBehind := List.mem_cons_of_mem _ (List.mem_append_left _ (List.mem_of_getElem? (i := 4) rfl))
set_option maxRecDepth 20000 in
theorem mw_X4_findBehind_5 : (.initialized "java/lang/Math" : Cond) ∈ wsX4_findBehind := List.mem_cons_of_mem _ (List.mem_append_left _ (List.mem_of_getElem? (i := 5) rfl))
set_option maxRecDepth 20000 in
theorem mw_X4_findBehind_6 : (.code Lib.Math.min.name Lib.Math.min.code 2 (some .int) : Cond) ∈ wsX4_findBehind := List.mem_cons_of_mem _ (List.mem_append_left _ (List.mem_of_getElem? (i := 6) rfl))
theorem ax_X4_findBehind_0 {e0 e1 e2 : Nat × va_E} : ([0, 1, 2] : List Nat).map (fun i => ([e0, e1, e2] : va_W)[i]?) = ([e0, e1, e2] : va_W).map some := rfl
set_option maxHeartbeats 4000000 in
set_option maxRecDepth 100000 in
theorem c_X4_findBehind (l : Launch) (D : va_G) (sz : Nat) (al : Int) (h0 : Nat) (g1 : Nat) (g2 : Nat) (g3 : Nat) (g4 : Nat) (g5 : Nat) (cn : Int) (bo : Int) (ru : Int) (g6 : Nat) (g7 : Nat) (cg3 : ClassId) (f3 : Nat → Int32) (cg7 : ClassId) (fo : Nat → Option Nat) (o : Nat) (pr : Nat → Nat) (gp : Nat → Nat → Int32) (cy : ClassId) (q0 : rg al) (q1 : 0 ≤ cn ∧ cn ≤ 24) (q2 : kOut fo pr o 24) (q3 : o + 24 ≤ 56) : Met l yX4_findBehind wsX4_findBehind ({ frames := 1, cells := 0, slots := 0, locals := 21 }) (kPre [.ref h0, .int (zI al)] D (([(h0, .inr (4, [.ref g1, .ref g2, .ref g3, .ref g4, .ref g5, .int (zI cn), .int (zI bo), .int (zI ru), .ref g6, .ref g7])), (g3, .inl (cg3, 24, .inl f3)), (g7, .inl (cg7, 24, .inr (.inr (.inr (.inr (fo))))))] : va_W) ++ kRows pr gp cy) [(cg3, .int), (cg7, .array .int), (cy, .int)] sz) (kQV (fun t => ∃ (ug : Nat → Nat → Int32), va_P D vwCl (([(h0, .inr (4, [.ref g1, .ref g2, .ref g3, .ref g4, .ref g5, .int (zI cn), .int (zI bo), .int (zI ru), .ref g6, .ref g7])), (g3, .inl (cg3, 24, .inl f3)), (g7, .inl (cg7, 24, .inr (.inr (.inr (.inr (fo))))))] : va_W) ++ kRows pr ug cy) t.heap ∧ va_D (va_A (([(h0, .inr (4, [.ref g1, .ref g2, .ref g3, .ref g4, .ref g5, .int (zI cn), .int (zI bo), .int (zI ru), .ref g6, .ref g7])), (g3, .inl (cg3, 24, .inl f3)), (g7, .inl (cg7, 24, .inr (.inr (.inr (.inr (fo))))))] : va_W) ++ kRows pr gp cy) sz) (([(h0, .inr (4, [.ref g1, .ref g2, .ref g3, .ref g4, .ref g5, .int (zI cn), .int (zI bo), .int (zI ru), .ref g6, .ref g7])), (g3, .inl (cg3, 24, .inl f3)), (g7, .inl (cg7, 24, .inr (.inr (.inr (.inr (fo))))))] : va_W) ++ kRows pr ug cy)) (va_A (([(h0, .inr (4, [.ref g1, .ref g2, .ref g3, .ref g4, .ref g5, .int (zI cn), .int (zI bo), .int (zI ru), .ref g6, .ref g7])), (g3, .inl (cg3, 24, .inl f3)), (g7, .inl (cg7, 24, .inr (.inr (.inr (.inr (fo))))))] : va_W) ++ kRows pr gp cy) sz)) 0 0 (va_A (([(h0, .inr (4, [.ref g1, .ref g2, .ref g3, .ref g4, .ref g5, .int (zI cn), .int (zI bo), .int (zI ru), .ref g6, .ref g7])), (g3, .inl (cg3, 24, .inl f3)), (g7, .inl (cg7, 24, .inr (.inr (.inr (.inr (fo))))))] : va_W) ++ kRows pr gp cy) sz) := by
  refine Met.ofW (cc := cX4_findBehind) (maxL := 8) (ret := none) (by decide) rfl ?_
  intro p e s m args below meth c s₁ B hml hv
  obtain ⟨rfl, hsz, hP, hK, hD0, hN⟩ := hv
  have hx := B.exec
  have hb := B.bytes
  have hr := B.returns
  have hts := atoms_spec (ws := wsX4_findBehind) B.pre
  have hown : s.vm.findClass RX4 = some m.cls := findClass_of_methodNamed B.named
  have hlocks := B.notSynchronized
  subst hsz
  have hD := hD0.self (sz := s.heap.size)
  generalize hAe : va_A (([(h0, .inr (4, [.ref g1, .ref g2, .ref g3, .ref g4, .ref g5, .int (zI cn), .int (zI bo), .int (zI ru), .ref g6, .ref g7])), (g3, .inl (cg3, 24, .inl f3)), (g7, .inl (cg7, 24, .inr (.inr (.inr (.inr (fo))))))] : va_W) ++ kRows pr gp cy) s.heap.size = A at hD ⊢
  have hA : ∀ q : Nat, s.heap.size ≤ q → A q := fun q h => by rw [← hAe]; exact Or.inr h
  have hS : va_S A s.heap s.heap [] := va_S.rf
  have hP : va_P D vwCl (([(h0, .inr (4, [.ref g1, .ref g2, .ref g3, .ref g4, .ref g5, .int (zI cn), .int (zI bo), .int (zI ru), .ref g6, .ref g7])), (g3, .inl (cg3, 24, .inl f3)), (g7, .inl (cg7, 24, .inr (.inr (.inr (.inr (fo))))))] : va_W) ++ kRows pr gp cy) s.heap := hP
  have hl := lv_entry ([.ref h0, .int (zI al)]) (n := 8) (Nat.le_of_ble_eq_true rfl)
  rw [lg_entry_eq]
  generalize (lg_sl ([.ref h0, .int (zI al)]) ++ List.replicate (8 - (lg_sl ([.ref h0, .int (zI al)])).length) Slot.unset).toArray = ls at hl ⊢
  have hl : lv_has ls 8 [(0, .ref h0), (1, .int (zI al))] := hl
  refine lv_iconst (v := zI 0) hx hb dX4_findBehind_0 rfl ?_
  refine lv_istore_n (lv' := [(2, .int (zI 0)), (0, .ref h0), (1, .int (zI al))]) hx hb dX4_findBehind_1 rfl hl (by decide) rfl (fun ls hl => ?_)
  refine lv_aload_n hx hb dX4_findBehind_2 rfl (lv_at hl 1 rfl) ?_
  refine va_get (D := D) (ci := 4) (v := .int (zI cn)) (C := RX4) (T := TX4) (N := 10) hx hb hts (fun _ h9 => List.mem_cons_of_mem _ (List.mem_append_right _ h9)) hown hK hP 0 rfl rfl 5 (by decide) (hts (.fieldLink RX4 51 "FontRuns$Setting" "count" "I") mw_X4_findBehind_0) (fun _ h9 => h9) rfl dX4_findBehind_3 ?_
  refine lv_iconst (v := zI 1) hx hb dX4_findBehind_6 rfl ?_
  refine kz_isub hx hb dX4_findBehind_7 ?_
  refine lv_istore_n (lv' := [(3, .int (zI (cn - 1))), (2, .int (zI 0)), (0, .ref h0), (1, .int (zI al))]) hx hb dX4_findBehind_8 rfl hl (by decide) rfl (fun ls hl => ?_)
  refine k_loopM (I := fun n9 H locs ls => ∃ (jl : Int) (jk : Int) (jp : Nat → Nat → Int32), n9 = (jk + 1).toNat ∧ (rg jl ∧ jl ≤ 1000) ∧ (-1 ≤ jk ∧ jk ≤ cn - 1) ∧ va_P D vwCl (([(h0, .inr (4, [.ref g1, .ref g2, .ref g3, .ref g4, .ref g5, .int (zI cn), .int (zI bo), .int (zI ru), .ref g6, .ref g7])), (g3, .inl (cg3, 24, .inl f3)), (g7, .inl (cg7, 24, .inr (.inr (.inr (.inr (fo))))))] : va_W) ++ kRows pr jp cy) H ∧ va_D A (([(h0, .inr (4, [.ref g1, .ref g2, .ref g3, .ref g4, .ref g5, .int (zI cn), .int (zI bo), .int (zI ru), .ref g6, .ref g7])), (g3, .inl (cg3, 24, .inl f3)), (g7, .inl (cg7, 24, .inr (.inr (.inr (.inr (fo))))))] : va_W) ++ kRows pr jp cy) ∧ va_S A s.heap H locs ∧ lv_has ls 8 [(3, .int (zI jk)), (2, .int (zI jl)), (0, .ref h0), (1, .int (zI al))]) ?_ _ ⟨0, (cn - 1), gp, rfl, (by omega), (by omega), hP, hD, hS, hl⟩
  intro n9 ih9 H locs ls hI
  obtain ⟨jl, jk, jp, en9, v_90, v_91, hP, hD, hS, hl⟩ := hI
  refine lv_iload_n hx hb dX4_findBehind_9 rfl (lv_at hl 0 rfl) ?_
  refine kz_if_lt (tgt := 139) hx hb dX4_findBehind_10 (by decide) (by omega) (fun c_1 => ?_) (fun c_1 => ?_)
  · have hP9 : va_P D vwCl (([(h0, .inr (4, [.ref g1, .ref g2, .ref g3, .ref g4, .ref g5, .int (zI cn), .int (zI bo), .int (zI ru), .ref g6, .ref g7])), (g3, .inl (cg3, 24, .inl f3)), (g7, .inl (cg7, 24, .inr (.inr (.inr (.inr (fo))))))] : va_W) ++ kRows pr jp cy) H := hP.part [0, 1, 2] ax_X4_findBehind_0
    have hD9 : va_D A (([(h0, .inr (4, [.ref g1, .ref g2, .ref g3, .ref g4, .ref g5, .int (zI cn), .int (zI bo), .int (zI ru), .ref g6, .ref g7])), (g3, .inl (cg3, 24, .inl f3)), (g7, .inl (cg7, 24, .inr (.inr (.inr (.inr (fo))))))] : va_W) ++ kRows pr jp cy) := hD.part [0, 1, 2] (by decide +kernel) ax_X4_findBehind_0
    exact W.vret hx hb hr (fun t ht hW => kQV_of ⟨jp, by rw [ht]; exact hP9, hD9⟩ (hS.F ht)) hS.2.2 dX4_findBehind_139
  · refine lv_aload_n hx hb dX4_findBehind_13 rfl (lv_at hl 2 rfl) ?_
    refine va_get (D := D) (ci := 4) (v := .ref g3) (C := RX4) (T := TX4) (N := 10) hx hb hts (fun _ h9 => List.mem_cons_of_mem _ (List.mem_append_right _ h9)) hown hK hP 0 rfl rfl 2 (by decide) (hts (.fieldLink RX4 18 "FontRuns$Setting" "fitting" "[I") mw_X4_findBehind_1) (fun _ h9 => h9) rfl dX4_findBehind_14 ?_
    refine lv_iload_n hx hb dX4_findBehind_17 rfl (lv_at hl 0 rfl) ?_
    refine kz_iald hx hb hK hP 1 0 rfl rfl (by omega) dX4_findBehind_18 (fun z_2 rz_2 ez_2 => ?_)
    refine kz_if_ne (tgt := 26) hx hb dX4_findBehind_19 (by decide) (by omega) (fun c_3 => ?_) (fun c_3 => ?_)
    · refine lv_aload_n hx hb dX4_findBehind_26 rfl (lv_at hl 2 rfl) ?_
      refine va_get (D := D) (ci := 4) (v := .ref g3) (C := RX4) (T := TX4) (N := 10) hx hb hts (fun _ h9 => List.mem_cons_of_mem _ (List.mem_append_right _ h9)) hown hK hP 0 rfl rfl 2 (by decide) (hts (.fieldLink RX4 18 "FontRuns$Setting" "fitting" "[I") mw_X4_findBehind_1) (fun _ h9 => h9) rfl dX4_findBehind_27 ?_
      refine lv_iload_n hx hb dX4_findBehind_30 rfl (lv_at hl 0 rfl) ?_
      refine kz_iald hx hb hK hP 1 0 rfl rfl (by omega) dX4_findBehind_31 (fun z_4 rz_4 ez_4 => ?_)
      refine kz_any (fun z_5 rz_5 ez_5 => ?_)
      refine lv_istore (lv' := [(4, .int (zI z_5)), (3, .int (zI jk)), (2, .int (zI jl)), (0, .ref h0), (1, .int (zI al))]) hx hb dX4_findBehind_32 hl (by decide) rfl (fun ls hl => ?_)
      refine lv_sipush (v := zI 1000) hx hb dX4_findBehind_34 (by decide) ?_
      refine lv_istore (lv' := [(5, .int (zI 1000)), (4, .int (zI z_5)), (3, .int (zI jk)), (2, .int (zI jl)), (0, .ref h0), (1, .int (zI al))]) hx hb dX4_findBehind_37 hl (by decide) rfl (fun ls hl => ?_)
      refine lv_iconst (v := zI 0) hx hb dX4_findBehind_39 rfl ?_
      refine lv_istore (lv' := [(6, .int (zI 0)), (5, .int (zI 1000)), (4, .int (zI z_5)), (3, .int (zI jk)), (2, .int (zI jl)), (0, .ref h0), (1, .int (zI al))]) hx hb dX4_findBehind_40 hl (by decide) rfl (fun ls hl => ?_)
      refine k_loopM (I := fun n9 H locs ls => ∃ (jh : Int) (jf : Int) (jq : Nat → Nat → Int32), n9 = (4 - jf).toNat ∧ (rg jh ∧ jh ≤ 1000) ∧ (0 ≤ jf ∧ jf ≤ 4) ∧ va_P D vwCl (([(h0, .inr (4, [.ref g1, .ref g2, .ref g3, .ref g4, .ref g5, .int (zI cn), .int (zI bo), .int (zI ru), .ref g6, .ref g7])), (g3, .inl (cg3, 24, .inl f3)), (g7, .inl (cg7, 24, .inr (.inr (.inr (.inr (fo))))))] : va_W) ++ kRows pr jq cy) H ∧ va_D A (([(h0, .inr (4, [.ref g1, .ref g2, .ref g3, .ref g4, .ref g5, .int (zI cn), .int (zI bo), .int (zI ru), .ref g6, .ref g7])), (g3, .inl (cg3, 24, .inl f3)), (g7, .inl (cg7, 24, .inr (.inr (.inr (.inr (fo))))))] : va_W) ++ kRows pr jq cy) ∧ va_S A s.heap H locs ∧ lv_has ls 8 [(6, .int (zI jf)), (5, .int (zI jh)), (4, .int (zI z_5)), (3, .int (zI jk)), (2, .int (zI jl)), (0, .ref h0), (1, .int (zI al))]) ?_ _ ⟨1000, 0, jp, rfl, (by omega), (by omega), hP, hD, hS, hl⟩
      intro n42 ih42 H locs ls hI
      obtain ⟨jh, jf, jq, en42, v_420, v_421, hP, hD, hS, hl⟩ := hI
      refine lv_iload hx hb dX4_findBehind_42 (lv_at hl 0 rfl) ?_
      refine lv_iconst (v := zI 4) hx hb dX4_findBehind_44 rfl ?_
      refine kz_icmp_ge (tgt := 130) hx hb dX4_findBehind_45 (by decide) (by omega) (by omega) (fun c_6 => ?_) (fun c_6 => ?_)
      · refine lv_iload hx hb dX4_findBehind_130 (lv_at hl 1 rfl) ?_
        refine lv_istore_n (lv' := [(2, .int (zI jh)), (6, .int (zI jf)), (5, .int (zI jh)), (4, .int (zI z_5)), (3, .int (zI jk)), (0, .ref h0), (1, .int (zI al))]) hx hb dX4_findBehind_132 rfl hl (by decide) rfl (fun ls hl => ?_)
        refine lv_iinc (v := (zI (jk - 1))) (lv' := [(3, .int (zI (jk - 1))), (2, .int (zI jh)), (6, .int (zI jf)), (5, .int (zI jh)), (4, .int (zI z_5)), (0, .ref h0), (1, .int (zI al))]) hx hb dX4_findBehind_133 hl (k := 4) rfl (kz_dec _ 1) (by decide) rfl (fun ls hl => ?_)
        refine lv_goto (tgt := 9) hx hb dX4_findBehind_136 (by decide) ?_
        exact ih9 _ (by omega) _ _ _ ⟨jh, (jk - 1), jq, rfl, v_420, (by omega), hP, hD, hS, lv_sub hl [0, 1, 5, 6] rfl⟩
      · refine lv_iload_n hx hb dX4_findBehind_48 rfl (lv_at hl 3 rfl) ?_
        refine lv_iconst (v := zI 1) hx hb dX4_findBehind_49 rfl ?_
        refine kz_iadd hx hb dX4_findBehind_50 ?_
        refine lv_aload_n hx hb dX4_findBehind_51 rfl (lv_at hl 5 rfl) ?_
        refine va_get (D := D) (ci := 4) (v := .int (zI cn)) (C := RX4) (T := TX4) (N := 10) hx hb hts (fun _ h9 => List.mem_cons_of_mem _ (List.mem_append_right _ h9)) hown hK hP 0 rfl rfl 5 (by decide) (hts (.fieldLink RX4 51 "FontRuns$Setting" "count" "I") mw_X4_findBehind_0) (fun _ h9 => h9) rfl dX4_findBehind_52 ?_
        refine kz_icmp_ge (tgt := 72) hx hb dX4_findBehind_55 (by decide) (by omega) (by omega) (fun c_7 => ?_) (fun c_7 => ?_)
        · refine lv_iconst (v := zI 0) hx hb dX4_findBehind_72 rfl ?_
          refine lv_istore (lv' := [(7, .int (zI 0)), (6, .int (zI jf)), (5, .int (zI jh)), (4, .int (zI z_5)), (3, .int (zI jk)), (2, .int (zI jl)), (0, .ref h0), (1, .int (zI al))]) hx hb dX4_findBehind_73 hl (by decide) rfl (fun ls hl => ?_)
          refine lv_aload_n hx hb dX4_findBehind_75 rfl (lv_at hl 6 rfl) ?_
          refine va_get (D := D) (ci := 4) (v := .ref g7) (C := RX4) (T := TX4) (N := 10) hx hb hts (fun _ h9 => List.mem_cons_of_mem _ (List.mem_append_right _ h9)) hown hK hP 0 rfl rfl 9 (by decide) (hts (.fieldLink RX4 32 "FontRuns$Setting" "behind" "[[I") mw_X4_findBehind_2) (fun _ h9 => h9) rfl dX4_findBehind_76 ?_
          refine lv_iload_n hx hb dX4_findBehind_79 rfl (lv_at hl 4 rfl) ?_
          refine kz_aald hx hb hK hP 2 1 rfl rfl (by omega) dX4_findBehind_80 (q2 _ (by omega)) ?_
          refine lv_iload hx hb dX4_findBehind_81 (lv_at hl 1 rfl) ?_
          refine lv_iload hx hb dX4_findBehind_83 (lv_at hl 3 rfl) ?_
          refine lv_iload hx hb dX4_findBehind_85 (lv_at hl 1 rfl) ?_
          refine lv_ishr hx hb dX4_findBehind_87 ?_
          refine kz_any (fun z_8 rz_8 ez_8 => ?_)
          refine lv_iconst (v := zI 1) hx hb dX4_findBehind_88 rfl ?_
          refine lv_iand hx hb dX4_findBehind_89 ?_
          refine kz_any (fun z_9 rz_9 ez_9 => ?_)
          refine kz_if_ne (tgt := 99) hx hb dX4_findBehind_90 (by decide) (by omega) (fun c_10 => ?_) (fun c_10 => ?_)
          · refine lv_iload hx hb dX4_findBehind_99 (lv_at hl 0 rfl) ?_
            refine lv_iload_n hx hb dX4_findBehind_101 rfl (lv_at hl 5 rfl) ?_
            refine lv_iconst (v := zI 1) hx hb dX4_findBehind_102 rfl ?_
            refine kz_iadd hx hb dX4_findBehind_103 ?_
            refine kz_min hx hb (by rw [hml]; exact hl.1.symm) hown (hts (.methodLink RX4 85 Lib.Math.min.name) mw_X4_findBehind_3) (hts (.static Lib.Math.min.name) mw_X4_findBehind_4) (hts (.initialized "java/lang/Math") mw_X4_findBehind_5) (hts (.code Lib.Math.min.name Lib.Math.min.code 2 (some .int)) mw_X4_findBehind_6) (Nat.le_of_ble_eq_true rfl) (Nat.le_of_ble_eq_true rfl) (Nat.le_of_ble_eq_true rfl) (Nat.le_of_ble_eq_true rfl) (by omega) (by omega) dX4_findBehind_104 (fun z_11 rz_11 ez_11 => ?_)
            refine kz_rowst (X := [(h0, .inr (4, [.ref g1, .ref g2, .ref g3, .ref g4, .ref g5, .int (zI cn), .int (zI bo), .int (zI ru), .ref g6, .ref g7])), (g3, .inl (cg3, 24, .inl f3)), (g7, .inl (cg7, 24, .inr (.inr (.inr (.inr (fo))))))]) hx hb hK hP hD hS 2 rfl (by omega) (by omega) dX4_findBehind_107 (fun H locs hP hD hS => ?_)
            generalize va_up jq (o + (jk).toNat) (upd (jq (o + (jk).toNat)) (jf).toNat (zI z_11)) = gp_12 at hP hD
            have hP : va_P D vwCl (([(h0, .inr (4, [.ref g1, .ref g2, .ref g3, .ref g4, .ref g5, .int (zI cn), .int (zI bo), .int (zI ru), .ref g6, .ref g7])), (g3, .inl (cg3, 24, .inl f3)), (g7, .inl (cg7, 24, .inr (.inr (.inr (.inr (fo))))))] : va_W) ++ kRows pr gp_12 cy) H := hP
            have hD : va_D A (([(h0, .inr (4, [.ref g1, .ref g2, .ref g3, .ref g4, .ref g5, .int (zI cn), .int (zI bo), .int (zI ru), .ref g6, .ref g7])), (g3, .inl (cg3, 24, .inl f3)), (g7, .inl (cg7, 24, .inr (.inr (.inr (.inr (fo))))))] : va_W) ++ kRows pr gp_12 cy) := hD
            refine lv_iload hx hb dX4_findBehind_108 (lv_at hl 2 rfl) ?_
            refine lv_aload_n hx hb dX4_findBehind_110 rfl (lv_at hl 6 rfl) ?_
            refine va_get (D := D) (ci := 4) (v := .ref g7) (C := RX4) (T := TX4) (N := 10) hx hb hts (fun _ h9 => List.mem_cons_of_mem _ (List.mem_append_right _ h9)) hown hK hP 0 rfl rfl 9 (by decide) (hts (.fieldLink RX4 32 "FontRuns$Setting" "behind" "[[I") mw_X4_findBehind_2) (fun _ h9 => h9) rfl dX4_findBehind_111 ?_
            refine lv_iload_n hx hb dX4_findBehind_114 rfl (lv_at hl 4 rfl) ?_
            refine kz_aald hx hb hK hP 2 1 rfl rfl (by omega) dX4_findBehind_115 (q2 _ (by omega)) ?_
            refine lv_iload hx hb dX4_findBehind_116 (lv_at hl 1 rfl) ?_
            refine kz_rowld (X := [(h0, .inr (4, [.ref g1, .ref g2, .ref g3, .ref g4, .ref g5, .int (zI cn), .int (zI bo), .int (zI ru), .ref g6, .ref g7])), (g3, .inl (cg3, 24, .inl f3)), (g7, .inl (cg7, 24, .inr (.inr (.inr (.inr (fo))))))]) hx hb hK hP 2 rfl (by omega) (by omega) dX4_findBehind_118 (fun z_13 rz_13 ez_13 => ?_)
            refine kz_min hx hb (by rw [hml]; exact hl.1.symm) hown (hts (.methodLink RX4 85 Lib.Math.min.name) mw_X4_findBehind_3) (hts (.static Lib.Math.min.name) mw_X4_findBehind_4) (hts (.initialized "java/lang/Math") mw_X4_findBehind_5) (hts (.code Lib.Math.min.name Lib.Math.min.code 2 (some .int)) mw_X4_findBehind_6) (Nat.le_of_ble_eq_true rfl) (Nat.le_of_ble_eq_true rfl) (Nat.le_of_ble_eq_true rfl) (Nat.le_of_ble_eq_true rfl) (by omega) (by omega) dX4_findBehind_119 (fun z_14 rz_14 ez_14 => ?_)
            refine lv_istore (lv' := [(5, .int (zI z_14)), (7, .int (zI 0)), (6, .int (zI jf)), (4, .int (zI z_5)), (3, .int (zI jk)), (2, .int (zI jl)), (0, .ref h0), (1, .int (zI al))]) hx hb dX4_findBehind_122 hl (by decide) rfl (fun ls hl => ?_)
            refine lv_iinc (v := (zI (jf + 1))) (lv' := [(6, .int (zI (jf + 1))), (5, .int (zI z_14)), (7, .int (zI 0)), (4, .int (zI z_5)), (3, .int (zI jk)), (2, .int (zI jl)), (0, .ref h0), (1, .int (zI al))]) hx hb dX4_findBehind_124 hl (k := 2) rfl (kz_inc _ 1) (by decide) rfl (fun ls hl => ?_)
            refine lv_goto (tgt := 42) hx hb dX4_findBehind_127 (by decide) ?_
            exact ih42 _ (by omega) _ _ _ ⟨z_14, (jf + 1), gp_12, rfl, (by omega), (by omega), hP, hD, hS, lv_sub hl [0, 1, 3, 4, 5, 6, 7] rfl⟩
          · refine lv_sipush (v := zI 1000) hx hb dX4_findBehind_93 (by decide) ?_
            refine lv_goto (tgt := 107) hx hb dX4_findBehind_96 (by decide) ?_
            refine kz_rowst (X := [(h0, .inr (4, [.ref g1, .ref g2, .ref g3, .ref g4, .ref g5, .int (zI cn), .int (zI bo), .int (zI ru), .ref g6, .ref g7])), (g3, .inl (cg3, 24, .inl f3)), (g7, .inl (cg7, 24, .inr (.inr (.inr (.inr (fo))))))]) hx hb hK hP hD hS 2 rfl (by omega) (by omega) dX4_findBehind_107 (fun H locs hP hD hS => ?_)
            generalize va_up jq (o + (jk).toNat) (upd (jq (o + (jk).toNat)) (jf).toNat (zI 1000)) = gp_15 at hP hD
            have hP : va_P D vwCl (([(h0, .inr (4, [.ref g1, .ref g2, .ref g3, .ref g4, .ref g5, .int (zI cn), .int (zI bo), .int (zI ru), .ref g6, .ref g7])), (g3, .inl (cg3, 24, .inl f3)), (g7, .inl (cg7, 24, .inr (.inr (.inr (.inr (fo))))))] : va_W) ++ kRows pr gp_15 cy) H := hP
            have hD : va_D A (([(h0, .inr (4, [.ref g1, .ref g2, .ref g3, .ref g4, .ref g5, .int (zI cn), .int (zI bo), .int (zI ru), .ref g6, .ref g7])), (g3, .inl (cg3, 24, .inl f3)), (g7, .inl (cg7, 24, .inr (.inr (.inr (.inr (fo))))))] : va_W) ++ kRows pr gp_15 cy) := hD
            refine lv_iload hx hb dX4_findBehind_108 (lv_at hl 2 rfl) ?_
            refine lv_aload_n hx hb dX4_findBehind_110 rfl (lv_at hl 6 rfl) ?_
            refine va_get (D := D) (ci := 4) (v := .ref g7) (C := RX4) (T := TX4) (N := 10) hx hb hts (fun _ h9 => List.mem_cons_of_mem _ (List.mem_append_right _ h9)) hown hK hP 0 rfl rfl 9 (by decide) (hts (.fieldLink RX4 32 "FontRuns$Setting" "behind" "[[I") mw_X4_findBehind_2) (fun _ h9 => h9) rfl dX4_findBehind_111 ?_
            refine lv_iload_n hx hb dX4_findBehind_114 rfl (lv_at hl 4 rfl) ?_
            refine kz_aald hx hb hK hP 2 1 rfl rfl (by omega) dX4_findBehind_115 (q2 _ (by omega)) ?_
            refine lv_iload hx hb dX4_findBehind_116 (lv_at hl 1 rfl) ?_
            refine kz_rowld (X := [(h0, .inr (4, [.ref g1, .ref g2, .ref g3, .ref g4, .ref g5, .int (zI cn), .int (zI bo), .int (zI ru), .ref g6, .ref g7])), (g3, .inl (cg3, 24, .inl f3)), (g7, .inl (cg7, 24, .inr (.inr (.inr (.inr (fo))))))]) hx hb hK hP 2 rfl (by omega) (by omega) dX4_findBehind_118 (fun z_16 rz_16 ez_16 => ?_)
            refine kz_min hx hb (by rw [hml]; exact hl.1.symm) hown (hts (.methodLink RX4 85 Lib.Math.min.name) mw_X4_findBehind_3) (hts (.static Lib.Math.min.name) mw_X4_findBehind_4) (hts (.initialized "java/lang/Math") mw_X4_findBehind_5) (hts (.code Lib.Math.min.name Lib.Math.min.code 2 (some .int)) mw_X4_findBehind_6) (Nat.le_of_ble_eq_true rfl) (Nat.le_of_ble_eq_true rfl) (Nat.le_of_ble_eq_true rfl) (Nat.le_of_ble_eq_true rfl) (by omega) (by omega) dX4_findBehind_119 (fun z_17 rz_17 ez_17 => ?_)
            refine lv_istore (lv' := [(5, .int (zI z_17)), (7, .int (zI 0)), (6, .int (zI jf)), (4, .int (zI z_5)), (3, .int (zI jk)), (2, .int (zI jl)), (0, .ref h0), (1, .int (zI al))]) hx hb dX4_findBehind_122 hl (by decide) rfl (fun ls hl => ?_)
            refine lv_iinc (v := (zI (jf + 1))) (lv' := [(6, .int (zI (jf + 1))), (5, .int (zI z_17)), (7, .int (zI 0)), (4, .int (zI z_5)), (3, .int (zI jk)), (2, .int (zI jl)), (0, .ref h0), (1, .int (zI al))]) hx hb dX4_findBehind_124 hl (k := 2) rfl (kz_inc _ 1) (by decide) rfl (fun ls hl => ?_)
            refine lv_goto (tgt := 42) hx hb dX4_findBehind_127 (by decide) ?_
            exact ih42 _ (by omega) _ _ _ ⟨z_17, (jf + 1), gp_15, rfl, (by omega), (by omega), hP, hD, hS, lv_sub hl [0, 1, 3, 4, 5, 6, 7] rfl⟩
        · refine lv_aload_n hx hb dX4_findBehind_58 rfl (lv_at hl 5 rfl) ?_
          refine va_get (D := D) (ci := 4) (v := .ref g7) (C := RX4) (T := TX4) (N := 10) hx hb hts (fun _ h9 => List.mem_cons_of_mem _ (List.mem_append_right _ h9)) hown hK hP 0 rfl rfl 9 (by decide) (hts (.fieldLink RX4 32 "FontRuns$Setting" "behind" "[[I") mw_X4_findBehind_2) (fun _ h9 => h9) rfl dX4_findBehind_59 ?_
          refine lv_iload_n hx hb dX4_findBehind_62 rfl (lv_at hl 3 rfl) ?_
          refine lv_iconst (v := zI 1) hx hb dX4_findBehind_63 rfl ?_
          refine kz_iadd hx hb dX4_findBehind_64 ?_
          refine kz_aald hx hb hK hP 2 1 rfl rfl (by omega) dX4_findBehind_65 (q2 _ (by omega)) ?_
          refine lv_iload hx hb dX4_findBehind_66 (lv_at hl 0 rfl) ?_
          refine kz_rowld (X := [(h0, .inr (4, [.ref g1, .ref g2, .ref g3, .ref g4, .ref g5, .int (zI cn), .int (zI bo), .int (zI ru), .ref g6, .ref g7])), (g3, .inl (cg3, 24, .inl f3)), (g7, .inl (cg7, 24, .inr (.inr (.inr (.inr (fo))))))]) hx hb hK hP 2 rfl (by omega) (by omega) dX4_findBehind_68 (fun z_18 rz_18 ez_18 => ?_)
          refine lv_goto (tgt := 73) hx hb dX4_findBehind_69 (by decide) ?_
          refine lv_istore (lv' := [(7, .int (zI z_18)), (6, .int (zI jf)), (5, .int (zI jh)), (4, .int (zI z_5)), (3, .int (zI jk)), (2, .int (zI jl)), (0, .ref h0), (1, .int (zI al))]) hx hb dX4_findBehind_73 hl (by decide) rfl (fun ls hl => ?_)
          refine lv_aload_n hx hb dX4_findBehind_75 rfl (lv_at hl 6 rfl) ?_
          refine va_get (D := D) (ci := 4) (v := .ref g7) (C := RX4) (T := TX4) (N := 10) hx hb hts (fun _ h9 => List.mem_cons_of_mem _ (List.mem_append_right _ h9)) hown hK hP 0 rfl rfl 9 (by decide) (hts (.fieldLink RX4 32 "FontRuns$Setting" "behind" "[[I") mw_X4_findBehind_2) (fun _ h9 => h9) rfl dX4_findBehind_76 ?_
          refine lv_iload_n hx hb dX4_findBehind_79 rfl (lv_at hl 4 rfl) ?_
          refine kz_aald hx hb hK hP 2 1 rfl rfl (by omega) dX4_findBehind_80 (q2 _ (by omega)) ?_
          refine lv_iload hx hb dX4_findBehind_81 (lv_at hl 1 rfl) ?_
          refine lv_iload hx hb dX4_findBehind_83 (lv_at hl 3 rfl) ?_
          refine lv_iload hx hb dX4_findBehind_85 (lv_at hl 1 rfl) ?_
          refine lv_ishr hx hb dX4_findBehind_87 ?_
          refine kz_any (fun z_19 rz_19 ez_19 => ?_)
          refine lv_iconst (v := zI 1) hx hb dX4_findBehind_88 rfl ?_
          refine lv_iand hx hb dX4_findBehind_89 ?_
          refine kz_any (fun z_20 rz_20 ez_20 => ?_)
          refine kz_if_ne (tgt := 99) hx hb dX4_findBehind_90 (by decide) (by omega) (fun c_21 => ?_) (fun c_21 => ?_)
          · refine lv_iload hx hb dX4_findBehind_99 (lv_at hl 0 rfl) ?_
            refine lv_iload_n hx hb dX4_findBehind_101 rfl (lv_at hl 5 rfl) ?_
            refine lv_iconst (v := zI 1) hx hb dX4_findBehind_102 rfl ?_
            refine kz_iadd hx hb dX4_findBehind_103 ?_
            refine kz_min hx hb (by rw [hml]; exact hl.1.symm) hown (hts (.methodLink RX4 85 Lib.Math.min.name) mw_X4_findBehind_3) (hts (.static Lib.Math.min.name) mw_X4_findBehind_4) (hts (.initialized "java/lang/Math") mw_X4_findBehind_5) (hts (.code Lib.Math.min.name Lib.Math.min.code 2 (some .int)) mw_X4_findBehind_6) (Nat.le_of_ble_eq_true rfl) (Nat.le_of_ble_eq_true rfl) (Nat.le_of_ble_eq_true rfl) (Nat.le_of_ble_eq_true rfl) (by omega) (by omega) dX4_findBehind_104 (fun z_22 rz_22 ez_22 => ?_)
            refine kz_rowst (X := [(h0, .inr (4, [.ref g1, .ref g2, .ref g3, .ref g4, .ref g5, .int (zI cn), .int (zI bo), .int (zI ru), .ref g6, .ref g7])), (g3, .inl (cg3, 24, .inl f3)), (g7, .inl (cg7, 24, .inr (.inr (.inr (.inr (fo))))))]) hx hb hK hP hD hS 2 rfl (by omega) (by omega) dX4_findBehind_107 (fun H locs hP hD hS => ?_)
            generalize va_up jq (o + (jk).toNat) (upd (jq (o + (jk).toNat)) (jf).toNat (zI z_22)) = gp_23 at hP hD
            have hP : va_P D vwCl (([(h0, .inr (4, [.ref g1, .ref g2, .ref g3, .ref g4, .ref g5, .int (zI cn), .int (zI bo), .int (zI ru), .ref g6, .ref g7])), (g3, .inl (cg3, 24, .inl f3)), (g7, .inl (cg7, 24, .inr (.inr (.inr (.inr (fo))))))] : va_W) ++ kRows pr gp_23 cy) H := hP
            have hD : va_D A (([(h0, .inr (4, [.ref g1, .ref g2, .ref g3, .ref g4, .ref g5, .int (zI cn), .int (zI bo), .int (zI ru), .ref g6, .ref g7])), (g3, .inl (cg3, 24, .inl f3)), (g7, .inl (cg7, 24, .inr (.inr (.inr (.inr (fo))))))] : va_W) ++ kRows pr gp_23 cy) := hD
            refine lv_iload hx hb dX4_findBehind_108 (lv_at hl 2 rfl) ?_
            refine lv_aload_n hx hb dX4_findBehind_110 rfl (lv_at hl 6 rfl) ?_
            refine va_get (D := D) (ci := 4) (v := .ref g7) (C := RX4) (T := TX4) (N := 10) hx hb hts (fun _ h9 => List.mem_cons_of_mem _ (List.mem_append_right _ h9)) hown hK hP 0 rfl rfl 9 (by decide) (hts (.fieldLink RX4 32 "FontRuns$Setting" "behind" "[[I") mw_X4_findBehind_2) (fun _ h9 => h9) rfl dX4_findBehind_111 ?_
            refine lv_iload_n hx hb dX4_findBehind_114 rfl (lv_at hl 4 rfl) ?_
            refine kz_aald hx hb hK hP 2 1 rfl rfl (by omega) dX4_findBehind_115 (q2 _ (by omega)) ?_
            refine lv_iload hx hb dX4_findBehind_116 (lv_at hl 1 rfl) ?_
            refine kz_rowld (X := [(h0, .inr (4, [.ref g1, .ref g2, .ref g3, .ref g4, .ref g5, .int (zI cn), .int (zI bo), .int (zI ru), .ref g6, .ref g7])), (g3, .inl (cg3, 24, .inl f3)), (g7, .inl (cg7, 24, .inr (.inr (.inr (.inr (fo))))))]) hx hb hK hP 2 rfl (by omega) (by omega) dX4_findBehind_118 (fun z_24 rz_24 ez_24 => ?_)
            refine kz_min hx hb (by rw [hml]; exact hl.1.symm) hown (hts (.methodLink RX4 85 Lib.Math.min.name) mw_X4_findBehind_3) (hts (.static Lib.Math.min.name) mw_X4_findBehind_4) (hts (.initialized "java/lang/Math") mw_X4_findBehind_5) (hts (.code Lib.Math.min.name Lib.Math.min.code 2 (some .int)) mw_X4_findBehind_6) (Nat.le_of_ble_eq_true rfl) (Nat.le_of_ble_eq_true rfl) (Nat.le_of_ble_eq_true rfl) (Nat.le_of_ble_eq_true rfl) (by omega) (by omega) dX4_findBehind_119 (fun z_25 rz_25 ez_25 => ?_)
            refine lv_istore (lv' := [(5, .int (zI z_25)), (7, .int (zI z_18)), (6, .int (zI jf)), (4, .int (zI z_5)), (3, .int (zI jk)), (2, .int (zI jl)), (0, .ref h0), (1, .int (zI al))]) hx hb dX4_findBehind_122 hl (by decide) rfl (fun ls hl => ?_)
            refine lv_iinc (v := (zI (jf + 1))) (lv' := [(6, .int (zI (jf + 1))), (5, .int (zI z_25)), (7, .int (zI z_18)), (4, .int (zI z_5)), (3, .int (zI jk)), (2, .int (zI jl)), (0, .ref h0), (1, .int (zI al))]) hx hb dX4_findBehind_124 hl (k := 2) rfl (kz_inc _ 1) (by decide) rfl (fun ls hl => ?_)
            refine lv_goto (tgt := 42) hx hb dX4_findBehind_127 (by decide) ?_
            exact ih42 _ (by omega) _ _ _ ⟨z_25, (jf + 1), gp_23, rfl, (by omega), (by omega), hP, hD, hS, lv_sub hl [0, 1, 3, 4, 5, 6, 7] rfl⟩
          · refine lv_sipush (v := zI 1000) hx hb dX4_findBehind_93 (by decide) ?_
            refine lv_goto (tgt := 107) hx hb dX4_findBehind_96 (by decide) ?_
            refine kz_rowst (X := [(h0, .inr (4, [.ref g1, .ref g2, .ref g3, .ref g4, .ref g5, .int (zI cn), .int (zI bo), .int (zI ru), .ref g6, .ref g7])), (g3, .inl (cg3, 24, .inl f3)), (g7, .inl (cg7, 24, .inr (.inr (.inr (.inr (fo))))))]) hx hb hK hP hD hS 2 rfl (by omega) (by omega) dX4_findBehind_107 (fun H locs hP hD hS => ?_)
            generalize va_up jq (o + (jk).toNat) (upd (jq (o + (jk).toNat)) (jf).toNat (zI 1000)) = gp_26 at hP hD
            have hP : va_P D vwCl (([(h0, .inr (4, [.ref g1, .ref g2, .ref g3, .ref g4, .ref g5, .int (zI cn), .int (zI bo), .int (zI ru), .ref g6, .ref g7])), (g3, .inl (cg3, 24, .inl f3)), (g7, .inl (cg7, 24, .inr (.inr (.inr (.inr (fo))))))] : va_W) ++ kRows pr gp_26 cy) H := hP
            have hD : va_D A (([(h0, .inr (4, [.ref g1, .ref g2, .ref g3, .ref g4, .ref g5, .int (zI cn), .int (zI bo), .int (zI ru), .ref g6, .ref g7])), (g3, .inl (cg3, 24, .inl f3)), (g7, .inl (cg7, 24, .inr (.inr (.inr (.inr (fo))))))] : va_W) ++ kRows pr gp_26 cy) := hD
            refine lv_iload hx hb dX4_findBehind_108 (lv_at hl 2 rfl) ?_
            refine lv_aload_n hx hb dX4_findBehind_110 rfl (lv_at hl 6 rfl) ?_
            refine va_get (D := D) (ci := 4) (v := .ref g7) (C := RX4) (T := TX4) (N := 10) hx hb hts (fun _ h9 => List.mem_cons_of_mem _ (List.mem_append_right _ h9)) hown hK hP 0 rfl rfl 9 (by decide) (hts (.fieldLink RX4 32 "FontRuns$Setting" "behind" "[[I") mw_X4_findBehind_2) (fun _ h9 => h9) rfl dX4_findBehind_111 ?_
            refine lv_iload_n hx hb dX4_findBehind_114 rfl (lv_at hl 4 rfl) ?_
            refine kz_aald hx hb hK hP 2 1 rfl rfl (by omega) dX4_findBehind_115 (q2 _ (by omega)) ?_
            refine lv_iload hx hb dX4_findBehind_116 (lv_at hl 1 rfl) ?_
            refine kz_rowld (X := [(h0, .inr (4, [.ref g1, .ref g2, .ref g3, .ref g4, .ref g5, .int (zI cn), .int (zI bo), .int (zI ru), .ref g6, .ref g7])), (g3, .inl (cg3, 24, .inl f3)), (g7, .inl (cg7, 24, .inr (.inr (.inr (.inr (fo))))))]) hx hb hK hP 2 rfl (by omega) (by omega) dX4_findBehind_118 (fun z_27 rz_27 ez_27 => ?_)
            refine kz_min hx hb (by rw [hml]; exact hl.1.symm) hown (hts (.methodLink RX4 85 Lib.Math.min.name) mw_X4_findBehind_3) (hts (.static Lib.Math.min.name) mw_X4_findBehind_4) (hts (.initialized "java/lang/Math") mw_X4_findBehind_5) (hts (.code Lib.Math.min.name Lib.Math.min.code 2 (some .int)) mw_X4_findBehind_6) (Nat.le_of_ble_eq_true rfl) (Nat.le_of_ble_eq_true rfl) (Nat.le_of_ble_eq_true rfl) (Nat.le_of_ble_eq_true rfl) (by omega) (by omega) dX4_findBehind_119 (fun z_28 rz_28 ez_28 => ?_)
            refine lv_istore (lv' := [(5, .int (zI z_28)), (7, .int (zI z_18)), (6, .int (zI jf)), (4, .int (zI z_5)), (3, .int (zI jk)), (2, .int (zI jl)), (0, .ref h0), (1, .int (zI al))]) hx hb dX4_findBehind_122 hl (by decide) rfl (fun ls hl => ?_)
            refine lv_iinc (v := (zI (jf + 1))) (lv' := [(6, .int (zI (jf + 1))), (5, .int (zI z_28)), (7, .int (zI z_18)), (4, .int (zI z_5)), (3, .int (zI jk)), (2, .int (zI jl)), (0, .ref h0), (1, .int (zI al))]) hx hb dX4_findBehind_124 hl (k := 2) rfl (kz_inc _ 1) (by decide) rfl (fun ls hl => ?_)
            refine lv_goto (tgt := 42) hx hb dX4_findBehind_127 (by decide) ?_
            exact ih42 _ (by omega) _ _ _ ⟨z_28, (jf + 1), gp_26, rfl, (by omega), (by omega), hP, hD, hS, lv_sub hl [0, 1, 3, 4, 5, 6, 7] rfl⟩
    · refine lv_iload_n hx hb dX4_findBehind_22 rfl (lv_at hl 3 rfl) ?_
      refine lv_goto (tgt := 32) hx hb dX4_findBehind_23 (by decide) ?_
      refine kz_any (fun z_29 rz_29 ez_29 => ?_)
      refine lv_istore (lv' := [(4, .int (zI z_29)), (3, .int (zI jk)), (2, .int (zI jl)), (0, .ref h0), (1, .int (zI al))]) hx hb dX4_findBehind_32 hl (by decide) rfl (fun ls hl => ?_)
      refine lv_sipush (v := zI 1000) hx hb dX4_findBehind_34 (by decide) ?_
      refine lv_istore (lv' := [(5, .int (zI 1000)), (4, .int (zI z_29)), (3, .int (zI jk)), (2, .int (zI jl)), (0, .ref h0), (1, .int (zI al))]) hx hb dX4_findBehind_37 hl (by decide) rfl (fun ls hl => ?_)
      refine lv_iconst (v := zI 0) hx hb dX4_findBehind_39 rfl ?_
      refine lv_istore (lv' := [(6, .int (zI 0)), (5, .int (zI 1000)), (4, .int (zI z_29)), (3, .int (zI jk)), (2, .int (zI jl)), (0, .ref h0), (1, .int (zI al))]) hx hb dX4_findBehind_40 hl (by decide) rfl (fun ls hl => ?_)
      refine k_loopM (I := fun n9 H locs ls => ∃ (jh : Int) (jf : Int) (jq : Nat → Nat → Int32), n9 = (4 - jf).toNat ∧ (rg jh ∧ jh ≤ 1000) ∧ (0 ≤ jf ∧ jf ≤ 4) ∧ va_P D vwCl (([(h0, .inr (4, [.ref g1, .ref g2, .ref g3, .ref g4, .ref g5, .int (zI cn), .int (zI bo), .int (zI ru), .ref g6, .ref g7])), (g3, .inl (cg3, 24, .inl f3)), (g7, .inl (cg7, 24, .inr (.inr (.inr (.inr (fo))))))] : va_W) ++ kRows pr jq cy) H ∧ va_D A (([(h0, .inr (4, [.ref g1, .ref g2, .ref g3, .ref g4, .ref g5, .int (zI cn), .int (zI bo), .int (zI ru), .ref g6, .ref g7])), (g3, .inl (cg3, 24, .inl f3)), (g7, .inl (cg7, 24, .inr (.inr (.inr (.inr (fo))))))] : va_W) ++ kRows pr jq cy) ∧ va_S A s.heap H locs ∧ lv_has ls 8 [(6, .int (zI jf)), (5, .int (zI jh)), (4, .int (zI z_29)), (3, .int (zI jk)), (2, .int (zI jl)), (0, .ref h0), (1, .int (zI al))]) ?_ _ ⟨1000, 0, jp, rfl, (by omega), (by omega), hP, hD, hS, hl⟩
      intro n42 ih42 H locs ls hI
      obtain ⟨jh, jf, jq, en42, v_420, v_421, hP, hD, hS, hl⟩ := hI
      refine lv_iload hx hb dX4_findBehind_42 (lv_at hl 0 rfl) ?_
      refine lv_iconst (v := zI 4) hx hb dX4_findBehind_44 rfl ?_
      refine kz_icmp_ge (tgt := 130) hx hb dX4_findBehind_45 (by decide) (by omega) (by omega) (fun c_30 => ?_) (fun c_30 => ?_)
      · refine lv_iload hx hb dX4_findBehind_130 (lv_at hl 1 rfl) ?_
        refine lv_istore_n (lv' := [(2, .int (zI jh)), (6, .int (zI jf)), (5, .int (zI jh)), (4, .int (zI z_29)), (3, .int (zI jk)), (0, .ref h0), (1, .int (zI al))]) hx hb dX4_findBehind_132 rfl hl (by decide) rfl (fun ls hl => ?_)
        refine lv_iinc (v := (zI (jk - 1))) (lv' := [(3, .int (zI (jk - 1))), (2, .int (zI jh)), (6, .int (zI jf)), (5, .int (zI jh)), (4, .int (zI z_29)), (0, .ref h0), (1, .int (zI al))]) hx hb dX4_findBehind_133 hl (k := 4) rfl (kz_dec _ 1) (by decide) rfl (fun ls hl => ?_)
        refine lv_goto (tgt := 9) hx hb dX4_findBehind_136 (by decide) ?_
        exact ih9 _ (by omega) _ _ _ ⟨jh, (jk - 1), jq, rfl, v_420, (by omega), hP, hD, hS, lv_sub hl [0, 1, 5, 6] rfl⟩
      · refine lv_iload_n hx hb dX4_findBehind_48 rfl (lv_at hl 3 rfl) ?_
        refine lv_iconst (v := zI 1) hx hb dX4_findBehind_49 rfl ?_
        refine kz_iadd hx hb dX4_findBehind_50 ?_
        refine lv_aload_n hx hb dX4_findBehind_51 rfl (lv_at hl 5 rfl) ?_
        refine va_get (D := D) (ci := 4) (v := .int (zI cn)) (C := RX4) (T := TX4) (N := 10) hx hb hts (fun _ h9 => List.mem_cons_of_mem _ (List.mem_append_right _ h9)) hown hK hP 0 rfl rfl 5 (by decide) (hts (.fieldLink RX4 51 "FontRuns$Setting" "count" "I") mw_X4_findBehind_0) (fun _ h9 => h9) rfl dX4_findBehind_52 ?_
        refine kz_icmp_ge (tgt := 72) hx hb dX4_findBehind_55 (by decide) (by omega) (by omega) (fun c_31 => ?_) (fun c_31 => ?_)
        · refine lv_iconst (v := zI 0) hx hb dX4_findBehind_72 rfl ?_
          refine lv_istore (lv' := [(7, .int (zI 0)), (6, .int (zI jf)), (5, .int (zI jh)), (4, .int (zI z_29)), (3, .int (zI jk)), (2, .int (zI jl)), (0, .ref h0), (1, .int (zI al))]) hx hb dX4_findBehind_73 hl (by decide) rfl (fun ls hl => ?_)
          refine lv_aload_n hx hb dX4_findBehind_75 rfl (lv_at hl 6 rfl) ?_
          refine va_get (D := D) (ci := 4) (v := .ref g7) (C := RX4) (T := TX4) (N := 10) hx hb hts (fun _ h9 => List.mem_cons_of_mem _ (List.mem_append_right _ h9)) hown hK hP 0 rfl rfl 9 (by decide) (hts (.fieldLink RX4 32 "FontRuns$Setting" "behind" "[[I") mw_X4_findBehind_2) (fun _ h9 => h9) rfl dX4_findBehind_76 ?_
          refine lv_iload_n hx hb dX4_findBehind_79 rfl (lv_at hl 4 rfl) ?_
          refine kz_aald hx hb hK hP 2 1 rfl rfl (by omega) dX4_findBehind_80 (q2 _ (by omega)) ?_
          refine lv_iload hx hb dX4_findBehind_81 (lv_at hl 1 rfl) ?_
          refine lv_iload hx hb dX4_findBehind_83 (lv_at hl 3 rfl) ?_
          refine lv_iload hx hb dX4_findBehind_85 (lv_at hl 1 rfl) ?_
          refine lv_ishr hx hb dX4_findBehind_87 ?_
          refine kz_any (fun z_32 rz_32 ez_32 => ?_)
          refine lv_iconst (v := zI 1) hx hb dX4_findBehind_88 rfl ?_
          refine lv_iand hx hb dX4_findBehind_89 ?_
          refine kz_any (fun z_33 rz_33 ez_33 => ?_)
          refine kz_if_ne (tgt := 99) hx hb dX4_findBehind_90 (by decide) (by omega) (fun c_34 => ?_) (fun c_34 => ?_)
          · refine lv_iload hx hb dX4_findBehind_99 (lv_at hl 0 rfl) ?_
            refine lv_iload_n hx hb dX4_findBehind_101 rfl (lv_at hl 5 rfl) ?_
            refine lv_iconst (v := zI 1) hx hb dX4_findBehind_102 rfl ?_
            refine kz_iadd hx hb dX4_findBehind_103 ?_
            refine kz_min hx hb (by rw [hml]; exact hl.1.symm) hown (hts (.methodLink RX4 85 Lib.Math.min.name) mw_X4_findBehind_3) (hts (.static Lib.Math.min.name) mw_X4_findBehind_4) (hts (.initialized "java/lang/Math") mw_X4_findBehind_5) (hts (.code Lib.Math.min.name Lib.Math.min.code 2 (some .int)) mw_X4_findBehind_6) (Nat.le_of_ble_eq_true rfl) (Nat.le_of_ble_eq_true rfl) (Nat.le_of_ble_eq_true rfl) (Nat.le_of_ble_eq_true rfl) (by omega) (by omega) dX4_findBehind_104 (fun z_35 rz_35 ez_35 => ?_)
            refine kz_rowst (X := [(h0, .inr (4, [.ref g1, .ref g2, .ref g3, .ref g4, .ref g5, .int (zI cn), .int (zI bo), .int (zI ru), .ref g6, .ref g7])), (g3, .inl (cg3, 24, .inl f3)), (g7, .inl (cg7, 24, .inr (.inr (.inr (.inr (fo))))))]) hx hb hK hP hD hS 2 rfl (by omega) (by omega) dX4_findBehind_107 (fun H locs hP hD hS => ?_)
            generalize va_up jq (o + (jk).toNat) (upd (jq (o + (jk).toNat)) (jf).toNat (zI z_35)) = gp_36 at hP hD
            have hP : va_P D vwCl (([(h0, .inr (4, [.ref g1, .ref g2, .ref g3, .ref g4, .ref g5, .int (zI cn), .int (zI bo), .int (zI ru), .ref g6, .ref g7])), (g3, .inl (cg3, 24, .inl f3)), (g7, .inl (cg7, 24, .inr (.inr (.inr (.inr (fo))))))] : va_W) ++ kRows pr gp_36 cy) H := hP
            have hD : va_D A (([(h0, .inr (4, [.ref g1, .ref g2, .ref g3, .ref g4, .ref g5, .int (zI cn), .int (zI bo), .int (zI ru), .ref g6, .ref g7])), (g3, .inl (cg3, 24, .inl f3)), (g7, .inl (cg7, 24, .inr (.inr (.inr (.inr (fo))))))] : va_W) ++ kRows pr gp_36 cy) := hD
            refine lv_iload hx hb dX4_findBehind_108 (lv_at hl 2 rfl) ?_
            refine lv_aload_n hx hb dX4_findBehind_110 rfl (lv_at hl 6 rfl) ?_
            refine va_get (D := D) (ci := 4) (v := .ref g7) (C := RX4) (T := TX4) (N := 10) hx hb hts (fun _ h9 => List.mem_cons_of_mem _ (List.mem_append_right _ h9)) hown hK hP 0 rfl rfl 9 (by decide) (hts (.fieldLink RX4 32 "FontRuns$Setting" "behind" "[[I") mw_X4_findBehind_2) (fun _ h9 => h9) rfl dX4_findBehind_111 ?_
            refine lv_iload_n hx hb dX4_findBehind_114 rfl (lv_at hl 4 rfl) ?_
            refine kz_aald hx hb hK hP 2 1 rfl rfl (by omega) dX4_findBehind_115 (q2 _ (by omega)) ?_
            refine lv_iload hx hb dX4_findBehind_116 (lv_at hl 1 rfl) ?_
            refine kz_rowld (X := [(h0, .inr (4, [.ref g1, .ref g2, .ref g3, .ref g4, .ref g5, .int (zI cn), .int (zI bo), .int (zI ru), .ref g6, .ref g7])), (g3, .inl (cg3, 24, .inl f3)), (g7, .inl (cg7, 24, .inr (.inr (.inr (.inr (fo))))))]) hx hb hK hP 2 rfl (by omega) (by omega) dX4_findBehind_118 (fun z_37 rz_37 ez_37 => ?_)
            refine kz_min hx hb (by rw [hml]; exact hl.1.symm) hown (hts (.methodLink RX4 85 Lib.Math.min.name) mw_X4_findBehind_3) (hts (.static Lib.Math.min.name) mw_X4_findBehind_4) (hts (.initialized "java/lang/Math") mw_X4_findBehind_5) (hts (.code Lib.Math.min.name Lib.Math.min.code 2 (some .int)) mw_X4_findBehind_6) (Nat.le_of_ble_eq_true rfl) (Nat.le_of_ble_eq_true rfl) (Nat.le_of_ble_eq_true rfl) (Nat.le_of_ble_eq_true rfl) (by omega) (by omega) dX4_findBehind_119 (fun z_38 rz_38 ez_38 => ?_)
            refine lv_istore (lv' := [(5, .int (zI z_38)), (7, .int (zI 0)), (6, .int (zI jf)), (4, .int (zI z_29)), (3, .int (zI jk)), (2, .int (zI jl)), (0, .ref h0), (1, .int (zI al))]) hx hb dX4_findBehind_122 hl (by decide) rfl (fun ls hl => ?_)
            refine lv_iinc (v := (zI (jf + 1))) (lv' := [(6, .int (zI (jf + 1))), (5, .int (zI z_38)), (7, .int (zI 0)), (4, .int (zI z_29)), (3, .int (zI jk)), (2, .int (zI jl)), (0, .ref h0), (1, .int (zI al))]) hx hb dX4_findBehind_124 hl (k := 2) rfl (kz_inc _ 1) (by decide) rfl (fun ls hl => ?_)
            refine lv_goto (tgt := 42) hx hb dX4_findBehind_127 (by decide) ?_
            exact ih42 _ (by omega) _ _ _ ⟨z_38, (jf + 1), gp_36, rfl, (by omega), (by omega), hP, hD, hS, lv_sub hl [0, 1, 3, 4, 5, 6, 7] rfl⟩
          · refine lv_sipush (v := zI 1000) hx hb dX4_findBehind_93 (by decide) ?_
            refine lv_goto (tgt := 107) hx hb dX4_findBehind_96 (by decide) ?_
            refine kz_rowst (X := [(h0, .inr (4, [.ref g1, .ref g2, .ref g3, .ref g4, .ref g5, .int (zI cn), .int (zI bo), .int (zI ru), .ref g6, .ref g7])), (g3, .inl (cg3, 24, .inl f3)), (g7, .inl (cg7, 24, .inr (.inr (.inr (.inr (fo))))))]) hx hb hK hP hD hS 2 rfl (by omega) (by omega) dX4_findBehind_107 (fun H locs hP hD hS => ?_)
            generalize va_up jq (o + (jk).toNat) (upd (jq (o + (jk).toNat)) (jf).toNat (zI 1000)) = gp_39 at hP hD
            have hP : va_P D vwCl (([(h0, .inr (4, [.ref g1, .ref g2, .ref g3, .ref g4, .ref g5, .int (zI cn), .int (zI bo), .int (zI ru), .ref g6, .ref g7])), (g3, .inl (cg3, 24, .inl f3)), (g7, .inl (cg7, 24, .inr (.inr (.inr (.inr (fo))))))] : va_W) ++ kRows pr gp_39 cy) H := hP
            have hD : va_D A (([(h0, .inr (4, [.ref g1, .ref g2, .ref g3, .ref g4, .ref g5, .int (zI cn), .int (zI bo), .int (zI ru), .ref g6, .ref g7])), (g3, .inl (cg3, 24, .inl f3)), (g7, .inl (cg7, 24, .inr (.inr (.inr (.inr (fo))))))] : va_W) ++ kRows pr gp_39 cy) := hD
            refine lv_iload hx hb dX4_findBehind_108 (lv_at hl 2 rfl) ?_
            refine lv_aload_n hx hb dX4_findBehind_110 rfl (lv_at hl 6 rfl) ?_
            refine va_get (D := D) (ci := 4) (v := .ref g7) (C := RX4) (T := TX4) (N := 10) hx hb hts (fun _ h9 => List.mem_cons_of_mem _ (List.mem_append_right _ h9)) hown hK hP 0 rfl rfl 9 (by decide) (hts (.fieldLink RX4 32 "FontRuns$Setting" "behind" "[[I") mw_X4_findBehind_2) (fun _ h9 => h9) rfl dX4_findBehind_111 ?_
            refine lv_iload_n hx hb dX4_findBehind_114 rfl (lv_at hl 4 rfl) ?_
            refine kz_aald hx hb hK hP 2 1 rfl rfl (by omega) dX4_findBehind_115 (q2 _ (by omega)) ?_
            refine lv_iload hx hb dX4_findBehind_116 (lv_at hl 1 rfl) ?_
            refine kz_rowld (X := [(h0, .inr (4, [.ref g1, .ref g2, .ref g3, .ref g4, .ref g5, .int (zI cn), .int (zI bo), .int (zI ru), .ref g6, .ref g7])), (g3, .inl (cg3, 24, .inl f3)), (g7, .inl (cg7, 24, .inr (.inr (.inr (.inr (fo))))))]) hx hb hK hP 2 rfl (by omega) (by omega) dX4_findBehind_118 (fun z_40 rz_40 ez_40 => ?_)
            refine kz_min hx hb (by rw [hml]; exact hl.1.symm) hown (hts (.methodLink RX4 85 Lib.Math.min.name) mw_X4_findBehind_3) (hts (.static Lib.Math.min.name) mw_X4_findBehind_4) (hts (.initialized "java/lang/Math") mw_X4_findBehind_5) (hts (.code Lib.Math.min.name Lib.Math.min.code 2 (some .int)) mw_X4_findBehind_6) (Nat.le_of_ble_eq_true rfl) (Nat.le_of_ble_eq_true rfl) (Nat.le_of_ble_eq_true rfl) (Nat.le_of_ble_eq_true rfl) (by omega) (by omega) dX4_findBehind_119 (fun z_41 rz_41 ez_41 => ?_)
            refine lv_istore (lv' := [(5, .int (zI z_41)), (7, .int (zI 0)), (6, .int (zI jf)), (4, .int (zI z_29)), (3, .int (zI jk)), (2, .int (zI jl)), (0, .ref h0), (1, .int (zI al))]) hx hb dX4_findBehind_122 hl (by decide) rfl (fun ls hl => ?_)
            refine lv_iinc (v := (zI (jf + 1))) (lv' := [(6, .int (zI (jf + 1))), (5, .int (zI z_41)), (7, .int (zI 0)), (4, .int (zI z_29)), (3, .int (zI jk)), (2, .int (zI jl)), (0, .ref h0), (1, .int (zI al))]) hx hb dX4_findBehind_124 hl (k := 2) rfl (kz_inc _ 1) (by decide) rfl (fun ls hl => ?_)
            refine lv_goto (tgt := 42) hx hb dX4_findBehind_127 (by decide) ?_
            exact ih42 _ (by omega) _ _ _ ⟨z_41, (jf + 1), gp_39, rfl, (by omega), (by omega), hP, hD, hS, lv_sub hl [0, 1, 3, 4, 5, 6, 7] rfl⟩
        · refine lv_aload_n hx hb dX4_findBehind_58 rfl (lv_at hl 5 rfl) ?_
          refine va_get (D := D) (ci := 4) (v := .ref g7) (C := RX4) (T := TX4) (N := 10) hx hb hts (fun _ h9 => List.mem_cons_of_mem _ (List.mem_append_right _ h9)) hown hK hP 0 rfl rfl 9 (by decide) (hts (.fieldLink RX4 32 "FontRuns$Setting" "behind" "[[I") mw_X4_findBehind_2) (fun _ h9 => h9) rfl dX4_findBehind_59 ?_
          refine lv_iload_n hx hb dX4_findBehind_62 rfl (lv_at hl 3 rfl) ?_
          refine lv_iconst (v := zI 1) hx hb dX4_findBehind_63 rfl ?_
          refine kz_iadd hx hb dX4_findBehind_64 ?_
          refine kz_aald hx hb hK hP 2 1 rfl rfl (by omega) dX4_findBehind_65 (q2 _ (by omega)) ?_
          refine lv_iload hx hb dX4_findBehind_66 (lv_at hl 0 rfl) ?_
          refine kz_rowld (X := [(h0, .inr (4, [.ref g1, .ref g2, .ref g3, .ref g4, .ref g5, .int (zI cn), .int (zI bo), .int (zI ru), .ref g6, .ref g7])), (g3, .inl (cg3, 24, .inl f3)), (g7, .inl (cg7, 24, .inr (.inr (.inr (.inr (fo))))))]) hx hb hK hP 2 rfl (by omega) (by omega) dX4_findBehind_68 (fun z_42 rz_42 ez_42 => ?_)
          refine lv_goto (tgt := 73) hx hb dX4_findBehind_69 (by decide) ?_
          refine lv_istore (lv' := [(7, .int (zI z_42)), (6, .int (zI jf)), (5, .int (zI jh)), (4, .int (zI z_29)), (3, .int (zI jk)), (2, .int (zI jl)), (0, .ref h0), (1, .int (zI al))]) hx hb dX4_findBehind_73 hl (by decide) rfl (fun ls hl => ?_)
          refine lv_aload_n hx hb dX4_findBehind_75 rfl (lv_at hl 6 rfl) ?_
          refine va_get (D := D) (ci := 4) (v := .ref g7) (C := RX4) (T := TX4) (N := 10) hx hb hts (fun _ h9 => List.mem_cons_of_mem _ (List.mem_append_right _ h9)) hown hK hP 0 rfl rfl 9 (by decide) (hts (.fieldLink RX4 32 "FontRuns$Setting" "behind" "[[I") mw_X4_findBehind_2) (fun _ h9 => h9) rfl dX4_findBehind_76 ?_
          refine lv_iload_n hx hb dX4_findBehind_79 rfl (lv_at hl 4 rfl) ?_
          refine kz_aald hx hb hK hP 2 1 rfl rfl (by omega) dX4_findBehind_80 (q2 _ (by omega)) ?_
          refine lv_iload hx hb dX4_findBehind_81 (lv_at hl 1 rfl) ?_
          refine lv_iload hx hb dX4_findBehind_83 (lv_at hl 3 rfl) ?_
          refine lv_iload hx hb dX4_findBehind_85 (lv_at hl 1 rfl) ?_
          refine lv_ishr hx hb dX4_findBehind_87 ?_
          refine kz_any (fun z_43 rz_43 ez_43 => ?_)
          refine lv_iconst (v := zI 1) hx hb dX4_findBehind_88 rfl ?_
          refine lv_iand hx hb dX4_findBehind_89 ?_
          refine kz_any (fun z_44 rz_44 ez_44 => ?_)
          refine kz_if_ne (tgt := 99) hx hb dX4_findBehind_90 (by decide) (by omega) (fun c_45 => ?_) (fun c_45 => ?_)
          · refine lv_iload hx hb dX4_findBehind_99 (lv_at hl 0 rfl) ?_
            refine lv_iload_n hx hb dX4_findBehind_101 rfl (lv_at hl 5 rfl) ?_
            refine lv_iconst (v := zI 1) hx hb dX4_findBehind_102 rfl ?_
            refine kz_iadd hx hb dX4_findBehind_103 ?_
            refine kz_min hx hb (by rw [hml]; exact hl.1.symm) hown (hts (.methodLink RX4 85 Lib.Math.min.name) mw_X4_findBehind_3) (hts (.static Lib.Math.min.name) mw_X4_findBehind_4) (hts (.initialized "java/lang/Math") mw_X4_findBehind_5) (hts (.code Lib.Math.min.name Lib.Math.min.code 2 (some .int)) mw_X4_findBehind_6) (Nat.le_of_ble_eq_true rfl) (Nat.le_of_ble_eq_true rfl) (Nat.le_of_ble_eq_true rfl) (Nat.le_of_ble_eq_true rfl) (by omega) (by omega) dX4_findBehind_104 (fun z_46 rz_46 ez_46 => ?_)
            refine kz_rowst (X := [(h0, .inr (4, [.ref g1, .ref g2, .ref g3, .ref g4, .ref g5, .int (zI cn), .int (zI bo), .int (zI ru), .ref g6, .ref g7])), (g3, .inl (cg3, 24, .inl f3)), (g7, .inl (cg7, 24, .inr (.inr (.inr (.inr (fo))))))]) hx hb hK hP hD hS 2 rfl (by omega) (by omega) dX4_findBehind_107 (fun H locs hP hD hS => ?_)
            generalize va_up jq (o + (jk).toNat) (upd (jq (o + (jk).toNat)) (jf).toNat (zI z_46)) = gp_47 at hP hD
            have hP : va_P D vwCl (([(h0, .inr (4, [.ref g1, .ref g2, .ref g3, .ref g4, .ref g5, .int (zI cn), .int (zI bo), .int (zI ru), .ref g6, .ref g7])), (g3, .inl (cg3, 24, .inl f3)), (g7, .inl (cg7, 24, .inr (.inr (.inr (.inr (fo))))))] : va_W) ++ kRows pr gp_47 cy) H := hP
            have hD : va_D A (([(h0, .inr (4, [.ref g1, .ref g2, .ref g3, .ref g4, .ref g5, .int (zI cn), .int (zI bo), .int (zI ru), .ref g6, .ref g7])), (g3, .inl (cg3, 24, .inl f3)), (g7, .inl (cg7, 24, .inr (.inr (.inr (.inr (fo))))))] : va_W) ++ kRows pr gp_47 cy) := hD
            refine lv_iload hx hb dX4_findBehind_108 (lv_at hl 2 rfl) ?_
            refine lv_aload_n hx hb dX4_findBehind_110 rfl (lv_at hl 6 rfl) ?_
            refine va_get (D := D) (ci := 4) (v := .ref g7) (C := RX4) (T := TX4) (N := 10) hx hb hts (fun _ h9 => List.mem_cons_of_mem _ (List.mem_append_right _ h9)) hown hK hP 0 rfl rfl 9 (by decide) (hts (.fieldLink RX4 32 "FontRuns$Setting" "behind" "[[I") mw_X4_findBehind_2) (fun _ h9 => h9) rfl dX4_findBehind_111 ?_
            refine lv_iload_n hx hb dX4_findBehind_114 rfl (lv_at hl 4 rfl) ?_
            refine kz_aald hx hb hK hP 2 1 rfl rfl (by omega) dX4_findBehind_115 (q2 _ (by omega)) ?_
            refine lv_iload hx hb dX4_findBehind_116 (lv_at hl 1 rfl) ?_
            refine kz_rowld (X := [(h0, .inr (4, [.ref g1, .ref g2, .ref g3, .ref g4, .ref g5, .int (zI cn), .int (zI bo), .int (zI ru), .ref g6, .ref g7])), (g3, .inl (cg3, 24, .inl f3)), (g7, .inl (cg7, 24, .inr (.inr (.inr (.inr (fo))))))]) hx hb hK hP 2 rfl (by omega) (by omega) dX4_findBehind_118 (fun z_48 rz_48 ez_48 => ?_)
            refine kz_min hx hb (by rw [hml]; exact hl.1.symm) hown (hts (.methodLink RX4 85 Lib.Math.min.name) mw_X4_findBehind_3) (hts (.static Lib.Math.min.name) mw_X4_findBehind_4) (hts (.initialized "java/lang/Math") mw_X4_findBehind_5) (hts (.code Lib.Math.min.name Lib.Math.min.code 2 (some .int)) mw_X4_findBehind_6) (Nat.le_of_ble_eq_true rfl) (Nat.le_of_ble_eq_true rfl) (Nat.le_of_ble_eq_true rfl) (Nat.le_of_ble_eq_true rfl) (by omega) (by omega) dX4_findBehind_119 (fun z_49 rz_49 ez_49 => ?_)
            refine lv_istore (lv' := [(5, .int (zI z_49)), (7, .int (zI z_42)), (6, .int (zI jf)), (4, .int (zI z_29)), (3, .int (zI jk)), (2, .int (zI jl)), (0, .ref h0), (1, .int (zI al))]) hx hb dX4_findBehind_122 hl (by decide) rfl (fun ls hl => ?_)
            refine lv_iinc (v := (zI (jf + 1))) (lv' := [(6, .int (zI (jf + 1))), (5, .int (zI z_49)), (7, .int (zI z_42)), (4, .int (zI z_29)), (3, .int (zI jk)), (2, .int (zI jl)), (0, .ref h0), (1, .int (zI al))]) hx hb dX4_findBehind_124 hl (k := 2) rfl (kz_inc _ 1) (by decide) rfl (fun ls hl => ?_)
            refine lv_goto (tgt := 42) hx hb dX4_findBehind_127 (by decide) ?_
            exact ih42 _ (by omega) _ _ _ ⟨z_49, (jf + 1), gp_47, rfl, (by omega), (by omega), hP, hD, hS, lv_sub hl [0, 1, 3, 4, 5, 6, 7] rfl⟩
          · refine lv_sipush (v := zI 1000) hx hb dX4_findBehind_93 (by decide) ?_
            refine lv_goto (tgt := 107) hx hb dX4_findBehind_96 (by decide) ?_
            refine kz_rowst (X := [(h0, .inr (4, [.ref g1, .ref g2, .ref g3, .ref g4, .ref g5, .int (zI cn), .int (zI bo), .int (zI ru), .ref g6, .ref g7])), (g3, .inl (cg3, 24, .inl f3)), (g7, .inl (cg7, 24, .inr (.inr (.inr (.inr (fo))))))]) hx hb hK hP hD hS 2 rfl (by omega) (by omega) dX4_findBehind_107 (fun H locs hP hD hS => ?_)
            generalize va_up jq (o + (jk).toNat) (upd (jq (o + (jk).toNat)) (jf).toNat (zI 1000)) = gp_50 at hP hD
            have hP : va_P D vwCl (([(h0, .inr (4, [.ref g1, .ref g2, .ref g3, .ref g4, .ref g5, .int (zI cn), .int (zI bo), .int (zI ru), .ref g6, .ref g7])), (g3, .inl (cg3, 24, .inl f3)), (g7, .inl (cg7, 24, .inr (.inr (.inr (.inr (fo))))))] : va_W) ++ kRows pr gp_50 cy) H := hP
            have hD : va_D A (([(h0, .inr (4, [.ref g1, .ref g2, .ref g3, .ref g4, .ref g5, .int (zI cn), .int (zI bo), .int (zI ru), .ref g6, .ref g7])), (g3, .inl (cg3, 24, .inl f3)), (g7, .inl (cg7, 24, .inr (.inr (.inr (.inr (fo))))))] : va_W) ++ kRows pr gp_50 cy) := hD
            refine lv_iload hx hb dX4_findBehind_108 (lv_at hl 2 rfl) ?_
            refine lv_aload_n hx hb dX4_findBehind_110 rfl (lv_at hl 6 rfl) ?_
            refine va_get (D := D) (ci := 4) (v := .ref g7) (C := RX4) (T := TX4) (N := 10) hx hb hts (fun _ h9 => List.mem_cons_of_mem _ (List.mem_append_right _ h9)) hown hK hP 0 rfl rfl 9 (by decide) (hts (.fieldLink RX4 32 "FontRuns$Setting" "behind" "[[I") mw_X4_findBehind_2) (fun _ h9 => h9) rfl dX4_findBehind_111 ?_
            refine lv_iload_n hx hb dX4_findBehind_114 rfl (lv_at hl 4 rfl) ?_
            refine kz_aald hx hb hK hP 2 1 rfl rfl (by omega) dX4_findBehind_115 (q2 _ (by omega)) ?_
            refine lv_iload hx hb dX4_findBehind_116 (lv_at hl 1 rfl) ?_
            refine kz_rowld (X := [(h0, .inr (4, [.ref g1, .ref g2, .ref g3, .ref g4, .ref g5, .int (zI cn), .int (zI bo), .int (zI ru), .ref g6, .ref g7])), (g3, .inl (cg3, 24, .inl f3)), (g7, .inl (cg7, 24, .inr (.inr (.inr (.inr (fo))))))]) hx hb hK hP 2 rfl (by omega) (by omega) dX4_findBehind_118 (fun z_51 rz_51 ez_51 => ?_)
            refine kz_min hx hb (by rw [hml]; exact hl.1.symm) hown (hts (.methodLink RX4 85 Lib.Math.min.name) mw_X4_findBehind_3) (hts (.static Lib.Math.min.name) mw_X4_findBehind_4) (hts (.initialized "java/lang/Math") mw_X4_findBehind_5) (hts (.code Lib.Math.min.name Lib.Math.min.code 2 (some .int)) mw_X4_findBehind_6) (Nat.le_of_ble_eq_true rfl) (Nat.le_of_ble_eq_true rfl) (Nat.le_of_ble_eq_true rfl) (Nat.le_of_ble_eq_true rfl) (by omega) (by omega) dX4_findBehind_119 (fun z_52 rz_52 ez_52 => ?_)
            refine lv_istore (lv' := [(5, .int (zI z_52)), (7, .int (zI z_42)), (6, .int (zI jf)), (4, .int (zI z_29)), (3, .int (zI jk)), (2, .int (zI jl)), (0, .ref h0), (1, .int (zI al))]) hx hb dX4_findBehind_122 hl (by decide) rfl (fun ls hl => ?_)
            refine lv_iinc (v := (zI (jf + 1))) (lv' := [(6, .int (zI (jf + 1))), (5, .int (zI z_52)), (7, .int (zI z_42)), (4, .int (zI z_29)), (3, .int (zI jk)), (2, .int (zI jl)), (0, .ref h0), (1, .int (zI al))]) hx hb dX4_findBehind_124 hl (k := 2) rfl (kz_inc _ 1) (by decide) rfl (fun ls hl => ?_)
            refine lv_goto (tgt := 42) hx hb dX4_findBehind_127 (by decide) ?_
            exact ih42 _ (by omega) _ _ _ ⟨z_52, (jf + 1), gp_50, rfl, (by omega), (by omega), hP, hD, hS, lv_sub hl [0, 1, 3, 4, 5, 6, 7] rfl⟩
theorem dX4_firstOfBest_0 : decode cX4_firstOfBest 0 = .ok (.iconst 0, 1) := kqo_03 kbl_X4_firstOfBest (pc := 0) rfl
theorem dX4_firstOfBest_1 : decode cX4_firstOfBest 1 = .ok (.istore 4, 2) := kqo_36 (x1 := 4) kbl_X4_firstOfBest (pc := 1) rfl rfl
theorem dX4_firstOfBest_3 : decode cX4_firstOfBest 3 = .ok (.sipush 1000, 3) := kqo_11 (x1 := 3) (x2 := 232) kbl_X4_firstOfBest (pc := 3) rfl rfl
theorem dX4_firstOfBest_6 : decode cX4_firstOfBest 6 = .ok (.istore 5, 2) := kqo_36 (x1 := 5) kbl_X4_firstOfBest (pc := 6) rfl rfl
theorem dX4_firstOfBest_8 : decode cX4_firstOfBest 8 = .ok (.iconst 0, 1) := kqo_03 kbl_X4_firstOfBest (pc := 8) rfl
theorem dX4_firstOfBest_9 : decode cX4_firstOfBest 9 = .ok (.istore 6, 2) := kqo_36 (x1 := 6) kbl_X4_firstOfBest (pc := 9) rfl rfl
theorem dX4_firstOfBest_11 : decode cX4_firstOfBest 11 = .ok (.iload 6, 2) := kqo_15 (x1 := 6) kbl_X4_firstOfBest (pc := 11) rfl rfl
theorem dX4_firstOfBest_13 : decode cX4_firstOfBest 13 = .ok (.aload_n 3, 1) := kqo_2d kbl_X4_firstOfBest (pc := 13) rfl
theorem dX4_firstOfBest_14 : decode cX4_firstOfBest 14 = .ok (.getfield 92, 3) := kqo_b4 (x1 := 0) (x2 := 92) kbl_X4_firstOfBest (pc := 14) rfl rfl
theorem dX4_firstOfBest_17 : decode cX4_firstOfBest 17 = .ok (.if_icmp .ge 62, 3) := kqo_a2 (x1 := 0) (x2 := 62) kbl_X4_firstOfBest (pc := 17) rfl rfl
theorem dX4_firstOfBest_20 : decode cX4_firstOfBest 20 = .ok (.aload_n 3, 1) := kqo_2d kbl_X4_firstOfBest (pc := 20) rfl
theorem dX4_firstOfBest_21 : decode cX4_firstOfBest 21 = .ok (.getfield 95, 3) := kqo_b4 (x1 := 0) (x2 := 95) kbl_X4_firstOfBest (pc := 21) rfl rfl
theorem dX4_firstOfBest_24 : decode cX4_firstOfBest 24 = .ok (.iload 6, 2) := kqo_15 (x1 := 6) kbl_X4_firstOfBest (pc := 24) rfl rfl
theorem dX4_firstOfBest_26 : decode cX4_firstOfBest 26 = .ok (.iaload, 1) := kqo_2e kbl_X4_firstOfBest (pc := 26) rfl
theorem dX4_firstOfBest_27 : decode cX4_firstOfBest 27 = .ok (.istore 7, 2) := kqo_36 (x1 := 7) kbl_X4_firstOfBest (pc := 27) rfl rfl
theorem dX4_firstOfBest_29 : decode cX4_firstOfBest 29 = .ok (.aload_n 0, 1) := kqo_2a kbl_X4_firstOfBest (pc := 29) rfl
theorem dX4_firstOfBest_30 : decode cX4_firstOfBest 30 = .ok (.getfield 32, 3) := kqo_b4 (x1 := 0) (x2 := 32) kbl_X4_firstOfBest (pc := 30) rfl rfl
theorem dX4_firstOfBest_33 : decode cX4_firstOfBest 33 = .ok (.iload_n 1, 1) := kqo_1b kbl_X4_firstOfBest (pc := 33) rfl
theorem dX4_firstOfBest_34 : decode cX4_firstOfBest 34 = .ok (.aaload, 1) := kqo_32 kbl_X4_firstOfBest (pc := 34) rfl
theorem dX4_firstOfBest_35 : decode cX4_firstOfBest 35 = .ok (.iload 7, 2) := kqo_15 (x1 := 7) kbl_X4_firstOfBest (pc := 35) rfl rfl
theorem dX4_firstOfBest_37 : decode cX4_firstOfBest 37 = .ok (.iaload, 1) := kqo_2e kbl_X4_firstOfBest (pc := 37) rfl
theorem dX4_firstOfBest_38 : decode cX4_firstOfBest 38 = .ok (.iload 7, 2) := kqo_15 (x1 := 7) kbl_X4_firstOfBest (pc := 38) rfl rfl
theorem dX4_firstOfBest_40 : decode cX4_firstOfBest 40 = .ok (.iload_n 2, 1) := kqo_1c kbl_X4_firstOfBest (pc := 40) rfl
theorem dX4_firstOfBest_41 : decode cX4_firstOfBest 41 = .ok (.if_icmp .eq 9, 3) := kqo_9f (x1 := 0) (x2 := 9) kbl_X4_firstOfBest (pc := 41) rfl rfl
theorem dX4_firstOfBest_44 : decode cX4_firstOfBest 44 = .ok (.iload_n 2, 1) := kqo_1c kbl_X4_firstOfBest (pc := 44) rfl
theorem dX4_firstOfBest_45 : decode cX4_firstOfBest 45 = .ok (.bipush (-9), 2) := kqo_10 (x1 := 247) kbl_X4_firstOfBest (pc := 45) rfl rfl
theorem dX4_firstOfBest_47 : decode cX4_firstOfBest 47 = .ok (.if_icmp .ne 7, 3) := kqo_a0 (x1 := 0) (x2 := 7) kbl_X4_firstOfBest (pc := 47) rfl rfl
theorem dX4_firstOfBest_50 : decode cX4_firstOfBest 50 = .ok (.iconst 0, 1) := kqo_03 kbl_X4_firstOfBest (pc := 50) rfl
theorem dX4_firstOfBest_51 : decode cX4_firstOfBest 51 = .ok (.goto 4, 3) := kqo_a7 (x1 := 0) (x2 := 4) kbl_X4_firstOfBest (pc := 51) rfl rfl
theorem dX4_firstOfBest_54 : decode cX4_firstOfBest 54 = .ok (.iconst 1, 1) := kqo_04 kbl_X4_firstOfBest (pc := 54) rfl
theorem dX4_firstOfBest_55 : decode cX4_firstOfBest 55 = .ok (.iadd, 1) := kqo_60 kbl_X4_firstOfBest (pc := 55) rfl
theorem dX4_firstOfBest_56 : decode cX4_firstOfBest 56 = .ok (.istore 8, 2) := kqo_36 (x1 := 8) kbl_X4_firstOfBest (pc := 56) rfl rfl
theorem dX4_firstOfBest_58 : decode cX4_firstOfBest 58 = .ok (.iload 8, 2) := kqo_15 (x1 := 8) kbl_X4_firstOfBest (pc := 58) rfl rfl
theorem dX4_firstOfBest_60 : decode cX4_firstOfBest 60 = .ok (.iload 5, 2) := kqo_15 (x1 := 5) kbl_X4_firstOfBest (pc := 60) rfl rfl
theorem dX4_firstOfBest_62 : decode cX4_firstOfBest 62 = .ok (.if_icmp .ge 11, 3) := kqo_a2 (x1 := 0) (x2 := 11) kbl_X4_firstOfBest (pc := 62) rfl rfl
theorem dX4_firstOfBest_65 : decode cX4_firstOfBest 65 = .ok (.iload 8, 2) := kqo_15 (x1 := 8) kbl_X4_firstOfBest (pc := 65) rfl rfl
theorem dX4_firstOfBest_67 : decode cX4_firstOfBest 67 = .ok (.istore 5, 2) := kqo_36 (x1 := 5) kbl_X4_firstOfBest (pc := 67) rfl rfl
theorem dX4_firstOfBest_69 : decode cX4_firstOfBest 69 = .ok (.iload 7, 2) := kqo_15 (x1 := 7) kbl_X4_firstOfBest (pc := 69) rfl rfl
theorem dX4_firstOfBest_71 : decode cX4_firstOfBest 71 = .ok (.istore 4, 2) := kqo_36 (x1 := 4) kbl_X4_firstOfBest (pc := 71) rfl rfl
theorem dX4_firstOfBest_73 : decode cX4_firstOfBest 73 = .ok (.iinc 6 1, 3) := kqo_84 (x1 := 6) (x2 := 1) kbl_X4_firstOfBest (pc := 73) rfl rfl
theorem dX4_firstOfBest_76 : decode cX4_firstOfBest 76 = .ok (.goto (-65), 3) := kqo_a7 (x1 := 255) (x2 := 191) kbl_X4_firstOfBest (pc := 76) rfl rfl
theorem dX4_firstOfBest_79 : decode cX4_firstOfBest 79 = .ok (.iload 4, 2) := kqo_15 (x1 := 4) kbl_X4_firstOfBest (pc := 79) rfl rfl
theorem dX4_firstOfBest_81 : decode cX4_firstOfBest 81 = .ok (.ireturn, 1) := kqo_ac kbl_X4_firstOfBest (pc := 81) rfl
set_option maxRecDepth 20000 in
theorem mw_X4_firstOfBest_0 : (.fieldLink RX4 92 "FontRuns$Preference" "count" "I" : Cond) ∈ wsX4_firstOfBest := List.mem_cons_of_mem _ (List.mem_append_left _ (List.mem_append_left _ (List.mem_of_getElem? (i := 0) rfl)))
set_option maxRecDepth 20000 in
theorem mw_X4_firstOfBest_1 : (.fieldLink RX4 95 "FontRuns$Preference" "row" "[I" : Cond) ∈ wsX4_firstOfBest := List.mem_cons_of_mem _ (List.mem_append_left _ (List.mem_append_left _ (List.mem_of_getElem? (i := 1) rfl)))
set_option maxRecDepth 20000 in
theorem mw_X4_firstOfBest_2 : (.fieldLink RX4 32 "FontRuns$Setting" "behind" "[[I" : Cond) ∈ wsX4_firstOfBest := List.mem_cons_of_mem _ (List.mem_append_left _ (List.mem_append_left _ (List.mem_of_getElem? (i := 2) rfl)))
set_option maxHeartbeats 4000000 in
set_option maxRecDepth 100000 in
theorem c_X4_firstOfBest (l : Launch) (D : va_G) (sz : Nat) (k : Int) (be : Int) (pf : Nat) (h0 : Nat) (g1 : Nat) (g2 : Nat) (g3 : Nat) (g4 : Nat) (g5 : Nat) (cn : Int) (bo : Int) (ru : Int) (g6 : Nat) (g7 : Nat) (cg7 : ClassId) (fo : Nat → Option Nat) (o : Nat) (p1 : Nat) (pn : Int) (cp1 : ClassId) (fp : Nat → Int32) (pr : Nat → Nat) (gp : Nat → Nat → Int32) (cy : ClassId) (q0 : 0 ≤ k ∧ k ≤ 23) (q1 : rg be) (q2 : 0 ≤ pn ∧ pn ≤ 4) (q3 : kPr fp) (q4 : kOut fo pr o 24) (q5 : o + 24 ≤ 56) : Met l yX4_firstOfBest wsX4_firstOfBest ({ frames := 0, cells := 0, slots := 0, locals := 0 }) (kPre [.ref h0, .int (zI k), .int (zI be), .ref pf] D (([(h0, .inr (4, [.ref g1, .ref g2, .ref g3, .ref g4, .ref g5, .int (zI cn), .int (zI bo), .int (zI ru), .ref g6, .ref g7])), (g7, .inl (cg7, 24, .inr (.inr (.inr (.inr (fo)))))), (pf, .inr (1, [.ref p1, .int (zI pn)])), (p1, .inl (cp1, 4, .inl fp))] : va_W) ++ kRows pr gp cy) [(cg7, .array .int), (cp1, .int), (cy, .int)] sz) (QcP (fun rz => 0 ≤ rz ∧ rz ≤ 3)) 0 0 (fun _ => False) := by
  refine Met.ofW (cc := cX4_firstOfBest) (maxL := 9) (ret := (some .int)) (by decide) rfl ?_
  intro p e s m args below meth c s₁ B hml hv
  obtain ⟨rfl, hsz, hP, hK, hD0, hN⟩ := hv
  have hx := B.exec
  have hb := B.bytes
  have hr := B.returns
  have hts := atoms_spec (ws := wsX4_firstOfBest) B.pre
  have hown : s.vm.findClass RX4 = some m.cls := findClass_of_methodNamed B.named
  have hlocks := B.notSynchronized
  subst hsz
  have hD := hD0
  have hP : va_P D vwCl (([(h0, .inr (4, [.ref g1, .ref g2, .ref g3, .ref g4, .ref g5, .int (zI cn), .int (zI bo), .int (zI ru), .ref g6, .ref g7])), (g7, .inl (cg7, 24, .inr (.inr (.inr (.inr (fo)))))), (pf, .inr (1, [.ref p1, .int (zI pn)])), (p1, .inl (cp1, 4, .inl fp))] : va_W) ++ kRows pr gp cy) s.heap := hP
  have hl := lv_entry ([.ref h0, .int (zI k), .int (zI be), .ref pf]) (n := 9) (Nat.le_of_ble_eq_true rfl)
  rw [lg_entry_eq]
  generalize (lg_sl ([.ref h0, .int (zI k), .int (zI be), .ref pf]) ++ List.replicate (9 - (lg_sl ([.ref h0, .int (zI k), .int (zI be), .ref pf])).length) Slot.unset).toArray = ls at hl ⊢
  have hl : lv_has ls 9 [(0, .ref h0), (1, .int (zI k)), (2, .int (zI be)), (3, .ref pf)] := hl
  refine lv_iconst (v := zI 0) hx hb dX4_firstOfBest_0 rfl ?_
  refine lv_istore (lv' := [(4, .int (zI 0)), (0, .ref h0), (1, .int (zI k)), (2, .int (zI be)), (3, .ref pf)]) hx hb dX4_firstOfBest_1 hl (by decide) rfl (fun ls hl => ?_)
  refine lv_sipush (v := zI 1000) hx hb dX4_firstOfBest_3 (by decide) ?_
  refine lv_istore (lv' := [(5, .int (zI 1000)), (4, .int (zI 0)), (0, .ref h0), (1, .int (zI k)), (2, .int (zI be)), (3, .ref pf)]) hx hb dX4_firstOfBest_6 hl (by decide) rfl (fun ls hl => ?_)
  refine lv_iconst (v := zI 0) hx hb dX4_firstOfBest_8 rfl ?_
  refine lv_istore (lv' := [(6, .int (zI 0)), (5, .int (zI 1000)), (4, .int (zI 0)), (0, .ref h0), (1, .int (zI k)), (2, .int (zI be)), (3, .ref pf)]) hx hb dX4_firstOfBest_9 hl (by decide) rfl (fun ls hl => ?_)
  refine k_loopM (I := fun n9 H locs ls => ∃ (jx : Int) (jl : Int) (jk : Int), n9 = (pn - jk).toNat ∧ (0 ≤ jx ∧ jx ≤ 3) ∧ (rg jl ∧ jl ≤ 1000) ∧ (0 ≤ jk ∧ jk ≤ pn) ∧ H = s.heap ∧ locs = [] ∧ lv_has ls 9 [(6, .int (zI jk)), (5, .int (zI jl)), (4, .int (zI jx)), (0, .ref h0), (1, .int (zI k)), (2, .int (zI be)), (3, .ref pf)]) ?_ _ ⟨0, 1000, 0, rfl, (by omega), (by omega), (by omega), rfl, rfl, hl⟩
  intro n11 ih11 H locs ls hI
  obtain ⟨jx, jl, jk, en11, v_110, v_111, v_112, eH, eL, hl⟩ := hI
  subst eH
  subst eL
  refine lv_iload hx hb dX4_firstOfBest_11 (lv_at hl 0 rfl) ?_
  refine lv_aload_n hx hb dX4_firstOfBest_13 rfl (lv_at hl 6 rfl) ?_
  refine va_get (D := D) (ci := 1) (v := .int (zI pn)) (C := RX1) (T := TX1) (N := 2) hx hb hts (fun _ h9 => List.mem_cons_of_mem _ (List.mem_append_left _ (List.mem_append_right _ h9))) hown hK hP 2 rfl rfl 1 (by decide) (hts (.fieldLink RX4 92 "FontRuns$Preference" "count" "I") mw_X4_firstOfBest_0) (fun _ h9 => h9) rfl dX4_firstOfBest_14 ?_
  refine kz_icmp_ge (tgt := 79) hx hb dX4_firstOfBest_17 (by decide) (by omega) (by omega) (fun c_1 => ?_) (fun c_1 => ?_)
  · refine lv_iload hx hb dX4_firstOfBest_79 (lv_at hl 2 rfl) ?_
    exact W.iret (v := (zI jx)) hx hb hr (fun t ht hW => QcP_of (by omega) v_110 ht) (fun _ h9 => by cases h9) dX4_firstOfBest_81
  · refine lv_aload_n hx hb dX4_firstOfBest_20 rfl (lv_at hl 6 rfl) ?_
    refine va_get (D := D) (ci := 1) (v := .ref p1) (C := RX1) (T := TX1) (N := 2) hx hb hts (fun _ h9 => List.mem_cons_of_mem _ (List.mem_append_left _ (List.mem_append_right _ h9))) hown hK hP 2 rfl rfl 0 (by decide) (hts (.fieldLink RX4 95 "FontRuns$Preference" "row" "[I") mw_X4_firstOfBest_1) (fun _ h9 => h9) rfl dX4_firstOfBest_21 ?_
    refine lv_iload hx hb dX4_firstOfBest_24 (lv_at hl 0 rfl) ?_
    refine kz_iald hx hb hK hP 3 1 rfl rfl (by omega) dX4_firstOfBest_26 (fun z_2 rz_2 ez_2 => ?_)
    have bz_2 := kPr_at q3 (by omega) rz_2 ez_2
    refine lv_istore (lv' := [(7, .int (zI z_2)), (6, .int (zI jk)), (5, .int (zI jl)), (4, .int (zI jx)), (0, .ref h0), (1, .int (zI k)), (2, .int (zI be)), (3, .ref pf)]) hx hb dX4_firstOfBest_27 hl (by decide) rfl (fun ls hl => ?_)
    refine lv_aload_n hx hb dX4_firstOfBest_29 rfl (lv_at hl 4 rfl) ?_
    refine va_get (D := D) (ci := 4) (v := .ref g7) (C := RX4) (T := TX4) (N := 10) hx hb hts (fun _ h9 => List.mem_cons_of_mem _ (List.mem_append_right _ h9)) hown hK hP 0 rfl rfl 9 (by decide) (hts (.fieldLink RX4 32 "FontRuns$Setting" "behind" "[[I") mw_X4_firstOfBest_2) (fun _ h9 => h9) rfl dX4_firstOfBest_30 ?_
    refine lv_iload_n hx hb dX4_firstOfBest_33 rfl (lv_at hl 5 rfl) ?_
    refine kz_aald hx hb hK hP 1 0 rfl rfl (by omega) dX4_firstOfBest_34 (q4 _ (by omega)) ?_
    refine lv_iload hx hb dX4_firstOfBest_35 (lv_at hl 0 rfl) ?_
    refine kz_rowld (X := [(h0, .inr (4, [.ref g1, .ref g2, .ref g3, .ref g4, .ref g5, .int (zI cn), .int (zI bo), .int (zI ru), .ref g6, .ref g7])), (g7, .inl (cg7, 24, .inr (.inr (.inr (.inr (fo)))))), (pf, .inr (1, [.ref p1, .int (zI pn)])), (p1, .inl (cp1, 4, .inl fp))]) hx hb hK hP 2 rfl (by omega) (by omega) dX4_firstOfBest_37 (fun z_3 rz_3 ez_3 => ?_)
    refine lv_iload hx hb dX4_firstOfBest_38 (lv_at hl 0 rfl) ?_
    refine lv_iload_n hx hb dX4_firstOfBest_40 rfl (lv_at hl 6 rfl) ?_
    refine kz_icmp_eq (tgt := 50) hx hb dX4_firstOfBest_41 (by decide) (by omega) (by omega) (fun c_4 => ?_) (fun c_4 => ?_)
    · refine lv_iconst (v := zI 0) hx hb dX4_firstOfBest_50 rfl ?_
      refine lv_goto (tgt := 55) hx hb dX4_firstOfBest_51 (by decide) ?_
      refine kz_iadd hx hb dX4_firstOfBest_55 ?_
      refine kz_any (fun z_5 rz_5 ez_5 => ?_)
      refine lv_istore (lv' := [(8, .int (zI z_5)), (7, .int (zI z_2)), (6, .int (zI jk)), (5, .int (zI jl)), (4, .int (zI jx)), (0, .ref h0), (1, .int (zI k)), (2, .int (zI be)), (3, .ref pf)]) hx hb dX4_firstOfBest_56 hl (by decide) rfl (fun ls hl => ?_)
      refine lv_iload hx hb dX4_firstOfBest_58 (lv_at hl 0 rfl) ?_
      refine lv_iload hx hb dX4_firstOfBest_60 (lv_at hl 3 rfl) ?_
      refine kz_icmp_ge (tgt := 73) hx hb dX4_firstOfBest_62 (by decide) (by omega) (by omega) (fun c_6 => ?_) (fun c_6 => ?_)
      · refine lv_iinc (v := (zI (jk + 1))) (lv' := [(6, .int (zI (jk + 1))), (8, .int (zI z_5)), (7, .int (zI z_2)), (5, .int (zI jl)), (4, .int (zI jx)), (0, .ref h0), (1, .int (zI k)), (2, .int (zI be)), (3, .ref pf)]) hx hb dX4_firstOfBest_73 hl (k := 2) rfl (kz_inc _ 1) (by decide) rfl (fun ls hl => ?_)
        refine lv_goto (tgt := 11) hx hb dX4_firstOfBest_76 (by decide) ?_
        exact ih11 _ (by omega) _ _ _ ⟨jx, jl, (jk + 1), rfl, v_110, v_111, (by omega), rfl, rfl, lv_sub hl [0, 3, 4, 5, 6, 7, 8] rfl⟩
      · refine lv_iload hx hb dX4_firstOfBest_65 (lv_at hl 0 rfl) ?_
        refine lv_istore (lv' := [(5, .int (zI z_5)), (8, .int (zI z_5)), (7, .int (zI z_2)), (6, .int (zI jk)), (4, .int (zI jx)), (0, .ref h0), (1, .int (zI k)), (2, .int (zI be)), (3, .ref pf)]) hx hb dX4_firstOfBest_67 hl (by decide) rfl (fun ls hl => ?_)
        refine lv_iload hx hb dX4_firstOfBest_69 (lv_at hl 2 rfl) ?_
        refine lv_istore (lv' := [(4, .int (zI z_2)), (5, .int (zI z_5)), (8, .int (zI z_5)), (7, .int (zI z_2)), (6, .int (zI jk)), (0, .ref h0), (1, .int (zI k)), (2, .int (zI be)), (3, .ref pf)]) hx hb dX4_firstOfBest_71 hl (by decide) rfl (fun ls hl => ?_)
        refine lv_iinc (v := (zI (jk + 1))) (lv' := [(6, .int (zI (jk + 1))), (4, .int (zI z_2)), (5, .int (zI z_5)), (8, .int (zI z_5)), (7, .int (zI z_2)), (0, .ref h0), (1, .int (zI k)), (2, .int (zI be)), (3, .ref pf)]) hx hb dX4_firstOfBest_73 hl (k := 4) rfl (kz_inc _ 1) (by decide) rfl (fun ls hl => ?_)
        refine lv_goto (tgt := 11) hx hb dX4_firstOfBest_76 (by decide) ?_
        exact ih11 _ (by omega) _ _ _ ⟨z_2, z_5, (jk + 1), rfl, (by omega), (by omega), (by omega), rfl, rfl, lv_sub hl [0, 2, 1, 5, 6, 7, 8] rfl⟩
    · refine lv_iload_n hx hb dX4_firstOfBest_44 rfl (lv_at hl 6 rfl) ?_
      refine lv_bipush (v := zI (-9)) hx hb dX4_firstOfBest_45 (by decide) ?_
      refine kz_icmp_ne (tgt := 54) hx hb dX4_firstOfBest_47 (by decide) (by omega) (by omega) (fun c_7 => ?_) (fun c_7 => ?_)
      · refine lv_iconst (v := zI 1) hx hb dX4_firstOfBest_54 rfl ?_
        refine kz_iadd hx hb dX4_firstOfBest_55 ?_
        refine kz_any (fun z_8 rz_8 ez_8 => ?_)
        refine lv_istore (lv' := [(8, .int (zI z_8)), (7, .int (zI z_2)), (6, .int (zI jk)), (5, .int (zI jl)), (4, .int (zI jx)), (0, .ref h0), (1, .int (zI k)), (2, .int (zI be)), (3, .ref pf)]) hx hb dX4_firstOfBest_56 hl (by decide) rfl (fun ls hl => ?_)
        refine lv_iload hx hb dX4_firstOfBest_58 (lv_at hl 0 rfl) ?_
        refine lv_iload hx hb dX4_firstOfBest_60 (lv_at hl 3 rfl) ?_
        refine kz_icmp_ge (tgt := 73) hx hb dX4_firstOfBest_62 (by decide) (by omega) (by omega) (fun c_9 => ?_) (fun c_9 => ?_)
        · refine lv_iinc (v := (zI (jk + 1))) (lv' := [(6, .int (zI (jk + 1))), (8, .int (zI z_8)), (7, .int (zI z_2)), (5, .int (zI jl)), (4, .int (zI jx)), (0, .ref h0), (1, .int (zI k)), (2, .int (zI be)), (3, .ref pf)]) hx hb dX4_firstOfBest_73 hl (k := 2) rfl (kz_inc _ 1) (by decide) rfl (fun ls hl => ?_)
          refine lv_goto (tgt := 11) hx hb dX4_firstOfBest_76 (by decide) ?_
          exact ih11 _ (by omega) _ _ _ ⟨jx, jl, (jk + 1), rfl, v_110, v_111, (by omega), rfl, rfl, lv_sub hl [0, 3, 4, 5, 6, 7, 8] rfl⟩
        · refine lv_iload hx hb dX4_firstOfBest_65 (lv_at hl 0 rfl) ?_
          refine lv_istore (lv' := [(5, .int (zI z_8)), (8, .int (zI z_8)), (7, .int (zI z_2)), (6, .int (zI jk)), (4, .int (zI jx)), (0, .ref h0), (1, .int (zI k)), (2, .int (zI be)), (3, .ref pf)]) hx hb dX4_firstOfBest_67 hl (by decide) rfl (fun ls hl => ?_)
          refine lv_iload hx hb dX4_firstOfBest_69 (lv_at hl 2 rfl) ?_
          refine lv_istore (lv' := [(4, .int (zI z_2)), (5, .int (zI z_8)), (8, .int (zI z_8)), (7, .int (zI z_2)), (6, .int (zI jk)), (0, .ref h0), (1, .int (zI k)), (2, .int (zI be)), (3, .ref pf)]) hx hb dX4_firstOfBest_71 hl (by decide) rfl (fun ls hl => ?_)
          refine lv_iinc (v := (zI (jk + 1))) (lv' := [(6, .int (zI (jk + 1))), (4, .int (zI z_2)), (5, .int (zI z_8)), (8, .int (zI z_8)), (7, .int (zI z_2)), (0, .ref h0), (1, .int (zI k)), (2, .int (zI be)), (3, .ref pf)]) hx hb dX4_firstOfBest_73 hl (k := 4) rfl (kz_inc _ 1) (by decide) rfl (fun ls hl => ?_)
          refine lv_goto (tgt := 11) hx hb dX4_firstOfBest_76 (by decide) ?_
          exact ih11 _ (by omega) _ _ _ ⟨z_2, z_8, (jk + 1), rfl, (by omega), (by omega), (by omega), rfl, rfl, lv_sub hl [0, 2, 1, 5, 6, 7, 8] rfl⟩
      · refine lv_iconst (v := zI 0) hx hb dX4_firstOfBest_50 rfl ?_
        refine lv_goto (tgt := 55) hx hb dX4_firstOfBest_51 (by decide) ?_
        refine kz_iadd hx hb dX4_firstOfBest_55 ?_
        refine kz_any (fun z_10 rz_10 ez_10 => ?_)
        refine lv_istore (lv' := [(8, .int (zI z_10)), (7, .int (zI z_2)), (6, .int (zI jk)), (5, .int (zI jl)), (4, .int (zI jx)), (0, .ref h0), (1, .int (zI k)), (2, .int (zI be)), (3, .ref pf)]) hx hb dX4_firstOfBest_56 hl (by decide) rfl (fun ls hl => ?_)
        refine lv_iload hx hb dX4_firstOfBest_58 (lv_at hl 0 rfl) ?_
        refine lv_iload hx hb dX4_firstOfBest_60 (lv_at hl 3 rfl) ?_
        refine kz_icmp_ge (tgt := 73) hx hb dX4_firstOfBest_62 (by decide) (by omega) (by omega) (fun c_11 => ?_) (fun c_11 => ?_)
        · refine lv_iinc (v := (zI (jk + 1))) (lv' := [(6, .int (zI (jk + 1))), (8, .int (zI z_10)), (7, .int (zI z_2)), (5, .int (zI jl)), (4, .int (zI jx)), (0, .ref h0), (1, .int (zI k)), (2, .int (zI be)), (3, .ref pf)]) hx hb dX4_firstOfBest_73 hl (k := 2) rfl (kz_inc _ 1) (by decide) rfl (fun ls hl => ?_)
          refine lv_goto (tgt := 11) hx hb dX4_firstOfBest_76 (by decide) ?_
          exact ih11 _ (by omega) _ _ _ ⟨jx, jl, (jk + 1), rfl, v_110, v_111, (by omega), rfl, rfl, lv_sub hl [0, 3, 4, 5, 6, 7, 8] rfl⟩
        · refine lv_iload hx hb dX4_firstOfBest_65 (lv_at hl 0 rfl) ?_
          refine lv_istore (lv' := [(5, .int (zI z_10)), (8, .int (zI z_10)), (7, .int (zI z_2)), (6, .int (zI jk)), (4, .int (zI jx)), (0, .ref h0), (1, .int (zI k)), (2, .int (zI be)), (3, .ref pf)]) hx hb dX4_firstOfBest_67 hl (by decide) rfl (fun ls hl => ?_)
          refine lv_iload hx hb dX4_firstOfBest_69 (lv_at hl 2 rfl) ?_
          refine lv_istore (lv' := [(4, .int (zI z_2)), (5, .int (zI z_10)), (8, .int (zI z_10)), (7, .int (zI z_2)), (6, .int (zI jk)), (0, .ref h0), (1, .int (zI k)), (2, .int (zI be)), (3, .ref pf)]) hx hb dX4_firstOfBest_71 hl (by decide) rfl (fun ls hl => ?_)
          refine lv_iinc (v := (zI (jk + 1))) (lv' := [(6, .int (zI (jk + 1))), (4, .int (zI z_2)), (5, .int (zI z_10)), (8, .int (zI z_10)), (7, .int (zI z_2)), (0, .ref h0), (1, .int (zI k)), (2, .int (zI be)), (3, .ref pf)]) hx hb dX4_firstOfBest_73 hl (k := 4) rfl (kz_inc _ 1) (by decide) rfl (fun ls hl => ?_)
          refine lv_goto (tgt := 11) hx hb dX4_firstOfBest_76 (by decide) ?_
          exact ih11 _ (by omega) _ _ _ ⟨z_2, z_10, (jk + 1), rfl, (by omega), (by omega), (by omega), rfl, rfl, lv_sub hl [0, 2, 1, 5, 6, 7, 8] rfl⟩
theorem dX4_choose_0 : decode cX4_choose 0 = .ok (.aload_n 0, 1) := kqo_2a kbl_X4_choose (pc := 0) rfl
theorem dX4_choose_1 : decode cX4_choose 1 = .ok (.iconst 0, 1) := kqo_03 kbl_X4_choose (pc := 1) rfl
theorem dX4_choose_2 : decode cX4_choose 2 = .ok (.putfield 59, 3) := kqo_b5 (x1 := 0) (x2 := 59) kbl_X4_choose (pc := 2) rfl rfl
theorem dX4_choose_5 : decode cX4_choose 5 = .ok (.iconst 0, 1) := kqo_03 kbl_X4_choose (pc := 5) rfl
theorem dX4_choose_6 : decode cX4_choose 6 = .ok (.istore_n 2, 1) := kqo_3d kbl_X4_choose (pc := 6) rfl
theorem dX4_choose_7 : decode cX4_choose 7 = .ok (.iload_n 2, 1) := kqo_1c kbl_X4_choose (pc := 7) rfl
theorem dX4_choose_8 : decode cX4_choose 8 = .ok (.aload_n 0, 1) := kqo_2a kbl_X4_choose (pc := 8) rfl
theorem dX4_choose_9 : decode cX4_choose 9 = .ok (.getfield 51, 3) := kqo_b4 (x1 := 0) (x2 := 51) kbl_X4_choose (pc := 9) rfl rfl
theorem dX4_choose_12 : decode cX4_choose 12 = .ok (.if_icmp .ge 72, 3) := kqo_a2 (x1 := 0) (x2 := 72) kbl_X4_choose (pc := 12) rfl rfl
theorem dX4_choose_15 : decode cX4_choose 15 = .ok (.iload_n 2, 1) := kqo_1c kbl_X4_choose (pc := 15) rfl
theorem dX4_choose_16 : decode cX4_choose 16 = .ok (.ifCond .ne 8, 3) := kqo_9a (x1 := 0) (x2 := 8) kbl_X4_choose (pc := 16) rfl rfl
theorem dX4_choose_19 : decode cX4_choose 19 = .ok (.bipush (-9), 2) := kqo_10 (x1 := 247) kbl_X4_choose (pc := 19) rfl rfl
theorem dX4_choose_21 : decode cX4_choose 21 = .ok (.goto 11, 3) := kqo_a7 (x1 := 0) (x2 := 11) kbl_X4_choose (pc := 21) rfl rfl
theorem dX4_choose_24 : decode cX4_choose 24 = .ok (.aload_n 0, 1) := kqo_2a kbl_X4_choose (pc := 24) rfl
theorem dX4_choose_25 : decode cX4_choose 25 = .ok (.getfield 21, 3) := kqo_b4 (x1 := 0) (x2 := 21) kbl_X4_choose (pc := 25) rfl rfl
theorem dX4_choose_28 : decode cX4_choose 28 = .ok (.iload_n 2, 1) := kqo_1c kbl_X4_choose (pc := 28) rfl
theorem dX4_choose_29 : decode cX4_choose 29 = .ok (.iconst 1, 1) := kqo_04 kbl_X4_choose (pc := 29) rfl
theorem dX4_choose_30 : decode cX4_choose 30 = .ok (.isub, 1) := kqo_64 kbl_X4_choose (pc := 30) rfl
theorem dX4_choose_31 : decode cX4_choose 31 = .ok (.iaload, 1) := kqo_2e kbl_X4_choose (pc := 31) rfl
theorem dX4_choose_32 : decode cX4_choose 32 = .ok (.istore_n 3, 1) := kqo_3e kbl_X4_choose (pc := 32) rfl
theorem dX4_choose_33 : decode cX4_choose 33 = .ok (.aload_n 0, 1) := kqo_2a kbl_X4_choose (pc := 33) rfl
theorem dX4_choose_34 : decode cX4_choose 34 = .ok (.getfield 21, 3) := kqo_b4 (x1 := 0) (x2 := 21) kbl_X4_choose (pc := 34) rfl rfl
theorem dX4_choose_37 : decode cX4_choose 37 = .ok (.iload_n 2, 1) := kqo_1c kbl_X4_choose (pc := 37) rfl
theorem dX4_choose_38 : decode cX4_choose 38 = .ok (.aload_n 0, 1) := kqo_2a kbl_X4_choose (pc := 38) rfl
theorem dX4_choose_39 : decode cX4_choose 39 = .ok (.iload_n 2, 1) := kqo_1c kbl_X4_choose (pc := 39) rfl
theorem dX4_choose_40 : decode cX4_choose 40 = .ok (.iload_n 3, 1) := kqo_1d kbl_X4_choose (pc := 40) rfl
theorem dX4_choose_41 : decode cX4_choose 41 = .ok (.aload_n 1, 1) := kqo_2b kbl_X4_choose (pc := 41) rfl
theorem dX4_choose_42 : decode cX4_choose 42 = .ok (.invokevirtual 88, 3) := kqo_b6 (x1 := 0) (x2 := 88) kbl_X4_choose (pc := 42) rfl rfl
theorem dX4_choose_45 : decode cX4_choose 45 = .ok (.iastore, 1) := kqo_4f kbl_X4_choose (pc := 45) rfl
theorem dX4_choose_46 : decode cX4_choose 46 = .ok (.aload_n 0, 1) := kqo_2a kbl_X4_choose (pc := 46) rfl
theorem dX4_choose_47 : decode cX4_choose 47 = .ok (.getfield 21, 3) := kqo_b4 (x1 := 0) (x2 := 21) kbl_X4_choose (pc := 47) rfl rfl
theorem dX4_choose_50 : decode cX4_choose 50 = .ok (.iload_n 2, 1) := kqo_1c kbl_X4_choose (pc := 50) rfl
theorem dX4_choose_51 : decode cX4_choose 51 = .ok (.iaload, 1) := kqo_2e kbl_X4_choose (pc := 51) rfl
theorem dX4_choose_52 : decode cX4_choose 52 = .ok (.iload_n 3, 1) := kqo_1d kbl_X4_choose (pc := 52) rfl
theorem dX4_choose_53 : decode cX4_choose 53 = .ok (.if_icmp .eq 13, 3) := kqo_9f (x1 := 0) (x2 := 13) kbl_X4_choose (pc := 53) rfl rfl
theorem dX4_choose_56 : decode cX4_choose 56 = .ok (.aload_n 0, 1) := kqo_2a kbl_X4_choose (pc := 56) rfl
theorem dX4_choose_57 : decode cX4_choose 57 = .ok (.dup, 1) := kqo_59 kbl_X4_choose (pc := 57) rfl
theorem dX4_choose_58 : decode cX4_choose 58 = .ok (.getfield 59, 3) := kqo_b4 (x1 := 0) (x2 := 59) kbl_X4_choose (pc := 58) rfl rfl
theorem dX4_choose_61 : decode cX4_choose 61 = .ok (.iconst 1, 1) := kqo_04 kbl_X4_choose (pc := 61) rfl
theorem dX4_choose_62 : decode cX4_choose 62 = .ok (.iadd, 1) := kqo_60 kbl_X4_choose (pc := 62) rfl
theorem dX4_choose_63 : decode cX4_choose 63 = .ok (.putfield 59, 3) := kqo_b5 (x1 := 0) (x2 := 59) kbl_X4_choose (pc := 63) rfl rfl
theorem dX4_choose_66 : decode cX4_choose 66 = .ok (.aload_n 0, 1) := kqo_2a kbl_X4_choose (pc := 66) rfl
theorem dX4_choose_67 : decode cX4_choose 67 = .ok (.getfield 24, 3) := kqo_b4 (x1 := 0) (x2 := 24) kbl_X4_choose (pc := 67) rfl rfl
theorem dX4_choose_70 : decode cX4_choose 70 = .ok (.iload_n 2, 1) := kqo_1c kbl_X4_choose (pc := 70) rfl
theorem dX4_choose_71 : decode cX4_choose 71 = .ok (.aload_n 0, 1) := kqo_2a kbl_X4_choose (pc := 71) rfl
theorem dX4_choose_72 : decode cX4_choose 72 = .ok (.getfield 59, 3) := kqo_b4 (x1 := 0) (x2 := 59) kbl_X4_choose (pc := 72) rfl rfl
theorem dX4_choose_75 : decode cX4_choose 75 = .ok (.iconst 1, 1) := kqo_04 kbl_X4_choose (pc := 75) rfl
theorem dX4_choose_76 : decode cX4_choose 76 = .ok (.isub, 1) := kqo_64 kbl_X4_choose (pc := 76) rfl
theorem dX4_choose_77 : decode cX4_choose 77 = .ok (.iastore, 1) := kqo_4f kbl_X4_choose (pc := 77) rfl
theorem dX4_choose_78 : decode cX4_choose 78 = .ok (.iinc 2 1, 3) := kqo_84 (x1 := 2) (x2 := 1) kbl_X4_choose (pc := 78) rfl rfl
theorem dX4_choose_81 : decode cX4_choose 81 = .ok (.goto (-74), 3) := kqo_a7 (x1 := 255) (x2 := 182) kbl_X4_choose (pc := 81) rfl rfl
theorem dX4_choose_84 : decode cX4_choose 84 = .ok (.return_, 1) := kqo_b1 kbl_X4_choose (pc := 84) rfl
set_option maxRecDepth 20000 in
theorem ggX4_choose_X4_firstOfBest : GoodIn wsX4_choose wsX4_firstOfBest := goodIn_4 _ (List.forall_mem_cons.mpr ⟨List.mem_cons_of_mem _ (List.mem_append_left _ (List.mem_append_left _ (List.mem_of_getElem? (i := 8) rfl))), List.forall_mem_append.mpr ⟨List.forall_mem_append.mpr ⟨List.forall_mem_cons.mpr ⟨List.mem_cons_of_mem _ (List.mem_append_left _ (List.mem_append_left _ (List.mem_of_getElem? (i := 9) rfl))), List.forall_mem_cons.mpr ⟨List.mem_cons_of_mem _ (List.mem_append_left _ (List.mem_append_left _ (List.mem_of_getElem? (i := 10) rfl))), List.forall_mem_cons.mpr ⟨List.mem_cons_of_mem _ (List.mem_append_left _ (List.mem_append_left _ (List.mem_of_getElem? (i := 11) rfl))), fun _ h9 => absurd h9 List.not_mem_nil⟩⟩⟩, fun w h9 => List.mem_cons_of_mem _ (List.mem_append_right _ (h9))⟩, fun w h9 => List.mem_cons_of_mem _ (List.mem_append_left _ (List.mem_append_right _ (h9)))⟩⟩) (by decide +kernel)
set_option maxRecDepth 20000 in
theorem gX4_choose_X4_firstOfBest : GoodIn wsX4_choose (wsV RX4 88 RX4 yX4_firstOfBest wsX4_firstOfBest) := goodIn_app (goodIn_4 _ (List.forall_mem_cons.mpr ⟨List.mem_cons_of_mem _ (List.mem_append_left _ (List.mem_append_left _ (List.mem_of_getElem? (i := 4) rfl))), List.forall_mem_cons.mpr ⟨List.mem_cons_of_mem _ (List.mem_append_left _ (List.mem_append_left _ (List.mem_of_getElem? (i := 5) rfl))), List.forall_mem_cons.mpr ⟨List.mem_cons_of_mem _ (List.mem_append_left _ (List.mem_append_left _ (List.mem_of_getElem? (i := 6) rfl))), List.forall_mem_cons.mpr ⟨List.mem_cons_of_mem _ (List.mem_append_left _ (List.mem_append_left _ (List.mem_of_getElem? (i := 7) rfl))), fun _ h9 => absurd h9 List.not_mem_nil⟩⟩⟩⟩) (by decide +kernel)) ggX4_choose_X4_firstOfBest
set_option maxRecDepth 20000 in
theorem mw_X4_choose_0 : (.fieldLink RX4 59 "FontRuns$Setting" "runs" "I" : Cond) ∈ wsX4_choose := List.mem_cons_of_mem _ (List.mem_append_left _ (List.mem_append_left _ (List.mem_of_getElem? (i := 0) rfl)))
set_option maxRecDepth 20000 in
theorem mw_X4_choose_1 : (.fieldLink RX4 51 "FontRuns$Setting" "count" "I" : Cond) ∈ wsX4_choose := List.mem_cons_of_mem _ (List.mem_append_left _ (List.mem_append_left _ (List.mem_of_getElem? (i := 1) rfl)))
set_option maxRecDepth 20000 in
theorem mw_X4_choose_2 : (.fieldLink RX4 21 "FontRuns$Setting" "chosen" "[I" : Cond) ∈ wsX4_choose := List.mem_cons_of_mem _ (List.mem_append_left _ (List.mem_append_left _ (List.mem_of_getElem? (i := 2) rfl)))
set_option maxRecDepth 20000 in
theorem mw_X4_choose_3 : (.fieldLink RX4 24 "FontRuns$Setting" "runOf" "[I" : Cond) ∈ wsX4_choose := List.mem_cons_of_mem _ (List.mem_append_left _ (List.mem_append_left _ (List.mem_of_getElem? (i := 3) rfl)))
theorem ax_X4_choose_0 {e0 e1 e2 e3 e4 e5 : Nat × va_E} : ([0, 1, 2, 3, 4, 5] : List Nat).map (fun i => ([e0, e1, e2, e3, e4, e5] : va_W)[i]?) = ([e0, e1, e2, e3, e4, e5] : va_W).map some := rfl
theorem ax_X4_choose_1 {e0 e1 e2 e3 e4 e5 : Nat × va_E} : ([0, 3, 4, 5] : List Nat).map (fun i => ([e0, e1, e2, e3, e4, e5] : va_W)[i]?) = ([e0, e3, e4, e5] : va_W).map some := rfl
set_option maxHeartbeats 4000000 in
set_option maxRecDepth 100000 in
theorem c_X4_choose (l : Launch) (D : va_G) (sz : Nat) (pf : Nat) (h0 : Nat) (g1 : Nat) (g2 : Nat) (g3 : Nat) (g4 : Nat) (g5 : Nat) (cn : Int) (bo : Int) (ru : Int) (g6 : Nat) (g7 : Nat) (cg4 : ClassId) (f4 : Nat → Int32) (cg5 : ClassId) (f5 : Nat → Int32) (cg7 : ClassId) (fo : Nat → Option Nat) (o : Nat) (p1 : Nat) (pn : Int) (cp1 : ClassId) (fp : Nat → Int32) (pr : Nat → Nat) (gp : Nat → Nat → Int32) (cy : ClassId) (q0 : 0 ≤ cn ∧ cn ≤ 24) (q1 : 0 ≤ pn ∧ pn ≤ 4) (q2 : kPr fp) (q3 : kOut fo pr o 24) (q4 : o + 24 ≤ 56) : Met l yX4_choose wsX4_choose ({ frames := 1, cells := 0, slots := 0, locals := 28 }) (kPre [.ref h0, .ref pf] D (([(h0, .inr (4, [.ref g1, .ref g2, .ref g3, .ref g4, .ref g5, .int (zI cn), .int (zI bo), .int (zI ru), .ref g6, .ref g7])), (g4, .inl (cg4, 24, .inl f4)), (g5, .inl (cg5, 24, .inl f5)), (g7, .inl (cg7, 24, .inr (.inr (.inr (.inr (fo)))))), (pf, .inr (1, [.ref p1, .int (zI pn)])), (p1, .inl (cp1, 4, .inl fp))] : va_W) ++ kRows pr gp cy) [(cg4, .int), (cg5, .int), (cg7, .array .int), (cp1, .int), (cy, .int)] sz) (kQV (fun t => ∃ (ur : Int) (v4 : Nat → Int32) (v5 : Nat → Int32), (0 ≤ ur ∧ ur ≤ cn) ∧ va_P D vwCl (([(h0, .inr (4, [.ref g1, .ref g2, .ref g3, .ref g4, .ref g5, .int (zI cn), .int (zI bo), .int (zI ur), .ref g6, .ref g7])), (g4, .inl (cg4, 24, .inl v4)), (g5, .inl (cg5, 24, .inl v5)), (g7, .inl (cg7, 24, .inr (.inr (.inr (.inr (fo)))))), (pf, .inr (1, [.ref p1, .int (zI pn)])), (p1, .inl (cp1, 4, .inl fp))] : va_W) ++ kRows pr gp cy) t.heap ∧ va_D (va_A (([(h0, .inr (4, [.ref g1, .ref g2, .ref g3, .ref g4, .ref g5, .int (zI cn), .int (zI bo), .int (zI ru), .ref g6, .ref g7])), (g4, .inl (cg4, 24, .inl f4)), (g5, .inl (cg5, 24, .inl f5)), (g7, .inl (cg7, 24, .inr (.inr (.inr (.inr (fo)))))), (pf, .inr (1, [.ref p1, .int (zI pn)])), (p1, .inl (cp1, 4, .inl fp))] : va_W) ++ kRows pr gp cy) sz) (([(h0, .inr (4, [.ref g1, .ref g2, .ref g3, .ref g4, .ref g5, .int (zI cn), .int (zI bo), .int (zI ur), .ref g6, .ref g7])), (g4, .inl (cg4, 24, .inl v4)), (g5, .inl (cg5, 24, .inl v5)), (g7, .inl (cg7, 24, .inr (.inr (.inr (.inr (fo)))))), (pf, .inr (1, [.ref p1, .int (zI pn)])), (p1, .inl (cp1, 4, .inl fp))] : va_W) ++ kRows pr gp cy)) (va_A (([(h0, .inr (4, [.ref g1, .ref g2, .ref g3, .ref g4, .ref g5, .int (zI cn), .int (zI bo), .int (zI ru), .ref g6, .ref g7])), (g4, .inl (cg4, 24, .inl f4)), (g5, .inl (cg5, 24, .inl f5)), (g7, .inl (cg7, 24, .inr (.inr (.inr (.inr (fo)))))), (pf, .inr (1, [.ref p1, .int (zI pn)])), (p1, .inl (cp1, 4, .inl fp))] : va_W) ++ kRows pr gp cy) sz)) 0 0 (va_A (([(h0, .inr (4, [.ref g1, .ref g2, .ref g3, .ref g4, .ref g5, .int (zI cn), .int (zI bo), .int (zI ru), .ref g6, .ref g7])), (g4, .inl (cg4, 24, .inl f4)), (g5, .inl (cg5, 24, .inl f5)), (g7, .inl (cg7, 24, .inr (.inr (.inr (.inr (fo)))))), (pf, .inr (1, [.ref p1, .int (zI pn)])), (p1, .inl (cp1, 4, .inl fp))] : va_W) ++ kRows pr gp cy) sz) := by
  refine Met.ofW (cc := cX4_choose) (maxL := 4) (ret := none) (by decide) rfl ?_
  intro p e s m args below meth c s₁ B hml hv
  obtain ⟨rfl, hsz, hP, hK, hD0, hN⟩ := hv
  have hx := B.exec
  have hb := B.bytes
  have hr := B.returns
  have hts := atoms_spec (ws := wsX4_choose) B.pre
  have hown : s.vm.findClass RX4 = some m.cls := findClass_of_methodNamed B.named
  have hlocks := B.notSynchronized
  subst hsz
  have hD := hD0.self (sz := s.heap.size)
  generalize hAe : va_A (([(h0, .inr (4, [.ref g1, .ref g2, .ref g3, .ref g4, .ref g5, .int (zI cn), .int (zI bo), .int (zI ru), .ref g6, .ref g7])), (g4, .inl (cg4, 24, .inl f4)), (g5, .inl (cg5, 24, .inl f5)), (g7, .inl (cg7, 24, .inr (.inr (.inr (.inr (fo)))))), (pf, .inr (1, [.ref p1, .int (zI pn)])), (p1, .inl (cp1, 4, .inl fp))] : va_W) ++ kRows pr gp cy) s.heap.size = A at hD ⊢
  have hA : ∀ q : Nat, s.heap.size ≤ q → A q := fun q h => by rw [← hAe]; exact Or.inr h
  have hS : va_S A s.heap s.heap [] := va_S.rf
  have hP : va_P D vwCl (([(h0, .inr (4, [.ref g1, .ref g2, .ref g3, .ref g4, .ref g5, .int (zI cn), .int (zI bo), .int (zI ru), .ref g6, .ref g7])), (g4, .inl (cg4, 24, .inl f4)), (g5, .inl (cg5, 24, .inl f5)), (g7, .inl (cg7, 24, .inr (.inr (.inr (.inr (fo)))))), (pf, .inr (1, [.ref p1, .int (zI pn)])), (p1, .inl (cp1, 4, .inl fp))] : va_W) ++ kRows pr gp cy) s.heap := hP
  have hl := lv_entry ([.ref h0, .ref pf]) (n := 4) (Nat.le_of_ble_eq_true rfl)
  rw [lg_entry_eq]
  generalize (lg_sl ([.ref h0, .ref pf]) ++ List.replicate (4 - (lg_sl ([.ref h0, .ref pf])).length) Slot.unset).toArray = ls at hl ⊢
  have hl : lv_has ls 4 [(0, .ref h0), (1, .ref pf)] := hl
  refine lv_aload_n hx hb dX4_choose_0 rfl (lv_at hl 0 rfl) ?_
  refine lv_iconst (v := zI 0) hx hb dX4_choose_1 rfl ?_
  refine va_put (D := D) (ci := 4) (v := .int (zI 0)) (ty := .int) (C := RX4) (T := TX4) (N := 10) hx hb hts (fun _ h9 => List.mem_cons_of_mem _ (List.mem_append_left _ (List.mem_append_right _ h9))) tyX4 tyX4_ok nmX4 hown hK hP hD hS 0 rfl rfl 7 (by decide) (hts (.fieldLink RX4 59 "FontRuns$Setting" "runs" "I") mw_X4_choose_0) (fun _ h9 => h9) rfl (by decide +kernel) rfl rfl (Nat.le_of_ble_eq_true rfl) dX4_choose_2 (fun H locs hP hD hS => ?_)
  have hP : va_P D vwCl (([(h0, .inr (4, [.ref g1, .ref g2, .ref g3, .ref g4, .ref g5, .int (zI cn), .int (zI bo), .int (zI 0), .ref g6, .ref g7])), (g4, .inl (cg4, 24, .inl f4)), (g5, .inl (cg5, 24, .inl f5)), (g7, .inl (cg7, 24, .inr (.inr (.inr (.inr (fo)))))), (pf, .inr (1, [.ref p1, .int (zI pn)])), (p1, .inl (cp1, 4, .inl fp))] : va_W) ++ kRows pr gp cy) H := hP
  have hD : va_D A (([(h0, .inr (4, [.ref g1, .ref g2, .ref g3, .ref g4, .ref g5, .int (zI cn), .int (zI bo), .int (zI 0), .ref g6, .ref g7])), (g4, .inl (cg4, 24, .inl f4)), (g5, .inl (cg5, 24, .inl f5)), (g7, .inl (cg7, 24, .inr (.inr (.inr (.inr (fo)))))), (pf, .inr (1, [.ref p1, .int (zI pn)])), (p1, .inl (cp1, 4, .inl fp))] : va_W) ++ kRows pr gp cy) := hD
  refine lv_iconst (v := zI 0) hx hb dX4_choose_5 rfl ?_
  refine lv_istore_n (lv' := [(2, .int (zI 0)), (0, .ref h0), (1, .ref pf)]) hx hb dX4_choose_6 rfl hl (by decide) rfl (fun ls hl => ?_)
  refine k_loopM (I := fun n9 H locs ls => ∃ (jk : Int) (jr : Int) (ja : Nat → Int32) (jb : Nat → Int32), n9 = (cn - jk).toNat ∧ (0 ≤ jk ∧ jk ≤ cn) ∧ (0 ≤ jr ∧ jr ≤ jk) ∧ va_P D vwCl (([(h0, .inr (4, [.ref g1, .ref g2, .ref g3, .ref g4, .ref g5, .int (zI cn), .int (zI bo), .int (zI jr), .ref g6, .ref g7])), (g4, .inl (cg4, 24, .inl ja)), (g5, .inl (cg5, 24, .inl jb)), (g7, .inl (cg7, 24, .inr (.inr (.inr (.inr (fo)))))), (pf, .inr (1, [.ref p1, .int (zI pn)])), (p1, .inl (cp1, 4, .inl fp))] : va_W) ++ kRows pr gp cy) H ∧ va_D A (([(h0, .inr (4, [.ref g1, .ref g2, .ref g3, .ref g4, .ref g5, .int (zI cn), .int (zI bo), .int (zI jr), .ref g6, .ref g7])), (g4, .inl (cg4, 24, .inl ja)), (g5, .inl (cg5, 24, .inl jb)), (g7, .inl (cg7, 24, .inr (.inr (.inr (.inr (fo)))))), (pf, .inr (1, [.ref p1, .int (zI pn)])), (p1, .inl (cp1, 4, .inl fp))] : va_W) ++ kRows pr gp cy) ∧ va_S A s.heap H locs ∧ lv_has ls 4 [(2, .int (zI jk)), (0, .ref h0), (1, .ref pf)]) ?_ _ ⟨0, 0, f4, f5, rfl, (by omega), (by omega), hP, hD, hS, hl⟩
  intro n7 ih7 H locs ls hI
  obtain ⟨jk, jr, ja, jb, en7, v_70, v_71, hP, hD, hS, hl⟩ := hI
  refine lv_iload_n hx hb dX4_choose_7 rfl (lv_at hl 0 rfl) ?_
  refine lv_aload_n hx hb dX4_choose_8 rfl (lv_at hl 1 rfl) ?_
  refine va_get (D := D) (ci := 4) (v := .int (zI cn)) (C := RX4) (T := TX4) (N := 10) hx hb hts (fun _ h9 => List.mem_cons_of_mem _ (List.mem_append_left _ (List.mem_append_right _ h9))) hown hK hP 0 rfl rfl 5 (by decide) (hts (.fieldLink RX4 51 "FontRuns$Setting" "count" "I") mw_X4_choose_1) (fun _ h9 => h9) rfl dX4_choose_9 ?_
  refine kz_icmp_ge (tgt := 84) hx hb dX4_choose_12 (by decide) (by omega) (by omega) (fun c_1 => ?_) (fun c_1 => ?_)
  · have hP9 : va_P D vwCl (([(h0, .inr (4, [.ref g1, .ref g2, .ref g3, .ref g4, .ref g5, .int (zI cn), .int (zI bo), .int (zI jr), .ref g6, .ref g7])), (g4, .inl (cg4, 24, .inl ja)), (g5, .inl (cg5, 24, .inl jb)), (g7, .inl (cg7, 24, .inr (.inr (.inr (.inr (fo)))))), (pf, .inr (1, [.ref p1, .int (zI pn)])), (p1, .inl (cp1, 4, .inl fp))] : va_W) ++ kRows pr gp cy) H := hP.part [0, 1, 2, 3, 4, 5] ax_X4_choose_0
    have hD9 : va_D A (([(h0, .inr (4, [.ref g1, .ref g2, .ref g3, .ref g4, .ref g5, .int (zI cn), .int (zI bo), .int (zI jr), .ref g6, .ref g7])), (g4, .inl (cg4, 24, .inl ja)), (g5, .inl (cg5, 24, .inl jb)), (g7, .inl (cg7, 24, .inr (.inr (.inr (.inr (fo)))))), (pf, .inr (1, [.ref p1, .int (zI pn)])), (p1, .inl (cp1, 4, .inl fp))] : va_W) ++ kRows pr gp cy) := hD.part [0, 1, 2, 3, 4, 5] (by decide +kernel) ax_X4_choose_0
    exact W.vret hx hb hr (fun t ht hW => kQV_of ⟨jr, ja, jb, (by omega), by rw [ht]; exact hP9, hD9⟩ (hS.F ht)) hS.2.2 dX4_choose_84
  · refine lv_iload_n hx hb dX4_choose_15 rfl (lv_at hl 0 rfl) ?_
    refine kz_if_ne (tgt := 24) hx hb dX4_choose_16 (by decide) (by omega) (fun c_2 => ?_) (fun c_2 => ?_)
    · refine lv_aload_n hx hb dX4_choose_24 rfl (lv_at hl 1 rfl) ?_
      refine va_get (D := D) (ci := 4) (v := .ref g4) (C := RX4) (T := TX4) (N := 10) hx hb hts (fun _ h9 => List.mem_cons_of_mem _ (List.mem_append_left _ (List.mem_append_right _ h9))) hown hK hP 0 rfl rfl 3 (by decide) (hts (.fieldLink RX4 21 "FontRuns$Setting" "chosen" "[I") mw_X4_choose_2) (fun _ h9 => h9) rfl dX4_choose_25 ?_
      refine lv_iload_n hx hb dX4_choose_28 rfl (lv_at hl 0 rfl) ?_
      refine lv_iconst (v := zI 1) hx hb dX4_choose_29 rfl ?_
      refine kz_isub hx hb dX4_choose_30 ?_
      refine kz_iald hx hb hK hP 1 0 rfl rfl (by omega) dX4_choose_31 (fun z_3 rz_3 ez_3 => ?_)
      refine lv_istore_n (lv' := [(3, .int (zI z_3)), (2, .int (zI jk)), (0, .ref h0), (1, .ref pf)]) hx hb dX4_choose_32 rfl hl (by decide) rfl (fun ls hl => ?_)
      refine lv_aload_n hx hb dX4_choose_33 rfl (lv_at hl 2 rfl) ?_
      refine va_get (D := D) (ci := 4) (v := .ref g4) (C := RX4) (T := TX4) (N := 10) hx hb hts (fun _ h9 => List.mem_cons_of_mem _ (List.mem_append_left _ (List.mem_append_right _ h9))) hown hK hP 0 rfl rfl 3 (by decide) (hts (.fieldLink RX4 21 "FontRuns$Setting" "chosen" "[I") mw_X4_choose_2) (fun _ h9 => h9) rfl dX4_choose_34 ?_
      refine lv_iload_n hx hb dX4_choose_37 rfl (lv_at hl 1 rfl) ?_
      refine lv_aload_n hx hb dX4_choose_38 rfl (lv_at hl 2 rfl) ?_
      refine lv_iload_n hx hb dX4_choose_39 rfl (lv_at hl 1 rfl) ?_
      refine lv_iload_n hx hb dX4_choose_40 rfl (lv_at hl 0 rfl) ?_
      refine lv_aload_n hx hb dX4_choose_41 rfl (lv_at hl 3 rfl) ?_
      refine k_callP (va_runV (As := [.int (zI jk), .int (zI z_3), .ref pf]) (rest := [.int (zI jk), .ref g4]) ⟨hx, hb, hml, hown, hts⟩ (c_X4_firstOfBest l D H.size (k := jk) (be := z_3) (pf := pf) (h0 := h0) (g1 := g1) (g2 := g2) (g3 := g3) (g4 := g4) (g5 := g5) (cn := cn) (bo := bo) (ru := jr) (g6 := g6) (g7 := g7) (cg7 := cg7) (fo := fo) (o := o) (p1 := p1) (pn := pn) (cp1 := cp1) (fp := fp) (pr := pr) (gp := gp) (cy := cy) (by omega) (by omega) q1 q2 q3 q4) (cwV 3 hts gX4_choose_X4_firstOfBest rfl rfl rfl (by decide +kernel) ⟨Nat.le_of_ble_eq_true rfl, Nat.le_of_ble_eq_true rfl⟩) (kPreVP hP (kD0 hD) hK hN [0, 3, 4, 5] [2, 3, 4] ax_X4_choose_1 rfl (by decide +kernel) 0 4 rfl rfl) rfl rfl hl.1 rfl (lv_room (Nat.le_of_ble_eq_true rfl)) dX4_choose_42 ⟨Nat.le_of_ble_eq_true rfl, Nat.le_of_ble_eq_true rfl⟩) (fun z_4 rz_4 h_5 => ?_)
      refine kz_iast hx hb hK hP hD hS 1 0 rfl rfl (by omega) dX4_choose_45 (fun H locs hP hD hS => ?_)
      have hP : va_P D vwCl (([(h0, .inr (4, [.ref g1, .ref g2, .ref g3, .ref g4, .ref g5, .int (zI cn), .int (zI bo), .int (zI jr), .ref g6, .ref g7])), (g4, .inl (cg4, 24, .inl (upd ja (jk).toNat (zI z_4)))), (g5, .inl (cg5, 24, .inl jb)), (g7, .inl (cg7, 24, .inr (.inr (.inr (.inr (fo)))))), (pf, .inr (1, [.ref p1, .int (zI pn)])), (p1, .inl (cp1, 4, .inl fp))] : va_W) ++ kRows pr gp cy) H := hP
      have hD : va_D A (([(h0, .inr (4, [.ref g1, .ref g2, .ref g3, .ref g4, .ref g5, .int (zI cn), .int (zI bo), .int (zI jr), .ref g6, .ref g7])), (g4, .inl (cg4, 24, .inl (upd ja (jk).toNat (zI z_4)))), (g5, .inl (cg5, 24, .inl jb)), (g7, .inl (cg7, 24, .inr (.inr (.inr (.inr (fo)))))), (pf, .inr (1, [.ref p1, .int (zI pn)])), (p1, .inl (cp1, 4, .inl fp))] : va_W) ++ kRows pr gp cy) := hD
      generalize ef_6 : upd ja (jk).toNat (zI z_4) = f_6 at hP hD
      refine lv_aload_n hx hb dX4_choose_46 rfl (lv_at hl 2 rfl) ?_
      refine va_get (D := D) (ci := 4) (v := .ref g4) (C := RX4) (T := TX4) (N := 10) hx hb hts (fun _ h9 => List.mem_cons_of_mem _ (List.mem_append_left _ (List.mem_append_right _ h9))) hown hK hP 0 rfl rfl 3 (by decide) (hts (.fieldLink RX4 21 "FontRuns$Setting" "chosen" "[I") mw_X4_choose_2) (fun _ h9 => h9) rfl dX4_choose_47 ?_
      refine lv_iload_n hx hb dX4_choose_50 rfl (lv_at hl 1 rfl) ?_
      refine kz_iald hx hb hK hP 1 0 rfl rfl (by omega) dX4_choose_51 (fun z_7 rz_7 ez_7 => ?_)
      refine lv_iload_n hx hb dX4_choose_52 rfl (lv_at hl 0 rfl) ?_
      refine kz_icmp_eq (tgt := 66) hx hb dX4_choose_53 (by decide) (by omega) (by omega) (fun c_8 => ?_) (fun c_8 => ?_)
      · refine lv_aload_n hx hb dX4_choose_66 rfl (lv_at hl 2 rfl) ?_
        refine va_get (D := D) (ci := 4) (v := .ref g5) (C := RX4) (T := TX4) (N := 10) hx hb hts (fun _ h9 => List.mem_cons_of_mem _ (List.mem_append_left _ (List.mem_append_right _ h9))) hown hK hP 0 rfl rfl 4 (by decide) (hts (.fieldLink RX4 24 "FontRuns$Setting" "runOf" "[I") mw_X4_choose_3) (fun _ h9 => h9) rfl dX4_choose_67 ?_
        refine lv_iload_n hx hb dX4_choose_70 rfl (lv_at hl 1 rfl) ?_
        refine lv_aload_n hx hb dX4_choose_71 rfl (lv_at hl 2 rfl) ?_
        refine va_get (D := D) (ci := 4) (v := .int (zI jr)) (C := RX4) (T := TX4) (N := 10) hx hb hts (fun _ h9 => List.mem_cons_of_mem _ (List.mem_append_left _ (List.mem_append_right _ h9))) hown hK hP 0 rfl rfl 7 (by decide) (hts (.fieldLink RX4 59 "FontRuns$Setting" "runs" "I") mw_X4_choose_0) (fun _ h9 => h9) rfl dX4_choose_72 ?_
        refine lv_iconst (v := zI 1) hx hb dX4_choose_75 rfl ?_
        refine kz_isub hx hb dX4_choose_76 ?_
        refine kz_iast hx hb hK hP hD hS 2 1 rfl rfl (by omega) dX4_choose_77 (fun H locs hP hD hS => ?_)
        have hP : va_P D vwCl (([(h0, .inr (4, [.ref g1, .ref g2, .ref g3, .ref g4, .ref g5, .int (zI cn), .int (zI bo), .int (zI jr), .ref g6, .ref g7])), (g4, .inl (cg4, 24, .inl f_6)), (g5, .inl (cg5, 24, .inl (upd jb (jk).toNat (zI (jr - 1))))), (g7, .inl (cg7, 24, .inr (.inr (.inr (.inr (fo)))))), (pf, .inr (1, [.ref p1, .int (zI pn)])), (p1, .inl (cp1, 4, .inl fp))] : va_W) ++ kRows pr gp cy) H := hP
        have hD : va_D A (([(h0, .inr (4, [.ref g1, .ref g2, .ref g3, .ref g4, .ref g5, .int (zI cn), .int (zI bo), .int (zI jr), .ref g6, .ref g7])), (g4, .inl (cg4, 24, .inl f_6)), (g5, .inl (cg5, 24, .inl (upd jb (jk).toNat (zI (jr - 1))))), (g7, .inl (cg7, 24, .inr (.inr (.inr (.inr (fo)))))), (pf, .inr (1, [.ref p1, .int (zI pn)])), (p1, .inl (cp1, 4, .inl fp))] : va_W) ++ kRows pr gp cy) := hD
        generalize ef_9 : upd jb (jk).toNat (zI (jr - 1)) = f_9 at hP hD
        refine lv_iinc (v := (zI (jk + 1))) (lv' := [(2, .int (zI (jk + 1))), (3, .int (zI z_3)), (0, .ref h0), (1, .ref pf)]) hx hb dX4_choose_78 hl (k := 1) rfl (kz_inc _ 1) (by decide) rfl (fun ls hl => ?_)
        refine lv_goto (tgt := 7) hx hb dX4_choose_81 (by decide) ?_
        exact ih7 _ (by omega) _ _ _ ⟨(jk + 1), jr, f_6, f_9, rfl, (by omega), (by omega), hP, hD, hS, lv_sub hl [0, 2, 3] rfl⟩
      · refine lv_aload_n hx hb dX4_choose_56 rfl (lv_at hl 2 rfl) ?_
        refine lv_dup hx hb dX4_choose_57 rfl ?_
        refine va_get (D := D) (ci := 4) (v := .int (zI jr)) (C := RX4) (T := TX4) (N := 10) hx hb hts (fun _ h9 => List.mem_cons_of_mem _ (List.mem_append_left _ (List.mem_append_right _ h9))) hown hK hP 0 rfl rfl 7 (by decide) (hts (.fieldLink RX4 59 "FontRuns$Setting" "runs" "I") mw_X4_choose_0) (fun _ h9 => h9) rfl dX4_choose_58 ?_
        refine lv_iconst (v := zI 1) hx hb dX4_choose_61 rfl ?_
        refine kz_iadd hx hb dX4_choose_62 ?_
        refine va_put (D := D) (ci := 4) (v := .int (zI (jr + 1))) (ty := .int) (C := RX4) (T := TX4) (N := 10) hx hb hts (fun _ h9 => List.mem_cons_of_mem _ (List.mem_append_left _ (List.mem_append_right _ h9))) tyX4 tyX4_ok nmX4 hown hK hP hD hS 0 rfl rfl 7 (by decide) (hts (.fieldLink RX4 59 "FontRuns$Setting" "runs" "I") mw_X4_choose_0) (fun _ h9 => h9) rfl (by decide +kernel) rfl rfl (Nat.le_of_ble_eq_true rfl) dX4_choose_63 (fun H locs hP hD hS => ?_)
        have hP : va_P D vwCl (([(h0, .inr (4, [.ref g1, .ref g2, .ref g3, .ref g4, .ref g5, .int (zI cn), .int (zI bo), .int (zI (jr + 1)), .ref g6, .ref g7])), (g4, .inl (cg4, 24, .inl f_6)), (g5, .inl (cg5, 24, .inl jb)), (g7, .inl (cg7, 24, .inr (.inr (.inr (.inr (fo)))))), (pf, .inr (1, [.ref p1, .int (zI pn)])), (p1, .inl (cp1, 4, .inl fp))] : va_W) ++ kRows pr gp cy) H := hP
        have hD : va_D A (([(h0, .inr (4, [.ref g1, .ref g2, .ref g3, .ref g4, .ref g5, .int (zI cn), .int (zI bo), .int (zI (jr + 1)), .ref g6, .ref g7])), (g4, .inl (cg4, 24, .inl f_6)), (g5, .inl (cg5, 24, .inl jb)), (g7, .inl (cg7, 24, .inr (.inr (.inr (.inr (fo)))))), (pf, .inr (1, [.ref p1, .int (zI pn)])), (p1, .inl (cp1, 4, .inl fp))] : va_W) ++ kRows pr gp cy) := hD
        refine lv_aload_n hx hb dX4_choose_66 rfl (lv_at hl 2 rfl) ?_
        refine va_get (D := D) (ci := 4) (v := .ref g5) (C := RX4) (T := TX4) (N := 10) hx hb hts (fun _ h9 => List.mem_cons_of_mem _ (List.mem_append_left _ (List.mem_append_right _ h9))) hown hK hP 0 rfl rfl 4 (by decide) (hts (.fieldLink RX4 24 "FontRuns$Setting" "runOf" "[I") mw_X4_choose_3) (fun _ h9 => h9) rfl dX4_choose_67 ?_
        refine lv_iload_n hx hb dX4_choose_70 rfl (lv_at hl 1 rfl) ?_
        refine lv_aload_n hx hb dX4_choose_71 rfl (lv_at hl 2 rfl) ?_
        refine va_get (D := D) (ci := 4) (v := .int (zI (jr + 1))) (C := RX4) (T := TX4) (N := 10) hx hb hts (fun _ h9 => List.mem_cons_of_mem _ (List.mem_append_left _ (List.mem_append_right _ h9))) hown hK hP 0 rfl rfl 7 (by decide) (hts (.fieldLink RX4 59 "FontRuns$Setting" "runs" "I") mw_X4_choose_0) (fun _ h9 => h9) rfl dX4_choose_72 ?_
        refine lv_iconst (v := zI 1) hx hb dX4_choose_75 rfl ?_
        refine kz_isub hx hb dX4_choose_76 ?_
        refine kz_iast hx hb hK hP hD hS 2 1 rfl rfl (by omega) dX4_choose_77 (fun H locs hP hD hS => ?_)
        have hP : va_P D vwCl (([(h0, .inr (4, [.ref g1, .ref g2, .ref g3, .ref g4, .ref g5, .int (zI cn), .int (zI bo), .int (zI (jr + 1)), .ref g6, .ref g7])), (g4, .inl (cg4, 24, .inl f_6)), (g5, .inl (cg5, 24, .inl (upd jb (jk).toNat (zI ((jr + 1) - 1))))), (g7, .inl (cg7, 24, .inr (.inr (.inr (.inr (fo)))))), (pf, .inr (1, [.ref p1, .int (zI pn)])), (p1, .inl (cp1, 4, .inl fp))] : va_W) ++ kRows pr gp cy) H := hP
        have hD : va_D A (([(h0, .inr (4, [.ref g1, .ref g2, .ref g3, .ref g4, .ref g5, .int (zI cn), .int (zI bo), .int (zI (jr + 1)), .ref g6, .ref g7])), (g4, .inl (cg4, 24, .inl f_6)), (g5, .inl (cg5, 24, .inl (upd jb (jk).toNat (zI ((jr + 1) - 1))))), (g7, .inl (cg7, 24, .inr (.inr (.inr (.inr (fo)))))), (pf, .inr (1, [.ref p1, .int (zI pn)])), (p1, .inl (cp1, 4, .inl fp))] : va_W) ++ kRows pr gp cy) := hD
        generalize ef_10 : upd jb (jk).toNat (zI ((jr + 1) - 1)) = f_10 at hP hD
        refine lv_iinc (v := (zI (jk + 1))) (lv' := [(2, .int (zI (jk + 1))), (3, .int (zI z_3)), (0, .ref h0), (1, .ref pf)]) hx hb dX4_choose_78 hl (k := 1) rfl (kz_inc _ 1) (by decide) rfl (fun ls hl => ?_)
        refine lv_goto (tgt := 7) hx hb dX4_choose_81 (by decide) ?_
        exact ih7 _ (by omega) _ _ _ ⟨(jk + 1), (jr + 1), f_6, f_10, rfl, (by omega), (by omega), hP, hD, hS, lv_sub hl [0, 2, 3] rfl⟩
    · refine lv_bipush (v := zI (-9)) hx hb dX4_choose_19 (by decide) ?_
      refine lv_goto (tgt := 32) hx hb dX4_choose_21 (by decide) ?_
      refine lv_istore_n (lv' := [(3, .int (zI (-9))), (2, .int (zI jk)), (0, .ref h0), (1, .ref pf)]) hx hb dX4_choose_32 rfl hl (by decide) rfl (fun ls hl => ?_)
      refine lv_aload_n hx hb dX4_choose_33 rfl (lv_at hl 2 rfl) ?_
      refine va_get (D := D) (ci := 4) (v := .ref g4) (C := RX4) (T := TX4) (N := 10) hx hb hts (fun _ h9 => List.mem_cons_of_mem _ (List.mem_append_left _ (List.mem_append_right _ h9))) hown hK hP 0 rfl rfl 3 (by decide) (hts (.fieldLink RX4 21 "FontRuns$Setting" "chosen" "[I") mw_X4_choose_2) (fun _ h9 => h9) rfl dX4_choose_34 ?_
      refine lv_iload_n hx hb dX4_choose_37 rfl (lv_at hl 1 rfl) ?_
      refine lv_aload_n hx hb dX4_choose_38 rfl (lv_at hl 2 rfl) ?_
      refine lv_iload_n hx hb dX4_choose_39 rfl (lv_at hl 1 rfl) ?_
      refine lv_iload_n hx hb dX4_choose_40 rfl (lv_at hl 0 rfl) ?_
      refine lv_aload_n hx hb dX4_choose_41 rfl (lv_at hl 3 rfl) ?_
      refine k_callP (va_runV (As := [.int (zI jk), .int (zI (-9)), .ref pf]) (rest := [.int (zI jk), .ref g4]) ⟨hx, hb, hml, hown, hts⟩ (c_X4_firstOfBest l D H.size (k := jk) (be := (-9)) (pf := pf) (h0 := h0) (g1 := g1) (g2 := g2) (g3 := g3) (g4 := g4) (g5 := g5) (cn := cn) (bo := bo) (ru := jr) (g6 := g6) (g7 := g7) (cg7 := cg7) (fo := fo) (o := o) (p1 := p1) (pn := pn) (cp1 := cp1) (fp := fp) (pr := pr) (gp := gp) (cy := cy) (by omega) (by omega) q1 q2 q3 q4) (cwV 3 hts gX4_choose_X4_firstOfBest rfl rfl rfl (by decide +kernel) ⟨Nat.le_of_ble_eq_true rfl, Nat.le_of_ble_eq_true rfl⟩) (kPreVP hP (kD0 hD) hK hN [0, 3, 4, 5] [2, 3, 4] ax_X4_choose_1 rfl (by decide +kernel) 0 4 rfl rfl) rfl rfl hl.1 rfl (lv_room (Nat.le_of_ble_eq_true rfl)) dX4_choose_42 ⟨Nat.le_of_ble_eq_true rfl, Nat.le_of_ble_eq_true rfl⟩) (fun z_11 rz_11 h_12 => ?_)
      refine kz_iast hx hb hK hP hD hS 1 0 rfl rfl (by omega) dX4_choose_45 (fun H locs hP hD hS => ?_)
      have hP : va_P D vwCl (([(h0, .inr (4, [.ref g1, .ref g2, .ref g3, .ref g4, .ref g5, .int (zI cn), .int (zI bo), .int (zI jr), .ref g6, .ref g7])), (g4, .inl (cg4, 24, .inl (upd ja (jk).toNat (zI z_11)))), (g5, .inl (cg5, 24, .inl jb)), (g7, .inl (cg7, 24, .inr (.inr (.inr (.inr (fo)))))), (pf, .inr (1, [.ref p1, .int (zI pn)])), (p1, .inl (cp1, 4, .inl fp))] : va_W) ++ kRows pr gp cy) H := hP
      have hD : va_D A (([(h0, .inr (4, [.ref g1, .ref g2, .ref g3, .ref g4, .ref g5, .int (zI cn), .int (zI bo), .int (zI jr), .ref g6, .ref g7])), (g4, .inl (cg4, 24, .inl (upd ja (jk).toNat (zI z_11)))), (g5, .inl (cg5, 24, .inl jb)), (g7, .inl (cg7, 24, .inr (.inr (.inr (.inr (fo)))))), (pf, .inr (1, [.ref p1, .int (zI pn)])), (p1, .inl (cp1, 4, .inl fp))] : va_W) ++ kRows pr gp cy) := hD
      generalize ef_13 : upd ja (jk).toNat (zI z_11) = f_13 at hP hD
      refine lv_aload_n hx hb dX4_choose_46 rfl (lv_at hl 2 rfl) ?_
      refine va_get (D := D) (ci := 4) (v := .ref g4) (C := RX4) (T := TX4) (N := 10) hx hb hts (fun _ h9 => List.mem_cons_of_mem _ (List.mem_append_left _ (List.mem_append_right _ h9))) hown hK hP 0 rfl rfl 3 (by decide) (hts (.fieldLink RX4 21 "FontRuns$Setting" "chosen" "[I") mw_X4_choose_2) (fun _ h9 => h9) rfl dX4_choose_47 ?_
      refine lv_iload_n hx hb dX4_choose_50 rfl (lv_at hl 1 rfl) ?_
      refine kz_iald hx hb hK hP 1 0 rfl rfl (by omega) dX4_choose_51 (fun z_14 rz_14 ez_14 => ?_)
      refine lv_iload_n hx hb dX4_choose_52 rfl (lv_at hl 0 rfl) ?_
      refine kz_icmp_eq (tgt := 66) hx hb dX4_choose_53 (by decide) (by omega) (by omega) (fun c_15 => ?_) (fun c_15 => ?_)
      · refine lv_aload_n hx hb dX4_choose_66 rfl (lv_at hl 2 rfl) ?_
        refine va_get (D := D) (ci := 4) (v := .ref g5) (C := RX4) (T := TX4) (N := 10) hx hb hts (fun _ h9 => List.mem_cons_of_mem _ (List.mem_append_left _ (List.mem_append_right _ h9))) hown hK hP 0 rfl rfl 4 (by decide) (hts (.fieldLink RX4 24 "FontRuns$Setting" "runOf" "[I") mw_X4_choose_3) (fun _ h9 => h9) rfl dX4_choose_67 ?_
        refine lv_iload_n hx hb dX4_choose_70 rfl (lv_at hl 1 rfl) ?_
        refine lv_aload_n hx hb dX4_choose_71 rfl (lv_at hl 2 rfl) ?_
        refine va_get (D := D) (ci := 4) (v := .int (zI jr)) (C := RX4) (T := TX4) (N := 10) hx hb hts (fun _ h9 => List.mem_cons_of_mem _ (List.mem_append_left _ (List.mem_append_right _ h9))) hown hK hP 0 rfl rfl 7 (by decide) (hts (.fieldLink RX4 59 "FontRuns$Setting" "runs" "I") mw_X4_choose_0) (fun _ h9 => h9) rfl dX4_choose_72 ?_
        refine lv_iconst (v := zI 1) hx hb dX4_choose_75 rfl ?_
        refine kz_isub hx hb dX4_choose_76 ?_
        refine kz_iast hx hb hK hP hD hS 2 1 rfl rfl (by omega) dX4_choose_77 (fun H locs hP hD hS => ?_)
        have hP : va_P D vwCl (([(h0, .inr (4, [.ref g1, .ref g2, .ref g3, .ref g4, .ref g5, .int (zI cn), .int (zI bo), .int (zI jr), .ref g6, .ref g7])), (g4, .inl (cg4, 24, .inl f_13)), (g5, .inl (cg5, 24, .inl (upd jb (jk).toNat (zI (jr - 1))))), (g7, .inl (cg7, 24, .inr (.inr (.inr (.inr (fo)))))), (pf, .inr (1, [.ref p1, .int (zI pn)])), (p1, .inl (cp1, 4, .inl fp))] : va_W) ++ kRows pr gp cy) H := hP
        have hD : va_D A (([(h0, .inr (4, [.ref g1, .ref g2, .ref g3, .ref g4, .ref g5, .int (zI cn), .int (zI bo), .int (zI jr), .ref g6, .ref g7])), (g4, .inl (cg4, 24, .inl f_13)), (g5, .inl (cg5, 24, .inl (upd jb (jk).toNat (zI (jr - 1))))), (g7, .inl (cg7, 24, .inr (.inr (.inr (.inr (fo)))))), (pf, .inr (1, [.ref p1, .int (zI pn)])), (p1, .inl (cp1, 4, .inl fp))] : va_W) ++ kRows pr gp cy) := hD
        generalize ef_16 : upd jb (jk).toNat (zI (jr - 1)) = f_16 at hP hD
        refine lv_iinc (v := (zI (jk + 1))) (lv' := [(2, .int (zI (jk + 1))), (3, .int (zI (-9))), (0, .ref h0), (1, .ref pf)]) hx hb dX4_choose_78 hl (k := 1) rfl (kz_inc _ 1) (by decide) rfl (fun ls hl => ?_)
        refine lv_goto (tgt := 7) hx hb dX4_choose_81 (by decide) ?_
        exact ih7 _ (by omega) _ _ _ ⟨(jk + 1), jr, f_13, f_16, rfl, (by omega), (by omega), hP, hD, hS, lv_sub hl [0, 2, 3] rfl⟩
      · refine lv_aload_n hx hb dX4_choose_56 rfl (lv_at hl 2 rfl) ?_
        refine lv_dup hx hb dX4_choose_57 rfl ?_
        refine va_get (D := D) (ci := 4) (v := .int (zI jr)) (C := RX4) (T := TX4) (N := 10) hx hb hts (fun _ h9 => List.mem_cons_of_mem _ (List.mem_append_left _ (List.mem_append_right _ h9))) hown hK hP 0 rfl rfl 7 (by decide) (hts (.fieldLink RX4 59 "FontRuns$Setting" "runs" "I") mw_X4_choose_0) (fun _ h9 => h9) rfl dX4_choose_58 ?_
        refine lv_iconst (v := zI 1) hx hb dX4_choose_61 rfl ?_
        refine kz_iadd hx hb dX4_choose_62 ?_
        refine va_put (D := D) (ci := 4) (v := .int (zI (jr + 1))) (ty := .int) (C := RX4) (T := TX4) (N := 10) hx hb hts (fun _ h9 => List.mem_cons_of_mem _ (List.mem_append_left _ (List.mem_append_right _ h9))) tyX4 tyX4_ok nmX4 hown hK hP hD hS 0 rfl rfl 7 (by decide) (hts (.fieldLink RX4 59 "FontRuns$Setting" "runs" "I") mw_X4_choose_0) (fun _ h9 => h9) rfl (by decide +kernel) rfl rfl (Nat.le_of_ble_eq_true rfl) dX4_choose_63 (fun H locs hP hD hS => ?_)
        have hP : va_P D vwCl (([(h0, .inr (4, [.ref g1, .ref g2, .ref g3, .ref g4, .ref g5, .int (zI cn), .int (zI bo), .int (zI (jr + 1)), .ref g6, .ref g7])), (g4, .inl (cg4, 24, .inl f_13)), (g5, .inl (cg5, 24, .inl jb)), (g7, .inl (cg7, 24, .inr (.inr (.inr (.inr (fo)))))), (pf, .inr (1, [.ref p1, .int (zI pn)])), (p1, .inl (cp1, 4, .inl fp))] : va_W) ++ kRows pr gp cy) H := hP
        have hD : va_D A (([(h0, .inr (4, [.ref g1, .ref g2, .ref g3, .ref g4, .ref g5, .int (zI cn), .int (zI bo), .int (zI (jr + 1)), .ref g6, .ref g7])), (g4, .inl (cg4, 24, .inl f_13)), (g5, .inl (cg5, 24, .inl jb)), (g7, .inl (cg7, 24, .inr (.inr (.inr (.inr (fo)))))), (pf, .inr (1, [.ref p1, .int (zI pn)])), (p1, .inl (cp1, 4, .inl fp))] : va_W) ++ kRows pr gp cy) := hD
        refine lv_aload_n hx hb dX4_choose_66 rfl (lv_at hl 2 rfl) ?_
        refine va_get (D := D) (ci := 4) (v := .ref g5) (C := RX4) (T := TX4) (N := 10) hx hb hts (fun _ h9 => List.mem_cons_of_mem _ (List.mem_append_left _ (List.mem_append_right _ h9))) hown hK hP 0 rfl rfl 4 (by decide) (hts (.fieldLink RX4 24 "FontRuns$Setting" "runOf" "[I") mw_X4_choose_3) (fun _ h9 => h9) rfl dX4_choose_67 ?_
        refine lv_iload_n hx hb dX4_choose_70 rfl (lv_at hl 1 rfl) ?_
        refine lv_aload_n hx hb dX4_choose_71 rfl (lv_at hl 2 rfl) ?_
        refine va_get (D := D) (ci := 4) (v := .int (zI (jr + 1))) (C := RX4) (T := TX4) (N := 10) hx hb hts (fun _ h9 => List.mem_cons_of_mem _ (List.mem_append_left _ (List.mem_append_right _ h9))) hown hK hP 0 rfl rfl 7 (by decide) (hts (.fieldLink RX4 59 "FontRuns$Setting" "runs" "I") mw_X4_choose_0) (fun _ h9 => h9) rfl dX4_choose_72 ?_
        refine lv_iconst (v := zI 1) hx hb dX4_choose_75 rfl ?_
        refine kz_isub hx hb dX4_choose_76 ?_
        refine kz_iast hx hb hK hP hD hS 2 1 rfl rfl (by omega) dX4_choose_77 (fun H locs hP hD hS => ?_)
        have hP : va_P D vwCl (([(h0, .inr (4, [.ref g1, .ref g2, .ref g3, .ref g4, .ref g5, .int (zI cn), .int (zI bo), .int (zI (jr + 1)), .ref g6, .ref g7])), (g4, .inl (cg4, 24, .inl f_13)), (g5, .inl (cg5, 24, .inl (upd jb (jk).toNat (zI ((jr + 1) - 1))))), (g7, .inl (cg7, 24, .inr (.inr (.inr (.inr (fo)))))), (pf, .inr (1, [.ref p1, .int (zI pn)])), (p1, .inl (cp1, 4, .inl fp))] : va_W) ++ kRows pr gp cy) H := hP
        have hD : va_D A (([(h0, .inr (4, [.ref g1, .ref g2, .ref g3, .ref g4, .ref g5, .int (zI cn), .int (zI bo), .int (zI (jr + 1)), .ref g6, .ref g7])), (g4, .inl (cg4, 24, .inl f_13)), (g5, .inl (cg5, 24, .inl (upd jb (jk).toNat (zI ((jr + 1) - 1))))), (g7, .inl (cg7, 24, .inr (.inr (.inr (.inr (fo)))))), (pf, .inr (1, [.ref p1, .int (zI pn)])), (p1, .inl (cp1, 4, .inl fp))] : va_W) ++ kRows pr gp cy) := hD
        generalize ef_17 : upd jb (jk).toNat (zI ((jr + 1) - 1)) = f_17 at hP hD
        refine lv_iinc (v := (zI (jk + 1))) (lv' := [(2, .int (zI (jk + 1))), (3, .int (zI (-9))), (0, .ref h0), (1, .ref pf)]) hx hb dX4_choose_78 hl (k := 1) rfl (kz_inc _ 1) (by decide) rfl (fun ls hl => ?_)
        refine lv_goto (tgt := 7) hx hb dX4_choose_81 (by decide) ?_
        exact ih7 _ (by omega) _ _ _ ⟨(jk + 1), (jr + 1), f_13, f_17, rfl, (by omega), (by omega), hP, hD, hS, lv_sub hl [0, 2, 3] rfl⟩
theorem dX4_make_0 : decode cX4_make 0 = .ok (.aload_n 0, 1) := kqo_2a kbl_X4_make (pc := 0) rfl
theorem dX4_make_1 : decode cX4_make 1 = .ok (.aload_n 1, 1) := kqo_2b kbl_X4_make (pc := 1) rfl
theorem dX4_make_2 : decode cX4_make 2 = .ok (.invokevirtual 35, 3) := kqo_b6 (x1 := 0) (x2 := 35) kbl_X4_make (pc := 2) rfl rfl
theorem dX4_make_5 : decode cX4_make 5 = .ok (.aload_n 0, 1) := kqo_2a kbl_X4_make (pc := 5) rfl
theorem dX4_make_6 : decode cX4_make 6 = .ok (.aload_n 2, 1) := kqo_2c kbl_X4_make (pc := 6) rfl
theorem dX4_make_7 : decode cX4_make 7 = .ok (.iload 4, 2) := kqo_15 (x1 := 4) kbl_X4_make (pc := 7) rfl rfl
theorem dX4_make_9 : decode cX4_make 9 = .ok (.invokevirtual 39, 3) := kqo_b6 (x1 := 0) (x2 := 39) kbl_X4_make (pc := 9) rfl rfl
theorem dX4_make_12 : decode cX4_make 12 = .ok (.aload_n 0, 1) := kqo_2a kbl_X4_make (pc := 12) rfl
theorem dX4_make_13 : decode cX4_make 13 = .ok (.iload 4, 2) := kqo_15 (x1 := 4) kbl_X4_make (pc := 13) rfl rfl
theorem dX4_make_15 : decode cX4_make 15 = .ok (.invokevirtual 43, 3) := kqo_b6 (x1 := 0) (x2 := 43) kbl_X4_make (pc := 15) rfl rfl
theorem dX4_make_18 : decode cX4_make 18 = .ok (.aload_n 0, 1) := kqo_2a kbl_X4_make (pc := 18) rfl
theorem dX4_make_19 : decode cX4_make 19 = .ok (.aload_n 3, 1) := kqo_2d kbl_X4_make (pc := 19) rfl
theorem dX4_make_20 : decode cX4_make 20 = .ok (.invokevirtual 47, 3) := kqo_b6 (x1 := 0) (x2 := 47) kbl_X4_make (pc := 20) rfl rfl
theorem dX4_make_23 : decode cX4_make 23 = .ok (.return_, 1) := kqo_b1 kbl_X4_make (pc := 23) rfl
set_option maxRecDepth 20000 in
theorem ggX4_make_X4_choose : GoodIn wsX4_make wsX4_choose := goodIn_4 _ (List.forall_mem_cons.mpr ⟨List.mem_cons_of_mem _ (List.mem_append_left _ (List.mem_append_left _ (List.mem_append_left _ (List.mem_append_left _ (List.mem_append_right _ (List.mem_of_getElem? (i := 12) rfl)))))), List.forall_mem_append.mpr ⟨List.forall_mem_append.mpr ⟨List.forall_mem_cons.mpr ⟨List.mem_cons_of_mem _ (List.mem_append_left _ (List.mem_append_left _ (List.mem_append_left _ (List.mem_append_left _ (List.mem_append_right _ (List.mem_of_getElem? (i := 13) rfl)))))), List.forall_mem_cons.mpr ⟨List.mem_cons_of_mem _ (List.mem_append_left _ (List.mem_append_left _ (List.mem_append_left _ (List.mem_append_left _ (List.mem_append_left _ (List.mem_of_getElem? (i := 5) rfl)))))), List.forall_mem_cons.mpr ⟨List.mem_cons_of_mem _ (List.mem_append_left _ (List.mem_append_left _ (List.mem_append_left _ (List.mem_append_left _ (List.mem_append_right _ (List.mem_of_getElem? (i := 14) rfl)))))), List.forall_mem_cons.mpr ⟨List.mem_cons_of_mem _ (List.mem_append_left _ (List.mem_append_left _ (List.mem_append_left _ (List.mem_append_left _ (List.mem_append_right _ (List.mem_of_getElem? (i := 15) rfl)))))), List.forall_mem_cons.mpr ⟨List.mem_cons_of_mem _ (List.mem_append_left _ (List.mem_append_left _ (List.mem_append_left _ (List.mem_append_left _ (List.mem_append_right _ (List.mem_of_getElem? (i := 16) rfl)))))), List.forall_mem_cons.mpr ⟨List.mem_cons_of_mem _ (List.mem_append_left _ (List.mem_append_left _ (List.mem_append_left _ (List.mem_append_left _ (List.mem_append_right _ (List.mem_of_getElem? (i := 17) rfl)))))), List.forall_mem_cons.mpr ⟨List.mem_cons_of_mem _ (List.mem_append_left _ (List.mem_append_left _ (List.mem_append_left _ (List.mem_append_left _ (List.mem_append_right _ (List.mem_of_getElem? (i := 18) rfl)))))), List.forall_mem_cons.mpr ⟨List.mem_cons_of_mem _ (List.mem_append_left _ (List.mem_append_left _ (List.mem_append_left _ (List.mem_append_left _ (List.mem_append_left _ (List.mem_of_getElem? (i := 3) rfl)))))), List.forall_mem_cons.mpr ⟨List.mem_cons_of_mem _ (List.mem_append_left _ (List.mem_append_left _ (List.mem_append_left _ (List.mem_append_left _ (List.mem_append_right _ (List.mem_of_getElem? (i := 19) rfl)))))), List.forall_mem_cons.mpr ⟨List.mem_cons_of_mem _ (List.mem_append_left _ (List.mem_append_left _ (List.mem_append_left _ (List.mem_append_left _ (List.mem_append_right _ (List.mem_of_getElem? (i := 20) rfl)))))), List.forall_mem_cons.mpr ⟨List.mem_cons_of_mem _ (List.mem_append_left _ (List.mem_append_left _ (List.mem_append_left _ (List.mem_append_left _ (List.mem_append_right _ (List.mem_of_getElem? (i := 21) rfl)))))), List.forall_mem_cons.mpr ⟨List.mem_cons_of_mem _ (List.mem_append_left _ (List.mem_append_left _ (List.mem_append_left _ (List.mem_append_left _ (List.mem_append_right _ (List.mem_of_getElem? (i := 4) rfl)))))), fun _ h9 => absurd h9 List.not_mem_nil⟩⟩⟩⟩⟩⟩⟩⟩⟩⟩⟩⟩, fun w h9 => List.mem_cons_of_mem _ (List.mem_append_left _ (List.mem_append_left _ (List.mem_append_left _ (List.mem_append_right _ (h9)))))⟩, fun w h9 => List.mem_cons_of_mem _ (List.mem_append_right _ (h9))⟩⟩) (by decide +kernel)
set_option maxRecDepth 20000 in
theorem gX4_make_X4_choose : GoodIn wsX4_make (wsV RX4 47 RX4 yX4_choose wsX4_choose) := goodIn_app (goodIn_4 _ (List.forall_mem_cons.mpr ⟨List.mem_cons_of_mem _ (List.mem_append_left _ (List.mem_append_left _ (List.mem_append_left _ (List.mem_append_left _ (List.mem_append_right _ (List.mem_of_getElem? (i := 9) rfl)))))), List.forall_mem_cons.mpr ⟨List.mem_cons_of_mem _ (List.mem_append_left _ (List.mem_append_left _ (List.mem_append_left _ (List.mem_append_left _ (List.mem_append_right _ (List.mem_of_getElem? (i := 10) rfl)))))), List.forall_mem_cons.mpr ⟨List.mem_cons_of_mem _ (List.mem_append_left _ (List.mem_append_left _ (List.mem_append_left _ (List.mem_append_left _ (List.mem_append_right _ (List.mem_of_getElem? (i := 11) rfl)))))), List.forall_mem_cons.mpr ⟨List.mem_cons_of_mem _ (List.mem_append_left _ (List.mem_append_left _ (List.mem_append_left _ (List.mem_append_left _ (List.mem_append_left _ (List.mem_of_getElem? (i := 3) rfl)))))), fun _ h9 => absurd h9 List.not_mem_nil⟩⟩⟩⟩) (by decide +kernel)) ggX4_make_X4_choose
set_option maxRecDepth 20000 in
theorem ggX4_make_X4_cut : GoodIn wsX4_make wsX4_cut := goodIn_4 _ (List.forall_mem_cons.mpr ⟨List.mem_cons_of_mem _ (List.mem_append_left _ (List.mem_append_left _ (List.mem_append_left _ (List.mem_append_left _ (List.mem_append_left _ (List.mem_of_getElem? (i := 4) rfl)))))), List.forall_mem_append.mpr ⟨List.forall_mem_append.mpr ⟨List.forall_mem_cons.mpr ⟨List.mem_cons_of_mem _ (List.mem_append_left _ (List.mem_append_left _ (List.mem_append_left _ (List.mem_append_left _ (List.mem_append_left _ (List.mem_of_getElem? (i := 5) rfl)))))), List.forall_mem_cons.mpr ⟨List.mem_cons_of_mem _ (List.mem_append_left _ (List.mem_append_left _ (List.mem_append_left _ (List.mem_append_left _ (List.mem_append_left _ (List.mem_of_getElem? (i := 6) rfl)))))), List.forall_mem_cons.mpr ⟨List.mem_cons_of_mem _ (List.mem_append_left _ (List.mem_append_left _ (List.mem_append_left _ (List.mem_append_left _ (List.mem_append_left _ (List.mem_of_getElem? (i := 7) rfl)))))), List.forall_mem_cons.mpr ⟨List.mem_cons_of_mem _ (List.mem_append_left _ (List.mem_append_left _ (List.mem_append_left _ (List.mem_append_left _ (List.mem_append_left _ (List.mem_of_getElem? (i := 8) rfl)))))), List.forall_mem_cons.mpr ⟨List.mem_cons_of_mem _ (List.mem_append_left _ (List.mem_append_left _ (List.mem_append_left _ (List.mem_append_left _ (List.mem_append_left _ (List.mem_of_getElem? (i := 9) rfl)))))), List.forall_mem_cons.mpr ⟨List.mem_cons_of_mem _ (List.mem_append_left _ (List.mem_append_left _ (List.mem_append_left _ (List.mem_append_left _ (List.mem_append_left _ (List.mem_of_getElem? (i := 10) rfl)))))), fun _ h9 => absurd h9 List.not_mem_nil⟩⟩⟩⟩⟩⟩, fun w h9 => List.mem_cons_of_mem _ (List.mem_append_left _ (List.mem_append_left _ (List.mem_append_left _ (List.mem_append_right _ (h9)))))⟩, fun w h9 => List.mem_cons_of_mem _ (List.mem_append_left _ (List.mem_append_left _ (List.mem_append_right _ (h9))))⟩⟩) (by decide +kernel)
set_option maxRecDepth 20000 in
theorem gX4_make_X4_cut : GoodIn wsX4_make (wsV RX4 35 RX4 yX4_cut wsX4_cut) := goodIn_app (goodIn_4 _ (List.forall_mem_cons.mpr ⟨List.mem_cons_of_mem _ (List.mem_append_left _ (List.mem_append_left _ (List.mem_append_left _ (List.mem_append_left _ (List.mem_append_left _ (List.mem_of_getElem? (i := 0) rfl)))))), List.forall_mem_cons.mpr ⟨List.mem_cons_of_mem _ (List.mem_append_left _ (List.mem_append_left _ (List.mem_append_left _ (List.mem_append_left _ (List.mem_append_left _ (List.mem_of_getElem? (i := 1) rfl)))))), List.forall_mem_cons.mpr ⟨List.mem_cons_of_mem _ (List.mem_append_left _ (List.mem_append_left _ (List.mem_append_left _ (List.mem_append_left _ (List.mem_append_left _ (List.mem_of_getElem? (i := 2) rfl)))))), List.forall_mem_cons.mpr ⟨List.mem_cons_of_mem _ (List.mem_append_left _ (List.mem_append_left _ (List.mem_append_left _ (List.mem_append_left _ (List.mem_append_left _ (List.mem_of_getElem? (i := 3) rfl)))))), fun _ h9 => absurd h9 List.not_mem_nil⟩⟩⟩⟩) (by decide +kernel)) ggX4_make_X4_cut
set_option maxRecDepth 20000 in
theorem ggX4_make_X4_findBehind : GoodIn wsX4_make wsX4_findBehind := goodIn_4 _ (List.forall_mem_cons.mpr ⟨List.mem_cons_of_mem _ (List.mem_append_left _ (List.mem_append_left _ (List.mem_append_left _ (List.mem_append_left _ (List.mem_append_right _ (List.mem_of_getElem? (i := 3) rfl)))))), List.forall_mem_append.mpr ⟨List.forall_mem_cons.mpr ⟨List.mem_cons_of_mem _ (List.mem_append_left _ (List.mem_append_left _ (List.mem_append_left _ (List.mem_append_left _ (List.mem_append_left _ (List.mem_of_getElem? (i := 5) rfl)))))), List.forall_mem_cons.mpr ⟨List.mem_cons_of_mem _ (List.mem_append_left _ (List.mem_append_left _ (List.mem_append_left _ (List.mem_append_left _ (List.mem_append_left _ (List.mem_of_getElem? (i := 16) rfl)))))), List.forall_mem_cons.mpr ⟨List.mem_cons_of_mem _ (List.mem_append_left _ (List.mem_append_left _ (List.mem_append_left _ (List.mem_append_left _ (List.mem_append_right _ (List.mem_of_getElem? (i := 4) rfl)))))), List.forall_mem_cons.mpr ⟨List.mem_cons_of_mem _ (List.mem_append_left _ (List.mem_append_left _ (List.mem_append_left _ (List.mem_append_left _ (List.mem_append_right _ (List.mem_of_getElem? (i := 5) rfl)))))), List.forall_mem_cons.mpr ⟨List.mem_cons_of_mem _ (List.mem_append_left _ (List.mem_append_left _ (List.mem_append_left _ (List.mem_append_left _ (List.mem_append_right _ (List.mem_of_getElem? (i := 6) rfl)))))), List.forall_mem_cons.mpr ⟨List.mem_cons_of_mem _ (List.mem_append_left _ (List.mem_append_left _ (List.mem_append_left _ (List.mem_append_left _ (List.mem_append_right _ (List.mem_of_getElem? (i := 7) rfl)))))), List.forall_mem_cons.mpr ⟨List.mem_cons_of_mem _ (List.mem_append_left _ (List.mem_append_left _ (List.mem_append_left _ (List.mem_append_left _ (List.mem_append_right _ (List.mem_of_getElem? (i := 8) rfl)))))), fun _ h9 => absurd h9 List.not_mem_nil⟩⟩⟩⟩⟩⟩⟩, fun w h9 => List.mem_cons_of_mem _ (List.mem_append_left _ (List.mem_append_left _ (List.mem_append_left _ (List.mem_append_right _ (h9)))))⟩⟩) (by decide +kernel)
set_option maxRecDepth 20000 in
theorem gX4_make_X4_findBehind : GoodIn wsX4_make (wsV RX4 43 RX4 yX4_findBehind wsX4_findBehind) := goodIn_app (goodIn_4 _ (List.forall_mem_cons.mpr ⟨List.mem_cons_of_mem _ (List.mem_append_left _ (List.mem_append_left _ (List.mem_append_left _ (List.mem_append_left _ (List.mem_append_right _ (List.mem_of_getElem? (i := 0) rfl)))))), List.forall_mem_cons.mpr ⟨List.mem_cons_of_mem _ (List.mem_append_left _ (List.mem_append_left _ (List.mem_append_left _ (List.mem_append_left _ (List.mem_append_right _ (List.mem_of_getElem? (i := 1) rfl)))))), List.forall_mem_cons.mpr ⟨List.mem_cons_of_mem _ (List.mem_append_left _ (List.mem_append_left _ (List.mem_append_left _ (List.mem_append_left _ (List.mem_append_right _ (List.mem_of_getElem? (i := 2) rfl)))))), List.forall_mem_cons.mpr ⟨List.mem_cons_of_mem _ (List.mem_append_left _ (List.mem_append_left _ (List.mem_append_left _ (List.mem_append_left _ (List.mem_append_left _ (List.mem_of_getElem? (i := 3) rfl)))))), fun _ h9 => absurd h9 List.not_mem_nil⟩⟩⟩⟩) (by decide +kernel)) ggX4_make_X4_findBehind
set_option maxRecDepth 20000 in
theorem ggX4_make_X4_findFitting : GoodIn wsX4_make wsX4_findFitting := goodIn_4 _ (List.forall_mem_cons.mpr ⟨List.mem_cons_of_mem _ (List.mem_append_left _ (List.mem_append_left _ (List.mem_append_left _ (List.mem_append_left _ (List.mem_append_left _ (List.mem_of_getElem? (i := 14) rfl)))))), List.forall_mem_append.mpr ⟨List.forall_mem_append.mpr ⟨List.forall_mem_cons.mpr ⟨List.mem_cons_of_mem _ (List.mem_append_left _ (List.mem_append_left _ (List.mem_append_left _ (List.mem_append_left _ (List.mem_append_left _ (List.mem_of_getElem? (i := 15) rfl)))))), List.forall_mem_cons.mpr ⟨List.mem_cons_of_mem _ (List.mem_append_left _ (List.mem_append_left _ (List.mem_append_left _ (List.mem_append_left _ (List.mem_append_left _ (List.mem_of_getElem? (i := 5) rfl)))))), List.forall_mem_cons.mpr ⟨List.mem_cons_of_mem _ (List.mem_append_left _ (List.mem_append_left _ (List.mem_append_left _ (List.mem_append_left _ (List.mem_append_left _ (List.mem_of_getElem? (i := 16) rfl)))))), List.forall_mem_cons.mpr ⟨List.mem_cons_of_mem _ (List.mem_append_left _ (List.mem_append_left _ (List.mem_append_left _ (List.mem_append_left _ (List.mem_append_left _ (List.mem_of_getElem? (i := 10) rfl)))))), List.forall_mem_cons.mpr ⟨List.mem_cons_of_mem _ (List.mem_append_left _ (List.mem_append_left _ (List.mem_append_left _ (List.mem_append_left _ (List.mem_append_left _ (List.mem_of_getElem? (i := 17) rfl)))))), List.forall_mem_cons.mpr ⟨List.mem_cons_of_mem _ (List.mem_append_left _ (List.mem_append_left _ (List.mem_append_left _ (List.mem_append_left _ (List.mem_append_left _ (List.mem_of_getElem? (i := 18) rfl)))))), List.forall_mem_cons.mpr ⟨List.mem_cons_of_mem _ (List.mem_append_left _ (List.mem_append_left _ (List.mem_append_left _ (List.mem_append_left _ (List.mem_append_left _ (List.mem_of_getElem? (i := 19) rfl)))))), List.forall_mem_cons.mpr ⟨List.mem_cons_of_mem _ (List.mem_append_left _ (List.mem_append_left _ (List.mem_append_left _ (List.mem_append_left _ (List.mem_append_left _ (List.mem_of_getElem? (i := 20) rfl)))))), List.forall_mem_cons.mpr ⟨List.mem_cons_of_mem _ (List.mem_append_left _ (List.mem_append_left _ (List.mem_append_left _ (List.mem_append_left _ (List.mem_append_left _ (List.mem_of_getElem? (i := 21) rfl)))))), List.forall_mem_cons.mpr ⟨List.mem_cons_of_mem _ (List.mem_append_left _ (List.mem_append_left _ (List.mem_append_left _ (List.mem_append_left _ (List.mem_append_left _ (List.mem_of_getElem? (i := 22) rfl)))))), List.forall_mem_cons.mpr ⟨List.mem_cons_of_mem _ (List.mem_append_left _ (List.mem_append_left _ (List.mem_append_left _ (List.mem_append_left _ (List.mem_append_left _ (List.mem_of_getElem? (i := 23) rfl)))))), fun _ h9 => absurd h9 List.not_mem_nil⟩⟩⟩⟩⟩⟩⟩⟩⟩⟩⟩, fun w h9 => List.mem_cons_of_mem _ (List.mem_append_left _ (List.mem_append_left _ (List.mem_append_left _ (List.mem_append_right _ (h9)))))⟩, fun w h9 => List.mem_cons_of_mem _ (List.mem_append_left _ (List.mem_append_right _ (h9)))⟩⟩) (by decide +kernel)
set_option maxRecDepth 20000 in
theorem gX4_make_X4_findFitting : GoodIn wsX4_make (wsV RX4 39 RX4 yX4_findFitting wsX4_findFitting) := goodIn_app (goodIn_4 _ (List.forall_mem_cons.mpr ⟨List.mem_cons_of_mem _ (List.mem_append_left _ (List.mem_append_left _ (List.mem_append_left _ (List.mem_append_left _ (List.mem_append_left _ (List.mem_of_getElem? (i := 11) rfl)))))), List.forall_mem_cons.mpr ⟨List.mem_cons_of_mem _ (List.mem_append_left _ (List.mem_append_left _ (List.mem_append_left _ (List.mem_append_left _ (List.mem_append_left _ (List.mem_of_getElem? (i := 12) rfl)))))), List.forall_mem_cons.mpr ⟨List.mem_cons_of_mem _ (List.mem_append_left _ (List.mem_append_left _ (List.mem_append_left _ (List.mem_append_left _ (List.mem_append_left _ (List.mem_of_getElem? (i := 13) rfl)))))), List.forall_mem_cons.mpr ⟨List.mem_cons_of_mem _ (List.mem_append_left _ (List.mem_append_left _ (List.mem_append_left _ (List.mem_append_left _ (List.mem_append_left _ (List.mem_of_getElem? (i := 3) rfl)))))), fun _ h9 => absurd h9 List.not_mem_nil⟩⟩⟩⟩) (by decide +kernel)) ggX4_make_X4_findFitting
theorem ax_X4_make_0 {e0 e1 e2 e3 e4 e5 e6 e7 e8 e9 e10 e11 e12 e13 : Nat × va_E} {k : va_W} : ([0, 1, 2, 6, 8, 9] : List Nat).map (fun i => (([e0, e1, e2, e3, e4, e5, e6, e7, e8, e9, e10, e11, e12, e13] : va_W) ++ k)[i]?) = ([e0, e1, e2, e6, e8, e9] : va_W).map some := rfl
theorem ax_X4_make_1 {e0 e1 e2 e3 e4 e5 e6 e7 e8 e9 e10 e11 e12 e13 : Nat × va_E} : ([0, 1, 2, 6, 8, 9] : List Nat).map (fun i => ([e0, e1, e2, e3, e4, e5, e6, e7, e8, e9, e10, e11, e12, e13] : va_W)[i]?) = ([e0, e1, e2, e6, e8, e9] : va_W).map some := rfl
theorem ax_X4_make_2 {e0 e1 e2 e3 e4 e5 e6 e7 e8 e9 e10 e11 e12 e13 : Nat × va_E} : ([3, 4, 5, 7, 10, 11, 12, 13] : List Nat).map (fun i => ([e0, e1, e2, e3, e4, e5, e6, e7, e8, e9, e10, e11, e12, e13] : va_W)[i]?) = ([e3, e4, e5, e7, e10, e11, e12, e13] : va_W).map some := rfl
theorem ax_X4_make_3 {D : va_G} {cl : List vw_C} {H : Heap} {e0 e1 e2 e3 e4 e5 e6 e7 f0 f1 f2 f3 f4 f5 : Nat × va_E} {k : va_W} (h : va_P D cl ((([e0, e1, e2, e3, e4, e5, e6, e7] : va_W) ++ ([f0, f1, f2, f3, f4, f5] : va_W)) ++ k) H) : va_P D cl (([e0, e1, e2, e3, e4, e5, e6, e7, f0, f1, f2, f3, f4, f5] : va_W) ++ k) H := h
theorem ax_X4_make_4 {A : Nat → Prop} {e0 e1 e2 e3 e4 e5 e6 e7 f0 f1 f2 f3 f4 f5 : Nat × va_E} {k : va_W} (h : va_D A ((([e0, e1, e2, e3, e4, e5, e6, e7] : va_W) ++ ([f0, f1, f2, f3, f4, f5] : va_W)) ++ k)) : va_D A (([e0, e1, e2, e3, e4, e5, e6, e7, f0, f1, f2, f3, f4, f5] : va_W) ++ k) := h
theorem ax_X4_make_5 {e0 e1 e2 e3 e4 e5 e6 e7 e8 e9 e10 e11 e12 e13 : Nat × va_E} {k : va_W} : ([8, 0, 11, 4, 5] : List Nat).map (fun i => (([e0, e1, e2, e3, e4, e5, e6, e7, e8, e9, e10, e11, e12, e13] : va_W) ++ k)[i]?) = ([e8, e0, e11, e4, e5] : va_W).map some := rfl
theorem ax_X4_make_6 {e0 e1 e2 e3 e4 e5 e6 e7 e8 e9 e10 e11 e12 e13 : Nat × va_E} : ([8, 0, 11, 4, 5] : List Nat).map (fun i => ([e0, e1, e2, e3, e4, e5, e6, e7, e8, e9, e10, e11, e12, e13] : va_W)[i]?) = ([e8, e0, e11, e4, e5] : va_W).map some := rfl
theorem ax_X4_make_7 {e0 e1 e2 e3 e4 e5 e6 e7 e8 e9 e10 e11 e12 e13 : Nat × va_E} : ([1, 2, 3, 6, 7, 9, 10, 12, 13] : List Nat).map (fun i => ([e0, e1, e2, e3, e4, e5, e6, e7, e8, e9, e10, e11, e12, e13] : va_W)[i]?) = ([e1, e2, e3, e6, e7, e9, e10, e12, e13] : va_W).map some := rfl
theorem ax_X4_make_8 {D : va_G} {cl : List vw_C} {H : Heap} {e0 e1 e2 e3 e4 e5 e6 e7 e8 f0 f1 f2 f3 f4 : Nat × va_E} {k : va_W} (h : va_P D cl ((([e0, e1, e2, e3, e4, e5, e6, e7, e8] : va_W) ++ ([f0, f1, f2, f3, f4] : va_W)) ++ k) H) : va_P D cl (([e0, e1, e2, e3, e4, e5, e6, e7, e8, f0, f1, f2, f3, f4] : va_W) ++ k) H := h
theorem ax_X4_make_9 {A : Nat → Prop} {e0 e1 e2 e3 e4 e5 e6 e7 e8 f0 f1 f2 f3 f4 : Nat × va_E} {k : va_W} (h : va_D A ((([e0, e1, e2, e3, e4, e5, e6, e7, e8] : va_W) ++ ([f0, f1, f2, f3, f4] : va_W)) ++ k)) : va_D A (([e0, e1, e2, e3, e4, e5, e6, e7, e8, f0, f1, f2, f3, f4] : va_W) ++ k) := h
theorem ax_X4_make_10 {e0 e1 e2 e3 e4 e5 e6 e7 e8 e9 e10 e11 e12 e13 : Nat × va_E} : ([9, 10, 2] : List Nat).map (fun i => ([e0, e1, e2, e3, e4, e5, e6, e7, e8, e9, e10, e11, e12, e13] : va_W)[i]?) = ([e9, e10, e2] : va_W).map some := rfl
theorem ax_X4_make_11 {e0 e1 e2 e3 e4 e5 e6 e7 e8 e9 e10 e11 e12 e13 : Nat × va_E} : ([0, 1, 3, 4, 5, 6, 7, 8, 11, 12, 13] : List Nat).map (fun i => ([e0, e1, e2, e3, e4, e5, e6, e7, e8, e9, e10, e11, e12, e13] : va_W)[i]?) = ([e0, e1, e3, e4, e5, e6, e7, e8, e11, e12, e13] : va_W).map some := rfl
theorem ax_X4_make_12 {D : va_G} {cl : List vw_C} {H : Heap} {e0 e1 e2 e3 e4 e5 e6 e7 e8 e9 e10 f0 f1 f2 : Nat × va_E} {k : va_W} (h : va_P D cl ((([e0, e1, e2, e3, e4, e5, e6, e7, e8, e9, e10] : va_W) ++ ([f0, f1, f2] : va_W)) ++ k) H) : va_P D cl (([e0, e1, e2, e3, e4, e5, e6, e7, e8, e9, e10, f0, f1, f2] : va_W) ++ k) H := h
theorem ax_X4_make_13 {A : Nat → Prop} {e0 e1 e2 e3 e4 e5 e6 e7 e8 e9 e10 f0 f1 f2 : Nat × va_E} {k : va_W} (h : va_D A ((([e0, e1, e2, e3, e4, e5, e6, e7, e8, e9, e10] : va_W) ++ ([f0, f1, f2] : va_W)) ++ k)) : va_D A (([e0, e1, e2, e3, e4, e5, e6, e7, e8, e9, e10, f0, f1, f2] : va_W) ++ k) := h
theorem ax_X4_make_14 {e0 e1 e2 e3 e4 e5 e6 e7 e8 e9 e10 e11 e12 e13 : Nat × va_E} : ([11, 0, 1, 13, 2, 3] : List Nat).map (fun i => ([e0, e1, e2, e3, e4, e5, e6, e7, e8, e9, e10, e11, e12, e13] : va_W)[i]?) = ([e11, e0, e1, e13, e2, e3] : va_W).map some := rfl
theorem ax_X4_make_15 {e0 e1 e2 e3 e4 e5 e6 e7 e8 e9 e10 e11 e12 e13 : Nat × va_E} : ([4, 5, 6, 7, 8, 9, 10, 12] : List Nat).map (fun i => ([e0, e1, e2, e3, e4, e5, e6, e7, e8, e9, e10, e11, e12, e13] : va_W)[i]?) = ([e4, e5, e6, e7, e8, e9, e10, e12] : va_W).map some := rfl
theorem ax_X4_make_16 {e0 e1 e2 e3 e4 e5 e6 e7 e8 e9 e10 e11 e12 e13 : Nat × va_E} : ([8, 0, 1, 7, 9, 10, 4, 11, 2, 3, 5, 6, 12, 13] : List Nat).map (fun i => ([e0, e1, e2, e3, e4, e5, e6, e7, e8, e9, e10, e11, e12, e13] : va_W)[i]?) = ([e8, e0, e1, e7, e9, e10, e4, e11, e2, e3, e5, e6, e12, e13] : va_W).map some := rfl
set_option maxHeartbeats 4000000 in
set_option maxRecDepth 100000 in
theorem c_X4_make (l : Launch) (D : va_G) (sz : Nat) (wr : Nat) (fr : Nat) (pf : Nat) (al : Int) (h0 : Nat) (g1 : Nat) (g2 : Nat) (g3 : Nat) (g4 : Nat) (g5 : Nat) (cn : Int) (bo : Int) (ru : Int) (g6 : Nat) (g7 : Nat) (cg1 : ClassId) (f1 : Nat → Int32) (cg2 : ClassId) (f2 : Nat → Int32) (cg3 : ClassId) (f3 : Nat → Int32) (cg4 : ClassId) (f4 : Nat → Int32) (cg5 : ClassId) (f5 : Nat → Int32) (cg6 : ClassId) (f6 : Nat → Int32) (cg7 : ClassId) (fo : Nat → Option Nat) (o : Nat) (w1 : Nat) (wn : Int) (cw1 : ClassId) (fw : Nat → Int32) (k1 : Nat) (k2 : Nat) (k3 : Nat) (n : Int) (ck3 : ClassId) (fh : Nat → Int32) (p1 : Nat) (pn : Int) (cp1 : ClassId) (fp : Nat → Int32) (pr : Nat → Nat) (gp : Nat → Nat → Int32) (cy : ClassId) (q0 : rg al) (q1 : 0 ≤ wn ∧ wn ≤ 24) (q2 : 0 ≤ n ∧ n ≤ 4) (q3 : 0 ≤ pn ∧ pn ≤ 4) (q4 : kPr fp) (q5 : kOut fo pr o 24) (q6 : o + 24 ≤ 56) : Met l yX4_make wsX4_make ({ frames := 2, cells := 0, slots := 0, locals := 51 }) (kPre [.ref h0, .ref wr, .ref fr, .ref pf, .int (zI al)] D (([(h0, .inr (4, [.ref g1, .ref g2, .ref g3, .ref g4, .ref g5, .int (zI cn), .int (zI bo), .int (zI ru), .ref g6, .ref g7])), (g1, .inl (cg1, 24, .inl f1)), (g2, .inl (cg2, 24, .inl f2)), (g3, .inl (cg3, 24, .inl f3)), (g4, .inl (cg4, 24, .inl f4)), (g5, .inl (cg5, 24, .inl f5)), (g6, .inl (cg6, 24, .inl f6)), (g7, .inl (cg7, 24, .inr (.inr (.inr (.inr (fo)))))), (wr, .inr (7, [.ref w1, .int (zI wn)])), (w1, .inl (cw1, 24, .inl fw)), (fr, .inr (0, [.ref k1, .ref k2, .ref k3, .int (zI n)])), (k3, .inl (ck3, 4, .inl fh)), (pf, .inr (1, [.ref p1, .int (zI pn)])), (p1, .inl (cp1, 4, .inl fp))] : va_W) ++ kRows pr gp cy) [(cg1, .int), (cg2, .int), (cg3, .int), (cg4, .int), (cg5, .int), (cg6, .int), (cg7, .array .int), (cw1, .int), (ck3, .int), (cp1, .int), (cy, .int)] sz) (kQV (fun t => ∃ (uc : Int) (ub : Int) (ur : Int) (v1 : Nat → Int32) (v2 : Nat → Int32) (v3 : Nat → Int32) (v4 : Nat → Int32) (v5 : Nat → Int32) (v6 : Nat → Int32) (ug : Nat → Nat → Int32), (0 ≤ uc ∧ uc ≤ 24) ∧ (0 ≤ ub ∧ ub ≤ 24) ∧ (0 ≤ ur ∧ ur ≤ uc) ∧ va_P D vwCl (([(h0, .inr (4, [.ref g1, .ref g2, .ref g3, .ref g4, .ref g5, .int (zI uc), .int (zI ub), .int (zI ur), .ref g6, .ref g7])), (g1, .inl (cg1, 24, .inl v1)), (g2, .inl (cg2, 24, .inl v2)), (g3, .inl (cg3, 24, .inl v3)), (g4, .inl (cg4, 24, .inl v4)), (g5, .inl (cg5, 24, .inl v5)), (g6, .inl (cg6, 24, .inl v6)), (g7, .inl (cg7, 24, .inr (.inr (.inr (.inr (fo)))))), (wr, .inr (7, [.ref w1, .int (zI wn)])), (w1, .inl (cw1, 24, .inl fw)), (fr, .inr (0, [.ref k1, .ref k2, .ref k3, .int (zI n)])), (k3, .inl (ck3, 4, .inl fh)), (pf, .inr (1, [.ref p1, .int (zI pn)])), (p1, .inl (cp1, 4, .inl fp))] : va_W) ++ kRows pr ug cy) t.heap ∧ va_D (va_A (([(h0, .inr (4, [.ref g1, .ref g2, .ref g3, .ref g4, .ref g5, .int (zI cn), .int (zI bo), .int (zI ru), .ref g6, .ref g7])), (g1, .inl (cg1, 24, .inl f1)), (g2, .inl (cg2, 24, .inl f2)), (g3, .inl (cg3, 24, .inl f3)), (g4, .inl (cg4, 24, .inl f4)), (g5, .inl (cg5, 24, .inl f5)), (g6, .inl (cg6, 24, .inl f6)), (g7, .inl (cg7, 24, .inr (.inr (.inr (.inr (fo)))))), (wr, .inr (7, [.ref w1, .int (zI wn)])), (w1, .inl (cw1, 24, .inl fw)), (fr, .inr (0, [.ref k1, .ref k2, .ref k3, .int (zI n)])), (k3, .inl (ck3, 4, .inl fh)), (pf, .inr (1, [.ref p1, .int (zI pn)])), (p1, .inl (cp1, 4, .inl fp))] : va_W) ++ kRows pr gp cy) sz) (([(h0, .inr (4, [.ref g1, .ref g2, .ref g3, .ref g4, .ref g5, .int (zI uc), .int (zI ub), .int (zI ur), .ref g6, .ref g7])), (g1, .inl (cg1, 24, .inl v1)), (g2, .inl (cg2, 24, .inl v2)), (g3, .inl (cg3, 24, .inl v3)), (g4, .inl (cg4, 24, .inl v4)), (g5, .inl (cg5, 24, .inl v5)), (g6, .inl (cg6, 24, .inl v6)), (g7, .inl (cg7, 24, .inr (.inr (.inr (.inr (fo)))))), (wr, .inr (7, [.ref w1, .int (zI wn)])), (w1, .inl (cw1, 24, .inl fw)), (fr, .inr (0, [.ref k1, .ref k2, .ref k3, .int (zI n)])), (k3, .inl (ck3, 4, .inl fh)), (pf, .inr (1, [.ref p1, .int (zI pn)])), (p1, .inl (cp1, 4, .inl fp))] : va_W) ++ kRows pr ug cy)) (va_A (([(h0, .inr (4, [.ref g1, .ref g2, .ref g3, .ref g4, .ref g5, .int (zI cn), .int (zI bo), .int (zI ru), .ref g6, .ref g7])), (g1, .inl (cg1, 24, .inl f1)), (g2, .inl (cg2, 24, .inl f2)), (g3, .inl (cg3, 24, .inl f3)), (g4, .inl (cg4, 24, .inl f4)), (g5, .inl (cg5, 24, .inl f5)), (g6, .inl (cg6, 24, .inl f6)), (g7, .inl (cg7, 24, .inr (.inr (.inr (.inr (fo)))))), (wr, .inr (7, [.ref w1, .int (zI wn)])), (w1, .inl (cw1, 24, .inl fw)), (fr, .inr (0, [.ref k1, .ref k2, .ref k3, .int (zI n)])), (k3, .inl (ck3, 4, .inl fh)), (pf, .inr (1, [.ref p1, .int (zI pn)])), (p1, .inl (cp1, 4, .inl fp))] : va_W) ++ kRows pr gp cy) sz)) 0 0 (va_A (([(h0, .inr (4, [.ref g1, .ref g2, .ref g3, .ref g4, .ref g5, .int (zI cn), .int (zI bo), .int (zI ru), .ref g6, .ref g7])), (g1, .inl (cg1, 24, .inl f1)), (g2, .inl (cg2, 24, .inl f2)), (g3, .inl (cg3, 24, .inl f3)), (g4, .inl (cg4, 24, .inl f4)), (g5, .inl (cg5, 24, .inl f5)), (g6, .inl (cg6, 24, .inl f6)), (g7, .inl (cg7, 24, .inr (.inr (.inr (.inr (fo)))))), (wr, .inr (7, [.ref w1, .int (zI wn)])), (w1, .inl (cw1, 24, .inl fw)), (fr, .inr (0, [.ref k1, .ref k2, .ref k3, .int (zI n)])), (k3, .inl (ck3, 4, .inl fh)), (pf, .inr (1, [.ref p1, .int (zI pn)])), (p1, .inl (cp1, 4, .inl fp))] : va_W) ++ kRows pr gp cy) sz) := by
  refine Met.ofW (cc := cX4_make) (maxL := 5) (ret := none) (by decide) rfl ?_
  intro p e s m args below meth c s₁ B hml hv
  obtain ⟨rfl, hsz, hP, hK, hD0, hN⟩ := hv
  have hx := B.exec
  have hb := B.bytes
  have hr := B.returns
  have hts := atoms_spec (ws := wsX4_make) B.pre
  have hown : s.vm.findClass RX4 = some m.cls := findClass_of_methodNamed B.named
  have hlocks := B.notSynchronized
  subst hsz
  have hD := hD0.self (sz := s.heap.size)
  generalize hAe : va_A (([(h0, .inr (4, [.ref g1, .ref g2, .ref g3, .ref g4, .ref g5, .int (zI cn), .int (zI bo), .int (zI ru), .ref g6, .ref g7])), (g1, .inl (cg1, 24, .inl f1)), (g2, .inl (cg2, 24, .inl f2)), (g3, .inl (cg3, 24, .inl f3)), (g4, .inl (cg4, 24, .inl f4)), (g5, .inl (cg5, 24, .inl f5)), (g6, .inl (cg6, 24, .inl f6)), (g7, .inl (cg7, 24, .inr (.inr (.inr (.inr (fo)))))), (wr, .inr (7, [.ref w1, .int (zI wn)])), (w1, .inl (cw1, 24, .inl fw)), (fr, .inr (0, [.ref k1, .ref k2, .ref k3, .int (zI n)])), (k3, .inl (ck3, 4, .inl fh)), (pf, .inr (1, [.ref p1, .int (zI pn)])), (p1, .inl (cp1, 4, .inl fp))] : va_W) ++ kRows pr gp cy) s.heap.size = A at hD ⊢
  have hA : ∀ q : Nat, s.heap.size ≤ q → A q := fun q h => by rw [← hAe]; exact Or.inr h
  have hS : va_S A s.heap s.heap [] := va_S.rf
  have hP : va_P D vwCl (([(h0, .inr (4, [.ref g1, .ref g2, .ref g3, .ref g4, .ref g5, .int (zI cn), .int (zI bo), .int (zI ru), .ref g6, .ref g7])), (g1, .inl (cg1, 24, .inl f1)), (g2, .inl (cg2, 24, .inl f2)), (g3, .inl (cg3, 24, .inl f3)), (g4, .inl (cg4, 24, .inl f4)), (g5, .inl (cg5, 24, .inl f5)), (g6, .inl (cg6, 24, .inl f6)), (g7, .inl (cg7, 24, .inr (.inr (.inr (.inr (fo)))))), (wr, .inr (7, [.ref w1, .int (zI wn)])), (w1, .inl (cw1, 24, .inl fw)), (fr, .inr (0, [.ref k1, .ref k2, .ref k3, .int (zI n)])), (k3, .inl (ck3, 4, .inl fh)), (pf, .inr (1, [.ref p1, .int (zI pn)])), (p1, .inl (cp1, 4, .inl fp))] : va_W) ++ kRows pr gp cy) s.heap := hP
  have hl := lv_entry ([.ref h0, .ref wr, .ref fr, .ref pf, .int (zI al)]) (n := 5) (Nat.le_of_ble_eq_true rfl)
  rw [lg_entry_eq]
  generalize (lg_sl ([.ref h0, .ref wr, .ref fr, .ref pf, .int (zI al)]) ++ List.replicate (5 - (lg_sl ([.ref h0, .ref wr, .ref fr, .ref pf, .int (zI al)])).length) Slot.unset).toArray = ls at hl ⊢
  have hl : lv_has ls 5 [(0, .ref h0), (1, .ref wr), (2, .ref fr), (3, .ref pf), (4, .int (zI al))] := hl
  refine lv_aload_n hx hb dX4_make_0 rfl (lv_at hl 0 rfl) ?_
  refine lv_aload_n hx hb dX4_make_1 rfl (lv_at hl 1 rfl) ?_
  have hFc := va_free (wc := [(h0, .inr (4, [.ref g1, .ref g2, .ref g3, .ref g4, .ref g5, .int (zI cn), .int (zI bo), .int (zI ru), .ref g6, .ref g7])), (g1, .inl (cg1, 24, .inl f1)), (g2, .inl (cg2, 24, .inl f2)), (g6, .inl (cg6, 24, .inl f6)), (wr, .inr (7, [.ref w1, .int (zI wn)])), (w1, .inl (cw1, 24, .inl fw))]) hD hS hA [0, 1, 2, 6, 8, 9] ax_X4_make_0
  refine va_callv (va_runV (As := [.ref wr]) (rest := []) ⟨hx, hb, hml, hown, hts⟩ (c_X4_cut l D s.heap.size (wr := wr) (h0 := h0) (g1 := g1) (g2 := g2) (g3 := g3) (g4 := g4) (g5 := g5) (cn := cn) (bo := bo) (ru := ru) (g6 := g6) (g7 := g7) (cg1 := cg1) (f1 := f1) (cg2 := cg2) (f2 := f2) (cg6 := cg6) (f6 := f6) (w1 := w1) (wn := wn) (cw1 := cw1) (fw := fw) q1) (cwV 1 hts gX4_make_X4_cut rfl rfl rfl (by decide +kernel) ⟨Nat.le_of_ble_eq_true rfl, Nat.le_of_ble_eq_true rfl⟩) (kPreV hP (kD0 hD) hK hN [0, 1, 2, 6, 8, 9] [0, 1, 5, 7] ax_X4_make_0 rfl (by decide +kernel) 0 4 rfl rfl) rfl rfl hl.1 rfl (lv_room (Nat.le_of_ble_eq_true rfl)) dX4_make_2 ⟨Nat.le_of_ble_eq_true rfl, Nat.le_of_ble_eq_true rfl⟩) hS (fun q _ h => hFc q h) hFc (fun u t H1 locs ht hvm hw hB hz1 hk1 hS => ?_)
  refine Exists.elim hB (fun uc_1 hB1 => Exists.elim hB1 (fun v1_2 hB2 => Exists.elim hB2 (fun v2_3 hB3 => Exists.elim hB3 (fun v6_4 hB4 => ?_))))
  have h_5 := hB4.1
  have hP1 := hB4.2.1
  have hD1 := hB4.2.2
  clear hB hB1 hB2 hB3 hB4
  rw [ht] at hP1
  obtain ⟨hP, hD⟩ := va_joinQ (X := [(h0, .inr (4, [.ref g1, .ref g2, .ref g3, .ref g4, .ref g5, .int (zI cn), .int (zI bo), .int (zI ru), .ref g6, .ref g7])), (g1, .inl (cg1, 24, .inl f1)), (g2, .inl (cg2, 24, .inl f2)), (g3, .inl (cg3, 24, .inl f3)), (g4, .inl (cg4, 24, .inl f4)), (g5, .inl (cg5, 24, .inl f5)), (g6, .inl (cg6, 24, .inl f6)), (g7, .inl (cg7, 24, .inr (.inr (.inr (.inr (fo)))))), (wr, .inr (7, [.ref w1, .int (zI wn)])), (w1, .inl (cw1, 24, .inl fw)), (fr, .inr (0, [.ref k1, .ref k2, .ref k3, .int (zI n)])), (k3, .inl (ck3, 4, .inl fh)), (pf, .inr (1, [.ref p1, .int (zI pn)])), (p1, .inl (cp1, 4, .inl fp))]) (wr := [(g3, .inl (cg3, 24, .inl f3)), (g4, .inl (cg4, 24, .inl f4)), (g5, .inl (cg5, 24, .inl f5)), (g7, .inl (cg7, 24, .inr (.inr (.inr (.inr (fo)))))), (fr, .inr (0, [.ref k1, .ref k2, .ref k3, .int (zI n)])), (k3, .inl (ck3, 4, .inl fh)), (pf, .inr (1, [.ref p1, .int (zI pn)])), (p1, .inl (cp1, 4, .inl fp))]) (w1 := [(h0, .inr (4, [.ref g1, .ref g2, .ref g3, .ref g4, .ref g5, .int (zI uc_1), .int (zI bo), .int (zI ru), .ref g6, .ref g7])), (g1, .inl (cg1, 24, .inl v1_2)), (g2, .inl (cg2, 24, .inl v2_3)), (g6, .inl (cg6, 24, .inl v6_4)), (wr, .inr (7, [.ref w1, .int (zI wn)])), (w1, .inl (cw1, 24, .inl fw))]) hP hD [0, 1, 2, 6, 8, 9] [3, 4, 5, 7, 10, 11, 12, 13] ax_X4_make_1 ax_X4_make_2 (by decide +kernel) (by decide +kernel) hk1 hFc hP1 hD1
  have hP := ax_X4_make_3 hP
  have hD := ax_X4_make_4 hD
  generalize H1 = H at hP hS ⊢
  have hP : va_P D vwCl (([(g3, .inl (cg3, 24, .inl f3)), (g4, .inl (cg4, 24, .inl f4)), (g5, .inl (cg5, 24, .inl f5)), (g7, .inl (cg7, 24, .inr (.inr (.inr (.inr (fo)))))), (fr, .inr (0, [.ref k1, .ref k2, .ref k3, .int (zI n)])), (k3, .inl (ck3, 4, .inl fh)), (pf, .inr (1, [.ref p1, .int (zI pn)])), (p1, .inl (cp1, 4, .inl fp)), (h0, .inr (4, [.ref g1, .ref g2, .ref g3, .ref g4, .ref g5, .int (zI uc_1), .int (zI bo), .int (zI ru), .ref g6, .ref g7])), (g1, .inl (cg1, 24, .inl v1_2)), (g2, .inl (cg2, 24, .inl v2_3)), (g6, .inl (cg6, 24, .inl v6_4)), (wr, .inr (7, [.ref w1, .int (zI wn)])), (w1, .inl (cw1, 24, .inl fw))] : va_W) ++ kRows pr gp cy) H := hP
  have hD : va_D A (([(g3, .inl (cg3, 24, .inl f3)), (g4, .inl (cg4, 24, .inl f4)), (g5, .inl (cg5, 24, .inl f5)), (g7, .inl (cg7, 24, .inr (.inr (.inr (.inr (fo)))))), (fr, .inr (0, [.ref k1, .ref k2, .ref k3, .int (zI n)])), (k3, .inl (ck3, 4, .inl fh)), (pf, .inr (1, [.ref p1, .int (zI pn)])), (p1, .inl (cp1, 4, .inl fp)), (h0, .inr (4, [.ref g1, .ref g2, .ref g3, .ref g4, .ref g5, .int (zI uc_1), .int (zI bo), .int (zI ru), .ref g6, .ref g7])), (g1, .inl (cg1, 24, .inl v1_2)), (g2, .inl (cg2, 24, .inl v2_3)), (g6, .inl (cg6, 24, .inl v6_4)), (wr, .inr (7, [.ref w1, .int (zI wn)])), (w1, .inl (cw1, 24, .inl fw))] : va_W) ++ kRows pr gp cy) := hD
  refine lv_aload_n hx hb dX4_make_5 rfl (lv_at hl 0 rfl) ?_
  refine lv_aload_n hx hb dX4_make_6 rfl (lv_at hl 2 rfl) ?_
  refine lv_iload hx hb dX4_make_7 (lv_at hl 4 rfl) ?_
  have hFc := va_free (wc := [(h0, .inr (4, [.ref g1, .ref g2, .ref g3, .ref g4, .ref g5, .int (zI uc_1), .int (zI bo), .int (zI ru), .ref g6, .ref g7])), (g3, .inl (cg3, 24, .inl f3)), (g6, .inl (cg6, 24, .inl v6_4)), (fr, .inr (0, [.ref k1, .ref k2, .ref k3, .int (zI n)])), (k3, .inl (ck3, 4, .inl fh))]) hD hS hA [8, 0, 11, 4, 5] ax_X4_make_5
  refine va_callv (va_runV (As := [.ref fr, .int (zI al)]) (rest := []) ⟨hx, hb, hml, hown, hts⟩ (c_X4_findFitting l D H.size (fr := fr) (al := al) (h0 := h0) (g1 := g1) (g2 := g2) (g3 := g3) (g4 := g4) (g5 := g5) (cn := uc_1) (bo := bo) (ru := ru) (g6 := g6) (g7 := g7) (cg3 := cg3) (f3 := f3) (cg6 := cg6) (f6 := v6_4) (k1 := k1) (k2 := k2) (k3 := k3) (n := n) (ck3 := ck3) (fh := fh) q0 h_5 q2) (cwV 2 hts gX4_make_X4_findFitting rfl rfl rfl (by decide +kernel) ⟨Nat.le_of_ble_eq_true rfl, Nat.le_of_ble_eq_true rfl⟩) (kPreV hP (kD0 hD) hK hN [8, 0, 11, 4, 5] [2, 5, 8] ax_X4_make_5 rfl (by decide +kernel) 8 4 rfl rfl) rfl rfl hl.1 rfl (lv_room (Nat.le_of_ble_eq_true rfl)) dX4_make_9 ⟨Nat.le_of_ble_eq_true rfl, Nat.le_of_ble_eq_true rfl⟩) hS (fun q _ h => hFc q h) hFc (fun u t H1 locs ht hvm hw hB hz1 hk1 hS => ?_)
  refine Exists.elim hB (fun ub_6 hB1 => Exists.elim hB1 (fun v3_7 hB2 => ?_))
  have h_8 := hB2.1
  have hP1 := hB2.2.1
  have hD1 := hB2.2.2
  clear hB hB1 hB2
  rw [ht] at hP1
  obtain ⟨hP, hD⟩ := va_joinQ (X := [(g3, .inl (cg3, 24, .inl f3)), (g4, .inl (cg4, 24, .inl f4)), (g5, .inl (cg5, 24, .inl f5)), (g7, .inl (cg7, 24, .inr (.inr (.inr (.inr (fo)))))), (fr, .inr (0, [.ref k1, .ref k2, .ref k3, .int (zI n)])), (k3, .inl (ck3, 4, .inl fh)), (pf, .inr (1, [.ref p1, .int (zI pn)])), (p1, .inl (cp1, 4, .inl fp)), (h0, .inr (4, [.ref g1, .ref g2, .ref g3, .ref g4, .ref g5, .int (zI uc_1), .int (zI bo), .int (zI ru), .ref g6, .ref g7])), (g1, .inl (cg1, 24, .inl v1_2)), (g2, .inl (cg2, 24, .inl v2_3)), (g6, .inl (cg6, 24, .inl v6_4)), (wr, .inr (7, [.ref w1, .int (zI wn)])), (w1, .inl (cw1, 24, .inl fw))]) (wr := [(g4, .inl (cg4, 24, .inl f4)), (g5, .inl (cg5, 24, .inl f5)), (g7, .inl (cg7, 24, .inr (.inr (.inr (.inr (fo)))))), (pf, .inr (1, [.ref p1, .int (zI pn)])), (p1, .inl (cp1, 4, .inl fp)), (g1, .inl (cg1, 24, .inl v1_2)), (g2, .inl (cg2, 24, .inl v2_3)), (wr, .inr (7, [.ref w1, .int (zI wn)])), (w1, .inl (cw1, 24, .inl fw))]) (w1 := [(h0, .inr (4, [.ref g1, .ref g2, .ref g3, .ref g4, .ref g5, .int (zI uc_1), .int (zI ub_6), .int (zI ru), .ref g6, .ref g7])), (g3, .inl (cg3, 24, .inl v3_7)), (g6, .inl (cg6, 24, .inl v6_4)), (fr, .inr (0, [.ref k1, .ref k2, .ref k3, .int (zI n)])), (k3, .inl (ck3, 4, .inl fh))]) hP hD [8, 0, 11, 4, 5] [1, 2, 3, 6, 7, 9, 10, 12, 13] ax_X4_make_6 ax_X4_make_7 (by decide +kernel) (by decide +kernel) hk1 hFc hP1 hD1
  have hP := ax_X4_make_8 hP
  have hD := ax_X4_make_9 hD
  generalize H1 = H at hP hS ⊢
  have hP : va_P D vwCl (([(g4, .inl (cg4, 24, .inl f4)), (g5, .inl (cg5, 24, .inl f5)), (g7, .inl (cg7, 24, .inr (.inr (.inr (.inr (fo)))))), (pf, .inr (1, [.ref p1, .int (zI pn)])), (p1, .inl (cp1, 4, .inl fp)), (g1, .inl (cg1, 24, .inl v1_2)), (g2, .inl (cg2, 24, .inl v2_3)), (wr, .inr (7, [.ref w1, .int (zI wn)])), (w1, .inl (cw1, 24, .inl fw)), (h0, .inr (4, [.ref g1, .ref g2, .ref g3, .ref g4, .ref g5, .int (zI uc_1), .int (zI ub_6), .int (zI ru), .ref g6, .ref g7])), (g3, .inl (cg3, 24, .inl v3_7)), (g6, .inl (cg6, 24, .inl v6_4)), (fr, .inr (0, [.ref k1, .ref k2, .ref k3, .int (zI n)])), (k3, .inl (ck3, 4, .inl fh))] : va_W) ++ kRows pr gp cy) H := hP
  have hD : va_D A (([(g4, .inl (cg4, 24, .inl f4)), (g5, .inl (cg5, 24, .inl f5)), (g7, .inl (cg7, 24, .inr (.inr (.inr (.inr (fo)))))), (pf, .inr (1, [.ref p1, .int (zI pn)])), (p1, .inl (cp1, 4, .inl fp)), (g1, .inl (cg1, 24, .inl v1_2)), (g2, .inl (cg2, 24, .inl v2_3)), (wr, .inr (7, [.ref w1, .int (zI wn)])), (w1, .inl (cw1, 24, .inl fw)), (h0, .inr (4, [.ref g1, .ref g2, .ref g3, .ref g4, .ref g5, .int (zI uc_1), .int (zI ub_6), .int (zI ru), .ref g6, .ref g7])), (g3, .inl (cg3, 24, .inl v3_7)), (g6, .inl (cg6, 24, .inl v6_4)), (fr, .inr (0, [.ref k1, .ref k2, .ref k3, .int (zI n)])), (k3, .inl (ck3, 4, .inl fh))] : va_W) ++ kRows pr gp cy) := hD
  refine lv_aload_n hx hb dX4_make_12 rfl (lv_at hl 0 rfl) ?_
  refine lv_iload hx hb dX4_make_13 (lv_at hl 4 rfl) ?_
  have hFc := va_freeP (cx := [(h0, .inr (4, [.ref g1, .ref g2, .ref g3, .ref g4, .ref g5, .int (zI uc_1), .int (zI ub_6), .int (zI ru), .ref g6, .ref g7])), (g3, .inl (cg3, 24, .inl v3_7)), (g7, .inl (cg7, 24, .inr (.inr (.inr (.inr (fo))))))]) hD hS hA [9, 10, 2] ax_X4_make_10
  refine va_callv (va_runV (As := [.int (zI al)]) (rest := []) ⟨hx, hb, hml, hown, hts⟩ (c_X4_findBehind l D H.size (al := al) (h0 := h0) (g1 := g1) (g2 := g2) (g3 := g3) (g4 := g4) (g5 := g5) (cn := uc_1) (bo := ub_6) (ru := ru) (g6 := g6) (g7 := g7) (cg3 := cg3) (f3 := v3_7) (cg7 := cg7) (fo := fo) (o := o) (pr := pr) (gp := gp) (cy := cy) q0 h_5 q5 q6) (cwV 1 hts gX4_make_X4_findBehind rfl rfl rfl (by decide +kernel) ⟨Nat.le_of_ble_eq_true rfl, Nat.le_of_ble_eq_true rfl⟩) (kPreVP hP (kD0 hD) hK hN [9, 10, 2] [2, 6, 10] ax_X4_make_10 rfl (by decide +kernel) 9 4 rfl rfl) rfl rfl hl.1 rfl (lv_room (Nat.le_of_ble_eq_true rfl)) dX4_make_15 ⟨Nat.le_of_ble_eq_true rfl, Nat.le_of_ble_eq_true rfl⟩) hS (fun q _ h => hFc q h) hFc (fun u t H1 locs ht hvm hw hB hz1 hk1 hS => ?_)
  refine Exists.elim hB (fun ug_9 hB1 => ?_)
  have hP1 := hB1.1
  have hD1 := hB1.2
  clear hB hB1
  rw [ht] at hP1
  obtain ⟨hP, hD⟩ := va_joinP (X := [(g4, .inl (cg4, 24, .inl f4)), (g5, .inl (cg5, 24, .inl f5)), (g7, .inl (cg7, 24, .inr (.inr (.inr (.inr (fo)))))), (pf, .inr (1, [.ref p1, .int (zI pn)])), (p1, .inl (cp1, 4, .inl fp)), (g1, .inl (cg1, 24, .inl v1_2)), (g2, .inl (cg2, 24, .inl v2_3)), (wr, .inr (7, [.ref w1, .int (zI wn)])), (w1, .inl (cw1, 24, .inl fw)), (h0, .inr (4, [.ref g1, .ref g2, .ref g3, .ref g4, .ref g5, .int (zI uc_1), .int (zI ub_6), .int (zI ru), .ref g6, .ref g7])), (g3, .inl (cg3, 24, .inl v3_7)), (g6, .inl (cg6, 24, .inl v6_4)), (fr, .inr (0, [.ref k1, .ref k2, .ref k3, .int (zI n)])), (k3, .inl (ck3, 4, .inl fh))]) (wr := [(g4, .inl (cg4, 24, .inl f4)), (g5, .inl (cg5, 24, .inl f5)), (pf, .inr (1, [.ref p1, .int (zI pn)])), (p1, .inl (cp1, 4, .inl fp)), (g1, .inl (cg1, 24, .inl v1_2)), (g2, .inl (cg2, 24, .inl v2_3)), (wr, .inr (7, [.ref w1, .int (zI wn)])), (w1, .inl (cw1, 24, .inl fw)), (g6, .inl (cg6, 24, .inl v6_4)), (fr, .inr (0, [.ref k1, .ref k2, .ref k3, .int (zI n)])), (k3, .inl (ck3, 4, .inl fh))]) (rx := [(h0, .inr (4, [.ref g1, .ref g2, .ref g3, .ref g4, .ref g5, .int (zI uc_1), .int (zI ub_6), .int (zI ru), .ref g6, .ref g7])), (g3, .inl (cg3, 24, .inl v3_7)), (g7, .inl (cg7, 24, .inr (.inr (.inr (.inr (fo))))))]) hP hD [9, 10, 2] [0, 1, 3, 4, 5, 6, 7, 8, 11, 12, 13] ax_X4_make_10 ax_X4_make_11 (by decide +kernel) (by decide +kernel) hk1 hFc hP1 hD1
  have hP := ax_X4_make_12 hP
  have hD := ax_X4_make_13 hD
  generalize H1 = H at hP hS ⊢
  have hP : va_P D vwCl (([(g4, .inl (cg4, 24, .inl f4)), (g5, .inl (cg5, 24, .inl f5)), (pf, .inr (1, [.ref p1, .int (zI pn)])), (p1, .inl (cp1, 4, .inl fp)), (g1, .inl (cg1, 24, .inl v1_2)), (g2, .inl (cg2, 24, .inl v2_3)), (wr, .inr (7, [.ref w1, .int (zI wn)])), (w1, .inl (cw1, 24, .inl fw)), (g6, .inl (cg6, 24, .inl v6_4)), (fr, .inr (0, [.ref k1, .ref k2, .ref k3, .int (zI n)])), (k3, .inl (ck3, 4, .inl fh)), (h0, .inr (4, [.ref g1, .ref g2, .ref g3, .ref g4, .ref g5, .int (zI uc_1), .int (zI ub_6), .int (zI ru), .ref g6, .ref g7])), (g3, .inl (cg3, 24, .inl v3_7)), (g7, .inl (cg7, 24, .inr (.inr (.inr (.inr (fo))))))] : va_W) ++ kRows pr ug_9 cy) H := hP
  have hD : va_D A (([(g4, .inl (cg4, 24, .inl f4)), (g5, .inl (cg5, 24, .inl f5)), (pf, .inr (1, [.ref p1, .int (zI pn)])), (p1, .inl (cp1, 4, .inl fp)), (g1, .inl (cg1, 24, .inl v1_2)), (g2, .inl (cg2, 24, .inl v2_3)), (wr, .inr (7, [.ref w1, .int (zI wn)])), (w1, .inl (cw1, 24, .inl fw)), (g6, .inl (cg6, 24, .inl v6_4)), (fr, .inr (0, [.ref k1, .ref k2, .ref k3, .int (zI n)])), (k3, .inl (ck3, 4, .inl fh)), (h0, .inr (4, [.ref g1, .ref g2, .ref g3, .ref g4, .ref g5, .int (zI uc_1), .int (zI ub_6), .int (zI ru), .ref g6, .ref g7])), (g3, .inl (cg3, 24, .inl v3_7)), (g7, .inl (cg7, 24, .inr (.inr (.inr (.inr (fo))))))] : va_W) ++ kRows pr ug_9 cy) := hD
  refine lv_aload_n hx hb dX4_make_18 rfl (lv_at hl 0 rfl) ?_
  refine lv_aload_n hx hb dX4_make_19 rfl (lv_at hl 3 rfl) ?_
  have hFc := va_freeP (cx := [(h0, .inr (4, [.ref g1, .ref g2, .ref g3, .ref g4, .ref g5, .int (zI uc_1), .int (zI ub_6), .int (zI ru), .ref g6, .ref g7])), (g4, .inl (cg4, 24, .inl f4)), (g5, .inl (cg5, 24, .inl f5)), (g7, .inl (cg7, 24, .inr (.inr (.inr (.inr (fo)))))), (pf, .inr (1, [.ref p1, .int (zI pn)])), (p1, .inl (cp1, 4, .inl fp))]) hD hS hA [11, 0, 1, 13, 2, 3] ax_X4_make_14
  refine va_callv (va_runV (As := [.ref pf]) (rest := []) ⟨hx, hb, hml, hown, hts⟩ (c_X4_choose l D H.size (pf := pf) (h0 := h0) (g1 := g1) (g2 := g2) (g3 := g3) (g4 := g4) (g5 := g5) (cn := uc_1) (bo := ub_6) (ru := ru) (g6 := g6) (g7 := g7) (cg4 := cg4) (f4 := f4) (cg5 := cg5) (f5 := f5) (cg7 := cg7) (fo := fo) (o := o) (p1 := p1) (pn := pn) (cp1 := cp1) (fp := fp) (pr := pr) (gp := ug_9) (cy := cy) h_5 q3 q4 q5 q6) (cwV 1 hts gX4_make_X4_choose rfl rfl rfl (by decide +kernel) ⟨Nat.le_of_ble_eq_true rfl, Nat.le_of_ble_eq_true rfl⟩) (kPreVP hP (kD0 hD) hK hN [11, 0, 1, 13, 2, 3] [3, 4, 6, 9, 10] ax_X4_make_14 rfl (by decide +kernel) 11 4 rfl rfl) rfl rfl hl.1 rfl (lv_room (Nat.le_of_ble_eq_true rfl)) dX4_make_20 ⟨Nat.le_of_ble_eq_true rfl, Nat.le_of_ble_eq_true rfl⟩) hS (fun q _ h => hFc q h) hFc (fun u t H1 locs ht hvm hw hB hz1 hk1 hS => ?_)
  refine Exists.elim hB (fun ur_10 hB1 => Exists.elim hB1 (fun v4_11 hB2 => Exists.elim hB2 (fun v5_12 hB3 => ?_)))
  have h_13 := hB3.1
  have hP1 := hB3.2.1
  have hD1 := hB3.2.2
  clear hB hB1 hB2 hB3
  rw [ht] at hP1
  obtain ⟨hP, hD⟩ := va_joinP (X := [(g4, .inl (cg4, 24, .inl f4)), (g5, .inl (cg5, 24, .inl f5)), (pf, .inr (1, [.ref p1, .int (zI pn)])), (p1, .inl (cp1, 4, .inl fp)), (g1, .inl (cg1, 24, .inl v1_2)), (g2, .inl (cg2, 24, .inl v2_3)), (wr, .inr (7, [.ref w1, .int (zI wn)])), (w1, .inl (cw1, 24, .inl fw)), (g6, .inl (cg6, 24, .inl v6_4)), (fr, .inr (0, [.ref k1, .ref k2, .ref k3, .int (zI n)])), (k3, .inl (ck3, 4, .inl fh)), (h0, .inr (4, [.ref g1, .ref g2, .ref g3, .ref g4, .ref g5, .int (zI uc_1), .int (zI ub_6), .int (zI ru), .ref g6, .ref g7])), (g3, .inl (cg3, 24, .inl v3_7)), (g7, .inl (cg7, 24, .inr (.inr (.inr (.inr (fo))))))]) (wr := [(g1, .inl (cg1, 24, .inl v1_2)), (g2, .inl (cg2, 24, .inl v2_3)), (wr, .inr (7, [.ref w1, .int (zI wn)])), (w1, .inl (cw1, 24, .inl fw)), (g6, .inl (cg6, 24, .inl v6_4)), (fr, .inr (0, [.ref k1, .ref k2, .ref k3, .int (zI n)])), (k3, .inl (ck3, 4, .inl fh)), (g3, .inl (cg3, 24, .inl v3_7))]) (rx := [(h0, .inr (4, [.ref g1, .ref g2, .ref g3, .ref g4, .ref g5, .int (zI uc_1), .int (zI ub_6), .int (zI ur_10), .ref g6, .ref g7])), (g4, .inl (cg4, 24, .inl v4_11)), (g5, .inl (cg5, 24, .inl v5_12)), (g7, .inl (cg7, 24, .inr (.inr (.inr (.inr (fo)))))), (pf, .inr (1, [.ref p1, .int (zI pn)])), (p1, .inl (cp1, 4, .inl fp))]) hP hD [11, 0, 1, 13, 2, 3] [4, 5, 6, 7, 8, 9, 10, 12] ax_X4_make_14 ax_X4_make_15 (by decide +kernel) (by decide +kernel) hk1 hFc hP1 hD1
  have hP := ax_X4_make_3 hP
  have hD := ax_X4_make_4 hD
  generalize H1 = H at hP hS ⊢
  have hP : va_P D vwCl (([(g1, .inl (cg1, 24, .inl v1_2)), (g2, .inl (cg2, 24, .inl v2_3)), (wr, .inr (7, [.ref w1, .int (zI wn)])), (w1, .inl (cw1, 24, .inl fw)), (g6, .inl (cg6, 24, .inl v6_4)), (fr, .inr (0, [.ref k1, .ref k2, .ref k3, .int (zI n)])), (k3, .inl (ck3, 4, .inl fh)), (g3, .inl (cg3, 24, .inl v3_7)), (h0, .inr (4, [.ref g1, .ref g2, .ref g3, .ref g4, .ref g5, .int (zI uc_1), .int (zI ub_6), .int (zI ur_10), .ref g6, .ref g7])), (g4, .inl (cg4, 24, .inl v4_11)), (g5, .inl (cg5, 24, .inl v5_12)), (g7, .inl (cg7, 24, .inr (.inr (.inr (.inr (fo)))))), (pf, .inr (1, [.ref p1, .int (zI pn)])), (p1, .inl (cp1, 4, .inl fp))] : va_W) ++ kRows pr ug_9 cy) H := hP
  have hD : va_D A (([(g1, .inl (cg1, 24, .inl v1_2)), (g2, .inl (cg2, 24, .inl v2_3)), (wr, .inr (7, [.ref w1, .int (zI wn)])), (w1, .inl (cw1, 24, .inl fw)), (g6, .inl (cg6, 24, .inl v6_4)), (fr, .inr (0, [.ref k1, .ref k2, .ref k3, .int (zI n)])), (k3, .inl (ck3, 4, .inl fh)), (g3, .inl (cg3, 24, .inl v3_7)), (h0, .inr (4, [.ref g1, .ref g2, .ref g3, .ref g4, .ref g5, .int (zI uc_1), .int (zI ub_6), .int (zI ur_10), .ref g6, .ref g7])), (g4, .inl (cg4, 24, .inl v4_11)), (g5, .inl (cg5, 24, .inl v5_12)), (g7, .inl (cg7, 24, .inr (.inr (.inr (.inr (fo)))))), (pf, .inr (1, [.ref p1, .int (zI pn)])), (p1, .inl (cp1, 4, .inl fp))] : va_W) ++ kRows pr ug_9 cy) := hD
  have hP9 : va_P D vwCl (([(h0, .inr (4, [.ref g1, .ref g2, .ref g3, .ref g4, .ref g5, .int (zI uc_1), .int (zI ub_6), .int (zI ur_10), .ref g6, .ref g7])), (g1, .inl (cg1, 24, .inl v1_2)), (g2, .inl (cg2, 24, .inl v2_3)), (g3, .inl (cg3, 24, .inl v3_7)), (g4, .inl (cg4, 24, .inl v4_11)), (g5, .inl (cg5, 24, .inl v5_12)), (g6, .inl (cg6, 24, .inl v6_4)), (g7, .inl (cg7, 24, .inr (.inr (.inr (.inr (fo)))))), (wr, .inr (7, [.ref w1, .int (zI wn)])), (w1, .inl (cw1, 24, .inl fw)), (fr, .inr (0, [.ref k1, .ref k2, .ref k3, .int (zI n)])), (k3, .inl (ck3, 4, .inl fh)), (pf, .inr (1, [.ref p1, .int (zI pn)])), (p1, .inl (cp1, 4, .inl fp))] : va_W) ++ kRows pr ug_9 cy) H := hP.part [8, 0, 1, 7, 9, 10, 4, 11, 2, 3, 5, 6, 12, 13] ax_X4_make_16
  have hD9 : va_D A (([(h0, .inr (4, [.ref g1, .ref g2, .ref g3, .ref g4, .ref g5, .int (zI uc_1), .int (zI ub_6), .int (zI ur_10), .ref g6, .ref g7])), (g1, .inl (cg1, 24, .inl v1_2)), (g2, .inl (cg2, 24, .inl v2_3)), (g3, .inl (cg3, 24, .inl v3_7)), (g4, .inl (cg4, 24, .inl v4_11)), (g5, .inl (cg5, 24, .inl v5_12)), (g6, .inl (cg6, 24, .inl v6_4)), (g7, .inl (cg7, 24, .inr (.inr (.inr (.inr (fo)))))), (wr, .inr (7, [.ref w1, .int (zI wn)])), (w1, .inl (cw1, 24, .inl fw)), (fr, .inr (0, [.ref k1, .ref k2, .ref k3, .int (zI n)])), (k3, .inl (ck3, 4, .inl fh)), (pf, .inr (1, [.ref p1, .int (zI pn)])), (p1, .inl (cp1, 4, .inl fp))] : va_W) ++ kRows pr ug_9 cy) := hD.part [8, 0, 1, 7, 9, 10, 4, 11, 2, 3, 5, 6, 12, 13] (by decide +kernel) ax_X4_make_16
  exact W.vret hx hb hr (fun t ht hW => kQV_of ⟨uc_1, ub_6, ur_10, v1_2, v2_3, v3_7, v4_11, v5_12, v6_4, ug_9, h_5, h_8, h_13, by rw [ht]; exact hP9, hD9⟩ (hS.F ht)) hS.2.2 dX4_make_23
theorem dX2_add_0 : decode cX2_add 0 = .ok (.aload_n 0, 1) := kqo_2a kbl_X2_add (pc := 0) rfl
theorem dX2_add_1 : decode cX2_add 1 = .ok (.getfield 20, 3) := kqo_b4 (x1 := 0) (x2 := 20) kbl_X2_add (pc := 1) rfl rfl
theorem dX2_add_4 : decode cX2_add 4 = .ok (.iconst 0, 1) := kqo_03 kbl_X2_add (pc := 4) rfl
theorem dX2_add_5 : decode cX2_add 5 = .ok (.bipush 7, 2) := kqo_10 (x1 := 7) kbl_X2_add (pc := 5) rfl rfl
theorem dX2_add_7 : decode cX2_add 7 = .ok (.invokestatic 24, 3) := kqo_b8 (x1 := 0) (x2 := 24) kbl_X2_add (pc := 7) rfl rfl
theorem dX2_add_10 : decode cX2_add 10 = .ok (.ifCond .ne 5, 3) := kqo_9a (x1 := 0) (x2 := 5) kbl_X2_add (pc := 10) rfl rfl
theorem dX2_add_13 : decode cX2_add 13 = .ok (.iconst 0, 1) := kqo_03 kbl_X2_add (pc := 13) rfl
theorem dX2_add_14 : decode cX2_add 14 = .ok (.ireturn, 1) := kqo_ac kbl_X2_add (pc := 14) rfl
theorem dX2_add_15 : decode cX2_add 15 = .ok (.aload_n 0, 1) := kqo_2a kbl_X2_add (pc := 15) rfl
theorem dX2_add_16 : decode cX2_add 16 = .ok (.getfield 9, 3) := kqo_b4 (x1 := 0) (x2 := 9) kbl_X2_add (pc := 16) rfl rfl
theorem dX2_add_19 : decode cX2_add 19 = .ok (.aload_n 0, 1) := kqo_2a kbl_X2_add (pc := 19) rfl
theorem dX2_add_20 : decode cX2_add 20 = .ok (.getfield 20, 3) := kqo_b4 (x1 := 0) (x2 := 20) kbl_X2_add (pc := 20) rfl rfl
theorem dX2_add_23 : decode cX2_add 23 = .ok (.iload_n 2, 1) := kqo_1c kbl_X2_add (pc := 23) rfl
theorem dX2_add_24 : decode cX2_add 24 = .ok (.iastore, 1) := kqo_4f kbl_X2_add (pc := 24) rfl
theorem dX2_add_25 : decode cX2_add 25 = .ok (.iconst 0, 1) := kqo_03 kbl_X2_add (pc := 25) rfl
theorem dX2_add_26 : decode cX2_add 26 = .ok (.istore_n 3, 1) := kqo_3e kbl_X2_add (pc := 26) rfl
theorem dX2_add_27 : decode cX2_add 27 = .ok (.iload_n 3, 1) := kqo_1d kbl_X2_add (pc := 27) rfl
theorem dX2_add_28 : decode cX2_add 28 = .ok (.iconst 4, 1) := kqo_07 kbl_X2_add (pc := 28) rfl
theorem dX2_add_29 : decode cX2_add 29 = .ok (.if_icmp .ge 25, 3) := kqo_a2 (x1 := 0) (x2 := 25) kbl_X2_add (pc := 29) rfl rfl
theorem dX2_add_32 : decode cX2_add 32 = .ok (.aload_n 0, 1) := kqo_2a kbl_X2_add (pc := 32) rfl
theorem dX2_add_33 : decode cX2_add 33 = .ok (.getfield 17, 3) := kqo_b4 (x1 := 0) (x2 := 17) kbl_X2_add (pc := 33) rfl rfl
theorem dX2_add_36 : decode cX2_add 36 = .ok (.aload_n 0, 1) := kqo_2a kbl_X2_add (pc := 36) rfl
theorem dX2_add_37 : decode cX2_add 37 = .ok (.getfield 20, 3) := kqo_b4 (x1 := 0) (x2 := 20) kbl_X2_add (pc := 37) rfl rfl
theorem dX2_add_40 : decode cX2_add 40 = .ok (.aaload, 1) := kqo_32 kbl_X2_add (pc := 40) rfl
theorem dX2_add_41 : decode cX2_add 41 = .ok (.iload_n 3, 1) := kqo_1d kbl_X2_add (pc := 41) rfl
theorem dX2_add_42 : decode cX2_add 42 = .ok (.aload_n 1, 1) := kqo_2b kbl_X2_add (pc := 42) rfl
theorem dX2_add_43 : decode cX2_add 43 = .ok (.iload_n 3, 1) := kqo_1d kbl_X2_add (pc := 43) rfl
theorem dX2_add_44 : decode cX2_add 44 = .ok (.invokevirtual 28, 3) := kqo_b6 (x1 := 0) (x2 := 28) kbl_X2_add (pc := 44) rfl rfl
theorem dX2_add_47 : decode cX2_add 47 = .ok (.iastore, 1) := kqo_4f kbl_X2_add (pc := 47) rfl
theorem dX2_add_48 : decode cX2_add 48 = .ok (.iinc 3 1, 3) := kqo_84 (x1 := 3) (x2 := 1) kbl_X2_add (pc := 48) rfl rfl
theorem dX2_add_51 : decode cX2_add 51 = .ok (.goto (-24), 3) := kqo_a7 (x1 := 255) (x2 := 232) kbl_X2_add (pc := 51) rfl rfl
theorem dX2_add_54 : decode cX2_add 54 = .ok (.aload_n 0, 1) := kqo_2a kbl_X2_add (pc := 54) rfl
theorem dX2_add_55 : decode cX2_add 55 = .ok (.dup, 1) := kqo_59 kbl_X2_add (pc := 55) rfl
theorem dX2_add_56 : decode cX2_add 56 = .ok (.getfield 20, 3) := kqo_b4 (x1 := 0) (x2 := 20) kbl_X2_add (pc := 56) rfl rfl
theorem dX2_add_59 : decode cX2_add 59 = .ok (.iconst 1, 1) := kqo_04 kbl_X2_add (pc := 59) rfl
theorem dX2_add_60 : decode cX2_add 60 = .ok (.iadd, 1) := kqo_60 kbl_X2_add (pc := 60) rfl
theorem dX2_add_61 : decode cX2_add 61 = .ok (.putfield 20, 3) := kqo_b5 (x1 := 0) (x2 := 20) kbl_X2_add (pc := 61) rfl rfl
theorem dX2_add_64 : decode cX2_add 64 = .ok (.iconst 1, 1) := kqo_04 kbl_X2_add (pc := 64) rfl
theorem dX2_add_65 : decode cX2_add 65 = .ok (.ireturn, 1) := kqo_ac kbl_X2_add (pc := 65) rfl
set_option maxRecDepth 20000 in
theorem ggX2_add_X4_clustersIn : GoodIn wsX2_add wsX4_clustersIn := goodIn_4 _ (List.forall_mem_cons.mpr ⟨List.mem_cons_of_mem _ (List.mem_append_left _ (List.mem_append_left _ (List.mem_of_getElem? (i := 10) rfl))), List.forall_mem_append.mpr ⟨List.forall_mem_cons.mpr ⟨List.mem_cons_of_mem _ (List.mem_append_left _ (List.mem_append_left _ (List.mem_of_getElem? (i := 11) rfl))), List.forall_mem_cons.mpr ⟨List.mem_cons_of_mem _ (List.mem_append_left _ (List.mem_append_left _ (List.mem_of_getElem? (i := 12) rfl))), fun _ h9 => absurd h9 List.not_mem_nil⟩⟩, fun w h9 => List.mem_cons_of_mem _ (List.mem_append_right _ (h9))⟩⟩) (by decide +kernel)
set_option maxRecDepth 20000 in
theorem gX2_add_X4_clustersIn : GoodIn wsX2_add (wsV RX2 28 RX4 yX4_clustersIn wsX4_clustersIn) := goodIn_app (goodIn_4 _ (List.forall_mem_cons.mpr ⟨List.mem_cons_of_mem _ (List.mem_append_left _ (List.mem_append_left _ (List.mem_of_getElem? (i := 6) rfl))), List.forall_mem_cons.mpr ⟨List.mem_cons_of_mem _ (List.mem_append_left _ (List.mem_append_left _ (List.mem_of_getElem? (i := 7) rfl))), List.forall_mem_cons.mpr ⟨List.mem_cons_of_mem _ (List.mem_append_left _ (List.mem_append_left _ (List.mem_of_getElem? (i := 8) rfl))), List.forall_mem_cons.mpr ⟨List.mem_cons_of_mem _ (List.mem_append_left _ (List.mem_append_left _ (List.mem_of_getElem? (i := 9) rfl))), fun _ h9 => absurd h9 List.not_mem_nil⟩⟩⟩⟩) (by decide +kernel)) ggX2_add_X4_clustersIn
set_option maxRecDepth 20000 in
theorem ggX2_add_X8_isWithin : GoodIn wsX2_add wsX8_isWithin := goodIn_4 _ (List.forall_mem_cons.mpr ⟨List.mem_cons_of_mem _ (List.mem_append_left _ (List.mem_append_left _ (List.mem_of_getElem? (i := 5) rfl))), fun _ h9 => absurd h9 List.not_mem_nil⟩) (by decide +kernel)
set_option maxRecDepth 20000 in
theorem gX2_add_X8_isWithin_n24 : GoodIn wsX2_add (wsX8_isWithin) := ggX2_add_X8_isWithin
set_option maxRecDepth 20000 in
theorem mw_X2_add_0 : (.fieldLink RX2 20 "FontRuns$Readings" "count" "I" : Cond) ∈ wsX2_add := List.mem_cons_of_mem _ (List.mem_append_left _ (List.mem_append_left _ (List.mem_of_getElem? (i := 0) rfl)))
set_option maxRecDepth 20000 in
theorem mw_X2_add_1 : (.initialized RX8 : Cond) ∈ wsX2_add := List.mem_cons_of_mem _ (List.mem_append_left _ (List.mem_append_left _ (List.mem_of_getElem? (i := 4) rfl)))
set_option maxRecDepth 20000 in
theorem mw_X2_add_2 : (.static yX8_isWithin : Cond) ∈ wsX2_add := List.mem_cons_of_mem _ (List.mem_append_left _ (List.mem_append_left _ (List.mem_of_getElem? (i := 3) rfl)))
set_option maxRecDepth 20000 in
theorem mw_X2_add_3 : (.fieldLink RX2 9 "FontRuns$Readings" "value" "[I" : Cond) ∈ wsX2_add := List.mem_cons_of_mem _ (List.mem_append_left _ (List.mem_append_left _ (List.mem_of_getElem? (i := 1) rfl)))
set_option maxRecDepth 20000 in
theorem mw_X2_add_4 : (.fieldLink RX2 17 "FontRuns$Readings" "clusters" "[[I" : Cond) ∈ wsX2_add := List.mem_cons_of_mem _ (List.mem_append_left _ (List.mem_append_left _ (List.mem_of_getElem? (i := 2) rfl)))
theorem ax_X2_add_0 {e0 e1 e2 e3 e4 : Nat × va_E} {k : va_W} : ([] : List Nat).map (fun i => (([e0, e1, e2, e3, e4] : va_W) ++ k)[i]?) = ([] : va_W).map some := rfl
theorem ax_X2_add_1 {e0 e1 e2 e3 e4 : Nat × va_E} : ([0, 1, 2, 3, 4] : List Nat).map (fun i => ([e0, e1, e2, e3, e4] : va_W)[i]?) = ([e0, e1, e2, e3, e4] : va_W).map some := rfl
theorem ax_X2_add_2 {e0 e1 e2 e3 e4 : Nat × va_E} {k : va_W} : ([3, 4] : List Nat).map (fun i => (([e0, e1, e2, e3, e4] : va_W) ++ k)[i]?) = ([e3, e4] : va_W).map some := rfl
set_option maxHeartbeats 4000000 in
set_option maxRecDepth 100000 in
theorem c_X2_add (l : Launch) (D : va_G) (sz : Nat) (se : Nat) (x : Int) (h0 : Nat) (n : Int) (v1 : Nat) (v2 : Nat) (cv1 : ClassId) (fv : Nat → Int32) (cv2 : ClassId) (fq : Nat → Option Nat) (o2 : Nat) (g1 : Nat) (g2 : Nat) (g3 : Nat) (g4 : Nat) (g5 : Nat) (cn : Int) (bo : Int) (ru : Int) (g6 : Nat) (g7 : Nat) (cg4 : ClassId) (f4 : Nat → Int32) (pr : Nat → Nat) (gp : Nat → Nat → Int32) (cy : ClassId) (q0 : rg x) (q1 : 0 ≤ n ∧ n ≤ 8) (q2 : 0 ≤ cn ∧ cn ≤ 24) (q3 : 0 ≤ bo ∧ bo ≤ 24) (q4 : 0 ≤ ru ∧ ru ≤ cn) (q5 : kOut fq pr o2 8) (q6 : o2 + 8 ≤ 56) : Met l yX2_add wsX2_add ({ frames := 1, cells := 0, slots := 0, locals := 23 }) (kPre [.ref h0, .ref se, .int (zI x)] D (([(h0, .inr (2, [.int (zI n), .ref v1, .ref v2])), (v1, .inl (cv1, 8, .inl fv)), (v2, .inl (cv2, 8, .inr (.inr (.inr (.inr (fq)))))), (se, .inr (4, [.ref g1, .ref g2, .ref g3, .ref g4, .ref g5, .int (zI cn), .int (zI bo), .int (zI ru), .ref g6, .ref g7])), (g4, .inl (cg4, 24, .inl f4))] : va_W) ++ kRows pr gp cy) [(cv1, .int), (cv2, .array .int), (cg4, .int), (cy, .int)] sz) (kQS (fun rz t => ∃ (un : Int) (uf : Nat → Int32) (ug : Nat → Nat → Int32), (0 ≤ un ∧ un ≤ 8) ∧ (rz = 0 ∨ rz = 1) ∧ va_P D vwCl (([(h0, .inr (2, [.int (zI un), .ref v1, .ref v2])), (v1, .inl (cv1, 8, .inl uf)), (v2, .inl (cv2, 8, .inr (.inr (.inr (.inr (fq)))))), (se, .inr (4, [.ref g1, .ref g2, .ref g3, .ref g4, .ref g5, .int (zI cn), .int (zI bo), .int (zI ru), .ref g6, .ref g7])), (g4, .inl (cg4, 24, .inl f4))] : va_W) ++ kRows pr ug cy) t.heap ∧ va_D (va_A (([(h0, .inr (2, [.int (zI n), .ref v1, .ref v2])), (v1, .inl (cv1, 8, .inl fv)), (v2, .inl (cv2, 8, .inr (.inr (.inr (.inr (fq)))))), (se, .inr (4, [.ref g1, .ref g2, .ref g3, .ref g4, .ref g5, .int (zI cn), .int (zI bo), .int (zI ru), .ref g6, .ref g7])), (g4, .inl (cg4, 24, .inl f4))] : va_W) ++ kRows pr gp cy) sz) (([(h0, .inr (2, [.int (zI un), .ref v1, .ref v2])), (v1, .inl (cv1, 8, .inl uf)), (v2, .inl (cv2, 8, .inr (.inr (.inr (.inr (fq)))))), (se, .inr (4, [.ref g1, .ref g2, .ref g3, .ref g4, .ref g5, .int (zI cn), .int (zI bo), .int (zI ru), .ref g6, .ref g7])), (g4, .inl (cg4, 24, .inl f4))] : va_W) ++ kRows pr ug cy)) (va_A (([(h0, .inr (2, [.int (zI n), .ref v1, .ref v2])), (v1, .inl (cv1, 8, .inl fv)), (v2, .inl (cv2, 8, .inr (.inr (.inr (.inr (fq)))))), (se, .inr (4, [.ref g1, .ref g2, .ref g3, .ref g4, .ref g5, .int (zI cn), .int (zI bo), .int (zI ru), .ref g6, .ref g7])), (g4, .inl (cg4, 24, .inl f4))] : va_W) ++ kRows pr gp cy) sz)) 0 0 (va_A (([(h0, .inr (2, [.int (zI n), .ref v1, .ref v2])), (v1, .inl (cv1, 8, .inl fv)), (v2, .inl (cv2, 8, .inr (.inr (.inr (.inr (fq)))))), (se, .inr (4, [.ref g1, .ref g2, .ref g3, .ref g4, .ref g5, .int (zI cn), .int (zI bo), .int (zI ru), .ref g6, .ref g7])), (g4, .inl (cg4, 24, .inl f4))] : va_W) ++ kRows pr gp cy) sz) := by
  refine Met.ofW (cc := cX2_add) (maxL := 4) (ret := (some .boolean)) (by decide) rfl ?_
  intro p e s m args below meth c s₁ B hml hv
  obtain ⟨rfl, hsz, hP, hK, hD0, hN⟩ := hv
  have hx := B.exec
  have hb := B.bytes
  have hr := B.returns
  have hts := atoms_spec (ws := wsX2_add) B.pre
  have hown : s.vm.findClass RX2 = some m.cls := findClass_of_methodNamed B.named
  have hlocks := B.notSynchronized
  subst hsz
  have hD := hD0.self (sz := s.heap.size)
  generalize hAe : va_A (([(h0, .inr (2, [.int (zI n), .ref v1, .ref v2])), (v1, .inl (cv1, 8, .inl fv)), (v2, .inl (cv2, 8, .inr (.inr (.inr (.inr (fq)))))), (se, .inr (4, [.ref g1, .ref g2, .ref g3, .ref g4, .ref g5, .int (zI cn), .int (zI bo), .int (zI ru), .ref g6, .ref g7])), (g4, .inl (cg4, 24, .inl f4))] : va_W) ++ kRows pr gp cy) s.heap.size = A at hD ⊢
  have hA : ∀ q : Nat, s.heap.size ≤ q → A q := fun q h => by rw [← hAe]; exact Or.inr h
  have hS : va_S A s.heap s.heap [] := va_S.rf
  have hP : va_P D vwCl (([(h0, .inr (2, [.int (zI n), .ref v1, .ref v2])), (v1, .inl (cv1, 8, .inl fv)), (v2, .inl (cv2, 8, .inr (.inr (.inr (.inr (fq)))))), (se, .inr (4, [.ref g1, .ref g2, .ref g3, .ref g4, .ref g5, .int (zI cn), .int (zI bo), .int (zI ru), .ref g6, .ref g7])), (g4, .inl (cg4, 24, .inl f4))] : va_W) ++ kRows pr gp cy) s.heap := hP
  have hl := lv_entry ([.ref h0, .ref se, .int (zI x)]) (n := 4) (Nat.le_of_ble_eq_true rfl)
  rw [lg_entry_eq]
  generalize (lg_sl ([.ref h0, .ref se, .int (zI x)]) ++ List.replicate (4 - (lg_sl ([.ref h0, .ref se, .int (zI x)])).length) Slot.unset).toArray = ls at hl ⊢
  have hl : lv_has ls 4 [(0, .ref h0), (1, .ref se), (2, .int (zI x))] := hl
  refine lv_aload_n hx hb dX2_add_0 rfl (lv_at hl 0 rfl) ?_
  refine va_get (D := D) (ci := 2) (v := .int (zI n)) (C := RX2) (T := TX2) (N := 3) hx hb hts (fun _ h9 => List.mem_cons_of_mem _ (List.mem_append_left _ (List.mem_append_right _ h9))) hown hK hP 0 rfl rfl 0 (by decide) (hts (.fieldLink RX2 20 "FontRuns$Readings" "count" "I") mw_X2_add_0) (fun _ h9 => h9) rfl dX2_add_1 ?_
  refine lv_iconst (v := zI 0) hx hb dX2_add_4 rfl ?_
  refine lv_bipush (v := zI 7) hx hb dX2_add_5 (by decide) ?_
  refine k_callR (va_runSN (As := [.int (zI n), .int (zI 0), .int (zI 7)]) (rest := []) ⟨hx, hb, hml, hown, hts⟩ (c_X8_isWithin l D s.heap.size (v := n) (a := 0) (b := 7) (by omega) (by omega) (by omega)) (⟨va_cnB 3 hts gX2_add_X8_isWithin_n24 rfl rfl rfl (hN.1 (RX2, 24, yX8_isWithin) (by decide +kernel)) (hts (.initialized RX8) mw_X2_add_1) (by decide +kernel) ⟨Nat.le_of_ble_eq_true rfl, Nat.le_of_ble_eq_true rfl⟩, (hts (.static yX8_isWithin) mw_X2_add_2), trivial⟩) (kPreS hP (kD0 hD) hK hN [] [] ax_X2_add_0 rfl (by decide +kernel)) rfl rfl hl.1 rfl (lv_room (Nat.le_of_ble_eq_true rfl)) dX2_add_7 ⟨Nat.le_of_ble_eq_true rfl, Nat.le_of_ble_eq_true rfl⟩) ?_
  refine lv_if_ne (tgt := 15) hx hb dX2_add_10 (by decide) (fun c_1 => ?_) (fun c_1 => ?_)
  · have c_1 : 0 ≤ n ∧ n ≤ 7 := b01t c_1
    refine lv_aload_n hx hb dX2_add_15 rfl (lv_at hl 0 rfl) ?_
    refine va_get (D := D) (ci := 2) (v := .ref v1) (C := RX2) (T := TX2) (N := 3) hx hb hts (fun _ h9 => List.mem_cons_of_mem _ (List.mem_append_left _ (List.mem_append_right _ h9))) hown hK hP 0 rfl rfl 1 (by decide) (hts (.fieldLink RX2 9 "FontRuns$Readings" "value" "[I") mw_X2_add_3) (fun _ h9 => h9) rfl dX2_add_16 ?_
    refine lv_aload_n hx hb dX2_add_19 rfl (lv_at hl 0 rfl) ?_
    refine va_get (D := D) (ci := 2) (v := .int (zI n)) (C := RX2) (T := TX2) (N := 3) hx hb hts (fun _ h9 => List.mem_cons_of_mem _ (List.mem_append_left _ (List.mem_append_right _ h9))) hown hK hP 0 rfl rfl 0 (by decide) (hts (.fieldLink RX2 20 "FontRuns$Readings" "count" "I") mw_X2_add_0) (fun _ h9 => h9) rfl dX2_add_20 ?_
    refine lv_iload_n hx hb dX2_add_23 rfl (lv_at hl 2 rfl) ?_
    refine kz_iast hx hb hK hP hD hS 1 0 rfl rfl (by omega) dX2_add_24 (fun H locs hP hD hS => ?_)
    have hP : va_P D vwCl (([(h0, .inr (2, [.int (zI n), .ref v1, .ref v2])), (v1, .inl (cv1, 8, .inl (upd fv (n).toNat (zI x)))), (v2, .inl (cv2, 8, .inr (.inr (.inr (.inr (fq)))))), (se, .inr (4, [.ref g1, .ref g2, .ref g3, .ref g4, .ref g5, .int (zI cn), .int (zI bo), .int (zI ru), .ref g6, .ref g7])), (g4, .inl (cg4, 24, .inl f4))] : va_W) ++ kRows pr gp cy) H := hP
    have hD : va_D A (([(h0, .inr (2, [.int (zI n), .ref v1, .ref v2])), (v1, .inl (cv1, 8, .inl (upd fv (n).toNat (zI x)))), (v2, .inl (cv2, 8, .inr (.inr (.inr (.inr (fq)))))), (se, .inr (4, [.ref g1, .ref g2, .ref g3, .ref g4, .ref g5, .int (zI cn), .int (zI bo), .int (zI ru), .ref g6, .ref g7])), (g4, .inl (cg4, 24, .inl f4))] : va_W) ++ kRows pr gp cy) := hD
    generalize ef_2 : upd fv (n).toNat (zI x) = f_2 at hP hD
    refine lv_iconst (v := zI 0) hx hb dX2_add_25 rfl ?_
    refine lv_istore_n (lv' := [(3, .int (zI 0)), (0, .ref h0), (1, .ref se), (2, .int (zI x))]) hx hb dX2_add_26 rfl hl (by decide) rfl (fun ls hl => ?_)
    refine k_loopM (I := fun n9 H locs ls => ∃ (jk : Int) (jp : Nat → Nat → Int32), n9 = (4 - jk).toNat ∧ (0 ≤ jk ∧ jk ≤ 4) ∧ va_P D vwCl (([(h0, .inr (2, [.int (zI n), .ref v1, .ref v2])), (v1, .inl (cv1, 8, .inl f_2)), (v2, .inl (cv2, 8, .inr (.inr (.inr (.inr (fq)))))), (se, .inr (4, [.ref g1, .ref g2, .ref g3, .ref g4, .ref g5, .int (zI cn), .int (zI bo), .int (zI ru), .ref g6, .ref g7])), (g4, .inl (cg4, 24, .inl f4))] : va_W) ++ kRows pr jp cy) H ∧ va_D A (([(h0, .inr (2, [.int (zI n), .ref v1, .ref v2])), (v1, .inl (cv1, 8, .inl f_2)), (v2, .inl (cv2, 8, .inr (.inr (.inr (.inr (fq)))))), (se, .inr (4, [.ref g1, .ref g2, .ref g3, .ref g4, .ref g5, .int (zI cn), .int (zI bo), .int (zI ru), .ref g6, .ref g7])), (g4, .inl (cg4, 24, .inl f4))] : va_W) ++ kRows pr jp cy) ∧ va_S A s.heap H locs ∧ lv_has ls 4 [(3, .int (zI jk)), (0, .ref h0), (1, .ref se), (2, .int (zI x))]) ?_ _ ⟨0, gp, rfl, (by omega), hP, hD, hS, hl⟩
    intro n27 ih27 H locs ls hI
    obtain ⟨jk, jp, en27, v_270, hP, hD, hS, hl⟩ := hI
    refine lv_iload_n hx hb dX2_add_27 rfl (lv_at hl 0 rfl) ?_
    refine lv_iconst (v := zI 4) hx hb dX2_add_28 rfl ?_
    refine kz_icmp_ge (tgt := 54) hx hb dX2_add_29 (by decide) (by omega) (by omega) (fun c_3 => ?_) (fun c_3 => ?_)
    · refine lv_aload_n hx hb dX2_add_54 rfl (lv_at hl 1 rfl) ?_
      refine lv_dup hx hb dX2_add_55 rfl ?_
      refine va_get (D := D) (ci := 2) (v := .int (zI n)) (C := RX2) (T := TX2) (N := 3) hx hb hts (fun _ h9 => List.mem_cons_of_mem _ (List.mem_append_left _ (List.mem_append_right _ h9))) hown hK hP 0 rfl rfl 0 (by decide) (hts (.fieldLink RX2 20 "FontRuns$Readings" "count" "I") mw_X2_add_0) (fun _ h9 => h9) rfl dX2_add_56 ?_
      refine lv_iconst (v := zI 1) hx hb dX2_add_59 rfl ?_
      refine kz_iadd hx hb dX2_add_60 ?_
      refine va_put (D := D) (ci := 2) (v := .int (zI (n + 1))) (ty := .int) (C := RX2) (T := TX2) (N := 3) hx hb hts (fun _ h9 => List.mem_cons_of_mem _ (List.mem_append_left _ (List.mem_append_right _ h9))) tyX2 tyX2_ok nmX2 hown hK hP hD hS 0 rfl rfl 0 (by decide) (hts (.fieldLink RX2 20 "FontRuns$Readings" "count" "I") mw_X2_add_0) (fun _ h9 => h9) rfl (by decide +kernel) rfl rfl (Nat.le_of_ble_eq_true rfl) dX2_add_61 (fun H locs hP hD hS => ?_)
      have hP : va_P D vwCl (([(h0, .inr (2, [.int (zI (n + 1)), .ref v1, .ref v2])), (v1, .inl (cv1, 8, .inl f_2)), (v2, .inl (cv2, 8, .inr (.inr (.inr (.inr (fq)))))), (se, .inr (4, [.ref g1, .ref g2, .ref g3, .ref g4, .ref g5, .int (zI cn), .int (zI bo), .int (zI ru), .ref g6, .ref g7])), (g4, .inl (cg4, 24, .inl f4))] : va_W) ++ kRows pr jp cy) H := hP
      have hD : va_D A (([(h0, .inr (2, [.int (zI (n + 1)), .ref v1, .ref v2])), (v1, .inl (cv1, 8, .inl f_2)), (v2, .inl (cv2, 8, .inr (.inr (.inr (.inr (fq)))))), (se, .inr (4, [.ref g1, .ref g2, .ref g3, .ref g4, .ref g5, .int (zI cn), .int (zI bo), .int (zI ru), .ref g6, .ref g7])), (g4, .inl (cg4, 24, .inl f4))] : va_W) ++ kRows pr jp cy) := hD
      refine lv_iconst (v := zI 1) hx hb dX2_add_64 rfl ?_
      have hP9 : va_P D vwCl (([(h0, .inr (2, [.int (zI (n + 1)), .ref v1, .ref v2])), (v1, .inl (cv1, 8, .inl f_2)), (v2, .inl (cv2, 8, .inr (.inr (.inr (.inr (fq)))))), (se, .inr (4, [.ref g1, .ref g2, .ref g3, .ref g4, .ref g5, .int (zI cn), .int (zI bo), .int (zI ru), .ref g6, .ref g7])), (g4, .inl (cg4, 24, .inl f4))] : va_W) ++ kRows pr jp cy) H := hP.part [0, 1, 2, 3, 4] ax_X2_add_1
      have hD9 : va_D A (([(h0, .inr (2, [.int (zI (n + 1)), .ref v1, .ref v2])), (v1, .inl (cv1, 8, .inl f_2)), (v2, .inl (cv2, 8, .inr (.inr (.inr (.inr (fq)))))), (se, .inr (4, [.ref g1, .ref g2, .ref g3, .ref g4, .ref g5, .int (zI cn), .int (zI bo), .int (zI ru), .ref g6, .ref g7])), (g4, .inl (cg4, 24, .inl f4))] : va_W) ++ kRows pr jp cy) := hD.part [0, 1, 2, 3, 4] (by decide +kernel) ax_X2_add_1
      exact W.zret (v := (zI 1)) hx hb hr rfl (fun t ht hW => kQS_of (by omega) ⟨(n + 1), f_2, jp, (by omega), (by omega), by rw [ht]; exact hP9, hD9⟩ (hS.F ht)) hS.2.2 dX2_add_65
    · refine lv_aload_n hx hb dX2_add_32 rfl (lv_at hl 1 rfl) ?_
      refine va_get (D := D) (ci := 2) (v := .ref v2) (C := RX2) (T := TX2) (N := 3) hx hb hts (fun _ h9 => List.mem_cons_of_mem _ (List.mem_append_left _ (List.mem_append_right _ h9))) hown hK hP 0 rfl rfl 2 (by decide) (hts (.fieldLink RX2 17 "FontRuns$Readings" "clusters" "[[I") mw_X2_add_4) (fun _ h9 => h9) rfl dX2_add_33 ?_
      refine lv_aload_n hx hb dX2_add_36 rfl (lv_at hl 1 rfl) ?_
      refine va_get (D := D) (ci := 2) (v := .int (zI n)) (C := RX2) (T := TX2) (N := 3) hx hb hts (fun _ h9 => List.mem_cons_of_mem _ (List.mem_append_left _ (List.mem_append_right _ h9))) hown hK hP 0 rfl rfl 0 (by decide) (hts (.fieldLink RX2 20 "FontRuns$Readings" "count" "I") mw_X2_add_0) (fun _ h9 => h9) rfl dX2_add_37 ?_
      refine kz_aald hx hb hK hP 2 1 rfl rfl (by omega) dX2_add_40 (q5 _ (by omega)) ?_
      refine lv_iload_n hx hb dX2_add_41 rfl (lv_at hl 0 rfl) ?_
      refine lv_aload_n hx hb dX2_add_42 rfl (lv_at hl 2 rfl) ?_
      refine lv_iload_n hx hb dX2_add_43 rfl (lv_at hl 0 rfl) ?_
      refine k_callP (va_runV (As := [.int (zI jk)]) (rest := [.int (zI jk), .ref (pr (o2 + (n).toNat))]) ⟨hx, hb, hml, hown, hts⟩ (c_X4_clustersIn l D H.size (f := jk) (h0 := se) (g1 := g1) (g2 := g2) (g3 := g3) (g4 := g4) (g5 := g5) (cn := cn) (bo := bo) (ru := ru) (g6 := g6) (g7 := g7) (cg4 := cg4) (f4 := f4) (by omega) q2 q3 q4) (cwV 1 hts gX2_add_X4_clustersIn rfl rfl rfl (by decide +kernel) ⟨Nat.le_of_ble_eq_true rfl, Nat.le_of_ble_eq_true rfl⟩) (kPreV hP (kD0 hD) hK hN [3, 4] [2] ax_X2_add_2 rfl (by decide +kernel) 3 4 rfl rfl) rfl rfl hl.1 rfl (lv_room (Nat.le_of_ble_eq_true rfl)) dX2_add_44 ⟨Nat.le_of_ble_eq_true rfl, Nat.le_of_ble_eq_true rfl⟩) (fun z_4 rz_4 h_5 => ?_)
      refine kz_rowst (X := [(h0, .inr (2, [.int (zI n), .ref v1, .ref v2])), (v1, .inl (cv1, 8, .inl f_2)), (v2, .inl (cv2, 8, .inr (.inr (.inr (.inr (fq)))))), (se, .inr (4, [.ref g1, .ref g2, .ref g3, .ref g4, .ref g5, .int (zI cn), .int (zI bo), .int (zI ru), .ref g6, .ref g7])), (g4, .inl (cg4, 24, .inl f4))]) hx hb hK hP hD hS 3 rfl (by omega) (by omega) dX2_add_47 (fun H locs hP hD hS => ?_)
      generalize va_up jp (o2 + (n).toNat) (upd (jp (o2 + (n).toNat)) (jk).toNat (zI z_4)) = gp_6 at hP hD
      have hP : va_P D vwCl (([(h0, .inr (2, [.int (zI n), .ref v1, .ref v2])), (v1, .inl (cv1, 8, .inl f_2)), (v2, .inl (cv2, 8, .inr (.inr (.inr (.inr (fq)))))), (se, .inr (4, [.ref g1, .ref g2, .ref g3, .ref g4, .ref g5, .int (zI cn), .int (zI bo), .int (zI ru), .ref g6, .ref g7])), (g4, .inl (cg4, 24, .inl f4))] : va_W) ++ kRows pr gp_6 cy) H := hP
      have hD : va_D A (([(h0, .inr (2, [.int (zI n), .ref v1, .ref v2])), (v1, .inl (cv1, 8, .inl f_2)), (v2, .inl (cv2, 8, .inr (.inr (.inr (.inr (fq)))))), (se, .inr (4, [.ref g1, .ref g2, .ref g3, .ref g4, .ref g5, .int (zI cn), .int (zI bo), .int (zI ru), .ref g6, .ref g7])), (g4, .inl (cg4, 24, .inl f4))] : va_W) ++ kRows pr gp_6 cy) := hD
      refine lv_iinc (v := (zI (jk + 1))) (lv' := [(3, .int (zI (jk + 1))), (0, .ref h0), (1, .ref se), (2, .int (zI x))]) hx hb dX2_add_48 hl (k := 0) rfl (kz_inc _ 1) (by decide) rfl (fun ls hl => ?_)
      refine lv_goto (tgt := 27) hx hb dX2_add_51 (by decide) ?_
      exact ih27 _ (by omega) _ _ _ ⟨(jk + 1), gp_6, rfl, (by omega), hP, hD, hS, lv_sub hl [0, 1, 2, 3] rfl⟩
  · have c_1 : ¬ (0 ≤ n ∧ n ≤ 7) := b01f c_1
    refine lv_iconst (v := zI 0) hx hb dX2_add_13 rfl ?_
    have hP9 : va_P D vwCl (([(h0, .inr (2, [.int (zI n), .ref v1, .ref v2])), (v1, .inl (cv1, 8, .inl fv)), (v2, .inl (cv2, 8, .inr (.inr (.inr (.inr (fq)))))), (se, .inr (4, [.ref g1, .ref g2, .ref g3, .ref g4, .ref g5, .int (zI cn), .int (zI bo), .int (zI ru), .ref g6, .ref g7])), (g4, .inl (cg4, 24, .inl f4))] : va_W) ++ kRows pr gp cy) s.heap := hP.part [0, 1, 2, 3, 4] ax_X2_add_1
    have hD9 : va_D A (([(h0, .inr (2, [.int (zI n), .ref v1, .ref v2])), (v1, .inl (cv1, 8, .inl fv)), (v2, .inl (cv2, 8, .inr (.inr (.inr (.inr (fq)))))), (se, .inr (4, [.ref g1, .ref g2, .ref g3, .ref g4, .ref g5, .int (zI cn), .int (zI bo), .int (zI ru), .ref g6, .ref g7])), (g4, .inl (cg4, 24, .inl f4))] : va_W) ++ kRows pr gp cy) := hD.part [0, 1, 2, 3, 4] (by decide +kernel) ax_X2_add_1
    exact W.zret (v := (zI 0)) hx hb hr rfl (fun t ht hW => kQS_of (by omega) ⟨n, fv, gp, q1, (by omega), by rw [ht]; exact hP9, hD9⟩ (hS.F ht)) hS.2.2 dX2_add_14
theorem dX2_areSo_0 : decode cX2_areSo 0 = .ok (.iconst 0, 1) := kqo_03 kbl_X2_areSo (pc := 0) rfl
theorem dX2_areSo_1 : decode cX2_areSo 1 = .ok (.istore 4, 2) := kqo_36 (x1 := 4) kbl_X2_areSo (pc := 1) rfl rfl
theorem dX2_areSo_3 : decode cX2_areSo 3 = .ok (.iload 4, 2) := kqo_15 (x1 := 4) kbl_X2_areSo (pc := 3) rfl rfl
theorem dX2_areSo_5 : decode cX2_areSo 5 = .ok (.aload_n 0, 1) := kqo_2a kbl_X2_areSo (pc := 5) rfl
theorem dX2_areSo_6 : decode cX2_areSo 6 = .ok (.getfield 20, 3) := kqo_b4 (x1 := 0) (x2 := 20) kbl_X2_areSo (pc := 6) rfl rfl
theorem dX2_areSo_9 : decode cX2_areSo 9 = .ok (.if_icmp .ge 76, 3) := kqo_a2 (x1 := 0) (x2 := 76) kbl_X2_areSo (pc := 9) rfl rfl
theorem dX2_areSo_12 : decode cX2_areSo 12 = .ok (.iconst 0, 1) := kqo_03 kbl_X2_areSo (pc := 12) rfl
theorem dX2_areSo_13 : decode cX2_areSo 13 = .ok (.istore 5, 2) := kqo_36 (x1 := 5) kbl_X2_areSo (pc := 13) rfl rfl
theorem dX2_areSo_15 : decode cX2_areSo 15 = .ok (.iconst 0, 1) := kqo_03 kbl_X2_areSo (pc := 15) rfl
theorem dX2_areSo_16 : decode cX2_areSo 16 = .ok (.istore 6, 2) := kqo_36 (x1 := 6) kbl_X2_areSo (pc := 16) rfl rfl
theorem dX2_areSo_18 : decode cX2_areSo 18 = .ok (.iload 6, 2) := kqo_15 (x1 := 6) kbl_X2_areSo (pc := 18) rfl rfl
theorem dX2_areSo_20 : decode cX2_areSo 20 = .ok (.aload_n 1, 1) := kqo_2b kbl_X2_areSo (pc := 20) rfl
theorem dX2_areSo_21 : decode cX2_areSo 21 = .ok (.getfield 34, 3) := kqo_b4 (x1 := 0) (x2 := 34) kbl_X2_areSo (pc := 21) rfl rfl
theorem dX2_areSo_24 : decode cX2_areSo 24 = .ok (.if_icmp .ge 41, 3) := kqo_a2 (x1 := 0) (x2 := 41) kbl_X2_areSo (pc := 24) rfl rfl
theorem dX2_areSo_27 : decode cX2_areSo 27 = .ok (.iload 5, 2) := kqo_15 (x1 := 5) kbl_X2_areSo (pc := 27) rfl rfl
theorem dX2_areSo_29 : decode cX2_areSo 29 = .ok (.aload_n 0, 1) := kqo_2a kbl_X2_areSo (pc := 29) rfl
theorem dX2_areSo_30 : decode cX2_areSo 30 = .ok (.getfield 17, 3) := kqo_b4 (x1 := 0) (x2 := 17) kbl_X2_areSo (pc := 30) rfl rfl
theorem dX2_areSo_33 : decode cX2_areSo 33 = .ok (.iload 4, 2) := kqo_15 (x1 := 4) kbl_X2_areSo (pc := 33) rfl rfl
theorem dX2_areSo_35 : decode cX2_areSo 35 = .ok (.aaload, 1) := kqo_32 kbl_X2_areSo (pc := 35) rfl
theorem dX2_areSo_36 : decode cX2_areSo 36 = .ok (.iload 6, 2) := kqo_15 (x1 := 6) kbl_X2_areSo (pc := 36) rfl rfl
theorem dX2_areSo_38 : decode cX2_areSo 38 = .ok (.iaload, 1) := kqo_2e kbl_X2_areSo (pc := 38) rfl
theorem dX2_areSo_39 : decode cX2_areSo 39 = .ok (.iload 6, 2) := kqo_15 (x1 := 6) kbl_X2_areSo (pc := 39) rfl rfl
theorem dX2_areSo_41 : decode cX2_areSo 41 = .ok (.iload_n 2, 1) := kqo_1c kbl_X2_areSo (pc := 41) rfl
theorem dX2_areSo_42 : decode cX2_areSo 42 = .ok (.if_icmp .ne 7, 3) := kqo_a0 (x1 := 0) (x2 := 7) kbl_X2_areSo (pc := 42) rfl rfl
theorem dX2_areSo_45 : decode cX2_areSo 45 = .ok (.iload_n 3, 1) := kqo_1d kbl_X2_areSo (pc := 45) rfl
theorem dX2_areSo_46 : decode cX2_areSo 46 = .ok (.goto 9, 3) := kqo_a7 (x1 := 0) (x2 := 9) kbl_X2_areSo (pc := 46) rfl rfl
theorem dX2_areSo_49 : decode cX2_areSo 49 = .ok (.aload_n 1, 1) := kqo_2b kbl_X2_areSo (pc := 49) rfl
theorem dX2_areSo_50 : decode cX2_areSo 50 = .ok (.iload 6, 2) := kqo_15 (x1 := 6) kbl_X2_areSo (pc := 50) rfl rfl
theorem dX2_areSo_52 : decode cX2_areSo 52 = .ok (.invokevirtual 37, 3) := kqo_b6 (x1 := 0) (x2 := 37) kbl_X2_areSo (pc := 52) rfl rfl
theorem dX2_areSo_55 : decode cX2_areSo 55 = .ok (.imul, 1) := kqo_68 kbl_X2_areSo (pc := 55) rfl
theorem dX2_areSo_56 : decode cX2_areSo 56 = .ok (.iadd, 1) := kqo_60 kbl_X2_areSo (pc := 56) rfl
theorem dX2_areSo_57 : decode cX2_areSo 57 = .ok (.istore 5, 2) := kqo_36 (x1 := 5) kbl_X2_areSo (pc := 57) rfl rfl
theorem dX2_areSo_59 : decode cX2_areSo 59 = .ok (.iinc 6 1, 3) := kqo_84 (x1 := 6) (x2 := 1) kbl_X2_areSo (pc := 59) rfl rfl
theorem dX2_areSo_62 : decode cX2_areSo 62 = .ok (.goto (-44), 3) := kqo_a7 (x1 := 255) (x2 := 212) kbl_X2_areSo (pc := 62) rfl rfl
theorem dX2_areSo_65 : decode cX2_areSo 65 = .ok (.iload 5, 2) := kqo_15 (x1 := 5) kbl_X2_areSo (pc := 65) rfl rfl
theorem dX2_areSo_67 : decode cX2_areSo 67 = .ok (.aload_n 0, 1) := kqo_2a kbl_X2_areSo (pc := 67) rfl
theorem dX2_areSo_68 : decode cX2_areSo 68 = .ok (.getfield 9, 3) := kqo_b4 (x1 := 0) (x2 := 9) kbl_X2_areSo (pc := 68) rfl rfl
theorem dX2_areSo_71 : decode cX2_areSo 71 = .ok (.iload 4, 2) := kqo_15 (x1 := 4) kbl_X2_areSo (pc := 71) rfl rfl
theorem dX2_areSo_73 : decode cX2_areSo 73 = .ok (.iaload, 1) := kqo_2e kbl_X2_areSo (pc := 73) rfl
theorem dX2_areSo_74 : decode cX2_areSo 74 = .ok (.if_icmp .eq 5, 3) := kqo_9f (x1 := 0) (x2 := 5) kbl_X2_areSo (pc := 74) rfl rfl
theorem dX2_areSo_77 : decode cX2_areSo 77 = .ok (.iconst 0, 1) := kqo_03 kbl_X2_areSo (pc := 77) rfl
theorem dX2_areSo_78 : decode cX2_areSo 78 = .ok (.ireturn, 1) := kqo_ac kbl_X2_areSo (pc := 78) rfl
theorem dX2_areSo_79 : decode cX2_areSo 79 = .ok (.iinc 4 1, 3) := kqo_84 (x1 := 4) (x2 := 1) kbl_X2_areSo (pc := 79) rfl rfl
theorem dX2_areSo_82 : decode cX2_areSo 82 = .ok (.goto (-79), 3) := kqo_a7 (x1 := 255) (x2 := 177) kbl_X2_areSo (pc := 82) rfl rfl
theorem dX2_areSo_85 : decode cX2_areSo 85 = .ok (.iconst 1, 1) := kqo_04 kbl_X2_areSo (pc := 85) rfl
theorem dX2_areSo_86 : decode cX2_areSo 86 = .ok (.ireturn, 1) := kqo_ac kbl_X2_areSo (pc := 86) rfl
set_option maxRecDepth 20000 in
theorem ggX2_areSo_X0_step : GoodIn wsX2_areSo wsX0_step := goodIn_4 _ (List.forall_mem_cons.mpr ⟨List.mem_cons_of_mem _ (List.mem_append_left _ (List.mem_append_left _ (List.mem_of_getElem? (i := 8) rfl))), List.forall_mem_append.mpr ⟨List.forall_mem_cons.mpr ⟨List.mem_cons_of_mem _ (List.mem_append_left _ (List.mem_append_left _ (List.mem_of_getElem? (i := 9) rfl))), List.forall_mem_cons.mpr ⟨List.mem_cons_of_mem _ (List.mem_append_left _ (List.mem_append_left _ (List.mem_of_getElem? (i := 10) rfl))), List.forall_mem_cons.mpr ⟨List.mem_cons_of_mem _ (List.mem_append_left _ (List.mem_append_left _ (List.mem_of_getElem? (i := 11) rfl))), List.forall_mem_cons.mpr ⟨List.mem_cons_of_mem _ (List.mem_append_left _ (List.mem_append_left _ (List.mem_of_getElem? (i := 12) rfl))), List.forall_mem_cons.mpr ⟨List.mem_cons_of_mem _ (List.mem_append_left _ (List.mem_append_left _ (List.mem_of_getElem? (i := 13) rfl))), List.forall_mem_cons.mpr ⟨List.mem_cons_of_mem _ (List.mem_append_left _ (List.mem_append_left _ (List.mem_of_getElem? (i := 7) rfl))), List.forall_mem_cons.mpr ⟨List.mem_cons_of_mem _ (List.mem_append_left _ (List.mem_append_left _ (List.mem_of_getElem? (i := 14) rfl))), List.forall_mem_cons.mpr ⟨List.mem_cons_of_mem _ (List.mem_append_left _ (List.mem_append_left _ (List.mem_of_getElem? (i := 15) rfl))), List.forall_mem_cons.mpr ⟨List.mem_cons_of_mem _ (List.mem_append_left _ (List.mem_append_left _ (List.mem_of_getElem? (i := 16) rfl))), List.forall_mem_cons.mpr ⟨List.mem_cons_of_mem _ (List.mem_append_left _ (List.mem_append_left _ (List.mem_of_getElem? (i := 17) rfl))), List.forall_mem_cons.mpr ⟨List.mem_cons_of_mem _ (List.mem_append_left _ (List.mem_append_left _ (List.mem_of_getElem? (i := 18) rfl))), List.forall_mem_cons.mpr ⟨List.mem_cons_of_mem _ (List.mem_append_left _ (List.mem_append_left _ (List.mem_of_getElem? (i := 19) rfl))), List.forall_mem_cons.mpr ⟨List.mem_cons_of_mem _ (List.mem_append_left _ (List.mem_append_left _ (List.mem_of_getElem? (i := 20) rfl))), fun _ h9 => absurd h9 List.not_mem_nil⟩⟩⟩⟩⟩⟩⟩⟩⟩⟩⟩⟩⟩, fun w h9 => List.mem_cons_of_mem _ (List.mem_append_right _ (h9))⟩⟩) (by decide +kernel)
set_option maxRecDepth 20000 in
theorem gX2_areSo_X0_step : GoodIn wsX2_areSo (wsV RX2 37 RX0 yX0_step wsX0_step) := goodIn_app (goodIn_4 _ (List.forall_mem_cons.mpr ⟨List.mem_cons_of_mem _ (List.mem_append_left _ (List.mem_append_left _ (List.mem_of_getElem? (i := 4) rfl))), List.forall_mem_cons.mpr ⟨List.mem_cons_of_mem _ (List.mem_append_left _ (List.mem_append_left _ (List.mem_of_getElem? (i := 5) rfl))), List.forall_mem_cons.mpr ⟨List.mem_cons_of_mem _ (List.mem_append_left _ (List.mem_append_left _ (List.mem_of_getElem? (i := 6) rfl))), List.forall_mem_cons.mpr ⟨List.mem_cons_of_mem _ (List.mem_append_left _ (List.mem_append_left _ (List.mem_of_getElem? (i := 7) rfl))), fun _ h9 => absurd h9 List.not_mem_nil⟩⟩⟩⟩) (by decide +kernel)) ggX2_areSo_X0_step
set_option maxRecDepth 20000 in
theorem mw_X2_areSo_0 : (.fieldLink RX2 20 "FontRuns$Readings" "count" "I" : Cond) ∈ wsX2_areSo := List.mem_cons_of_mem _ (List.mem_append_left _ (List.mem_append_left _ (List.mem_of_getElem? (i := 0) rfl)))
set_option maxRecDepth 20000 in
theorem mw_X2_areSo_1 : (.fieldLink RX2 34 "FontRuns$FontRow" "count" "I" : Cond) ∈ wsX2_areSo := List.mem_cons_of_mem _ (List.mem_append_left _ (List.mem_append_left _ (List.mem_of_getElem? (i := 1) rfl)))
set_option maxRecDepth 20000 in
theorem mw_X2_areSo_2 : (.fieldLink RX2 9 "FontRuns$Readings" "value" "[I" : Cond) ∈ wsX2_areSo := List.mem_cons_of_mem _ (List.mem_append_left _ (List.mem_append_left _ (List.mem_of_getElem? (i := 3) rfl)))
set_option maxRecDepth 20000 in
theorem mw_X2_areSo_3 : (.fieldLink RX2 17 "FontRuns$Readings" "clusters" "[[I" : Cond) ∈ wsX2_areSo := List.mem_cons_of_mem _ (List.mem_append_left _ (List.mem_append_left _ (List.mem_of_getElem? (i := 2) rfl)))
theorem ax_X2_areSo_0 {e0 e1 e2 e3 e4 e5 : Nat × va_E} {k : va_W} : ([3, 4, 5] : List Nat).map (fun i => (([e0, e1, e2, e3, e4, e5] : va_W) ++ k)[i]?) = ([e3, e4, e5] : va_W).map some := rfl
set_option maxHeartbeats 4000000 in
set_option maxRecDepth 100000 in
theorem c_X2_areSo (l : Launch) (D : va_G) (sz : Nat) (fr : Nat) (ch : Int) (sp : Int) (h0 : Nat) (rn : Int) (v1 : Nat) (v2 : Nat) (cv1 : ClassId) (fv : Nat → Int32) (cv2 : ClassId) (fq : Nat → Option Nat) (o2 : Nat) (k1 : Nat) (k2 : Nat) (k3 : Nat) (n : Int) (ck1 : ClassId) (fk : Nat → Int32) (ck2 : ClassId) (fb : Nat → Int32) (pr : Nat → Nat) (gp : Nat → Nat → Int32) (cy : ClassId) (q0 : rg ch) (q1 : rg sp) (q2 : 0 ≤ rn ∧ rn ≤ 8) (q3 : 0 ≤ n ∧ n ≤ 4) (q4 : kOut fq pr o2 8) (q5 : o2 + 8 ≤ 56) : Met l yX2_areSo wsX2_areSo ({ frames := 3, cells := 0, slots := 0, locals := 64 }) (kPre [.ref h0, .ref fr, .int (zI ch), .int (zI sp)] D (([(h0, .inr (2, [.int (zI rn), .ref v1, .ref v2])), (v1, .inl (cv1, 8, .inl fv)), (v2, .inl (cv2, 8, .inr (.inr (.inr (.inr (fq)))))), (fr, .inr (0, [.ref k1, .ref k2, .ref k3, .int (zI n)])), (k1, .inl (ck1, 4, .inl fk)), (k2, .inl (ck2, 4, .inl fb))] : va_W) ++ kRows pr gp cy) [(cv1, .int), (cv2, .array .int), (ck1, .int), (ck2, .int), (cy, .int)] sz) (QcP (fun rz => True)) 0 0 (fun _ => False) := by
  refine Met.ofW (cc := cX2_areSo) (maxL := 7) (ret := (some .boolean)) (by decide) rfl ?_
  intro p e s m args below meth c s₁ B hml hv
  obtain ⟨rfl, hsz, hP, hK, hD0, hN⟩ := hv
  have hx := B.exec
  have hb := B.bytes
  have hr := B.returns
  have hts := atoms_spec (ws := wsX2_areSo) B.pre
  have hown : s.vm.findClass RX2 = some m.cls := findClass_of_methodNamed B.named
  have hlocks := B.notSynchronized
  subst hsz
  have hD := hD0
  have hP : va_P D vwCl (([(h0, .inr (2, [.int (zI rn), .ref v1, .ref v2])), (v1, .inl (cv1, 8, .inl fv)), (v2, .inl (cv2, 8, .inr (.inr (.inr (.inr (fq)))))), (fr, .inr (0, [.ref k1, .ref k2, .ref k3, .int (zI n)])), (k1, .inl (ck1, 4, .inl fk)), (k2, .inl (ck2, 4, .inl fb))] : va_W) ++ kRows pr gp cy) s.heap := hP
  have hl := lv_entry ([.ref h0, .ref fr, .int (zI ch), .int (zI sp)]) (n := 7) (Nat.le_of_ble_eq_true rfl)
  rw [lg_entry_eq]
  generalize (lg_sl ([.ref h0, .ref fr, .int (zI ch), .int (zI sp)]) ++ List.replicate (7 - (lg_sl ([.ref h0, .ref fr, .int (zI ch), .int (zI sp)])).length) Slot.unset).toArray = ls at hl ⊢
  have hl : lv_has ls 7 [(0, .ref h0), (1, .ref fr), (2, .int (zI ch)), (3, .int (zI sp))] := hl
  refine lv_iconst (v := zI 0) hx hb dX2_areSo_0 rfl ?_
  refine lv_istore (lv' := [(4, .int (zI 0)), (0, .ref h0), (1, .ref fr), (2, .int (zI ch)), (3, .int (zI sp))]) hx hb dX2_areSo_1 hl (by decide) rfl (fun ls hl => ?_)
  refine k_loopM (I := fun n9 H locs ls => ∃ (jr : Int), n9 = (rn - jr).toNat ∧ (0 ≤ jr ∧ jr ≤ rn) ∧ H = s.heap ∧ locs = [] ∧ lv_has ls 7 [(4, .int (zI jr)), (0, .ref h0), (1, .ref fr), (2, .int (zI ch)), (3, .int (zI sp))]) ?_ _ ⟨0, rfl, (by omega), rfl, rfl, hl⟩
  intro n3 ih3 H locs ls hI
  obtain ⟨jr, en3, v_30, eH, eL, hl⟩ := hI
  subst eH
  subst eL
  refine lv_iload hx hb dX2_areSo_3 (lv_at hl 0 rfl) ?_
  refine lv_aload_n hx hb dX2_areSo_5 rfl (lv_at hl 1 rfl) ?_
  refine va_get (D := D) (ci := 2) (v := .int (zI rn)) (C := RX2) (T := TX2) (N := 3) hx hb hts (fun _ h9 => List.mem_cons_of_mem _ (List.mem_append_left _ (List.mem_append_right _ h9))) hown hK hP 0 rfl rfl 0 (by decide) (hts (.fieldLink RX2 20 "FontRuns$Readings" "count" "I") mw_X2_areSo_0) (fun _ h9 => h9) rfl dX2_areSo_6 ?_
  refine kz_icmp_ge (tgt := 85) hx hb dX2_areSo_9 (by decide) (by omega) (by omega) (fun c_1 => ?_) (fun c_1 => ?_)
  · refine lv_iconst (v := zI 1) hx hb dX2_areSo_85 rfl ?_
    exact W.zret (v := (zI 1)) hx hb hr rfl (fun t ht hW => QcP_of (by omega) trivial ht) (fun _ h9 => by cases h9) dX2_areSo_86
  · refine lv_iconst (v := zI 0) hx hb dX2_areSo_12 rfl ?_
    refine lv_istore (lv' := [(5, .int (zI 0)), (4, .int (zI jr)), (0, .ref h0), (1, .ref fr), (2, .int (zI ch)), (3, .int (zI sp))]) hx hb dX2_areSo_13 hl (by decide) rfl (fun ls hl => ?_)
    refine lv_iconst (v := zI 0) hx hb dX2_areSo_15 rfl ?_
    refine lv_istore (lv' := [(6, .int (zI 0)), (5, .int (zI 0)), (4, .int (zI jr)), (0, .ref h0), (1, .ref fr), (2, .int (zI ch)), (3, .int (zI sp))]) hx hb dX2_areSo_16 hl (by decide) rfl (fun ls hl => ?_)
    refine k_loopM (I := fun n9 H locs ls => ∃ (js : Int) (jf : Int), n9 = (n - jf).toNat ∧ (rg js) ∧ (0 ≤ jf ∧ jf ≤ n) ∧ H = s.heap ∧ locs = [] ∧ lv_has ls 7 [(6, .int (zI jf)), (5, .int (zI js)), (4, .int (zI jr)), (0, .ref h0), (1, .ref fr), (2, .int (zI ch)), (3, .int (zI sp))]) ?_ _ ⟨0, 0, rfl, (by omega), (by omega), rfl, rfl, hl⟩
    intro n18 ih18 H locs ls hI
    obtain ⟨js, jf, en18, v_180, v_181, eH, eL, hl⟩ := hI
    subst eH
    subst eL
    refine lv_iload hx hb dX2_areSo_18 (lv_at hl 0 rfl) ?_
    refine lv_aload_n hx hb dX2_areSo_20 rfl (lv_at hl 4 rfl) ?_
    refine va_get (D := D) (ci := 0) (v := .int (zI n)) (C := RX0) (T := TX0) (N := 4) hx hb hts (fun _ h9 => List.mem_cons_of_mem _ (List.mem_append_right _ h9)) hown hK hP 3 rfl rfl 3 (by decide) (hts (.fieldLink RX2 34 "FontRuns$FontRow" "count" "I") mw_X2_areSo_1) (fun _ h9 => h9) rfl dX2_areSo_21 ?_
    refine kz_icmp_ge (tgt := 65) hx hb dX2_areSo_24 (by decide) (by omega) (by omega) (fun c_2 => ?_) (fun c_2 => ?_)
    · refine lv_iload hx hb dX2_areSo_65 (lv_at hl 1 rfl) ?_
      refine lv_aload_n hx hb dX2_areSo_67 rfl (lv_at hl 3 rfl) ?_
      refine va_get (D := D) (ci := 2) (v := .ref v1) (C := RX2) (T := TX2) (N := 3) hx hb hts (fun _ h9 => List.mem_cons_of_mem _ (List.mem_append_left _ (List.mem_append_right _ h9))) hown hK hP 0 rfl rfl 1 (by decide) (hts (.fieldLink RX2 9 "FontRuns$Readings" "value" "[I") mw_X2_areSo_2) (fun _ h9 => h9) rfl dX2_areSo_68 ?_
      refine lv_iload hx hb dX2_areSo_71 (lv_at hl 2 rfl) ?_
      refine kz_iald hx hb hK hP 1 0 rfl rfl (by omega) dX2_areSo_73 (fun z_3 rz_3 ez_3 => ?_)
      refine kz_icmp_eq (tgt := 79) hx hb dX2_areSo_74 (by decide) (by omega) (by omega) (fun c_4 => ?_) (fun c_4 => ?_)
      · refine lv_iinc (v := (zI (jr + 1))) (lv' := [(4, .int (zI (jr + 1))), (6, .int (zI jf)), (5, .int (zI js)), (0, .ref h0), (1, .ref fr), (2, .int (zI ch)), (3, .int (zI sp))]) hx hb dX2_areSo_79 hl (k := 2) rfl (kz_inc _ 1) (by decide) rfl (fun ls hl => ?_)
        refine lv_goto (tgt := 3) hx hb dX2_areSo_82 (by decide) ?_
        exact ih3 _ (by omega) _ _ _ ⟨(jr + 1), rfl, (by omega), rfl, rfl, lv_sub hl [0, 3, 4, 5, 6] rfl⟩
      · refine lv_iconst (v := zI 0) hx hb dX2_areSo_77 rfl ?_
        exact W.zret (v := (zI 0)) hx hb hr rfl (fun t ht hW => QcP_of (by omega) trivial ht) (fun _ h9 => by cases h9) dX2_areSo_78
    · refine lv_iload hx hb dX2_areSo_27 (lv_at hl 1 rfl) ?_
      refine lv_aload_n hx hb dX2_areSo_29 rfl (lv_at hl 3 rfl) ?_
      refine va_get (D := D) (ci := 2) (v := .ref v2) (C := RX2) (T := TX2) (N := 3) hx hb hts (fun _ h9 => List.mem_cons_of_mem _ (List.mem_append_left _ (List.mem_append_right _ h9))) hown hK hP 0 rfl rfl 2 (by decide) (hts (.fieldLink RX2 17 "FontRuns$Readings" "clusters" "[[I") mw_X2_areSo_3) (fun _ h9 => h9) rfl dX2_areSo_30 ?_
      refine lv_iload hx hb dX2_areSo_33 (lv_at hl 2 rfl) ?_
      refine kz_aald hx hb hK hP 2 1 rfl rfl (by omega) dX2_areSo_35 (q4 _ (by omega)) ?_
      refine lv_iload hx hb dX2_areSo_36 (lv_at hl 0 rfl) ?_
      refine kz_rowld (X := [(h0, .inr (2, [.int (zI rn), .ref v1, .ref v2])), (v1, .inl (cv1, 8, .inl fv)), (v2, .inl (cv2, 8, .inr (.inr (.inr (.inr (fq)))))), (fr, .inr (0, [.ref k1, .ref k2, .ref k3, .int (zI n)])), (k1, .inl (ck1, 4, .inl fk)), (k2, .inl (ck2, 4, .inl fb))]) hx hb hK hP 4 rfl (by omega) (by omega) dX2_areSo_38 (fun z_5 rz_5 ez_5 => ?_)
      refine lv_iload hx hb dX2_areSo_39 (lv_at hl 0 rfl) ?_
      refine lv_iload_n hx hb dX2_areSo_41 rfl (lv_at hl 5 rfl) ?_
      refine kz_icmp_ne (tgt := 49) hx hb dX2_areSo_42 (by decide) (by omega) (by omega) (fun c_6 => ?_) (fun c_6 => ?_)
      · refine lv_aload_n hx hb dX2_areSo_49 rfl (lv_at hl 4 rfl) ?_
        refine lv_iload hx hb dX2_areSo_50 (lv_at hl 0 rfl) ?_
        refine k_callP (va_runV (As := [.int (zI jf)]) (rest := [.int (zI z_5), .int (zI js)]) ⟨hx, hb, hml, hown, hts⟩ (c_X0_step l D s.heap.size (f := jf) (h0 := fr) (k1 := k1) (k2 := k2) (k3 := k3) (n := n) (ck1 := ck1) (fk := fk) (ck2 := ck2) (fb := fb) (by omega) q3) (cwV 1 hts gX2_areSo_X0_step rfl rfl rfl (by decide +kernel) ⟨Nat.le_of_ble_eq_true rfl, Nat.le_of_ble_eq_true rfl⟩) (kPreV hP (kD0 hD) hK hN [3, 4, 5] [2, 3] ax_X2_areSo_0 rfl (by decide +kernel) 3 0 rfl rfl) rfl rfl hl.1 rfl (lv_room (Nat.le_of_ble_eq_true rfl)) dX2_areSo_52 ⟨Nat.le_of_ble_eq_true rfl, Nat.le_of_ble_eq_true rfl⟩) (fun z_7 rz_7 h_8 => ?_)
        refine kz_imul hx hb dX2_areSo_55 ?_
        refine kz_any (fun z_9 rz_9 ez_9 => ?_)
        refine kz_iadd hx hb dX2_areSo_56 ?_
        refine kz_any (fun z_10 rz_10 ez_10 => ?_)
        refine lv_istore (lv' := [(5, .int (zI z_10)), (6, .int (zI jf)), (4, .int (zI jr)), (0, .ref h0), (1, .ref fr), (2, .int (zI ch)), (3, .int (zI sp))]) hx hb dX2_areSo_57 hl (by decide) rfl (fun ls hl => ?_)
        refine lv_iinc (v := (zI (jf + 1))) (lv' := [(6, .int (zI (jf + 1))), (5, .int (zI z_10)), (4, .int (zI jr)), (0, .ref h0), (1, .ref fr), (2, .int (zI ch)), (3, .int (zI sp))]) hx hb dX2_areSo_59 hl (k := 1) rfl (kz_inc _ 1) (by decide) rfl (fun ls hl => ?_)
        refine lv_goto (tgt := 18) hx hb dX2_areSo_62 (by decide) ?_
        exact ih18 _ (by omega) _ _ _ ⟨z_10, (jf + 1), rfl, (by omega), (by omega), rfl, rfl, lv_sub hl [0, 1, 2, 3, 4, 5, 6] rfl⟩
      · refine lv_iload_n hx hb dX2_areSo_45 rfl (lv_at hl 6 rfl) ?_
        refine lv_goto (tgt := 55) hx hb dX2_areSo_46 (by decide) ?_
        refine kz_imul hx hb dX2_areSo_55 ?_
        refine kz_any (fun z_11 rz_11 ez_11 => ?_)
        refine kz_iadd hx hb dX2_areSo_56 ?_
        refine kz_any (fun z_12 rz_12 ez_12 => ?_)
        refine lv_istore (lv' := [(5, .int (zI z_12)), (6, .int (zI jf)), (4, .int (zI jr)), (0, .ref h0), (1, .ref fr), (2, .int (zI ch)), (3, .int (zI sp))]) hx hb dX2_areSo_57 hl (by decide) rfl (fun ls hl => ?_)
        refine lv_iinc (v := (zI (jf + 1))) (lv' := [(6, .int (zI (jf + 1))), (5, .int (zI z_12)), (4, .int (zI jr)), (0, .ref h0), (1, .ref fr), (2, .int (zI ch)), (3, .int (zI sp))]) hx hb dX2_areSo_59 hl (k := 1) rfl (kz_inc _ 1) (by decide) rfl (fun ls hl => ?_)
        refine lv_goto (tgt := 18) hx hb dX2_areSo_62 (by decide) ?_
        exact ih18 _ (by omega) _ _ _ ⟨z_12, (jf + 1), rfl, (by omega), (by omega), rfl, rfl, lv_sub hl [0, 1, 2, 3, 4, 5, 6] rfl⟩
