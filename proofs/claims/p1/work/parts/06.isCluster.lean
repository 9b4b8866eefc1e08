theorem dX4_isCluster_0 : decode cX4_isCluster 0 = .ok (.iload_n 1, 1) := by decide +kernel
theorem dX4_isCluster_1 : decode cX4_isCluster 1 = .ok (.iconst 0, 1) := by decide +kernel
theorem dX4_isCluster_2 : decode cX4_isCluster 2 = .ok (.aload_n 0, 1) := by decide +kernel
theorem dX4_isCluster_3 : decode cX4_isCluster 3 = .ok (.getfield 51, 3) := by decide +kernel
theorem dX4_isCluster_6 : decode cX4_isCluster 6 = .ok (.iconst 1, 1) := by decide +kernel
theorem dX4_isCluster_7 : decode cX4_isCluster 7 = .ok (.isub, 1) := by decide +kernel
theorem dX4_isCluster_8 : decode cX4_isCluster 8 = .ok (.invokestatic 55, 3) := by decide +kernel
theorem dX4_isCluster_11 : decode cX4_isCluster 11 = .ok (.ireturn, 1) := by decide +kernel
set_option maxRecDepth 20000 in
theorem ggX4_isCluster_X8_isWithin : GoodIn wsX4_isCluster wsX8_isWithin := goodIn_r _ [4] (by decide +kernel) (by decide +kernel)
set_option maxRecDepth 20000 in
theorem gX4_isCluster_X8_isWithin_n55 : GoodIn wsX4_isCluster (wsX8_isWithin) := ggX4_isCluster_X8_isWithin
set_option maxHeartbeats 4000000 in
set_option maxRecDepth 100000 in
theorem c_X4_isCluster (l : Launch) (D : va_G) (sz : Nat) (k : Int32) (h0 : Nat) (g1 : Nat) (g2 : Nat) (g3 : Nat) (g4 : Nat) (g5 : Nat) (n : Int32) (bo : Int32) (ru : Int32) (g6 : Nat) (g7 : Nat) : Met l yX4_isCluster wsX4_isCluster ({ frames := 1, cells := 0, slots := 0, locals := 22 }) (kPre [.ref h0, .int k] D [(h0, .inr (4, [.ref g1, .ref g2, .ref g3, .ref g4, .ref g5, .int n, .int bo, .int ru, .ref g6, .ref g7]))] [] sz) (QcRead (if (0 ≤ k ∧ k ≤ n - 1) then 1 else 0)) 0 0 (fun _ => False) := by
  refine Met.ofW (cc := cX4_isCluster) (maxL := 2) (ret := (some .boolean)) (by decide) rfl ?_
  intro p e s m args below meth c s₁ B hml hv
  obtain ⟨rfl, hsz, hP, hK, hD0, hN⟩ := hv
  have hx := B.exec
  have hb := B.bytes
  have hr := B.returns
  have hts := atoms_spec (ws := wsX4_isCluster) B.pre
  have hown : s.vm.findClass RX4 = some m.cls := findClass_of_methodNamed B.named
  have hlocks := B.notSynchronized
  subst hsz
  have hD := hD0
  have hP : va_P D vwCl [(h0, .inr (4, [.ref g1, .ref g2, .ref g3, .ref g4, .ref g5, .int n, .int bo, .int ru, .ref g6, .ref g7]))] s.heap := hP
  have hl := lv_entry ([.ref h0, .int k]) (n := 2) (Nat.le_of_ble_eq_true rfl)
  rw [lg_entry_eq]
  generalize (lg_sl ([.ref h0, .int k]) ++ List.replicate (2 - (lg_sl ([.ref h0, .int k])).length) Slot.unset).toArray = ls at hl ⊢
  have hl : lv_has ls 2 [(0, .ref h0), (1, .int k)] := hl
  refine lv_iload_n hx hb dX4_isCluster_0 rfl (lv_at hl 1 rfl) ?_
  refine lv_iconst (v := 0) hx hb dX4_isCluster_1 (by decide) ?_
  refine lv_aload_n hx hb dX4_isCluster_2 rfl (lv_at hl 0 rfl) ?_
  refine va_get (D := D) (ci := 4) (v := .int n) (C := RX4) (T := TX4) (N := 10) hx hb hts (fun _ h9 => List.mem_cons_of_mem _ (List.mem_append_right _ h9)) hown hK hP 0 rfl rfl 5 (by decide) (hts (.fieldLink RX4 51 "FontRuns$Setting" "count" "I") (by decide +kernel)) (fun _ h9 => h9) rfl dX4_isCluster_3 ?_
  refine lv_iconst (v := 1) hx hb dX4_isCluster_6 (by decide) ?_
  refine lv_isub hx hb dX4_isCluster_7 ?_
  refine k_callR (va_runSN (As := [.int k, .int 0, .int (n - 1)]) (rest := []) ⟨hx, hb, hml, hown, hts⟩ (c_X8_isWithin l D s.heap.size (v := k) (a := 0) (b := (n - 1))) (⟨va_cnB 3 hts gX4_isCluster_X8_isWithin_n55 rfl rfl rfl (hN.1 (RX4, 55, yX8_isWithin) (by decide +kernel)) (hts (.initialized RX8) (by decide +kernel)) (by decide +kernel) ⟨Nat.le_of_ble_eq_true rfl, Nat.le_of_ble_eq_true rfl⟩, (hts (.static yX8_isWithin) (by decide +kernel)), trivial⟩) (kPreS hP (kD0 hD) hK hN [] [] rfl rfl (by decide)) rfl rfl hl.1 rfl (lv_room (Nat.le_of_ble_eq_true rfl)) dX4_isCluster_8 ⟨Nat.le_of_ble_eq_true rfl, Nat.le_of_ble_eq_true rfl⟩) ?_
  exact W.zret (v := (if (0 ≤ k ∧ k ≤ (n - 1)) then 1 else 0)) hx hb hr kzb (fun t ht hW => kRd (by first | rfl | (simp only []; done) | (simp []; done)) ht) (fun _ h9 => by cases h9) dX4_isCluster_11
