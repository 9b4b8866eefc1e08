theorem dX8_isWithin_0 : decode cX8_isWithin 0 = .ok (.iload_n 0, 1) := by decide +kernel
theorem dX8_isWithin_1 : decode cX8_isWithin 1 = .ok (.iload_n 1, 1) := by decide +kernel
theorem dX8_isWithin_2 : decode cX8_isWithin 2 = .ok (.if_icmp .lt 12, 3) := by decide +kernel
theorem dX8_isWithin_5 : decode cX8_isWithin 5 = .ok (.iload_n 0, 1) := by decide +kernel
theorem dX8_isWithin_6 : decode cX8_isWithin 6 = .ok (.iload_n 2, 1) := by decide +kernel
theorem dX8_isWithin_7 : decode cX8_isWithin 7 = .ok (.if_icmp .gt 7, 3) := by decide +kernel
theorem dX8_isWithin_10 : decode cX8_isWithin 10 = .ok (.iconst 1, 1) := by decide +kernel
theorem dX8_isWithin_11 : decode cX8_isWithin 11 = .ok (.goto 4, 3) := by decide +kernel
theorem dX8_isWithin_14 : decode cX8_isWithin 14 = .ok (.iconst 0, 1) := by decide +kernel
theorem dX8_isWithin_15 : decode cX8_isWithin 15 = .ok (.ireturn, 1) := by decide +kernel
set_option maxHeartbeats 4000000 in
set_option maxRecDepth 100000 in
theorem c_X8_isWithin (l : Launch) (D : va_G) (sz : Nat) (v : Int32) (a : Int32) (b : Int32) : Met l yX8_isWithin wsX8_isWithin ({ frames := 0, cells := 0, slots := 0, locals := 0 }) (kPre [.int v, .int a, .int b] D [] [] sz) (QcRead (if (a ≤ v ∧ v ≤ b) then 1 else 0)) 0 0 (fun _ => False) := by
  refine Met.ofW (cc := cX8_isWithin) (maxL := 3) (ret := (some .boolean)) (by decide) rfl ?_
  intro p e s m args below meth c s₁ B hml hv
  obtain ⟨rfl, hsz, hP, hK, hD0, hN⟩ := hv
  have hx := B.exec
  have hb := B.bytes
  have hr := B.returns
  have hts := atoms_spec (ws := wsX8_isWithin) B.pre
  have hown : s.vm.findClass RX8 = some m.cls := findClass_of_methodNamed B.named
  have hlocks := B.notSynchronized
  subst hsz
  have hD := hD0
  have hP : va_P D vwCl [] s.heap := hP
  have hl := lv_entry ([.int v, .int a, .int b]) (n := 3) (Nat.le_of_ble_eq_true rfl)
  rw [lg_entry_eq]
  generalize (lg_sl ([.int v, .int a, .int b]) ++ List.replicate (3 - (lg_sl ([.int v, .int a, .int b])).length) Slot.unset).toArray = ls at hl ⊢
  have hl : lv_has ls 3 [(0, .int v), (1, .int a), (2, .int b)] := hl
  refine lv_iload_n hx hb dX8_isWithin_0 rfl (lv_at hl 0 rfl) ?_
  refine lv_iload_n hx hb dX8_isWithin_1 rfl (lv_at hl 1 rfl) ?_
  refine lv_icmp_lt (tgt := 14) hx hb dX8_isWithin_2 (by decide) (fun c_1 => ?_) (fun c_1 => ?_)
  · refine lv_iconst (v := 0) hx hb dX8_isWithin_14 (by decide) ?_
    exact W.zret (v := 0) hx hb hr rfl (fun t ht hW => kRd (by first | exact (if_pos (kwi c_1 c_2)).symm | exact (if_neg (kwi1 c_1)).symm | exact (if_neg (kwi2 c_2)).symm) ht) (fun _ h9 => by cases h9) dX8_isWithin_15
  · refine lv_iload_n hx hb dX8_isWithin_5 rfl (lv_at hl 0 rfl) ?_
    refine lv_iload_n hx hb dX8_isWithin_6 rfl (lv_at hl 2 rfl) ?_
    refine lv_icmp_gt (tgt := 14) hx hb dX8_isWithin_7 (by decide) (fun c_2 => ?_) (fun c_2 => ?_)
    · refine lv_iconst (v := 0) hx hb dX8_isWithin_14 (by decide) ?_
      exact W.zret (v := 0) hx hb hr rfl (fun t ht hW => kRd (by first | exact (if_pos (kwi c_1 c_2)).symm | exact (if_neg (kwi1 c_1)).symm | exact (if_neg (kwi2 c_2)).symm) ht) (fun _ h9 => by cases h9) dX8_isWithin_15
    · refine lv_iconst (v := 1) hx hb dX8_isWithin_10 (by decide) ?_
      refine lv_goto (tgt := 15) hx hb dX8_isWithin_11 (by decide) ?_
      exact W.zret (v := 1) hx hb hr rfl (fun t ht hW => kRd (by first | exact (if_pos (kwi c_1 c_2)).symm | exact (if_neg (kwi1 c_1)).symm | exact (if_neg (kwi2 c_2)).symm) ht) (fun _ h9 => by cases h9) dX8_isWithin_15
theorem dX9_within_0 : decode cX9_within 0 = .ok (.iload_n 0, 1) := by decide +kernel
theorem dX9_within_1 : decode cX9_within 1 = .ok (.iload_n 1, 1) := by decide +kernel
theorem dX9_within_2 : decode cX9_within 2 = .ok (.if_icmp .lt 12, 3) := by decide +kernel
theorem dX9_within_5 : decode cX9_within 5 = .ok (.iload_n 0, 1) := by decide +kernel
theorem dX9_within_6 : decode cX9_within 6 = .ok (.iload_n 2, 1) := by decide +kernel
theorem dX9_within_7 : decode cX9_within 7 = .ok (.if_icmp .gt 7, 3) := by decide +kernel
theorem dX9_within_10 : decode cX9_within 10 = .ok (.iconst 1, 1) := by decide +kernel
theorem dX9_within_11 : decode cX9_within 11 = .ok (.goto 4, 3) := by decide +kernel
theorem dX9_within_14 : decode cX9_within 14 = .ok (.iconst 0, 1) := by decide +kernel
theorem dX9_within_15 : decode cX9_within 15 = .ok (.ireturn, 1) := by decide +kernel
set_option maxHeartbeats 4000000 in
set_option maxRecDepth 100000 in
theorem c_X9_within (l : Launch) (D : va_G) (sz : Nat) (v : Int32) (a : Int32) (b : Int32) : Met l yX9_within wsX9_within ({ frames := 0, cells := 0, slots := 0, locals := 0 }) (kPre [.int v, .int a, .int b] D [] [] sz) (QcRead (if (a ≤ v ∧ v ≤ b) then 1 else 0)) 0 0 (fun _ => False) := by
  refine Met.ofW (cc := cX9_within) (maxL := 3) (ret := (some .boolean)) (by decide) rfl ?_
  intro p e s m args below meth c s₁ B hml hv
  obtain ⟨rfl, hsz, hP, hK, hD0, hN⟩ := hv
  have hx := B.exec
  have hb := B.bytes
  have hr := B.returns
  have hts := atoms_spec (ws := wsX9_within) B.pre
  have hown : s.vm.findClass RX9 = some m.cls := findClass_of_methodNamed B.named
  have hlocks := B.notSynchronized
  subst hsz
  have hD := hD0
  have hP : va_P D vwCl [] s.heap := hP
  have hl := lv_entry ([.int v, .int a, .int b]) (n := 3) (Nat.le_of_ble_eq_true rfl)
  rw [lg_entry_eq]
  generalize (lg_sl ([.int v, .int a, .int b]) ++ List.replicate (3 - (lg_sl ([.int v, .int a, .int b])).length) Slot.unset).toArray = ls at hl ⊢
  have hl : lv_has ls 3 [(0, .int v), (1, .int a), (2, .int b)] := hl
  refine lv_iload_n hx hb dX9_within_0 rfl (lv_at hl 0 rfl) ?_
  refine lv_iload_n hx hb dX9_within_1 rfl (lv_at hl 1 rfl) ?_
  refine lv_icmp_lt (tgt := 14) hx hb dX9_within_2 (by decide) (fun c_1 => ?_) (fun c_1 => ?_)
  · refine lv_iconst (v := 0) hx hb dX9_within_14 (by decide) ?_
    exact W.zret (v := 0) hx hb hr rfl (fun t ht hW => kRd (by first | exact (if_pos (kwi c_1 c_2)).symm | exact (if_neg (kwi1 c_1)).symm | exact (if_neg (kwi2 c_2)).symm) ht) (fun _ h9 => by cases h9) dX9_within_15
  · refine lv_iload_n hx hb dX9_within_5 rfl (lv_at hl 0 rfl) ?_
    refine lv_iload_n hx hb dX9_within_6 rfl (lv_at hl 2 rfl) ?_
    refine lv_icmp_gt (tgt := 14) hx hb dX9_within_7 (by decide) (fun c_2 => ?_) (fun c_2 => ?_)
    · refine lv_iconst (v := 0) hx hb dX9_within_14 (by decide) ?_
      exact W.zret (v := 0) hx hb hr rfl (fun t ht hW => kRd (by first | exact (if_pos (kwi c_1 c_2)).symm | exact (if_neg (kwi1 c_1)).symm | exact (if_neg (kwi2 c_2)).symm) ht) (fun _ h9 => by cases h9) dX9_within_15
    · refine lv_iconst (v := 1) hx hb dX9_within_10 (by decide) ?_
      refine lv_goto (tgt := 15) hx hb dX9_within_11 (by decide) ?_
      exact W.zret (v := 1) hx hb hr rfl (fun t ht hW => kRd (by first | exact (if_pos (kwi c_1 c_2)).symm | exact (if_neg (kwi1 c_1)).symm | exact (if_neg (kwi2 c_2)).symm) ht) (fun _ h9 => by cases h9) dX9_within_15
theorem dX8_isSheet_0 : decode cX8_isSheet 0 = .ok (.iload_n 0, 1) := by decide +kernel
theorem dX8_isSheet_1 : decode cX8_isSheet 1 = .ok (.iconst 0, 1) := by decide +kernel
theorem dX8_isSheet_2 : decode cX8_isSheet 2 = .ok (.iconst 3, 1) := by decide +kernel
theorem dX8_isSheet_3 : decode cX8_isSheet 3 = .ok (.invokestatic 128, 3) := by decide +kernel
theorem dX8_isSheet_6 : decode cX8_isSheet 6 = .ok (.ireturn, 1) := by decide +kernel
set_option maxRecDepth 20000 in
theorem ggX8_isSheet_X8_isWithin : GoodIn wsX8_isSheet wsX8_isWithin := goodIn_r _ [4] (by decide +kernel) (by decide +kernel)
set_option maxRecDepth 20000 in
theorem gX8_isSheet_X8_isWithin : GoodIn wsX8_isSheet (va_wsS RX8 128 yX8_isWithin wsX8_isWithin) := goodIn_app (goodIn_of _ (by decide +kernel)) ggX8_isSheet_X8_isWithin
set_option maxHeartbeats 4000000 in
set_option maxRecDepth 100000 in
theorem c_X8_isSheet (l : Launch) (D : va_G) (sz : Nat) (k : Int32) : Met l yX8_isSheet wsX8_isSheet ({ frames := 1, cells := 0, slots := 0, locals := 22 }) (kPre [.int k] D [] [] sz) (QcRead (if (0 ≤ k ∧ k ≤ 3) then 1 else 0)) 0 0 (fun _ => False) := by
  refine Met.ofW (cc := cX8_isSheet) (maxL := 1) (ret := (some .boolean)) (by decide) rfl ?_
  intro p e s m args below meth c s₁ B hml hv
  obtain ⟨rfl, hsz, hP, hK, hD0, hN⟩ := hv
  have hx := B.exec
  have hb := B.bytes
  have hr := B.returns
  have hts := atoms_spec (ws := wsX8_isSheet) B.pre
  have hown : s.vm.findClass RX8 = some m.cls := findClass_of_methodNamed B.named
  have hlocks := B.notSynchronized
  subst hsz
  have hD := hD0
  have hP : va_P D vwCl [] s.heap := hP
  have hl := lv_entry ([.int k]) (n := 1) (Nat.le_of_ble_eq_true rfl)
  rw [lg_entry_eq]
  generalize (lg_sl ([.int k]) ++ List.replicate (1 - (lg_sl ([.int k])).length) Slot.unset).toArray = ls at hl ⊢
  have hl : lv_has ls 1 [(0, .int k)] := hl
  refine lv_iload_n hx hb dX8_isSheet_0 rfl (lv_at hl 0 rfl) ?_
  refine lv_iconst (v := 0) hx hb dX8_isSheet_1 (by decide) ?_
  refine lv_iconst (v := 3) hx hb dX8_isSheet_2 (by decide) ?_
  refine k_callR (va_runS (As := [.int k, .int 0, .int 3]) (rest := []) ⟨hx, hb, hml, hown, hts⟩ (c_X8_isWithin l D s.heap.size (v := k) (a := 0) (b := 3)) (va_cwS 3 hts gX8_isSheet_X8_isWithin rfl rfl rfl (by decide +kernel) ⟨Nat.le_of_ble_eq_true rfl, Nat.le_of_ble_eq_true rfl⟩) (kPreS hP (kD0 hD) hK hN [] [] rfl rfl (by decide)) rfl rfl hl.1 rfl (lv_room (Nat.le_of_ble_eq_true rfl)) dX8_isSheet_3 ⟨Nat.le_of_ble_eq_true rfl, Nat.le_of_ble_eq_true rfl⟩) ?_
  exact W.zret (v := (if (0 ≤ k ∧ k ≤ 3) then 1 else 0)) hx hb hr kzb (fun t ht hW => kRd rfl ht) (fun _ h9 => by cases h9) dX8_isSheet_6
theorem dX9_isSheet_0 : decode cX9_isSheet 0 = .ok (.iload_n 0, 1) := by decide +kernel
theorem dX9_isSheet_1 : decode cX9_isSheet 1 = .ok (.iconst 0, 1) := by decide +kernel
theorem dX9_isSheet_2 : decode cX9_isSheet 2 = .ok (.iconst 3, 1) := by decide +kernel
theorem dX9_isSheet_3 : decode cX9_isSheet 3 = .ok (.invokestatic 70, 3) := by decide +kernel
theorem dX9_isSheet_6 : decode cX9_isSheet 6 = .ok (.ireturn, 1) := by decide +kernel
set_option maxRecDepth 20000 in
theorem ggX9_isSheet_X9_within : GoodIn wsX9_isSheet wsX9_within := goodIn_r _ [4] (by decide +kernel) (by decide +kernel)
set_option maxRecDepth 20000 in
theorem gX9_isSheet_X9_within : GoodIn wsX9_isSheet (va_wsS RX9 70 yX9_within wsX9_within) := goodIn_app (goodIn_of _ (by decide +kernel)) ggX9_isSheet_X9_within
set_option maxHeartbeats 4000000 in
set_option maxRecDepth 100000 in
theorem c_X9_isSheet (l : Launch) (D : va_G) (sz : Nat) (k : Int32) : Met l yX9_isSheet wsX9_isSheet ({ frames := 1, cells := 0, slots := 0, locals := 22 }) (kPre [.int k] D [] [] sz) (QcRead (if (0 ≤ k ∧ k ≤ 3) then 1 else 0)) 0 0 (fun _ => False) := by
  refine Met.ofW (cc := cX9_isSheet) (maxL := 1) (ret := (some .boolean)) (by decide) rfl ?_
  intro p e s m args below meth c s₁ B hml hv
  obtain ⟨rfl, hsz, hP, hK, hD0, hN⟩ := hv
  have hx := B.exec
  have hb := B.bytes
  have hr := B.returns
  have hts := atoms_spec (ws := wsX9_isSheet) B.pre
  have hown : s.vm.findClass RX9 = some m.cls := findClass_of_methodNamed B.named
  have hlocks := B.notSynchronized
  subst hsz
  have hD := hD0
  have hP : va_P D vwCl [] s.heap := hP
  have hl := lv_entry ([.int k]) (n := 1) (Nat.le_of_ble_eq_true rfl)
  rw [lg_entry_eq]
  generalize (lg_sl ([.int k]) ++ List.replicate (1 - (lg_sl ([.int k])).length) Slot.unset).toArray = ls at hl ⊢
  have hl : lv_has ls 1 [(0, .int k)] := hl
  refine lv_iload_n hx hb dX9_isSheet_0 rfl (lv_at hl 0 rfl) ?_
  refine lv_iconst (v := 0) hx hb dX9_isSheet_1 (by decide) ?_
  refine lv_iconst (v := 3) hx hb dX9_isSheet_2 (by decide) ?_
  refine k_callR (va_runS (As := [.int k, .int 0, .int 3]) (rest := []) ⟨hx, hb, hml, hown, hts⟩ (c_X9_within l D s.heap.size (v := k) (a := 0) (b := 3)) (va_cwS 3 hts gX9_isSheet_X9_within rfl rfl rfl (by decide +kernel) ⟨Nat.le_of_ble_eq_true rfl, Nat.le_of_ble_eq_true rfl⟩) (kPreS hP (kD0 hD) hK hN [] [] rfl rfl (by decide)) rfl rfl hl.1 rfl (lv_room (Nat.le_of_ble_eq_true rfl)) dX9_isSheet_3 ⟨Nat.le_of_ble_eq_true rfl, Nat.le_of_ble_eq_true rfl⟩) ?_
  exact W.zret (v := (if (0 ≤ k ∧ k ≤ 3) then 1 else 0)) hx hb hr kzb (fun t ht hW => kRd rfl ht) (fun _ h9 => by cases h9) dX9_isSheet_6
theorem dX8_isLane_0 : decode cX8_isLane 0 = .ok (.iload_n 0, 1) := by decide +kernel
theorem dX8_isLane_1 : decode cX8_isLane 1 = .ok (.iconst 0, 1) := by decide +kernel
theorem dX8_isLane_2 : decode cX8_isLane 2 = .ok (.iconst 2, 1) := by decide +kernel
theorem dX8_isLane_3 : decode cX8_isLane 3 = .ok (.invokestatic 128, 3) := by decide +kernel
theorem dX8_isLane_6 : decode cX8_isLane 6 = .ok (.ireturn, 1) := by decide +kernel
set_option maxRecDepth 20000 in
theorem ggX8_isLane_X8_isWithin : GoodIn wsX8_isLane wsX8_isWithin := goodIn_r _ [4] (by decide +kernel) (by decide +kernel)
set_option maxRecDepth 20000 in
theorem gX8_isLane_X8_isWithin : GoodIn wsX8_isLane (va_wsS RX8 128 yX8_isWithin wsX8_isWithin) := goodIn_app (goodIn_of _ (by decide +kernel)) ggX8_isLane_X8_isWithin
set_option maxHeartbeats 4000000 in
set_option maxRecDepth 100000 in
theorem c_X8_isLane (l : Launch) (D : va_G) (sz : Nat) (k : Int32) : Met l yX8_isLane wsX8_isLane ({ frames := 1, cells := 0, slots := 0, locals := 22 }) (kPre [.int k] D [] [] sz) (QcRead (if (0 ≤ k ∧ k ≤ 2) then 1 else 0)) 0 0 (fun _ => False) := by
  refine Met.ofW (cc := cX8_isLane) (maxL := 1) (ret := (some .boolean)) (by decide) rfl ?_
  intro p e s m args below meth c s₁ B hml hv
  obtain ⟨rfl, hsz, hP, hK, hD0, hN⟩ := hv
  have hx := B.exec
  have hb := B.bytes
  have hr := B.returns
  have hts := atoms_spec (ws := wsX8_isLane) B.pre
  have hown : s.vm.findClass RX8 = some m.cls := findClass_of_methodNamed B.named
  have hlocks := B.notSynchronized
  subst hsz
  have hD := hD0
  have hP : va_P D vwCl [] s.heap := hP
  have hl := lv_entry ([.int k]) (n := 1) (Nat.le_of_ble_eq_true rfl)
  rw [lg_entry_eq]
  generalize (lg_sl ([.int k]) ++ List.replicate (1 - (lg_sl ([.int k])).length) Slot.unset).toArray = ls at hl ⊢
  have hl : lv_has ls 1 [(0, .int k)] := hl
  refine lv_iload_n hx hb dX8_isLane_0 rfl (lv_at hl 0 rfl) ?_
  refine lv_iconst (v := 0) hx hb dX8_isLane_1 (by decide) ?_
  refine lv_iconst (v := 2) hx hb dX8_isLane_2 (by decide) ?_
  refine k_callR (va_runS (As := [.int k, .int 0, .int 2]) (rest := []) ⟨hx, hb, hml, hown, hts⟩ (c_X8_isWithin l D s.heap.size (v := k) (a := 0) (b := 2)) (va_cwS 3 hts gX8_isLane_X8_isWithin rfl rfl rfl (by decide +kernel) ⟨Nat.le_of_ble_eq_true rfl, Nat.le_of_ble_eq_true rfl⟩) (kPreS hP (kD0 hD) hK hN [] [] rfl rfl (by decide)) rfl rfl hl.1 rfl (lv_room (Nat.le_of_ble_eq_true rfl)) dX8_isLane_3 ⟨Nat.le_of_ble_eq_true rfl, Nat.le_of_ble_eq_true rfl⟩) ?_
  exact W.zret (v := (if (0 ≤ k ∧ k ≤ 2) then 1 else 0)) hx hb hr kzb (fun t ht hW => kRd rfl ht) (fun _ h9 => by cases h9) dX8_isLane_6
theorem dX9_isSort_0 : decode cX9_isSort 0 = .ok (.iload_n 0, 1) := by decide +kernel
theorem dX9_isSort_1 : decode cX9_isSort 1 = .ok (.iconst 0, 1) := by decide +kernel
theorem dX9_isSort_2 : decode cX9_isSort 2 = .ok (.iconst 2, 1) := by decide +kernel
theorem dX9_isSort_3 : decode cX9_isSort 3 = .ok (.invokestatic 70, 3) := by decide +kernel
theorem dX9_isSort_6 : decode cX9_isSort 6 = .ok (.ireturn, 1) := by decide +kernel
set_option maxRecDepth 20000 in
theorem ggX9_isSort_X9_within : GoodIn wsX9_isSort wsX9_within := goodIn_r _ [4] (by decide +kernel) (by decide +kernel)
set_option maxRecDepth 20000 in
theorem gX9_isSort_X9_within : GoodIn wsX9_isSort (va_wsS RX9 70 yX9_within wsX9_within) := goodIn_app (goodIn_of _ (by decide +kernel)) ggX9_isSort_X9_within
set_option maxHeartbeats 4000000 in
set_option maxRecDepth 100000 in
theorem c_X9_isSort (l : Launch) (D : va_G) (sz : Nat) (k : Int32) : Met l yX9_isSort wsX9_isSort ({ frames := 1, cells := 0, slots := 0, locals := 22 }) (kPre [.int k] D [] [] sz) (QcRead (if (0 ≤ k ∧ k ≤ 2) then 1 else 0)) 0 0 (fun _ => False) := by
  refine Met.ofW (cc := cX9_isSort) (maxL := 1) (ret := (some .boolean)) (by decide) rfl ?_
  intro p e s m args below meth c s₁ B hml hv
  obtain ⟨rfl, hsz, hP, hK, hD0, hN⟩ := hv
  have hx := B.exec
  have hb := B.bytes
  have hr := B.returns
  have hts := atoms_spec (ws := wsX9_isSort) B.pre
  have hown : s.vm.findClass RX9 = some m.cls := findClass_of_methodNamed B.named
  have hlocks := B.notSynchronized
  subst hsz
  have hD := hD0
  have hP : va_P D vwCl [] s.heap := hP
  have hl := lv_entry ([.int k]) (n := 1) (Nat.le_of_ble_eq_true rfl)
  rw [lg_entry_eq]
  generalize (lg_sl ([.int k]) ++ List.replicate (1 - (lg_sl ([.int k])).length) Slot.unset).toArray = ls at hl ⊢
  have hl : lv_has ls 1 [(0, .int k)] := hl
  refine lv_iload_n hx hb dX9_isSort_0 rfl (lv_at hl 0 rfl) ?_
  refine lv_iconst (v := 0) hx hb dX9_isSort_1 (by decide) ?_
  refine lv_iconst (v := 2) hx hb dX9_isSort_2 (by decide) ?_
  refine k_callR (va_runS (As := [.int k, .int 0, .int 2]) (rest := []) ⟨hx, hb, hml, hown, hts⟩ (c_X9_within l D s.heap.size (v := k) (a := 0) (b := 2)) (va_cwS 3 hts gX9_isSort_X9_within rfl rfl rfl (by decide +kernel) ⟨Nat.le_of_ble_eq_true rfl, Nat.le_of_ble_eq_true rfl⟩) (kPreS hP (kD0 hD) hK hN [] [] rfl rfl (by decide)) rfl rfl hl.1 rfl (lv_room (Nat.le_of_ble_eq_true rfl)) dX9_isSort_3 ⟨Nat.le_of_ble_eq_true rfl, Nat.le_of_ble_eq_true rfl⟩) ?_
  exact W.zret (v := (if (0 ≤ k ∧ k ≤ 2) then 1 else 0)) hx hb hr kzb (fun t ht hW => kRd rfl ht) (fun _ h9 => by cases h9) dX9_isSort_6
theorem dX8_isOfDay_0 : decode cX8_isOfDay 0 = .ok (.iload_n 0, 1) := by decide +kernel
theorem dX8_isOfDay_1 : decode cX8_isOfDay 1 = .ok (.iconst 0, 1) := by decide +kernel
theorem dX8_isOfDay_2 : decode cX8_isOfDay 2 = .ok (.iconst 4, 1) := by decide +kernel
theorem dX8_isOfDay_3 : decode cX8_isOfDay 3 = .ok (.invokestatic 128, 3) := by decide +kernel
theorem dX8_isOfDay_6 : decode cX8_isOfDay 6 = .ok (.ifCond .ne 14, 3) := by decide +kernel
theorem dX8_isOfDay_9 : decode cX8_isOfDay 9 = .ok (.iload_n 0, 1) := by decide +kernel
theorem dX8_isOfDay_10 : decode cX8_isOfDay 10 = .ok (.bipush 10, 2) := by decide +kernel
theorem dX8_isOfDay_12 : decode cX8_isOfDay 12 = .ok (.bipush 13, 2) := by decide +kernel
theorem dX8_isOfDay_14 : decode cX8_isOfDay 14 = .ok (.invokestatic 128, 3) := by decide +kernel
theorem dX8_isOfDay_17 : decode cX8_isOfDay 17 = .ok (.ifCond .eq 7, 3) := by decide +kernel
theorem dX8_isOfDay_20 : decode cX8_isOfDay 20 = .ok (.iconst 1, 1) := by decide +kernel
theorem dX8_isOfDay_21 : decode cX8_isOfDay 21 = .ok (.goto 4, 3) := by decide +kernel
theorem dX8_isOfDay_24 : decode cX8_isOfDay 24 = .ok (.iconst 0, 1) := by decide +kernel
theorem dX8_isOfDay_25 : decode cX8_isOfDay 25 = .ok (.ireturn, 1) := by decide +kernel
set_option maxRecDepth 20000 in
theorem ggX8_isOfDay_X8_isWithin : GoodIn wsX8_isOfDay wsX8_isWithin := goodIn_r _ [4] (by decide +kernel) (by decide +kernel)
set_option maxRecDepth 20000 in
theorem gX8_isOfDay_X8_isWithin : GoodIn wsX8_isOfDay (va_wsS RX8 128 yX8_isWithin wsX8_isWithin) := goodIn_app (goodIn_of _ (by decide +kernel)) ggX8_isOfDay_X8_isWithin
set_option maxHeartbeats 4000000 in
set_option maxRecDepth 100000 in
theorem c_X8_isOfDay (l : Launch) (D : va_G) (sz : Nat) (k : Int32) : Met l yX8_isOfDay wsX8_isOfDay ({ frames := 1, cells := 0, slots := 0, locals := 22 }) (kPre [.int k] D [] [] sz) (QcRead (if (0 ≤ k ∧ k ≤ 4) ∨ (10 ≤ k ∧ k ≤ 13) then 1 else 0)) 0 0 (fun _ => False) := by
  refine Met.ofW (cc := cX8_isOfDay) (maxL := 1) (ret := (some .boolean)) (by decide) rfl ?_
  intro p e s m args below meth c s₁ B hml hv
  obtain ⟨rfl, hsz, hP, hK, hD0, hN⟩ := hv
  have hx := B.exec
  have hb := B.bytes
  have hr := B.returns
  have hts := atoms_spec (ws := wsX8_isOfDay) B.pre
  have hown : s.vm.findClass RX8 = some m.cls := findClass_of_methodNamed B.named
  have hlocks := B.notSynchronized
  subst hsz
  have hD := hD0
  have hP : va_P D vwCl [] s.heap := hP
  have hl := lv_entry ([.int k]) (n := 1) (Nat.le_of_ble_eq_true rfl)
  rw [lg_entry_eq]
  generalize (lg_sl ([.int k]) ++ List.replicate (1 - (lg_sl ([.int k])).length) Slot.unset).toArray = ls at hl ⊢
  have hl : lv_has ls 1 [(0, .int k)] := hl
  refine lv_iload_n hx hb dX8_isOfDay_0 rfl (lv_at hl 0 rfl) ?_
  refine lv_iconst (v := 0) hx hb dX8_isOfDay_1 (by decide) ?_
  refine lv_iconst (v := 4) hx hb dX8_isOfDay_2 (by decide) ?_
  refine k_callR (va_runS (As := [.int k, .int 0, .int 4]) (rest := []) ⟨hx, hb, hml, hown, hts⟩ (c_X8_isWithin l D s.heap.size (v := k) (a := 0) (b := 4)) (va_cwS 3 hts gX8_isOfDay_X8_isWithin rfl rfl rfl (by decide +kernel) ⟨Nat.le_of_ble_eq_true rfl, Nat.le_of_ble_eq_true rfl⟩) (kPreS hP (kD0 hD) hK hN [] [] rfl rfl (by decide)) rfl rfl hl.1 rfl (lv_room (Nat.le_of_ble_eq_true rfl)) dX8_isOfDay_3 ⟨Nat.le_of_ble_eq_true rfl, Nat.le_of_ble_eq_true rfl⟩) ?_
  refine lv_if_ne (tgt := 20) hx hb dX8_isOfDay_6 (by decide) (fun c_1 => ?_) (fun c_1 => ?_)
  · have k_2 : (0 ≤ k ∧ k ≤ 4) := b01t c_1
    refine lv_iconst (v := 1) hx hb dX8_isOfDay_20 (by decide) ?_
    refine lv_goto (tgt := 25) hx hb dX8_isOfDay_21 (by decide) ?_
    exact W.zret (v := 1) hx hb hr rfl (fun t ht hW => kRd (by simp [k_2]) ht) (fun _ h9 => by cases h9) dX8_isOfDay_25
  · have k_3 : ¬ ((0 ≤ k ∧ k ≤ 4)) := b01f c_1
    refine lv_iload_n hx hb dX8_isOfDay_9 rfl (lv_at hl 0 rfl) ?_
    refine lv_bipush (v := 10) hx hb dX8_isOfDay_10 (by decide) ?_
    refine lv_bipush (v := 13) hx hb dX8_isOfDay_12 (by decide) ?_
    refine k_callR (va_runS (As := [.int k, .int 10, .int 13]) (rest := []) ⟨hx, hb, hml, hown, hts⟩ (c_X8_isWithin l D s.heap.size (v := k) (a := 10) (b := 13)) (va_cwS 3 hts gX8_isOfDay_X8_isWithin rfl rfl rfl (by decide +kernel) ⟨Nat.le_of_ble_eq_true rfl, Nat.le_of_ble_eq_true rfl⟩) (kPreS hP (kD0 hD) hK hN [] [] rfl rfl (by decide)) rfl rfl hl.1 rfl (lv_room (Nat.le_of_ble_eq_true rfl)) dX8_isOfDay_14 ⟨Nat.le_of_ble_eq_true rfl, Nat.le_of_ble_eq_true rfl⟩) ?_
    refine lv_if_eq (tgt := 24) hx hb dX8_isOfDay_17 (by decide) (fun c_4 => ?_) (fun c_4 => ?_)
    · have k_5 : ¬ ((10 ≤ k ∧ k ≤ 13)) := b01f c_4
      refine lv_iconst (v := 0) hx hb dX8_isOfDay_24 (by decide) ?_
      exact W.zret (v := 0) hx hb hr rfl (fun t ht hW => kRd (by simp [k_3, k_5]) ht) (fun _ h9 => by cases h9) dX8_isOfDay_25
    · have k_6 : (10 ≤ k ∧ k ≤ 13) := b01t c_4
      refine lv_iconst (v := 1) hx hb dX8_isOfDay_20 (by decide) ?_
      refine lv_goto (tgt := 25) hx hb dX8_isOfDay_21 (by decide) ?_
      exact W.zret (v := 1) hx hb hr rfl (fun t ht hW => kRd (by simp [k_3, k_6]) ht) (fun _ h9 => by cases h9) dX8_isOfDay_25
theorem dX0_isFont_0 : decode cX0_isFont 0 = .ok (.iload_n 1, 1) := by decide +kernel
theorem dX0_isFont_1 : decode cX0_isFont 1 = .ok (.iconst 0, 1) := by decide +kernel
theorem dX0_isFont_2 : decode cX0_isFont 2 = .ok (.aload_n 0, 1) := by decide +kernel
theorem dX0_isFont_3 : decode cX0_isFont 3 = .ok (.getfield 21, 3) := by decide +kernel
theorem dX0_isFont_6 : decode cX0_isFont 6 = .ok (.iconst 1, 1) := by decide +kernel
theorem dX0_isFont_7 : decode cX0_isFont 7 = .ok (.isub, 1) := by decide +kernel
theorem dX0_isFont_8 : decode cX0_isFont 8 = .ok (.invokestatic 25, 3) := by decide +kernel
theorem dX0_isFont_11 : decode cX0_isFont 11 = .ok (.ireturn, 1) := by decide +kernel
set_option maxRecDepth 20000 in
theorem ggX0_isFont_X8_isWithin : GoodIn wsX0_isFont wsX8_isWithin := goodIn_r _ [4] (by decide +kernel) (by decide +kernel)
set_option maxRecDepth 20000 in
theorem gX0_isFont_X8_isWithin_n25 : GoodIn wsX0_isFont (wsX8_isWithin) := ggX0_isFont_X8_isWithin
set_option maxHeartbeats 4000000 in
set_option maxRecDepth 100000 in
theorem c_X0_isFont (l : Launch) (D : va_G) (sz : Nat) (f : Int32) (h0 : Nat) (k1 : Nat) (k2 : Nat) (k3 : Nat) (n : Int32) : Met l yX0_isFont wsX0_isFont ({ frames := 1, cells := 0, slots := 0, locals := 22 }) (kPre [.ref h0, .int f] D [(h0, .inr (0, [.ref k1, .ref k2, .ref k3, .int n]))] [] sz) (QcRead (if (0 ≤ f ∧ f ≤ n - 1) then 1 else 0)) 0 0 (fun _ => False) := by
  refine Met.ofW (cc := cX0_isFont) (maxL := 2) (ret := (some .boolean)) (by decide) rfl ?_
  intro p e s m args below meth c s₁ B hml hv
  obtain ⟨rfl, hsz, hP, hK, hD0, hN⟩ := hv
  have hx := B.exec
  have hb := B.bytes
  have hr := B.returns
  have hts := atoms_spec (ws := wsX0_isFont) B.pre
  have hown : s.vm.findClass RX0 = some m.cls := findClass_of_methodNamed B.named
  have hlocks := B.notSynchronized
  subst hsz
  have hD := hD0
  have hP : va_P D vwCl [(h0, .inr (0, [.ref k1, .ref k2, .ref k3, .int n]))] s.heap := hP
  have hl := lv_entry ([.ref h0, .int f]) (n := 2) (Nat.le_of_ble_eq_true rfl)
  rw [lg_entry_eq]
  generalize (lg_sl ([.ref h0, .int f]) ++ List.replicate (2 - (lg_sl ([.ref h0, .int f])).length) Slot.unset).toArray = ls at hl ⊢
  have hl : lv_has ls 2 [(0, .ref h0), (1, .int f)] := hl
  refine lv_iload_n hx hb dX0_isFont_0 rfl (lv_at hl 1 rfl) ?_
  refine lv_iconst (v := 0) hx hb dX0_isFont_1 (by decide) ?_
  refine lv_aload_n hx hb dX0_isFont_2 rfl (lv_at hl 0 rfl) ?_
  refine va_get (D := D) (ci := 0) (v := .int n) (C := RX0) (T := TX0) (N := 4) hx hb hts (fun _ h9 => List.mem_cons_of_mem _ (List.mem_append_right _ h9)) hown hK hP 0 rfl rfl 3 (by decide) (hts (.fieldLink RX0 21 "FontRuns$FontRow" "count" "I") (by decide +kernel)) (fun _ h9 => h9) rfl dX0_isFont_3 ?_
  refine lv_iconst (v := 1) hx hb dX0_isFont_6 (by decide) ?_
  refine lv_isub hx hb dX0_isFont_7 ?_
  refine k_callR (va_runSN (As := [.int f, .int 0, .int (n - 1)]) (rest := []) ⟨hx, hb, hml, hown, hts⟩ (c_X8_isWithin l D s.heap.size (v := f) (a := 0) (b := (n - 1))) (⟨va_cnB 3 hts gX0_isFont_X8_isWithin_n25 rfl rfl rfl (hN.1 (RX0, 25, yX8_isWithin) (by decide +kernel)) (hts (.initialized RX8) (by decide +kernel)) (by decide +kernel) ⟨Nat.le_of_ble_eq_true rfl, Nat.le_of_ble_eq_true rfl⟩, (hts (.static yX8_isWithin) (by decide +kernel)), trivial⟩) (kPreS hP (kD0 hD) hK hN [] [] rfl rfl (by decide)) rfl rfl hl.1 rfl (lv_room (Nat.le_of_ble_eq_true rfl)) dX0_isFont_8 ⟨Nat.le_of_ble_eq_true rfl, Nat.le_of_ble_eq_true rfl⟩) ?_
  exact W.zret (v := (if (0 ≤ f ∧ f ≤ (n - 1)) then 1 else 0)) hx hb hr kzb (fun t ht hW => kRd (by first | rfl | (simp only []; done) | (simp []; done)) ht) (fun _ h9 => by cases h9) dX0_isFont_11
