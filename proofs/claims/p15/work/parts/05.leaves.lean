theorem goodIn_4 {big : List Cond} (ws : List Cond) (hm : ∀ w ∈ ws, w ∈ big) (h : ws.all goodWord = true) : GoodIn big ws := fun w hw => ⟨hm w hw, good_of_word (List.all_eq_true.mp h w hw)⟩
theorem dX8_isWithin_0 : decode cX8_isWithin 0 = .ok (.iload_n 0, 1) := by decide +kernel
theorem dX8_isWithin_1 : decode cX8_isWithin 1 = .ok (.iload_n 1, 1) := by decide +kernel
theorem dX8_isWithin_2 : decode cX8_isWithin 2 = .ok (.if_icmp .lt 12, 3) := by decide +kernel
theorem dX8_isWithin_5 : decode cX8_isWithin 5 = .ok (.iload_n 0, 1) := by decide +kernel
theorem dX8_isWithin_6 : decode cX8_isWithin 6 = .ok (.iload_n 2, 1) := by decide +kernel
theorem dX8_isWithin_7 : decode cX8_isWithin 7 = .ok (.if_icmp .gt 7, 3) := by decide +kernel
theorem dX8_isWithin_10 : decode cX8_isWithin 10 = .ok (.iconst 1, 1) := by decide +kernel
theorem dX8_isWithin_11 : decode cX8_isWithin 11 = .ok (.goto 4, 3) := by decide +kernel
theorem dX8_isWithin_14 : decode cX8_isWithin 14 = .ok (.iconst 0, 1) := by decide +kernel
theorem dX8_isWithin_15 : decode cX8_isWithin 15 = .ok (.ireturn, 1) := by decide +kernel
set_option maxHeartbeats 4000000 in
set_option maxRecDepth 100000 in
theorem c_X8_isWithin (l : Launch) (D : va_G) (sz : Nat) (v : Int) (a : Int) (b : Int) (q0 : rg v) (q1 : rg a) (q2 : rg b) : Met l yX8_isWithin wsX8_isWithin ({ frames := 0, cells := 0, slots := 0, locals := 0 }) (kPre [.int (zI v), .int (zI a), .int (zI b)] D [] [] sz) (QcRead (if a ≤ v ∧ v ≤ b then 1 else 0)) 0 0 (fun _ => False) := by
  refine Met.ofW (cc := cX8_isWithin) (maxL := 3) (ret := (some .boolean)) (by decide) rfl ?_
  intro p e s m args below meth c s₁ B hml hv
  obtain ⟨rfl, hsz, hP, hK, hD0, hN⟩ := hv
  have hx := B.exec
  have hb := B.bytes
  have hr := B.returns
  have hts := atoms_spec (ws := wsX8_isWithin) B.pre
  have hown : s.vm.findClass RX8 = some m.cls := findClass_of_methodNamed B.named
  have hlocks := B.notSynchronized
  subst hsz
  have hD := hD0
  have hP : va_P D vwCl [] s.heap := hP
  have hl := lv_entry ([.int (zI v), .int (zI a), .int (zI b)]) (n := 3) (Nat.le_of_ble_eq_true rfl)
  rw [lg_entry_eq]
  generalize (lg_sl ([.int (zI v), .int (zI a), .int (zI b)]) ++ List.replicate (3 - (lg_sl ([.int (zI v), .int (zI a), .int (zI b)])).length) Slot.unset).toArray = ls at hl ⊢
  have hl : lv_has ls 3 [(0, .int (zI v)), (1, .int (zI a)), (2, .int (zI b))] := hl
  refine lv_iload_n hx hb dX8_isWithin_0 rfl (lv_at hl 0 rfl) ?_
  refine lv_iload_n hx hb dX8_isWithin_1 rfl (lv_at hl 1 rfl) ?_
  refine kz_icmp_lt (tgt := 14) hx hb dX8_isWithin_2 (by decide) (by omega) (by omega) (fun c_1 => ?_) (fun c_1 => ?_)
  · refine lv_iconst (v := zI 0) hx hb dX8_isWithin_14 rfl ?_
    exact W.zret (v := (zI 0)) hx hb hr rfl (fun t ht hW => kRd (kb0 (by omega)) ht) (fun _ h9 => by cases h9) dX8_isWithin_15
  · refine lv_iload_n hx hb dX8_isWithin_5 rfl (lv_at hl 0 rfl) ?_
    refine lv_iload_n hx hb dX8_isWithin_6 rfl (lv_at hl 2 rfl) ?_
    refine kz_icmp_gt (tgt := 14) hx hb dX8_isWithin_7 (by decide) (by omega) (by omega) (fun c_2 => ?_) (fun c_2 => ?_)
    · refine lv_iconst (v := zI 0) hx hb dX8_isWithin_14 rfl ?_
      exact W.zret (v := (zI 0)) hx hb hr rfl (fun t ht hW => kRd (kb0 (by omega)) ht) (fun _ h9 => by cases h9) dX8_isWithin_15
    · refine lv_iconst (v := zI 1) hx hb dX8_isWithin_10 rfl ?_
      refine lv_goto (tgt := 15) hx hb dX8_isWithin_11 (by decide) ?_
      exact W.zret (v := (zI 1)) hx hb hr rfl (fun t ht hW => kRd (kb1 (by omega)) ht) (fun _ h9 => by cases h9) dX8_isWithin_15
theorem dX9_within_0 : decode cX9_within 0 = .ok (.iload_n 0, 1) := by decide +kernel
theorem dX9_within_1 : decode cX9_within 1 = .ok (.iload_n 1, 1) := by decide +kernel
theorem dX9_within_2 : decode cX9_within 2 = .ok (.if_icmp .lt 12, 3) := by decide +kernel
theorem dX9_within_5 : decode cX9_within 5 = .ok (.iload_n 0, 1) := by decide +kernel
theorem dX9_within_6 : decode cX9_within 6 = .ok (.iload_n 2, 1) := by decide +kernel
theorem dX9_within_7 : decode cX9_within 7 = .ok (.if_icmp .gt 7, 3) := by decide +kernel
theorem dX9_within_10 : decode cX9_within 10 = .ok (.iconst 1, 1) := by decide +kernel
theorem dX9_within_11 : decode cX9_within 11 = .ok (.goto 4, 3) := by decide +kernel
theorem dX9_within_14 : decode cX9_within 14 = .ok (.iconst 0, 1) := by decide +kernel
theorem dX9_within_15 : decode cX9_within 15 = .ok (.ireturn, 1) := by decide +kernel
set_option maxHeartbeats 4000000 in
set_option maxRecDepth 100000 in
theorem c_X9_within (l : Launch) (D : va_G) (sz : Nat) (v : Int) (a : Int) (b : Int) (q0 : rg v) (q1 : rg a) (q2 : rg b) : Met l yX9_within wsX9_within ({ frames := 0, cells := 0, slots := 0, locals := 0 }) (kPre [.int (zI v), .int (zI a), .int (zI b)] D [] [] sz) (QcRead (if a ≤ v ∧ v ≤ b then 1 else 0)) 0 0 (fun _ => False) := by
  refine Met.ofW (cc := cX9_within) (maxL := 3) (ret := (some .boolean)) (by decide) rfl ?_
  intro p e s m args below meth c s₁ B hml hv
  obtain ⟨rfl, hsz, hP, hK, hD0, hN⟩ := hv
  have hx := B.exec
  have hb := B.bytes
  have hr := B.returns
  have hts := atoms_spec (ws := wsX9_within) B.pre
  have hown : s.vm.findClass RX9 = some m.cls := findClass_of_methodNamed B.named
  have hlocks := B.notSynchronized
  subst hsz
  have hD := hD0
  have hP : va_P D vwCl [] s.heap := hP
  have hl := lv_entry ([.int (zI v), .int (zI a), .int (zI b)]) (n := 3) (Nat.le_of_ble_eq_true rfl)
  rw [lg_entry_eq]
  generalize (lg_sl ([.int (zI v), .int (zI a), .int (zI b)]) ++ List.replicate (3 - (lg_sl ([.int (zI v), .int (zI a), .int (zI b)])).length) Slot.unset).toArray = ls at hl ⊢
  have hl : lv_has ls 3 [(0, .int (zI v)), (1, .int (zI a)), (2, .int (zI b))] := hl
  refine lv_iload_n hx hb dX9_within_0 rfl (lv_at hl 0 rfl) ?_
  refine lv_iload_n hx hb dX9_within_1 rfl (lv_at hl 1 rfl) ?_
  refine kz_icmp_lt (tgt := 14) hx hb dX9_within_2 (by decide) (by omega) (by omega) (fun c_1 => ?_) (fun c_1 => ?_)
  · refine lv_iconst (v := zI 0) hx hb dX9_within_14 rfl ?_
    exact W.zret (v := (zI 0)) hx hb hr rfl (fun t ht hW => kRd (kb0 (by omega)) ht) (fun _ h9 => by cases h9) dX9_within_15
  · refine lv_iload_n hx hb dX9_within_5 rfl (lv_at hl 0 rfl) ?_
    refine lv_iload_n hx hb dX9_within_6 rfl (lv_at hl 2 rfl) ?_
    refine kz_icmp_gt (tgt := 14) hx hb dX9_within_7 (by decide) (by omega) (by omega) (fun c_2 => ?_) (fun c_2 => ?_)
    · refine lv_iconst (v := zI 0) hx hb dX9_within_14 rfl ?_
      exact W.zret (v := (zI 0)) hx hb hr rfl (fun t ht hW => kRd (kb0 (by omega)) ht) (fun _ h9 => by cases h9) dX9_within_15
    · refine lv_iconst (v := zI 1) hx hb dX9_within_10 rfl ?_
      refine lv_goto (tgt := 15) hx hb dX9_within_11 (by decide) ?_
      exact W.zret (v := (zI 1)) hx hb hr rfl (fun t ht hW => kRd (kb1 (by omega)) ht) (fun _ h9 => by cases h9) dX9_within_15
theorem dX8_isSheet_0 : decode cX8_isSheet 0 = .ok (.iload_n 0, 1) := by decide +kernel
theorem dX8_isSheet_1 : decode cX8_isSheet 1 = .ok (.iconst 0, 1) := by decide +kernel
theorem dX8_isSheet_2 : decode cX8_isSheet 2 = .ok (.iconst 3, 1) := by decide +kernel
theorem dX8_isSheet_3 : decode cX8_isSheet 3 = .ok (.invokestatic 128, 3) := by decide +kernel
theorem dX8_isSheet_6 : decode cX8_isSheet 6 = .ok (.ireturn, 1) := by decide +kernel
set_option maxRecDepth 20000 in
theorem ggX8_isSheet_X8_isWithin : GoodIn wsX8_isSheet wsX8_isWithin := goodIn_4 _ (List.forall_mem_cons.mpr ⟨List.mem_cons_of_mem _ (List.mem_of_getElem? (i := 3) rfl), fun _ h9 => absurd h9 List.not_mem_nil⟩) (by decide +kernel)
set_option maxRecDepth 20000 in
theorem gX8_isSheet_X8_isWithin : GoodIn wsX8_isSheet (va_wsS RX8 128 yX8_isWithin wsX8_isWithin) := goodIn_app (goodIn_4 _ (List.forall_mem_cons.mpr ⟨List.mem_cons_of_mem _ (List.mem_of_getElem? (i := 0) rfl), List.forall_mem_cons.mpr ⟨List.mem_cons_of_mem _ (List.mem_of_getElem? (i := 1) rfl), List.forall_mem_cons.mpr ⟨List.mem_cons_of_mem _ (List.mem_of_getElem? (i := 2) rfl), fun _ h9 => absurd h9 List.not_mem_nil⟩⟩⟩) (by decide +kernel)) ggX8_isSheet_X8_isWithin
theorem ax_X8_isSheet_0 : ([] : List Nat).map (fun i => ([] : va_W)[i]?) = ([] : va_W).map some := rfl
set_option maxHeartbeats 4000000 in
set_option maxRecDepth 100000 in
theorem c_X8_isSheet (l : Launch) (D : va_G) (sz : Nat) (k : Int) (q0 : rg k) : Met l yX8_isSheet wsX8_isSheet ({ frames := 1, cells := 0, slots := 0, locals := 22 }) (kPre [.int (zI k)] D [] [] sz) (QcRead (if 0 ≤ k ∧ k ≤ 3 then 1 else 0)) 0 0 (fun _ => False) := by
  refine Met.ofW (cc := cX8_isSheet) (maxL := 1) (ret := (some .boolean)) (by decide) rfl ?_
  intro p e s m args below meth c s₁ B hml hv
  obtain ⟨rfl, hsz, hP, hK, hD0, hN⟩ := hv
  have hx := B.exec
  have hb := B.bytes
  have hr := B.returns
  have hts := atoms_spec (ws := wsX8_isSheet) B.pre
  have hown : s.vm.findClass RX8 = some m.cls := findClass_of_methodNamed B.named
  have hlocks := B.notSynchronized
  subst hsz
  have hD := hD0
  have hP : va_P D vwCl [] s.heap := hP
  have hl := lv_entry ([.int (zI k)]) (n := 1) (Nat.le_of_ble_eq_true rfl)
  rw [lg_entry_eq]
  generalize (lg_sl ([.int (zI k)]) ++ List.replicate (1 - (lg_sl ([.int (zI k)])).length) Slot.unset).toArray = ls at hl ⊢
  have hl : lv_has ls 1 [(0, .int (zI k))] := hl
  refine lv_iload_n hx hb dX8_isSheet_0 rfl (lv_at hl 0 rfl) ?_
  refine lv_iconst (v := zI 0) hx hb dX8_isSheet_1 rfl ?_
  refine lv_iconst (v := zI 3) hx hb dX8_isSheet_2 rfl ?_
  refine k_callR (va_runS (As := [.int (zI k), .int (zI 0), .int (zI 3)]) (rest := []) ⟨hx, hb, hml, hown, hts⟩ (c_X8_isWithin l D s.heap.size (v := k) (a := 0) (b := 3) q0 (by omega) (by omega)) (va_cwS 3 hts gX8_isSheet_X8_isWithin rfl rfl rfl (by decide +kernel) ⟨Nat.le_of_ble_eq_true rfl, Nat.le_of_ble_eq_true rfl⟩) (kPreS hP (kD0 hD) hK hN [] [] ax_X8_isSheet_0 rfl (by decide +kernel)) rfl rfl hl.1 rfl (lv_room (Nat.le_of_ble_eq_true rfl)) dX8_isSheet_3 ⟨Nat.le_of_ble_eq_true rfl, Nat.le_of_ble_eq_true rfl⟩) ?_
  exact W.zret (v := (if 0 ≤ k ∧ k ≤ 3 then 1 else 0)) hx hb hr kzb (fun t ht hW => kRd rfl ht) (fun _ h9 => by cases h9) dX8_isSheet_6
theorem dX9_isSheet_0 : decode cX9_isSheet 0 = .ok (.iload_n 0, 1) := by decide +kernel
theorem dX9_isSheet_1 : decode cX9_isSheet 1 = .ok (.iconst 0, 1) := by decide +kernel
theorem dX9_isSheet_2 : decode cX9_isSheet 2 = .ok (.iconst 3, 1) := by decide +kernel
theorem dX9_isSheet_3 : decode cX9_isSheet 3 = .ok (.invokestatic 70, 3) := by decide +kernel
theorem dX9_isSheet_6 : decode cX9_isSheet 6 = .ok (.ireturn, 1) := by decide +kernel
set_option maxRecDepth 20000 in
theorem ggX9_isSheet_X9_within : GoodIn wsX9_isSheet wsX9_within := goodIn_4 _ (List.forall_mem_cons.mpr ⟨List.mem_cons_of_mem _ (List.mem_of_getElem? (i := 3) rfl), fun _ h9 => absurd h9 List.not_mem_nil⟩) (by decide +kernel)
set_option maxRecDepth 20000 in
theorem gX9_isSheet_X9_within : GoodIn wsX9_isSheet (va_wsS RX9 70 yX9_within wsX9_within) := goodIn_app (goodIn_4 _ (List.forall_mem_cons.mpr ⟨List.mem_cons_of_mem _ (List.mem_of_getElem? (i := 0) rfl), List.forall_mem_cons.mpr ⟨List.mem_cons_of_mem _ (List.mem_of_getElem? (i := 1) rfl), List.forall_mem_cons.mpr ⟨List.mem_cons_of_mem _ (List.mem_of_getElem? (i := 2) rfl), fun _ h9 => absurd h9 List.not_mem_nil⟩⟩⟩) (by decide +kernel)) ggX9_isSheet_X9_within
theorem ax_X9_isSheet_0 : ([] : List Nat).map (fun i => ([] : va_W)[i]?) = ([] : va_W).map some := rfl
set_option maxHeartbeats 4000000 in
set_option maxRecDepth 100000 in
theorem c_X9_isSheet (l : Launch) (D : va_G) (sz : Nat) (k : Int) (q0 : rg k) : Met l yX9_isSheet wsX9_isSheet ({ frames := 1, cells := 0, slots := 0, locals := 22 }) (kPre [.int (zI k)] D [] [] sz) (QcRead (if 0 ≤ k ∧ k ≤ 3 then 1 else 0)) 0 0 (fun _ => False) := by
  refine Met.ofW (cc := cX9_isSheet) (maxL := 1) (ret := (some .boolean)) (by decide) rfl ?_
  intro p e s m args below meth c s₁ B hml hv
  obtain ⟨rfl, hsz, hP, hK, hD0, hN⟩ := hv
  have hx := B.exec
  have hb := B.bytes
  have hr := B.returns
  have hts := atoms_spec (ws := wsX9_isSheet) B.pre
  have hown : s.vm.findClass RX9 = some m.cls := findClass_of_methodNamed B.named
  have hlocks := B.notSynchronized
  subst hsz
  have hD := hD0
  have hP : va_P D vwCl [] s.heap := hP
  have hl := lv_entry ([.int (zI k)]) (n := 1) (Nat.le_of_ble_eq_true rfl)
  rw [lg_entry_eq]
  generalize (lg_sl ([.int (zI k)]) ++ List.replicate (1 - (lg_sl ([.int (zI k)])).length) Slot.unset).toArray = ls at hl ⊢
  have hl : lv_has ls 1 [(0, .int (zI k))] := hl
  refine lv_iload_n hx hb dX9_isSheet_0 rfl (lv_at hl 0 rfl) ?_
  refine lv_iconst (v := zI 0) hx hb dX9_isSheet_1 rfl ?_
  refine lv_iconst (v := zI 3) hx hb dX9_isSheet_2 rfl ?_
  refine k_callR (va_runS (As := [.int (zI k), .int (zI 0), .int (zI 3)]) (rest := []) ⟨hx, hb, hml, hown, hts⟩ (c_X9_within l D s.heap.size (v := k) (a := 0) (b := 3) q0 (by omega) (by omega)) (va_cwS 3 hts gX9_isSheet_X9_within rfl rfl rfl (by decide +kernel) ⟨Nat.le_of_ble_eq_true rfl, Nat.le_of_ble_eq_true rfl⟩) (kPreS hP (kD0 hD) hK hN [] [] ax_X9_isSheet_0 rfl (by decide +kernel)) rfl rfl hl.1 rfl (lv_room (Nat.le_of_ble_eq_true rfl)) dX9_isSheet_3 ⟨Nat.le_of_ble_eq_true rfl, Nat.le_of_ble_eq_true rfl⟩) ?_
  exact W.zret (v := (if 0 ≤ k ∧ k ≤ 3 then 1 else 0)) hx hb hr kzb (fun t ht hW => kRd rfl ht) (fun _ h9 => by cases h9) dX9_isSheet_6
theorem dX8_isLane_0 : decode cX8_isLane 0 = .ok (.iload_n 0, 1) := by decide +kernel
theorem dX8_isLane_1 : decode cX8_isLane 1 = .ok (.iconst 0, 1) := by decide +kernel
theorem dX8_isLane_2 : decode cX8_isLane 2 = .ok (.iconst 2, 1) := by decide +kernel
theorem dX8_isLane_3 : decode cX8_isLane 3 = .ok (.invokestatic 128, 3) := by decide +kernel
theorem dX8_isLane_6 : decode cX8_isLane 6 = .ok (.ireturn, 1) := by decide +kernel
set_option maxRecDepth 20000 in
theorem ggX8_isLane_X8_isWithin : GoodIn wsX8_isLane wsX8_isWithin := goodIn_4 _ (List.forall_mem_cons.mpr ⟨List.mem_cons_of_mem _ (List.mem_of_getElem? (i := 3) rfl), fun _ h9 => absurd h9 List.not_mem_nil⟩) (by decide +kernel)
set_option maxRecDepth 20000 in
theorem gX8_isLane_X8_isWithin : GoodIn wsX8_isLane (va_wsS RX8 128 yX8_isWithin wsX8_isWithin) := goodIn_app (goodIn_4 _ (List.forall_mem_cons.mpr ⟨List.mem_cons_of_mem _ (List.mem_of_getElem? (i := 0) rfl), List.forall_mem_cons.mpr ⟨List.mem_cons_of_mem _ (List.mem_of_getElem? (i := 1) rfl), List.forall_mem_cons.mpr ⟨List.mem_cons_of_mem _ (List.mem_of_getElem? (i := 2) rfl), fun _ h9 => absurd h9 List.not_mem_nil⟩⟩⟩) (by decide +kernel)) ggX8_isLane_X8_isWithin
theorem ax_X8_isLane_0 : ([] : List Nat).map (fun i => ([] : va_W)[i]?) = ([] : va_W).map some := rfl
set_option maxHeartbeats 4000000 in
set_option maxRecDepth 100000 in
theorem c_X8_isLane (l : Launch) (D : va_G) (sz : Nat) (k : Int) (q0 : rg k) : Met l yX8_isLane wsX8_isLane ({ frames := 1, cells := 0, slots := 0, locals := 22 }) (kPre [.int (zI k)] D [] [] sz) (QcRead (if 0 ≤ k ∧ k ≤ 2 then 1 else 0)) 0 0 (fun _ => False) := by
  refine Met.ofW (cc := cX8_isLane) (maxL := 1) (ret := (some .boolean)) (by decide) rfl ?_
  intro p e s m args below meth c s₁ B hml hv
  obtain ⟨rfl, hsz, hP, hK, hD0, hN⟩ := hv
  have hx := B.exec
  have hb := B.bytes
  have hr := B.returns
  have hts := atoms_spec (ws := wsX8_isLane) B.pre
  have hown : s.vm.findClass RX8 = some m.cls := findClass_of_methodNamed B.named
  have hlocks := B.notSynchronized
  subst hsz
  have hD := hD0
  have hP : va_P D vwCl [] s.heap := hP
  have hl := lv_entry ([.int (zI k)]) (n := 1) (Nat.le_of_ble_eq_true rfl)
  rw [lg_entry_eq]
  generalize (lg_sl ([.int (zI k)]) ++ List.replicate (1 - (lg_sl ([.int (zI k)])).length) Slot.unset).toArray = ls at hl ⊢
  have hl : lv_has ls 1 [(0, .int (zI k))] := hl
  refine lv_iload_n hx hb dX8_isLane_0 rfl (lv_at hl 0 rfl) ?_
  refine lv_iconst (v := zI 0) hx hb dX8_isLane_1 rfl ?_
  refine lv_iconst (v := zI 2) hx hb dX8_isLane_2 rfl ?_
  refine k_callR (va_runS (As := [.int (zI k), .int (zI 0), .int (zI 2)]) (rest := []) ⟨hx, hb, hml, hown, hts⟩ (c_X8_isWithin l D s.heap.size (v := k) (a := 0) (b := 2) q0 (by omega) (by omega)) (va_cwS 3 hts gX8_isLane_X8_isWithin rfl rfl rfl (by decide +kernel) ⟨Nat.le_of_ble_eq_true rfl, Nat.le_of_ble_eq_true rfl⟩) (kPreS hP (kD0 hD) hK hN [] [] ax_X8_isLane_0 rfl (by decide +kernel)) rfl rfl hl.1 rfl (lv_room (Nat.le_of_ble_eq_true rfl)) dX8_isLane_3 ⟨Nat.le_of_ble_eq_true rfl, Nat.le_of_ble_eq_true rfl⟩) ?_
  exact W.zret (v := (if 0 ≤ k ∧ k ≤ 2 then 1 else 0)) hx hb hr kzb (fun t ht hW => kRd rfl ht) (fun _ h9 => by cases h9) dX8_isLane_6
theorem dX9_isSort_0 : decode cX9_isSort 0 = .ok (.iload_n 0, 1) := by decide +kernel
theorem dX9_isSort_1 : decode cX9_isSort 1 = .ok (.iconst 0, 1) := by decide +kernel
theorem dX9_isSort_2 : decode cX9_isSort 2 = .ok (.iconst 2, 1) := by decide +kernel
theorem dX9_isSort_3 : decode cX9_isSort 3 = .ok (.invokestatic 70, 3) := by decide +kernel
theorem dX9_isSort_6 : decode cX9_isSort 6 = .ok (.ireturn, 1) := by decide +kernel
set_option maxRecDepth 20000 in
theorem ggX9_isSort_X9_within : GoodIn wsX9_isSort wsX9_within := goodIn_4 _ (List.forall_mem_cons.mpr ⟨List.mem_cons_of_mem _ (List.mem_of_getElem? (i := 3) rfl), fun _ h9 => absurd h9 List.not_mem_nil⟩) (by decide +kernel)
set_option maxRecDepth 20000 in
theorem gX9_isSort_X9_within : GoodIn wsX9_isSort (va_wsS RX9 70 yX9_within wsX9_within) := goodIn_app (goodIn_4 _ (List.forall_mem_cons.mpr ⟨List.mem_cons_of_mem _ (List.mem_of_getElem? (i := 0) rfl), List.forall_mem_cons.mpr ⟨List.mem_cons_of_mem _ (List.mem_of_getElem? (i := 1) rfl), List.forall_mem_cons.mpr ⟨List.mem_cons_of_mem _ (List.mem_of_getElem? (i := 2) rfl), fun _ h9 => absurd h9 List.not_mem_nil⟩⟩⟩) (by decide +kernel)) ggX9_isSort_X9_within
theorem ax_X9_isSort_0 : ([] : List Nat).map (fun i => ([] : va_W)[i]?) = ([] : va_W).map some := rfl
set_option maxHeartbeats 4000000 in
set_option maxRecDepth 100000 in
theorem c_X9_isSort (l : Launch) (D : va_G) (sz : Nat) (k : Int) (q0 : rg k) : Met l yX9_isSort wsX9_isSort ({ frames := 1, cells := 0, slots := 0, locals := 22 }) (kPre [.int (zI k)] D [] [] sz) (QcRead (if 0 ≤ k ∧ k ≤ 2 then 1 else 0)) 0 0 (fun _ => False) := by
  refine Met.ofW (cc := cX9_isSort) (maxL := 1) (ret := (some .boolean)) (by decide) rfl ?_
  intro p e s m args below meth c s₁ B hml hv
  obtain ⟨rfl, hsz, hP, hK, hD0, hN⟩ := hv
  have hx := B.exec
  have hb := B.bytes
  have hr := B.returns
  have hts := atoms_spec (ws := wsX9_isSort) B.pre
  have hown : s.vm.findClass RX9 = some m.cls := findClass_of_methodNamed B.named
  have hlocks := B.notSynchronized
  subst hsz
  have hD := hD0
  have hP : va_P D vwCl [] s.heap := hP
  have hl := lv_entry ([.int (zI k)]) (n := 1) (Nat.le_of_ble_eq_true rfl)
  rw [lg_entry_eq]
  generalize (lg_sl ([.int (zI k)]) ++ List.replicate (1 - (lg_sl ([.int (zI k)])).length) Slot.unset).toArray = ls at hl ⊢
  have hl : lv_has ls 1 [(0, .int (zI k))] := hl
  refine lv_iload_n hx hb dX9_isSort_0 rfl (lv_at hl 0 rfl) ?_
  refine lv_iconst (v := zI 0) hx hb dX9_isSort_1 rfl ?_
  refine lv_iconst (v := zI 2) hx hb dX9_isSort_2 rfl ?_
  refine k_callR (va_runS (As := [.int (zI k), .int (zI 0), .int (zI 2)]) (rest := []) ⟨hx, hb, hml, hown, hts⟩ (c_X9_within l D s.heap.size (v := k) (a := 0) (b := 2) q0 (by omega) (by omega)) (va_cwS 3 hts gX9_isSort_X9_within rfl rfl rfl (by decide +kernel) ⟨Nat.le_of_ble_eq_true rfl, Nat.le_of_ble_eq_true rfl⟩) (kPreS hP (kD0 hD) hK hN [] [] ax_X9_isSort_0 rfl (by decide +kernel)) rfl rfl hl.1 rfl (lv_room (Nat.le_of_ble_eq_true rfl)) dX9_isSort_3 ⟨Nat.le_of_ble_eq_true rfl, Nat.le_of_ble_eq_true rfl⟩) ?_
  exact W.zret (v := (if 0 ≤ k ∧ k ≤ 2 then 1 else 0)) hx hb hr kzb (fun t ht hW => kRd rfl ht) (fun _ h9 => by cases h9) dX9_isSort_6
theorem dX8_isOfDay_0 : decode cX8_isOfDay 0 = .ok (.iload_n 0, 1) := by decide +kernel
theorem dX8_isOfDay_1 : decode cX8_isOfDay 1 = .ok (.iconst 0, 1) := by decide +kernel
theorem dX8_isOfDay_2 : decode cX8_isOfDay 2 = .ok (.iconst 4, 1) := by decide +kernel
theorem dX8_isOfDay_3 : decode cX8_isOfDay 3 = .ok (.invokestatic 128, 3) := by decide +kernel
theorem dX8_isOfDay_6 : decode cX8_isOfDay 6 = .ok (.ifCond .ne 14, 3) := by decide +kernel
theorem dX8_isOfDay_9 : decode cX8_isOfDay 9 = .ok (.iload_n 0, 1) := by decide +kernel
theorem dX8_isOfDay_10 : decode cX8_isOfDay 10 = .ok (.bipush 10, 2) := by decide +kernel
theorem dX8_isOfDay_12 : decode cX8_isOfDay 12 = .ok (.bipush 13, 2) := by decide +kernel
theorem dX8_isOfDay_14 : decode cX8_isOfDay 14 = .ok (.invokestatic 128, 3) := by decide +kernel
theorem dX8_isOfDay_17 : decode cX8_isOfDay 17 = .ok (.ifCond .eq 7, 3) := by decide +kernel
theorem dX8_isOfDay_20 : decode cX8_isOfDay 20 = .ok (.iconst 1, 1) := by decide +kernel
theorem dX8_isOfDay_21 : decode cX8_isOfDay 21 = .ok (.goto 4, 3) := by decide +kernel
theorem dX8_isOfDay_24 : decode cX8_isOfDay 24 = .ok (.iconst 0, 1) := by decide +kernel
theorem dX8_isOfDay_25 : decode cX8_isOfDay 25 = .ok (.ireturn, 1) := by decide +kernel
set_option maxRecDepth 20000 in
theorem ggX8_isOfDay_X8_isWithin : GoodIn wsX8_isOfDay wsX8_isWithin := goodIn_4 _ (List.forall_mem_cons.mpr ⟨List.mem_cons_of_mem _ (List.mem_of_getElem? (i := 3) rfl), fun _ h9 => absurd h9 List.not_mem_nil⟩) (by decide +kernel)
set_option maxRecDepth 20000 in
theorem gX8_isOfDay_X8_isWithin : GoodIn wsX8_isOfDay (va_wsS RX8 128 yX8_isWithin wsX8_isWithin) := goodIn_app (goodIn_4 _ (List.forall_mem_cons.mpr ⟨List.mem_cons_of_mem _ (List.mem_of_getElem? (i := 0) rfl), List.forall_mem_cons.mpr ⟨List.mem_cons_of_mem _ (List.mem_of_getElem? (i := 1) rfl), List.forall_mem_cons.mpr ⟨List.mem_cons_of_mem _ (List.mem_of_getElem? (i := 2) rfl), fun _ h9 => absurd h9 List.not_mem_nil⟩⟩⟩) (by decide +kernel)) ggX8_isOfDay_X8_isWithin
theorem ax_X8_isOfDay_0 : ([] : List Nat).map (fun i => ([] : va_W)[i]?) = ([] : va_W).map some := rfl
set_option maxHeartbeats 4000000 in
set_option maxRecDepth 100000 in
theorem c_X8_isOfDay (l : Launch) (D : va_G) (sz : Nat) (k : Int) (q0 : rg k) : Met l yX8_isOfDay wsX8_isOfDay ({ frames := 1, cells := 0, slots := 0, locals := 22 }) (kPre [.int (zI k)] D [] [] sz) (QcRead (if (0 ≤ k ∧ k ≤ 4) ∨ (10 ≤ k ∧ k ≤ 13) then 1 else 0)) 0 0 (fun _ => False) := by
  refine Met.ofW (cc := cX8_isOfDay) (maxL := 1) (ret := (some .boolean)) (by decide) rfl ?_
  intro p e s m args below meth c s₁ B hml hv
  obtain ⟨rfl, hsz, hP, hK, hD0, hN⟩ := hv
  have hx := B.exec
  have hb := B.bytes
  have hr := B.returns
  have hts := atoms_spec (ws := wsX8_isOfDay) B.pre
  have hown : s.vm.findClass RX8 = some m.cls := findClass_of_methodNamed B.named
  have hlocks := B.notSynchronized
  subst hsz
  have hD := hD0
  have hP : va_P D vwCl [] s.heap := hP
  have hl := lv_entry ([.int (zI k)]) (n := 1) (Nat.le_of_ble_eq_true rfl)
  rw [lg_entry_eq]
  generalize (lg_sl ([.int (zI k)]) ++ List.replicate (1 - (lg_sl ([.int (zI k)])).length) Slot.unset).toArray = ls at hl ⊢
  have hl : lv_has ls 1 [(0, .int (zI k))] := hl
  refine lv_iload_n hx hb dX8_isOfDay_0 rfl (lv_at hl 0 rfl) ?_
  refine lv_iconst (v := zI 0) hx hb dX8_isOfDay_1 rfl ?_
  refine lv_iconst (v := zI 4) hx hb dX8_isOfDay_2 rfl ?_
  refine k_callR (va_runS (As := [.int (zI k), .int (zI 0), .int (zI 4)]) (rest := []) ⟨hx, hb, hml, hown, hts⟩ (c_X8_isWithin l D s.heap.size (v := k) (a := 0) (b := 4) q0 (by omega) (by omega)) (va_cwS 3 hts gX8_isOfDay_X8_isWithin rfl rfl rfl (by decide +kernel) ⟨Nat.le_of_ble_eq_true rfl, Nat.le_of_ble_eq_true rfl⟩) (kPreS hP (kD0 hD) hK hN [] [] ax_X8_isOfDay_0 rfl (by decide +kernel)) rfl rfl hl.1 rfl (lv_room (Nat.le_of_ble_eq_true rfl)) dX8_isOfDay_3 ⟨Nat.le_of_ble_eq_true rfl, Nat.le_of_ble_eq_true rfl⟩) ?_
  refine lv_if_ne (tgt := 20) hx hb dX8_isOfDay_6 (by decide) (fun c_1 => ?_) (fun c_1 => ?_)
  · have c_1 : 0 ≤ k ∧ k ≤ 4 := b01t c_1
    refine lv_iconst (v := zI 1) hx hb dX8_isOfDay_20 rfl ?_
    refine lv_goto (tgt := 25) hx hb dX8_isOfDay_21 (by decide) ?_
    exact W.zret (v := (zI 1)) hx hb hr rfl (fun t ht hW => kRd (kb1 (by omega)) ht) (fun _ h9 => by cases h9) dX8_isOfDay_25
  · have c_1 : ¬ (0 ≤ k ∧ k ≤ 4) := b01f c_1
    refine lv_iload_n hx hb dX8_isOfDay_9 rfl (lv_at hl 0 rfl) ?_
    refine lv_bipush (v := zI 10) hx hb dX8_isOfDay_10 (by decide) ?_
    refine lv_bipush (v := zI 13) hx hb dX8_isOfDay_12 (by decide) ?_
    refine k_callR (va_runS (As := [.int (zI k), .int (zI 10), .int (zI 13)]) (rest := []) ⟨hx, hb, hml, hown, hts⟩ (c_X8_isWithin l D s.heap.size (v := k) (a := 10) (b := 13) q0 (by omega) (by omega)) (va_cwS 3 hts gX8_isOfDay_X8_isWithin rfl rfl rfl (by decide +kernel) ⟨Nat.le_of_ble_eq_true rfl, Nat.le_of_ble_eq_true rfl⟩) (kPreS hP (kD0 hD) hK hN [] [] ax_X8_isOfDay_0 rfl (by decide +kernel)) rfl rfl hl.1 rfl (lv_room (Nat.le_of_ble_eq_true rfl)) dX8_isOfDay_14 ⟨Nat.le_of_ble_eq_true rfl, Nat.le_of_ble_eq_true rfl⟩) ?_
    refine lv_if_eq (tgt := 24) hx hb dX8_isOfDay_17 (by decide) (fun c_2 => ?_) (fun c_2 => ?_)
    · have c_2 : ¬ (10 ≤ k ∧ k ≤ 13) := b01f c_2
      refine lv_iconst (v := zI 0) hx hb dX8_isOfDay_24 rfl ?_
      exact W.zret (v := (zI 0)) hx hb hr rfl (fun t ht hW => kRd (kb0 (by omega)) ht) (fun _ h9 => by cases h9) dX8_isOfDay_25
    · have c_2 : 10 ≤ k ∧ k ≤ 13 := b01t c_2
      refine lv_iconst (v := zI 1) hx hb dX8_isOfDay_20 rfl ?_
      refine lv_goto (tgt := 25) hx hb dX8_isOfDay_21 (by decide) ?_
      exact W.zret (v := (zI 1)) hx hb hr rfl (fun t ht hW => kRd (kb1 (by omega)) ht) (fun _ h9 => by cases h9) dX8_isOfDay_25
theorem dX8_isAct_0 : decode cX8_isAct 0 = .ok (.iload_n 1, 1) := by decide +kernel
theorem dX8_isAct_1 : decode cX8_isAct 1 = .ok (.tableswitch 50 20 22 #[27, 35, 43], 27) := by decide +kernel
theorem dX8_isAct_28 : decode cX8_isAct 28 = .ok (.iload_n 0, 1) := by decide +kernel
theorem dX8_isAct_29 : decode cX8_isAct 29 = .ok (.iconst 0, 1) := by decide +kernel
theorem dX8_isAct_30 : decode cX8_isAct 30 = .ok (.bipush 15, 2) := by decide +kernel
theorem dX8_isAct_32 : decode cX8_isAct 32 = .ok (.invokestatic 128, 3) := by decide +kernel
theorem dX8_isAct_35 : decode cX8_isAct 35 = .ok (.ireturn, 1) := by decide +kernel
theorem dX8_isAct_36 : decode cX8_isAct 36 = .ok (.iload_n 0, 1) := by decide +kernel
theorem dX8_isAct_37 : decode cX8_isAct 37 = .ok (.iconst 0, 1) := by decide +kernel
theorem dX8_isAct_38 : decode cX8_isAct 38 = .ok (.bipush 24, 2) := by decide +kernel
theorem dX8_isAct_40 : decode cX8_isAct 40 = .ok (.invokestatic 128, 3) := by decide +kernel
theorem dX8_isAct_43 : decode cX8_isAct 43 = .ok (.ireturn, 1) := by decide +kernel
theorem dX8_isAct_44 : decode cX8_isAct 44 = .ok (.iload_n 0, 1) := by decide +kernel
theorem dX8_isAct_45 : decode cX8_isAct 45 = .ok (.iconst 0, 1) := by decide +kernel
theorem dX8_isAct_46 : decode cX8_isAct 46 = .ok (.iconst 3, 1) := by decide +kernel
theorem dX8_isAct_47 : decode cX8_isAct 47 = .ok (.invokestatic 128, 3) := by decide +kernel
theorem dX8_isAct_50 : decode cX8_isAct 50 = .ok (.ireturn, 1) := by decide +kernel
theorem dX8_isAct_51 : decode cX8_isAct 51 = .ok (.iconst 0, 1) := by decide +kernel
theorem dX8_isAct_52 : decode cX8_isAct 52 = .ok (.ireturn, 1) := by decide +kernel
set_option maxRecDepth 20000 in
theorem ggX8_isAct_X8_isWithin : GoodIn wsX8_isAct wsX8_isWithin := goodIn_4 _ (List.forall_mem_cons.mpr ⟨List.mem_cons_of_mem _ (List.mem_of_getElem? (i := 3) rfl), fun _ h9 => absurd h9 List.not_mem_nil⟩) (by decide +kernel)
set_option maxRecDepth 20000 in
theorem gX8_isAct_X8_isWithin : GoodIn wsX8_isAct (va_wsS RX8 128 yX8_isWithin wsX8_isWithin) := goodIn_app (goodIn_4 _ (List.forall_mem_cons.mpr ⟨List.mem_cons_of_mem _ (List.mem_of_getElem? (i := 0) rfl), List.forall_mem_cons.mpr ⟨List.mem_cons_of_mem _ (List.mem_of_getElem? (i := 1) rfl), List.forall_mem_cons.mpr ⟨List.mem_cons_of_mem _ (List.mem_of_getElem? (i := 2) rfl), fun _ h9 => absurd h9 List.not_mem_nil⟩⟩⟩) (by decide +kernel)) ggX8_isAct_X8_isWithin
theorem ax_X8_isAct_0 : ([] : List Nat).map (fun i => ([] : va_W)[i]?) = ([] : va_W).map some := rfl
set_option maxHeartbeats 4000000 in
set_option maxRecDepth 100000 in
theorem c_X8_isAct (l : Launch) (D : va_G) (sz : Nat) (k : Int) (a : Int) (q0 : rg k) (q1 : rg a) : Met l yX8_isAct wsX8_isAct ({ frames := 1, cells := 0, slots := 0, locals := 22 }) (kPre [.int (zI k), .int (zI a)] D [] [] sz) (QcRead (if (a = 20 ∧ 0 ≤ k ∧ k ≤ 15) ∨ (a = 21 ∧ 0 ≤ k ∧ k ≤ 24) ∨ (a = 22 ∧ 0 ≤ k ∧ k ≤ 3) then 1 else 0)) 0 0 (fun _ => False) := by
  refine Met.ofW (cc := cX8_isAct) (maxL := 2) (ret := (some .boolean)) (by decide) rfl ?_
  intro p e s m args below meth c s₁ B hml hv
  obtain ⟨rfl, hsz, hP, hK, hD0, hN⟩ := hv
  have hx := B.exec
  have hb := B.bytes
  have hr := B.returns
  have hts := atoms_spec (ws := wsX8_isAct) B.pre
  have hown : s.vm.findClass RX8 = some m.cls := findClass_of_methodNamed B.named
  have hlocks := B.notSynchronized
  subst hsz
  have hD := hD0
  have hP : va_P D vwCl [] s.heap := hP
  have hl := lv_entry ([.int (zI k), .int (zI a)]) (n := 2) (Nat.le_of_ble_eq_true rfl)
  rw [lg_entry_eq]
  generalize (lg_sl ([.int (zI k), .int (zI a)]) ++ List.replicate (2 - (lg_sl ([.int (zI k), .int (zI a)])).length) Slot.unset).toArray = ls at hl ⊢
  have hl : lv_has ls 2 [(0, .int (zI k)), (1, .int (zI a))] := hl
  refine lv_iload_n hx hb dX8_isAct_0 rfl (lv_at hl 1 rfl) ?_
  rcases (show a = 20 ∨ a = 21 ∨ a = 22 ∨ (¬ a = 20 ∧ ¬ a = 21 ∧ ¬ a = 22) from by omega) with c_1 | c_1 | c_1 | c_1
  · refine kz_tabIn (tgt := 28) (off := 27) hx hb dX8_isAct_1 20 (by omega) (by decide) (by decide) (by decide) (by decide) (by decide) ?_
    refine lv_iload_n hx hb dX8_isAct_28 rfl (lv_at hl 0 rfl) ?_
    refine lv_iconst (v := zI 0) hx hb dX8_isAct_29 rfl ?_
    refine lv_bipush (v := zI 15) hx hb dX8_isAct_30 (by decide) ?_
    refine k_callR (va_runS (As := [.int (zI k), .int (zI 0), .int (zI 15)]) (rest := []) ⟨hx, hb, hml, hown, hts⟩ (c_X8_isWithin l D s.heap.size (v := k) (a := 0) (b := 15) q0 (by omega) (by omega)) (va_cwS 3 hts gX8_isAct_X8_isWithin rfl rfl rfl (by decide +kernel) ⟨Nat.le_of_ble_eq_true rfl, Nat.le_of_ble_eq_true rfl⟩) (kPreS hP (kD0 hD) hK hN [] [] ax_X8_isAct_0 rfl (by decide +kernel)) rfl rfl hl.1 rfl (lv_room (Nat.le_of_ble_eq_true rfl)) dX8_isAct_32 ⟨Nat.le_of_ble_eq_true rfl, Nat.le_of_ble_eq_true rfl⟩) ?_
    exact W.zret (v := (if 0 ≤ k ∧ k ≤ 15 then 1 else 0)) hx hb hr kzb (fun t ht hW => kRd (kbc (by constructor <;> (intro h9; omega))) ht) (fun _ h9 => by cases h9) dX8_isAct_35
  · refine kz_tabIn (tgt := 36) (off := 35) hx hb dX8_isAct_1 21 (by omega) (by decide) (by decide) (by decide) (by decide) (by decide) ?_
    refine lv_iload_n hx hb dX8_isAct_36 rfl (lv_at hl 0 rfl) ?_
    refine lv_iconst (v := zI 0) hx hb dX8_isAct_37 rfl ?_
    refine lv_bipush (v := zI 24) hx hb dX8_isAct_38 (by decide) ?_
    refine k_callR (va_runS (As := [.int (zI k), .int (zI 0), .int (zI 24)]) (rest := []) ⟨hx, hb, hml, hown, hts⟩ (c_X8_isWithin l D s.heap.size (v := k) (a := 0) (b := 24) q0 (by omega) (by omega)) (va_cwS 3 hts gX8_isAct_X8_isWithin rfl rfl rfl (by decide +kernel) ⟨Nat.le_of_ble_eq_true rfl, Nat.le_of_ble_eq_true rfl⟩) (kPreS hP (kD0 hD) hK hN [] [] ax_X8_isAct_0 rfl (by decide +kernel)) rfl rfl hl.1 rfl (lv_room (Nat.le_of_ble_eq_true rfl)) dX8_isAct_40 ⟨Nat.le_of_ble_eq_true rfl, Nat.le_of_ble_eq_true rfl⟩) ?_
    exact W.zret (v := (if 0 ≤ k ∧ k ≤ 24 then 1 else 0)) hx hb hr kzb (fun t ht hW => kRd (kbc (by constructor <;> (intro h9; omega))) ht) (fun _ h9 => by cases h9) dX8_isAct_43
  · refine kz_tabIn (tgt := 44) (off := 43) hx hb dX8_isAct_1 22 (by omega) (by decide) (by decide) (by decide) (by decide) (by decide) ?_
    refine lv_iload_n hx hb dX8_isAct_44 rfl (lv_at hl 0 rfl) ?_
    refine lv_iconst (v := zI 0) hx hb dX8_isAct_45 rfl ?_
    refine lv_iconst (v := zI 3) hx hb dX8_isAct_46 rfl ?_
    refine k_callR (va_runS (As := [.int (zI k), .int (zI 0), .int (zI 3)]) (rest := []) ⟨hx, hb, hml, hown, hts⟩ (c_X8_isWithin l D s.heap.size (v := k) (a := 0) (b := 3) q0 (by omega) (by omega)) (va_cwS 3 hts gX8_isAct_X8_isWithin rfl rfl rfl (by decide +kernel) ⟨Nat.le_of_ble_eq_true rfl, Nat.le_of_ble_eq_true rfl⟩) (kPreS hP (kD0 hD) hK hN [] [] ax_X8_isAct_0 rfl (by decide +kernel)) rfl rfl hl.1 rfl (lv_room (Nat.le_of_ble_eq_true rfl)) dX8_isAct_47 ⟨Nat.le_of_ble_eq_true rfl, Nat.le_of_ble_eq_true rfl⟩) ?_
    exact W.zret (v := (if 0 ≤ k ∧ k ≤ 3 then 1 else 0)) hx hb hr kzb (fun t ht hW => kRd (kbc (by constructor <;> (intro h9; omega))) ht) (fun _ h9 => by cases h9) dX8_isAct_50
  · refine kz_tabOut (tgt := 51) hx hb dX8_isAct_1 (by omega) (by omega) (by decide) ?_
    refine lv_iconst (v := zI 0) hx hb dX8_isAct_51 rfl ?_
    exact W.zret (v := (zI 0)) hx hb hr rfl (fun t ht hW => kRd (kb0 (by omega)) ht) (fun _ h9 => by cases h9) dX8_isAct_52
theorem dX9_isPair_0 : decode cX9_isPair 0 = .ok (.iload_n 1, 1) := by decide +kernel
theorem dX9_isPair_1 : decode cX9_isPair 1 = .ok (.bipush 20, 2) := by decide +kernel
theorem dX9_isPair_3 : decode cX9_isPair 3 = .ok (.if_icmp .ne 13, 3) := by decide +kernel
theorem dX9_isPair_6 : decode cX9_isPair 6 = .ok (.iload_n 0, 1) := by decide +kernel
theorem dX9_isPair_7 : decode cX9_isPair 7 = .ok (.iconst 0, 1) := by decide +kernel
theorem dX9_isPair_8 : decode cX9_isPair 8 = .ok (.bipush 15, 2) := by decide +kernel
theorem dX9_isPair_10 : decode cX9_isPair 10 = .ok (.invokestatic 70, 3) := by decide +kernel
theorem dX9_isPair_13 : decode cX9_isPair 13 = .ok (.ifCond .ne 34, 3) := by decide +kernel
theorem dX9_isPair_16 : decode cX9_isPair 16 = .ok (.iload_n 1, 1) := by decide +kernel
theorem dX9_isPair_17 : decode cX9_isPair 17 = .ok (.bipush 21, 2) := by decide +kernel
theorem dX9_isPair_19 : decode cX9_isPair 19 = .ok (.if_icmp .ne 13, 3) := by decide +kernel
theorem dX9_isPair_22 : decode cX9_isPair 22 = .ok (.iload_n 0, 1) := by decide +kernel
theorem dX9_isPair_23 : decode cX9_isPair 23 = .ok (.iconst 0, 1) := by decide +kernel
theorem dX9_isPair_24 : decode cX9_isPair 24 = .ok (.bipush 24, 2) := by decide +kernel
theorem dX9_isPair_26 : decode cX9_isPair 26 = .ok (.invokestatic 70, 3) := by decide +kernel
theorem dX9_isPair_29 : decode cX9_isPair 29 = .ok (.ifCond .ne 18, 3) := by decide +kernel
theorem dX9_isPair_32 : decode cX9_isPair 32 = .ok (.iload_n 1, 1) := by decide +kernel
theorem dX9_isPair_33 : decode cX9_isPair 33 = .ok (.bipush 22, 2) := by decide +kernel
theorem dX9_isPair_35 : decode cX9_isPair 35 = .ok (.if_icmp .ne 16, 3) := by decide +kernel
theorem dX9_isPair_38 : decode cX9_isPair 38 = .ok (.iload_n 0, 1) := by decide +kernel
theorem dX9_isPair_39 : decode cX9_isPair 39 = .ok (.iconst 0, 1) := by decide +kernel
theorem dX9_isPair_40 : decode cX9_isPair 40 = .ok (.iconst 3, 1) := by decide +kernel
theorem dX9_isPair_41 : decode cX9_isPair 41 = .ok (.invokestatic 70, 3) := by decide +kernel
theorem dX9_isPair_44 : decode cX9_isPair 44 = .ok (.ifCond .eq 7, 3) := by decide +kernel
theorem dX9_isPair_47 : decode cX9_isPair 47 = .ok (.iconst 1, 1) := by decide +kernel
theorem dX9_isPair_48 : decode cX9_isPair 48 = .ok (.goto 4, 3) := by decide +kernel
theorem dX9_isPair_51 : decode cX9_isPair 51 = .ok (.iconst 0, 1) := by decide +kernel
theorem dX9_isPair_52 : decode cX9_isPair 52 = .ok (.ireturn, 1) := by decide +kernel
set_option maxRecDepth 20000 in
theorem ggX9_isPair_X9_within : GoodIn wsX9_isPair wsX9_within := goodIn_4 _ (List.forall_mem_cons.mpr ⟨List.mem_cons_of_mem _ (List.mem_of_getElem? (i := 3) rfl), fun _ h9 => absurd h9 List.not_mem_nil⟩) (by decide +kernel)
set_option maxRecDepth 20000 in
theorem gX9_isPair_X9_within : GoodIn wsX9_isPair (va_wsS RX9 70 yX9_within wsX9_within) := goodIn_app (goodIn_4 _ (List.forall_mem_cons.mpr ⟨List.mem_cons_of_mem _ (List.mem_of_getElem? (i := 0) rfl), List.forall_mem_cons.mpr ⟨List.mem_cons_of_mem _ (List.mem_of_getElem? (i := 1) rfl), List.forall_mem_cons.mpr ⟨List.mem_cons_of_mem _ (List.mem_of_getElem? (i := 2) rfl), fun _ h9 => absurd h9 List.not_mem_nil⟩⟩⟩) (by decide +kernel)) ggX9_isPair_X9_within
theorem ax_X9_isPair_0 : ([] : List Nat).map (fun i => ([] : va_W)[i]?) = ([] : va_W).map some := rfl
set_option maxHeartbeats 4000000 in
set_option maxRecDepth 100000 in
theorem c_X9_isPair (l : Launch) (D : va_G) (sz : Nat) (k : Int) (a : Int) (q0 : rg k) (q1 : rg a) : Met l yX9_isPair wsX9_isPair ({ frames := 1, cells := 0, slots := 0, locals := 22 }) (kPre [.int (zI k), .int (zI a)] D [] [] sz) (QcRead (if (a = 20 ∧ 0 ≤ k ∧ k ≤ 15) ∨ (a = 21 ∧ 0 ≤ k ∧ k ≤ 24) ∨ (a = 22 ∧ 0 ≤ k ∧ k ≤ 3) then 1 else 0)) 0 0 (fun _ => False) := by
  refine Met.ofW (cc := cX9_isPair) (maxL := 2) (ret := (some .boolean)) (by decide) rfl ?_
  intro p e s m args below meth c s₁ B hml hv
  obtain ⟨rfl, hsz, hP, hK, hD0, hN⟩ := hv
  have hx := B.exec
  have hb := B.bytes
  have hr := B.returns
  have hts := atoms_spec (ws := wsX9_isPair) B.pre
  have hown : s.vm.findClass RX9 = some m.cls := findClass_of_methodNamed B.named
  have hlocks := B.notSynchronized
  subst hsz
  have hD := hD0
  have hP : va_P D vwCl [] s.heap := hP
  have hl := lv_entry ([.int (zI k), .int (zI a)]) (n := 2) (Nat.le_of_ble_eq_true rfl)
  rw [lg_entry_eq]
  generalize (lg_sl ([.int (zI k), .int (zI a)]) ++ List.replicate (2 - (lg_sl ([.int (zI k), .int (zI a)])).length) Slot.unset).toArray = ls at hl ⊢
  have hl : lv_has ls 2 [(0, .int (zI k)), (1, .int (zI a))] := hl
  refine lv_iload_n hx hb dX9_isPair_0 rfl (lv_at hl 1 rfl) ?_
  refine lv_bipush (v := zI 20) hx hb dX9_isPair_1 (by decide) ?_
  refine kz_icmp_ne (tgt := 16) hx hb dX9_isPair_3 (by decide) (by omega) (by omega) (fun c_1 => ?_) (fun c_1 => ?_)
  · refine lv_iload_n hx hb dX9_isPair_16 rfl (lv_at hl 1 rfl) ?_
    refine lv_bipush (v := zI 21) hx hb dX9_isPair_17 (by decide) ?_
    refine kz_icmp_ne (tgt := 32) hx hb dX9_isPair_19 (by decide) (by omega) (by omega) (fun c_2 => ?_) (fun c_2 => ?_)
    · refine lv_iload_n hx hb dX9_isPair_32 rfl (lv_at hl 1 rfl) ?_
      refine lv_bipush (v := zI 22) hx hb dX9_isPair_33 (by decide) ?_
      refine kz_icmp_ne (tgt := 51) hx hb dX9_isPair_35 (by decide) (by omega) (by omega) (fun c_3 => ?_) (fun c_3 => ?_)
      · refine lv_iconst (v := zI 0) hx hb dX9_isPair_51 rfl ?_
        exact W.zret (v := (zI 0)) hx hb hr rfl (fun t ht hW => kRd (kb0 (by omega)) ht) (fun _ h9 => by cases h9) dX9_isPair_52
      · refine lv_iload_n hx hb dX9_isPair_38 rfl (lv_at hl 0 rfl) ?_
        refine lv_iconst (v := zI 0) hx hb dX9_isPair_39 rfl ?_
        refine lv_iconst (v := zI 3) hx hb dX9_isPair_40 rfl ?_
        refine k_callR (va_runS (As := [.int (zI k), .int (zI 0), .int (zI 3)]) (rest := []) ⟨hx, hb, hml, hown, hts⟩ (c_X9_within l D s.heap.size (v := k) (a := 0) (b := 3) q0 (by omega) (by omega)) (va_cwS 3 hts gX9_isPair_X9_within rfl rfl rfl (by decide +kernel) ⟨Nat.le_of_ble_eq_true rfl, Nat.le_of_ble_eq_true rfl⟩) (kPreS hP (kD0 hD) hK hN [] [] ax_X9_isPair_0 rfl (by decide +kernel)) rfl rfl hl.1 rfl (lv_room (Nat.le_of_ble_eq_true rfl)) dX9_isPair_41 ⟨Nat.le_of_ble_eq_true rfl, Nat.le_of_ble_eq_true rfl⟩) ?_
        refine lv_if_eq (tgt := 51) hx hb dX9_isPair_44 (by decide) (fun c_4 => ?_) (fun c_4 => ?_)
        · have c_4 : ¬ (0 ≤ k ∧ k ≤ 3) := b01f c_4
          refine lv_iconst (v := zI 0) hx hb dX9_isPair_51 rfl ?_
          exact W.zret (v := (zI 0)) hx hb hr rfl (fun t ht hW => kRd (kb0 (by omega)) ht) (fun _ h9 => by cases h9) dX9_isPair_52
        · have c_4 : 0 ≤ k ∧ k ≤ 3 := b01t c_4
          refine lv_iconst (v := zI 1) hx hb dX9_isPair_47 rfl ?_
          refine lv_goto (tgt := 52) hx hb dX9_isPair_48 (by decide) ?_
          exact W.zret (v := (zI 1)) hx hb hr rfl (fun t ht hW => kRd (kb1 (by omega)) ht) (fun _ h9 => by cases h9) dX9_isPair_52
    · refine lv_iload_n hx hb dX9_isPair_22 rfl (lv_at hl 0 rfl) ?_
      refine lv_iconst (v := zI 0) hx hb dX9_isPair_23 rfl ?_
      refine lv_bipush (v := zI 24) hx hb dX9_isPair_24 (by decide) ?_
      refine k_callR (va_runS (As := [.int (zI k), .int (zI 0), .int (zI 24)]) (rest := []) ⟨hx, hb, hml, hown, hts⟩ (c_X9_within l D s.heap.size (v := k) (a := 0) (b := 24) q0 (by omega) (by omega)) (va_cwS 3 hts gX9_isPair_X9_within rfl rfl rfl (by decide +kernel) ⟨Nat.le_of_ble_eq_true rfl, Nat.le_of_ble_eq_true rfl⟩) (kPreS hP (kD0 hD) hK hN [] [] ax_X9_isPair_0 rfl (by decide +kernel)) rfl rfl hl.1 rfl (lv_room (Nat.le_of_ble_eq_true rfl)) dX9_isPair_26 ⟨Nat.le_of_ble_eq_true rfl, Nat.le_of_ble_eq_true rfl⟩) ?_
      refine lv_if_ne (tgt := 47) hx hb dX9_isPair_29 (by decide) (fun c_5 => ?_) (fun c_5 => ?_)
      · have c_5 : 0 ≤ k ∧ k ≤ 24 := b01t c_5
        refine lv_iconst (v := zI 1) hx hb dX9_isPair_47 rfl ?_
        refine lv_goto (tgt := 52) hx hb dX9_isPair_48 (by decide) ?_
        exact W.zret (v := (zI 1)) hx hb hr rfl (fun t ht hW => kRd (kb1 (by omega)) ht) (fun _ h9 => by cases h9) dX9_isPair_52
      · have c_5 : ¬ (0 ≤ k ∧ k ≤ 24) := b01f c_5
        refine lv_iload_n hx hb dX9_isPair_32 rfl (lv_at hl 1 rfl) ?_
        refine lv_bipush (v := zI 22) hx hb dX9_isPair_33 (by decide) ?_
        refine kz_icmp_ne (tgt := 51) hx hb dX9_isPair_35 (by decide) (by omega) (by omega) (fun c_6 => ?_) (fun c_6 => ?_)
        · refine lv_iconst (v := zI 0) hx hb dX9_isPair_51 rfl ?_
          exact W.zret (v := (zI 0)) hx hb hr rfl (fun t ht hW => kRd (kb0 (by omega)) ht) (fun _ h9 => by cases h9) dX9_isPair_52
        · refine lv_iload_n hx hb dX9_isPair_38 rfl (lv_at hl 0 rfl) ?_
          refine lv_iconst (v := zI 0) hx hb dX9_isPair_39 rfl ?_
          refine lv_iconst (v := zI 3) hx hb dX9_isPair_40 rfl ?_
          refine k_callR (va_runS (As := [.int (zI k), .int (zI 0), .int (zI 3)]) (rest := []) ⟨hx, hb, hml, hown, hts⟩ (c_X9_within l D s.heap.size (v := k) (a := 0) (b := 3) q0 (by omega) (by omega)) (va_cwS 3 hts gX9_isPair_X9_within rfl rfl rfl (by decide +kernel) ⟨Nat.le_of_ble_eq_true rfl, Nat.le_of_ble_eq_true rfl⟩) (kPreS hP (kD0 hD) hK hN [] [] ax_X9_isPair_0 rfl (by decide +kernel)) rfl rfl hl.1 rfl (lv_room (Nat.le_of_ble_eq_true rfl)) dX9_isPair_41 ⟨Nat.le_of_ble_eq_true rfl, Nat.le_of_ble_eq_true rfl⟩) ?_
          refine lv_if_eq (tgt := 51) hx hb dX9_isPair_44 (by decide) (fun c_7 => ?_) (fun c_7 => ?_)
          · have c_7 : ¬ (0 ≤ k ∧ k ≤ 3) := b01f c_7
            refine lv_iconst (v := zI 0) hx hb dX9_isPair_51 rfl ?_
            exact W.zret (v := (zI 0)) hx hb hr rfl (fun t ht hW => kRd (kb0 (by omega)) ht) (fun _ h9 => by cases h9) dX9_isPair_52
          · have c_7 : 0 ≤ k ∧ k ≤ 3 := b01t c_7
            refine lv_iconst (v := zI 1) hx hb dX9_isPair_47 rfl ?_
            refine lv_goto (tgt := 52) hx hb dX9_isPair_48 (by decide) ?_
            exact W.zret (v := (zI 1)) hx hb hr rfl (fun t ht hW => kRd (kb1 (by omega)) ht) (fun _ h9 => by cases h9) dX9_isPair_52
  · refine lv_iload_n hx hb dX9_isPair_6 rfl (lv_at hl 0 rfl) ?_
    refine lv_iconst (v := zI 0) hx hb dX9_isPair_7 rfl ?_
    refine lv_bipush (v := zI 15) hx hb dX9_isPair_8 (by decide) ?_
    refine k_callR (va_runS (As := [.int (zI k), .int (zI 0), .int (zI 15)]) (rest := []) ⟨hx, hb, hml, hown, hts⟩ (c_X9_within l D s.heap.size (v := k) (a := 0) (b := 15) q0 (by omega) (by omega)) (va_cwS 3 hts gX9_isPair_X9_within rfl rfl rfl (by decide +kernel) ⟨Nat.le_of_ble_eq_true rfl, Nat.le_of_ble_eq_true rfl⟩) (kPreS hP (kD0 hD) hK hN [] [] ax_X9_isPair_0 rfl (by decide +kernel)) rfl rfl hl.1 rfl (lv_room (Nat.le_of_ble_eq_true rfl)) dX9_isPair_10 ⟨Nat.le_of_ble_eq_true rfl, Nat.le_of_ble_eq_true rfl⟩) ?_
    refine lv_if_ne (tgt := 47) hx hb dX9_isPair_13 (by decide) (fun c_8 => ?_) (fun c_8 => ?_)
    · have c_8 : 0 ≤ k ∧ k ≤ 15 := b01t c_8
      refine lv_iconst (v := zI 1) hx hb dX9_isPair_47 rfl ?_
      refine lv_goto (tgt := 52) hx hb dX9_isPair_48 (by decide) ?_
      exact W.zret (v := (zI 1)) hx hb hr rfl (fun t ht hW => kRd (kb1 (by omega)) ht) (fun _ h9 => by cases h9) dX9_isPair_52
    · have c_8 : ¬ (0 ≤ k ∧ k ≤ 15) := b01f c_8
      refine lv_iload_n hx hb dX9_isPair_16 rfl (lv_at hl 1 rfl) ?_
      refine lv_bipush (v := zI 21) hx hb dX9_isPair_17 (by decide) ?_
      refine kz_icmp_ne (tgt := 32) hx hb dX9_isPair_19 (by decide) (by omega) (by omega) (fun c_9 => ?_) (fun c_9 => ?_)
      · refine lv_iload_n hx hb dX9_isPair_32 rfl (lv_at hl 1 rfl) ?_
        refine lv_bipush (v := zI 22) hx hb dX9_isPair_33 (by decide) ?_
        refine kz_icmp_ne (tgt := 51) hx hb dX9_isPair_35 (by decide) (by omega) (by omega) (fun c_10 => ?_) (fun c_10 => ?_)
        · refine lv_iconst (v := zI 0) hx hb dX9_isPair_51 rfl ?_
          exact W.zret (v := (zI 0)) hx hb hr rfl (fun t ht hW => kRd (kb0 (by omega)) ht) (fun _ h9 => by cases h9) dX9_isPair_52
        · refine lv_iload_n hx hb dX9_isPair_38 rfl (lv_at hl 0 rfl) ?_
          refine lv_iconst (v := zI 0) hx hb dX9_isPair_39 rfl ?_
          refine lv_iconst (v := zI 3) hx hb dX9_isPair_40 rfl ?_
          refine k_callR (va_runS (As := [.int (zI k), .int (zI 0), .int (zI 3)]) (rest := []) ⟨hx, hb, hml, hown, hts⟩ (c_X9_within l D s.heap.size (v := k) (a := 0) (b := 3) q0 (by omega) (by omega)) (va_cwS 3 hts gX9_isPair_X9_within rfl rfl rfl (by decide +kernel) ⟨Nat.le_of_ble_eq_true rfl, Nat.le_of_ble_eq_true rfl⟩) (kPreS hP (kD0 hD) hK hN [] [] ax_X9_isPair_0 rfl (by decide +kernel)) rfl rfl hl.1 rfl (lv_room (Nat.le_of_ble_eq_true rfl)) dX9_isPair_41 ⟨Nat.le_of_ble_eq_true rfl, Nat.le_of_ble_eq_true rfl⟩) ?_
          refine lv_if_eq (tgt := 51) hx hb dX9_isPair_44 (by decide) (fun c_11 => ?_) (fun c_11 => ?_)
          · have c_11 : ¬ (0 ≤ k ∧ k ≤ 3) := b01f c_11
            refine lv_iconst (v := zI 0) hx hb dX9_isPair_51 rfl ?_
            exact W.zret (v := (zI 0)) hx hb hr rfl (fun t ht hW => kRd (kb0 (by omega)) ht) (fun _ h9 => by cases h9) dX9_isPair_52
          · have c_11 : 0 ≤ k ∧ k ≤ 3 := b01t c_11
            refine lv_iconst (v := zI 1) hx hb dX9_isPair_47 rfl ?_
            refine lv_goto (tgt := 52) hx hb dX9_isPair_48 (by decide) ?_
            exact W.zret (v := (zI 1)) hx hb hr rfl (fun t ht hW => kRd (kb1 (by omega)) ht) (fun _ h9 => by cases h9) dX9_isPair_52
      · refine lv_iload_n hx hb dX9_isPair_22 rfl (lv_at hl 0 rfl) ?_
        refine lv_iconst (v := zI 0) hx hb dX9_isPair_23 rfl ?_
        refine lv_bipush (v := zI 24) hx hb dX9_isPair_24 (by decide) ?_
        refine k_callR (va_runS (As := [.int (zI k), .int (zI 0), .int (zI 24)]) (rest := []) ⟨hx, hb, hml, hown, hts⟩ (c_X9_within l D s.heap.size (v := k) (a := 0) (b := 24) q0 (by omega) (by omega)) (va_cwS 3 hts gX9_isPair_X9_within rfl rfl rfl (by decide +kernel) ⟨Nat.le_of_ble_eq_true rfl, Nat.le_of_ble_eq_true rfl⟩) (kPreS hP (kD0 hD) hK hN [] [] ax_X9_isPair_0 rfl (by decide +kernel)) rfl rfl hl.1 rfl (lv_room (Nat.le_of_ble_eq_true rfl)) dX9_isPair_26 ⟨Nat.le_of_ble_eq_true rfl, Nat.le_of_ble_eq_true rfl⟩) ?_
        refine lv_if_ne (tgt := 47) hx hb dX9_isPair_29 (by decide) (fun c_12 => ?_) (fun c_12 => ?_)
        · have c_12 : 0 ≤ k ∧ k ≤ 24 := b01t c_12
          refine lv_iconst (v := zI 1) hx hb dX9_isPair_47 rfl ?_
          refine lv_goto (tgt := 52) hx hb dX9_isPair_48 (by decide) ?_
          exact W.zret (v := (zI 1)) hx hb hr rfl (fun t ht hW => kRd (kb1 (by omega)) ht) (fun _ h9 => by cases h9) dX9_isPair_52
        · have c_12 : ¬ (0 ≤ k ∧ k ≤ 24) := b01f c_12
          refine lv_iload_n hx hb dX9_isPair_32 rfl (lv_at hl 1 rfl) ?_
          refine lv_bipush (v := zI 22) hx hb dX9_isPair_33 (by decide) ?_
          refine kz_icmp_ne (tgt := 51) hx hb dX9_isPair_35 (by decide) (by omega) (by omega) (fun c_13 => ?_) (fun c_13 => ?_)
          · refine lv_iconst (v := zI 0) hx hb dX9_isPair_51 rfl ?_
            exact W.zret (v := (zI 0)) hx hb hr rfl (fun t ht hW => kRd (kb0 (by omega)) ht) (fun _ h9 => by cases h9) dX9_isPair_52
          · refine lv_iload_n hx hb dX9_isPair_38 rfl (lv_at hl 0 rfl) ?_
            refine lv_iconst (v := zI 0) hx hb dX9_isPair_39 rfl ?_
            refine lv_iconst (v := zI 3) hx hb dX9_isPair_40 rfl ?_
            refine k_callR (va_runS (As := [.int (zI k), .int (zI 0), .int (zI 3)]) (rest := []) ⟨hx, hb, hml, hown, hts⟩ (c_X9_within l D s.heap.size (v := k) (a := 0) (b := 3) q0 (by omega) (by omega)) (va_cwS 3 hts gX9_isPair_X9_within rfl rfl rfl (by decide +kernel) ⟨Nat.le_of_ble_eq_true rfl, Nat.le_of_ble_eq_true rfl⟩) (kPreS hP (kD0 hD) hK hN [] [] ax_X9_isPair_0 rfl (by decide +kernel)) rfl rfl hl.1 rfl (lv_room (Nat.le_of_ble_eq_true rfl)) dX9_isPair_41 ⟨Nat.le_of_ble_eq_true rfl, Nat.le_of_ble_eq_true rfl⟩) ?_
            refine lv_if_eq (tgt := 51) hx hb dX9_isPair_44 (by decide) (fun c_14 => ?_) (fun c_14 => ?_)
            · have c_14 : ¬ (0 ≤ k ∧ k ≤ 3) := b01f c_14
              refine lv_iconst (v := zI 0) hx hb dX9_isPair_51 rfl ?_
              exact W.zret (v := (zI 0)) hx hb hr rfl (fun t ht hW => kRd (kb0 (by omega)) ht) (fun _ h9 => by cases h9) dX9_isPair_52
            · have c_14 : 0 ≤ k ∧ k ≤ 3 := b01t c_14
              refine lv_iconst (v := zI 1) hx hb dX9_isPair_47 rfl ?_
              refine lv_goto (tgt := 52) hx hb dX9_isPair_48 (by decide) ?_
              exact W.zret (v := (zI 1)) hx hb hr rfl (fun t ht hW => kRd (kb1 (by omega)) ht) (fun _ h9 => by cases h9) dX9_isPair_52
