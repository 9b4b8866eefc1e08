theorem goodIn_4 {big : List Cond} (ws : List Cond) (hm : ∀ w ∈ ws, w ∈ big) (h : ws.all goodWord = true) : GoodIn big ws := fun w hw => ⟨hm w hw, good_of_word (List.all_eq_true.mp h w hw)⟩
theorem dX8_isWithin_0 : decode cX8_isWithin 0 = .ok (.iload_n 0, 1) := by decide +kernel
theorem dX8_isWithin_1 : decode cX8_isWithin 1 = .ok (.iload_n 1, 1) := by decide +kernel
theorem dX8_isWithin_2 : decode cX8_isWithin 2 = .ok (.if_icmp .lt 12, 3) := by decide +kernel
theorem dX8_isWithin_5 : decode cX8_isWithin 5 = .ok (.iload_n 0, 1) := by decide +kernel
theorem dX8_isWithin_6 : decode cX8_isWithin 6 = .ok (.iload_n 2, 1) := by decide +kernel
theorem dX8_isWithin_7 : decode cX8_isWithin 7 = .ok (.if_icmp .gt 7, 3) := by decide +kernel
theorem dX8_isWithin_10 : decode cX8_isWithin 10 = .ok (.iconst 1, 1) := by decide +kernel
theorem dX8_isWithin_11 : decode cX8_isWithin 11 = .ok (.goto 4, 3) := by decide +kernel
theorem dX8_isWithin_14 : decode cX8_isWithin 14 = .ok (.iconst 0, 1) := by decide +kernel
theorem dX8_isWithin_15 : decode cX8_isWithin 15 = .ok (.ireturn, 1) := by decide +kernel
set_option maxHeartbeats 4000000 in
set_option maxRecDepth 100000 in
theorem c_X8_isWithin (l : Launch) (D : va_G) (sz : Nat) (v : Int) (a : Int) (b : Int) (q0 : rg v) (q1 : rg a) (q2 : rg b) : Met l yX8_isWithin wsX8_isWithin ({ frames := 0, cells := 0, slots := 0, locals := 0 }) (kPre [.int (zI v), .int (zI a), .int (zI b)] D [] [] sz) (QcRead (if a ≤ v ∧ v ≤ b then 1 else 0)) 0 0 (fun _ => False) := by
  refine Met.ofW (cc := cX8_isWithin) (maxL := 3) (ret := (some .boolean)) (by decide) rfl ?_
  intro p e s m args below meth c s₁ B hml hv
  obtain ⟨rfl, hsz, hP, hK, hD0, hN⟩ := hv
  have hx := B.exec
  have hb := B.bytes
  have hr := B.returns
  have hts := atoms_spec (ws := wsX8_isWithin) B.pre
  have hown : s.vm.findClass RX8 = some m.cls := findClass_of_methodNamed B.named
  have hlocks := B.notSynchronized
  subst hsz
  have hD := hD0
  have hP : va_P D vwCl [] s.heap := hP
  have hl := lv_entry ([.int (zI v), .int (zI a), .int (zI b)]) (n := 3) (Nat.le_of_ble_eq_true rfl)
  rw [lg_entry_eq]
  generalize (lg_sl ([.int (zI v), .int (zI a), .int (zI b)]) ++ List.replicate (3 - (lg_sl ([.int (zI v), .int (zI a), .int (zI b)])).length) Slot.unset).toArray = ls at hl ⊢
  have hl : lv_has ls 3 [(0, .int (zI v)), (1, .int (zI a)), (2, .int (zI b))] := hl
  refine lv_iload_n hx hb dX8_isWithin_0 rfl (lv_at hl 0 rfl) ?_
  refine lv_iload_n hx hb dX8_isWithin_1 rfl (lv_at hl 1 rfl) ?_
  refine kz_icmp_lt (tgt := 14) hx hb dX8_isWithin_2 (by decide) (by omega) (by omega) (fun c_1 => ?_) (fun c_1 => ?_)
  · refine lv_iconst (v := zI 0) hx hb dX8_isWithin_14 rfl ?_
    exact W.zret (v := (zI 0)) hx hb hr rfl (fun t ht hW => kRd (kb0 (by omega)) ht) (fun _ h9 => by cases h9) dX8_isWithin_15
  · refine lv_iload_n hx hb dX8_isWithin_5 rfl (lv_at hl 0 rfl) ?_
    refine lv_iload_n hx hb dX8_isWithin_6 rfl (lv_at hl 2 rfl) ?_
    refine kz_icmp_gt (tgt := 14) hx hb dX8_isWithin_7 (by decide) (by omega) (by omega) (fun c_2 => ?_) (fun c_2 => ?_)
    · refine lv_iconst (v := zI 0) hx hb dX8_isWithin_14 rfl ?_
      exact W.zret (v := (zI 0)) hx hb hr rfl (fun t ht hW => kRd (kb0 (by omega)) ht) (fun _ h9 => by cases h9) dX8_isWithin_15
    · refine lv_iconst (v := zI 1) hx hb dX8_isWithin_10 rfl ?_
      refine lv_goto (tgt := 15) hx hb dX8_isWithin_11 (by decide) ?_
      exact W.zret (v := (zI 1)) hx hb hr rfl (fun t ht hW => kRd (kb1 (by omega)) ht) (fun _ h9 => by cases h9) dX8_isWithin_15
theorem dX9_within_0 : decode cX9_within 0 = .ok (.iload_n 0, 1) := by decide +kernel
theorem dX9_within_1 : decode cX9_within 1 = .ok (.iload_n 1, 1) := by decide +kernel
theorem dX9_within_2 : decode cX9_within 2 = .ok (.if_icmp .lt 12, 3) := by decide +kernel
theorem dX9_within_5 : decode cX9_within 5 = .ok (.iload_n 0, 1) := by decide +kernel
theorem dX9_within_6 : decode cX9_within 6 = .ok (.iload_n 2, 1) := by decide +kernel
theorem dX9_within_7 : decode cX9_within 7 = .ok (.if_icmp .gt 7, 3) := by decide +kernel
theorem dX9_within_10 : decode cX9_within 10 = .ok (.iconst 1, 1) := by decide +kernel
theorem dX9_within_11 : decode cX9_within 11 = .ok (.goto 4, 3) := by decide +kernel
theorem dX9_within_14 : decode cX9_within 14 = .ok (.iconst 0, 1) := by decide +kernel
theorem dX9_within_15 : decode cX9_within 15 = .ok (.ireturn, 1) := by decide +kernel
set_option maxHeartbeats 4000000 in
set_option maxRecDepth 100000 in
theorem c_X9_within (l : Launch) (D : va_G) (sz : Nat) (v : Int) (a : Int) (b : Int) (q0 : rg v) (q1 : rg a) (q2 : rg b) : Met l yX9_within wsX9_within ({ frames := 0, cells := 0, slots := 0, locals := 0 }) (kPre [.int (zI v), .int (zI a), .int (zI b)] D [] [] sz) (QcRead (if a ≤ v ∧ v ≤ b then 1 else 0)) 0 0 (fun _ => False) := by
  refine Met.ofW (cc := cX9_within) (maxL := 3) (ret := (some .boolean)) (by decide) rfl ?_
  intro p e s m args below meth c s₁ B hml hv
  obtain ⟨rfl, hsz, hP, hK, hD0, hN⟩ := hv
  have hx := B.exec
  have hb := B.bytes
  have hr := B.returns
  have hts := atoms_spec (ws := wsX9_within) B.pre
  have hown : s.vm.findClass RX9 = some m.cls := findClass_of_methodNamed B.named
  have hlocks := B.notSynchronized
  subst hsz
  have hD := hD0
  have hP : va_P D vwCl [] s.heap := hP
  have hl := lv_entry ([.int (zI v), .int (zI a), .int (zI b)]) (n := 3) (Nat.le_of_ble_eq_true rfl)
  rw [lg_entry_eq]
  generalize (lg_sl ([.int (zI v), .int (zI a), .int (zI b)]) ++ List.replicate (3 - (lg_sl ([.int (zI v), .int (zI a), .int (zI b)])).length) Slot.unset).toArray = ls at hl ⊢
  have hl : lv_has ls 3 [(0, .int (zI v)), (1, .int (zI a)), (2, .int (zI b))] := hl
  refine lv_iload_n hx hb dX9_within_0 rfl (lv_at hl 0 rfl) ?_
  refine lv_iload_n hx hb dX9_within_1 rfl (lv_at hl 1 rfl) ?_
  refine kz_icmp_lt (tgt := 14) hx hb dX9_within_2 (by decide) (by omega) (by omega) (fun c_1 => ?_) (fun c_1 => ?_)
  · refine lv_iconst (v := zI 0) hx hb dX9_within_14 rfl ?_
    exact W.zret (v := (zI 0)) hx hb hr rfl (fun t ht hW => kRd (kb0 (by omega)) ht) (fun _ h9 => by cases h9) dX9_within_15
  · refine lv_iload_n hx hb dX9_within_5 rfl (lv_at hl 0 rfl) ?_
    refine lv_iload_n hx hb dX9_within_6 rfl (lv_at hl 2 rfl) ?_
    refine kz_icmp_gt (tgt := 14) hx hb dX9_within_7 (by decide) (by omega) (by omega) (fun c_2 => ?_) (fun c_2 => ?_)
    · refine lv_iconst (v := zI 0) hx hb dX9_within_14 rfl ?_
      exact W.zret (v := (zI 0)) hx hb hr rfl (fun t ht hW => kRd (kb0 (by omega)) ht) (fun _ h9 => by cases h9) dX9_within_15
    · refine lv_iconst (v := zI 1) hx hb dX9_within_10 rfl ?_
      refine lv_goto (tgt := 15) hx hb dX9_within_11 (by decide) ?_
      exact W.zret (v := (zI 1)) hx hb hr rfl (fun t ht hW => kRd (kb1 (by omega)) ht) (fun _ h9 => by cases h9) dX9_within_15
theorem dX8_isSheet_0 : decode cX8_isSheet 0 = .ok (.iload_n 0, 1) := by decide +kernel
theorem dX8_isSheet_1 : decode cX8_isSheet 1 = .ok (.iconst 0, 1) := by decide +kernel
theorem dX8_isSheet_2 : decode cX8_isSheet 2 = .ok (.iconst 3, 1) := by decide +kernel
theorem dX8_isSheet_3 : decode cX8_isSheet 3 = .ok (.invokestatic 128, 3) := by decide +kernel
theorem dX8_isSheet_6 : decode cX8_isSheet 6 = .ok (.ireturn, 1) := by decide +kernel
set_option maxRecDepth 20000 in
theorem ggX8_isSheet_X8_isWithin : GoodIn wsX8_isSheet wsX8_isWithin := goodIn_4 _ (List.forall_mem_cons.mpr ⟨List.mem_cons_of_mem _ (List.mem_of_getElem? (i := 3) rfl), fun _ h9 => absurd h9 List.not_mem_nil⟩) (by decide +kernel)
set_option maxRecDepth 20000 in
theorem gX8_isSheet_X8_isWithin : GoodIn wsX8_isSheet (va_wsS RX8 128 yX8_isWithin wsX8_isWithin) := goodIn_app (goodIn_4 _ (List.forall_mem_cons.mpr ⟨List.mem_cons_of_mem _ (List.mem_of_getElem? (i := 0) rfl), List.forall_mem_cons.mpr ⟨List.mem_cons_of_mem _ (List.mem_of_getElem? (i := 1) rfl), List.forall_mem_cons.mpr ⟨List.mem_cons_of_mem _ (List.mem_of_getElem? (i := 2) rfl), fun _ h9 => absurd h9 List.not_mem_nil⟩⟩⟩) (by decide +kernel)) ggX8_isSheet_X8_isWithin
theorem ax_X8_isSheet_0 : ([] : List Nat).map (fun i => ([] : va_W)[i]?) = ([] : va_W).map some := rfl
set_option maxHeartbeats 4000000 in
set_option maxRecDepth 100000 in
theorem c_X8_isSheet (l : Launch) (D : va_G) (sz : Nat) (k : Int) (q0 : rg k) : Met l yX8_isSheet wsX8_isSheet ({ frames := 1, cells := 0, slots := 0, locals := 22 }) (kPre [.int (zI k)] D [] [] sz) (QcRead (if 0 ≤ k ∧ k ≤ 3 then 1 else 0)) 0 0 (fun _ => False) := by
  refine Met.ofW (cc := cX8_isSheet) (maxL := 1) (ret := (some .boolean)) (by decide) rfl ?_
  intro p e s m args below meth c s₁ B hml hv
  obtain ⟨rfl, hsz, hP, hK, hD0, hN⟩ := hv
  have hx := B.exec
  have hb := B.bytes
  have hr := B.returns
  have hts := atoms_spec (ws := wsX8_isSheet) B.pre
  have hown : s.vm.findClass RX8 = some m.cls := findClass_of_methodNamed B.named
  have hlocks := B.notSynchronized
  subst hsz
  have hD := hD0
  have hP : va_P D vwCl [] s.heap := hP
  have hl := lv_entry ([.int (zI k)]) (n := 1) (Nat.le_of_ble_eq_true rfl)
  rw [lg_entry_eq]
  generalize (lg_sl ([.int (zI k)]) ++ List.replicate (1 - (lg_sl ([.int (zI k)])).length) Slot.unset).toArray = ls at hl ⊢
  have hl : lv_has ls 1 [(0, .int (zI k))] := hl
  refine lv_iload_n hx hb dX8_isSheet_0 rfl (lv_at hl 0 rfl) ?_
  refine lv_iconst (v := zI 0) hx hb dX8_isSheet_1 rfl ?_
  refine lv_iconst (v := zI 3) hx hb dX8_isSheet_2 rfl ?_
  refine k_callR (va_runS (As := [.int (zI k), .int (zI 0), .int (zI 3)]) (rest := []) ⟨hx, hb, hml, hown, hts⟩ (c_X8_isWithin l D s.heap.size (v := k) (a := 0) (b := 3) q0 (by omega) (by omega)) (va_cwS 3 hts gX8_isSheet_X8_isWithin rfl rfl rfl (by decide +kernel) ⟨Nat.le_of_ble_eq_true rfl, Nat.le_of_ble_eq_true rfl⟩) (kPreS hP (kD0 hD) hK hN [] [] ax_X8_isSheet_0 rfl (by decide +kernel)) rfl rfl hl.1 rfl (lv_room (Nat.le_of_ble_eq_true rfl)) dX8_isSheet_3 ⟨Nat.le_of_ble_eq_true rfl, Nat.le_of_ble_eq_true rfl⟩) ?_
  exact W.zret (v := (if 0 ≤ k ∧ k ≤ 3 then 1 else 0)) hx hb hr kzb (fun t ht hW => kRd rfl ht) (fun _ h9 => by cases h9) dX8_isSheet_6
theorem dX9_isSheet_0 : decode cX9_isSheet 0 = .ok (.iload_n 0, 1) := by decide +kernel
theorem dX9_isSheet_1 : decode cX9_isSheet 1 = .ok (.iconst 0, 1) := by decide +kernel
theorem dX9_isSheet_2 : decode cX9_isSheet 2 = .ok (.iconst 3, 1) := by decide +kernel
theorem dX9_isSheet_3 : decode cX9_isSheet 3 = .ok (.invokestatic 70, 3) := by decide +kernel
theorem dX9_isSheet_6 : decode cX9_isSheet 6 = .ok (.ireturn, 1) := by decide +kernel
set_option maxRecDepth 20000 in
theorem ggX9_isSheet_X9_within : GoodIn wsX9_isSheet wsX9_within := goodIn_4 _ (List.forall_mem_cons.mpr ⟨List.mem_cons_of_mem _ (List.mem_of_getElem? (i := 3) rfl), fun _ h9 => absurd h9 List.not_mem_nil⟩) (by decide +kernel)
set_option maxRecDepth 20000 in
theorem gX9_isSheet_X9_within : GoodIn wsX9_isSheet (va_wsS RX9 70 yX9_within wsX9_within) := goodIn_app (goodIn_4 _ (List.forall_mem_cons.mpr ⟨List.mem_cons_of_mem _ (List.mem_of_getElem? (i := 0) rfl), List.forall_mem_cons.mpr ⟨List.mem_cons_of_mem _ (List.mem_of_getElem? (i := 1) rfl), List.forall_mem_cons.mpr ⟨List.mem_cons_of_mem _ (List.mem_of_getElem? (i := 2) rfl), fun _ h9 => absurd h9 List.not_mem_nil⟩⟩⟩) (by decide +kernel)) ggX9_isSheet_X9_within
theorem ax_X9_isSheet_0 : ([] : List Nat).map (fun i => ([] : va_W)[i]?) = ([] : va_W).map some := rfl
set_option maxHeartbeats 4000000 in
set_option maxRecDepth 100000 in
theorem c_X9_isSheet (l : Launch) (D : va_G) (sz : Nat) (k : Int) (q0 : rg k) : Met l yX9_isSheet wsX9_isSheet ({ frames := 1, cells := 0, slots := 0, locals := 22 }) (kPre [.int (zI k)] D [] [] sz) (QcRead (if 0 ≤ k ∧ k ≤ 3 then 1 else 0)) 0 0 (fun _ => False) := by
  refine Met.ofW (cc := cX9_isSheet) (maxL := 1) (ret := (some .boolean)) (by decide) rfl ?_
  intro p e s m args below meth c s₁ B hml hv
  obtain ⟨rfl, hsz, hP, hK, hD0, hN⟩ := hv
  have hx := B.exec
  have hb := B.bytes
  have hr := B.returns
  have hts := atoms_spec (ws := wsX9_isSheet) B.pre
  have hown : s.vm.findClass RX9 = some m.cls := findClass_of_methodNamed B.named
  have hlocks := B.notSynchronized
  subst hsz
  have hD := hD0
  have hP : va_P D vwCl [] s.heap := hP
  have hl := lv_entry ([.int (zI k)]) (n := 1) (Nat.le_of_ble_eq_true rfl)
  rw [lg_entry_eq]
  generalize (lg_sl ([.int (zI k)]) ++ List.replicate (1 - (lg_sl ([.int (zI k)])).length) Slot.unset).toArray = ls at hl ⊢
  have hl : lv_has ls 1 [(0, .int (zI k))] := hl
  refine lv_iload_n hx hb dX9_isSheet_0 rfl (lv_at hl 0 rfl) ?_
  refine lv_iconst (v := zI 0) hx hb dX9_isSheet_1 rfl ?_
  refine lv_iconst (v := zI 3) hx hb dX9_isSheet_2 rfl ?_
  refine k_callR (va_runS (As := [.int (zI k), .int (zI 0), .int (zI 3)]) (rest := []) ⟨hx, hb, hml, hown, hts⟩ (c_X9_within l D s.heap.size (v := k) (a := 0) (b := 3) q0 (by omega) (by omega)) (va_cwS 3 hts gX9_isSheet_X9_within rfl rfl rfl (by decide +kernel) ⟨Nat.le_of_ble_eq_true rfl, Nat.le_of_ble_eq_true rfl⟩) (kPreS hP (kD0 hD) hK hN [] [] ax_X9_isSheet_0 rfl (by decide +kernel)) rfl rfl hl.1 rfl (lv_room (Nat.le_of_ble_eq_true rfl)) dX9_isSheet_3 ⟨Nat.le_of_ble_eq_true rfl, Nat.le_of_ble_eq_true rfl⟩) ?_
  exact W.zret (v := (if 0 ≤ k ∧ k ≤ 3 then 1 else 0)) hx hb hr kzb (fun t ht hW => kRd rfl ht) (fun _ h9 => by cases h9) dX9_isSheet_6
theorem dX8_isLane_0 : decode cX8_isLane 0 = .ok (.iload_n 0, 1) := by decide +kernel
theorem dX8_isLane_1 : decode cX8_isLane 1 = .ok (.iconst 0, 1) := by decide +kernel
theorem dX8_isLane_2 : decode cX8_isLane 2 = .ok (.iconst 2, 1) := by decide +kernel
theorem dX8_isLane_3 : decode cX8_isLane 3 = .ok (.invokestatic 128, 3) := by decide +kernel
theorem dX8_isLane_6 : decode cX8_isLane 6 = .ok (.ireturn, 1) := by decide +kernel
set_option maxRecDepth 20000 in
theorem ggX8_isLane_X8_isWithin : GoodIn wsX8_isLane wsX8_isWithin := goodIn_4 _ (List.forall_mem_cons.mpr ⟨List.mem_cons_of_mem _ (List.mem_of_getElem? (i := 3) rfl), fun _ h9 => absurd h9 List.not_mem_nil⟩) (by decide +kernel)
set_option maxRecDepth 20000 in
theorem gX8_isLane_X8_isWithin : GoodIn wsX8_isLane (va_wsS RX8 128 yX8_isWithin wsX8_isWithin) := goodIn_app (goodIn_4 _ (List.forall_mem_cons.mpr ⟨List.mem_cons_of_mem _ (List.mem_of_getElem? (i := 0) rfl), List.forall_mem_cons.mpr ⟨List.mem_cons_of_mem _ (List.mem_of_getElem? (i := 1) rfl), List.forall_mem_cons.mpr ⟨List.mem_cons_of_mem _ (List.mem_of_getElem? (i := 2) rfl), fun _ h9 => absurd h9 List.not_mem_nil⟩⟩⟩) (by decide +kernel)) ggX8_isLane_X8_isWithin
theorem ax_X8_isLane_0 : ([] : List Nat).map (fun i => ([] : va_W)[i]?) = ([] : va_W).map some := rfl
set_option maxHeartbeats 4000000 in
set_option maxRecDepth 100000 in
theorem c_X8_isLane (l : Launch) (D : va_G) (sz : Nat) (k : Int) (q0 : rg k) : Met l yX8_isLane wsX8_isLane ({ frames := 1, cells := 0, slots := 0, locals := 22 }) (kPre [.int (zI k)] D [] [] sz) (QcRead (if 0 ≤ k ∧ k ≤ 2 then 1 else 0)) 0 0 (fun _ => False) := by
  refine Met.ofW (cc := cX8_isLane) (maxL := 1) (ret := (some .boolean)) (by decide) rfl ?_
  intro p e s m args below meth c s₁ B hml hv
  obtain ⟨rfl, hsz, hP, hK, hD0, hN⟩ := hv
  have hx := B.exec
  have hb := B.bytes
  have hr := B.returns
  have hts := atoms_spec (ws := wsX8_isLane) B.pre
  have hown : s.vm.findClass RX8 = some m.cls := findClass_of_methodNamed B.named
  have hlocks := B.notSynchronized
  subst hsz
  have hD := hD0
  have hP : va_P D vwCl [] s.heap := hP
  have hl := lv_entry ([.int (zI k)]) (n := 1) (Nat.le_of_ble_eq_true rfl)
  rw [lg_entry_eq]
  generalize (lg_sl ([.int (zI k)]) ++ List.replicate (1 - (lg_sl ([.int (zI k)])).length) Slot.unset).toArray = ls at hl ⊢
  have hl : lv_has ls 1 [(0, .int (zI k))] := hl
  refine lv_iload_n hx hb dX8_isLane_0 rfl (lv_at hl 0 rfl) ?_
  refine lv_iconst (v := zI 0) hx hb dX8_isLane_1 rfl ?_
  refine lv_iconst (v := zI 2) hx hb dX8_isLane_2 rfl ?_
  refine k_callR (va_runS (As := [.int (zI k), .int (zI 0), .int (zI 2)]) (rest := []) ⟨hx, hb, hml, hown, hts⟩ (c_X8_isWithin l D s.heap.size (v := k) (a := 0) (b := 2) q0 (by omega) (by omega)) (va_cwS 3 hts gX8_isLane_X8_isWithin rfl rfl rfl (by decide +kernel) ⟨Nat.le_of_ble_eq_true rfl, Nat.le_of_ble_eq_true rfl⟩) (kPreS hP (kD0 hD) hK hN [] [] ax_X8_isLane_0 rfl (by decide +kernel)) rfl rfl hl.1 rfl (lv_room (Nat.le_of_ble_eq_true rfl)) dX8_isLane_3 ⟨Nat.le_of_ble_eq_true rfl, Nat.le_of_ble_eq_true rfl⟩) ?_
  exact W.zret (v := (if 0 ≤ k ∧ k ≤ 2 then 1 else 0)) hx hb hr kzb (fun t ht hW => kRd rfl ht) (fun _ h9 => by cases h9) dX8_isLane_6
theorem dX9_isSort_0 : decode cX9_isSort 0 = .ok (.iload_n 0, 1) := by decide +kernel
theorem dX9_isSort_1 : decode cX9_isSort 1 = .ok (.iconst 0, 1) := by decide +kernel
theorem dX9_isSort_2 : decode cX9_isSort 2 = .ok (.iconst 2, 1) := by decide +kernel
theorem dX9_isSort_3 : decode cX9_isSort 3 = .ok (.invokestatic 70, 3) := by decide +kernel
theorem dX9_isSort_6 : decode cX9_isSort 6 = .ok (.ireturn, 1) := by decide +kernel
set_option maxRecDepth 20000 in
theorem ggX9_isSort_X9_within : GoodIn wsX9_isSort wsX9_within := goodIn_4 _ (List.forall_mem_cons.mpr ⟨List.mem_cons_of_mem _ (List.mem_of_getElem? (i := 3) rfl), fun _ h9 => absurd h9 List.not_mem_nil⟩) (by decide +kernel)
set_option maxRecDepth 20000 in
theorem gX9_isSort_X9_within : GoodIn wsX9_isSort (va_wsS RX9 70 yX9_within wsX9_within) := goodIn_app (goodIn_4 _ (List.forall_mem_cons.mpr ⟨List.mem_cons_of_mem _ (List.mem_of_getElem? (i := 0) rfl), List.forall_mem_cons.mpr ⟨List.mem_cons_of_mem _ (List.mem_of_getElem? (i := 1) rfl), List.forall_mem_cons.mpr ⟨List.mem_cons_of_mem _ (List.mem_of_getElem? (i := 2) rfl), fun _ h9 => absurd h9 List.not_mem_nil⟩⟩⟩) (by decide +kernel)) ggX9_isSort_X9_within
theorem ax_X9_isSort_0 : ([] : List Nat).map (fun i => ([] : va_W)[i]?) = ([] : va_W).map some := rfl
set_option maxHeartbeats 4000000 in
set_option maxRecDepth 100000 in
theorem c_X9_isSort (l : Launch) (D : va_G) (sz : Nat) (k : Int) (q0 : rg k) : Met l yX9_isSort wsX9_isSort ({ frames := 1, cells := 0, slots := 0, locals := 22 }) (kPre [.int (zI k)] D [] [] sz) (QcRead (if 0 ≤ k ∧ k ≤ 2 then 1 else 0)) 0 0 (fun _ => False) := by
  refine Met.ofW (cc := cX9_isSort) (maxL := 1) (ret := (some .boolean)) (by decide) rfl ?_
  intro p e s m args below meth c s₁ B hml hv
  obtain ⟨rfl, hsz, hP, hK, hD0, hN⟩ := hv
  have hx := B.exec
  have hb := B.bytes
  have hr := B.returns
  have hts := atoms_spec (ws := wsX9_isSort) B.pre
  have hown : s.vm.findClass RX9 = some m.cls := findClass_of_methodNamed B.named
  have hlocks := B.notSynchronized
  subst hsz
  have hD := hD0
  have hP : va_P D vwCl [] s.heap := hP
  have hl := lv_entry ([.int (zI k)]) (n := 1) (Nat.le_of_ble_eq_true rfl)
  rw [lg_entry_eq]
  generalize (lg_sl ([.int (zI k)]) ++ List.replicate (1 - (lg_sl ([.int (zI k)])).length) Slot.unset).toArray = ls at hl ⊢
  have hl : lv_has ls 1 [(0, .int (zI k))] := hl
  refine lv_iload_n hx hb dX9_isSort_0 rfl (lv_at hl 0 rfl) ?_
  refine lv_iconst (v := zI 0) hx hb dX9_isSort_1 rfl ?_
  refine lv_iconst (v := zI 2) hx hb dX9_isSort_2 rfl ?_
  refine k_callR (va_runS (As := [.int (zI k), .int (zI 0), .int (zI 2)]) (rest := []) ⟨hx, hb, hml, hown, hts⟩ (c_X9_within l D s.heap.size (v := k) (a := 0) (b := 2) q0 (by omega) (by omega)) (va_cwS 3 hts gX9_isSort_X9_within rfl rfl rfl (by decide +kernel) ⟨Nat.le_of_ble_eq_true rfl, Nat.le_of_ble_eq_true rfl⟩) (kPreS hP (kD0 hD) hK hN [] [] ax_X9_isSort_0 rfl (by decide +kernel)) rfl rfl hl.1 rfl (lv_room (Nat.le_of_ble_eq_true rfl)) dX9_isSort_3 ⟨Nat.le_of_ble_eq_true rfl, Nat.le_of_ble_eq_true rfl⟩) ?_
  exact W.zret (v := (if 0 ≤ k ∧ k ≤ 2 then 1 else 0)) hx hb hr kzb (fun t ht hW => kRd rfl ht) (fun _ h9 => by cases h9) dX9_isSort_6
theorem dX8_isOfDay_0 : decode cX8_isOfDay 0 = .ok (.iload_n 0, 1) := by decide +kernel
theorem dX8_isOfDay_1 : decode cX8_isOfDay 1 = .ok (.iconst 0, 1) := by decide +kernel
theorem dX8_isOfDay_2 : decode cX8_isOfDay 2 = .ok (.iconst 4, 1) := by decide +kernel
theorem dX8_isOfDay_3 : decode cX8_isOfDay 3 = .ok (.invokestatic 128, 3) := by decide +kernel
theorem dX8_isOfDay_6 : decode cX8_isOfDay 6 = .ok (.ifCond .ne 14, 3) := by decide +kernel
theorem dX8_isOfDay_9 : decode cX8_isOfDay 9 = .ok (.iload_n 0, 1) := by decide +kernel
theorem dX8_isOfDay_10 : decode cX8_isOfDay 10 = .ok (.bipush 10, 2) := by decide +kernel
theorem dX8_isOfDay_12 : decode cX8_isOfDay 12 = .ok (.bipush 13, 2) := by decide +kernel
theorem dX8_isOfDay_14 : decode cX8_isOfDay 14 = .ok (.invokestatic 128, 3) := by decide +kernel
theorem dX8_isOfDay_17 : decode cX8_isOfDay 17 = .ok (.ifCond .eq 7, 3) := by decide +kernel
theorem dX8_isOfDay_20 : decode cX8_isOfDay 20 = .ok (.iconst 1, 1) := by decide +kernel
theorem dX8_isOfDay_21 : decode cX8_isOfDay 21 = .ok (.goto 4, 3) := by decide +kernel
theorem dX8_isOfDay_24 : decode cX8_isOfDay 24 = .ok (.iconst 0, 1) := by decide +kernel
theorem dX8_isOfDay_25 : decode cX8_isOfDay 25 = .ok (.ireturn, 1) := by decide +kernel
set_option maxRecDepth 20000 in
theorem ggX8_isOfDay_X8_isWithin : GoodIn wsX8_isOfDay wsX8_isWithin := goodIn_4 _ (List.forall_mem_cons.mpr ⟨List.mem_cons_of_mem _ (List.mem_of_getElem? (i := 3) rfl), fun _ h9 => absurd h9 List.not_mem_nil⟩) (by decide +kernel)
set_option maxRecDepth 20000 in
theorem gX8_isOfDay_X8_isWithin : GoodIn wsX8_isOfDay (va_wsS RX8 128 yX8_isWithin wsX8_isWithin) := goodIn_app (goodIn_4 _ (List.forall_mem_cons.mpr ⟨List.mem_cons_of_mem _ (List.mem_of_getElem? (i := 0) rfl), List.forall_mem_cons.mpr ⟨List.mem_cons_of_mem _ (List.mem_of_getElem? (i := 1) rfl), List.forall_mem_cons.mpr ⟨List.mem_cons_of_mem _ (List.mem_of_getElem? (i := 2) rfl), fun _ h9 => absurd h9 List.not_mem_nil⟩⟩⟩) (by decide +kernel)) ggX8_isOfDay_X8_isWithin
theorem ax_X8_isOfDay_0 : ([] : List Nat).map (fun i => ([] : va_W)[i]?) = ([] : va_W).map some := rfl
set_option maxHeartbeats 4000000 in
set_option maxRecDepth 100000 in
theorem c_X8_isOfDay (l : Launch) (D : va_G) (sz : Nat) (k : Int) (q0 : rg k) : Met l yX8_isOfDay wsX8_isOfDay ({ frames := 1, cells := 0, slots := 0, locals := 22 }) (kPre [.int (zI k)] D [] [] sz) (QcRead (if (0 ≤ k ∧ k ≤ 4) ∨ (10 ≤ k ∧ k ≤ 13) then 1 else 0)) 0 0 (fun _ => False) := by
  refine Met.ofW (cc := cX8_isOfDay) (maxL := 1) (ret := (some .boolean)) (by decide) rfl ?_
  intro p e s m args below meth c s₁ B hml hv
  obtain ⟨rfl, hsz, hP, hK, hD0, hN⟩ := hv
  have hx := B.exec
  have hb := B.bytes
  have hr := B.returns
  have hts := atoms_spec (ws := wsX8_isOfDay) B.pre
  have hown : s.vm.findClass RX8 = some m.cls := findClass_of_methodNamed B.named
  have hlocks := B.notSynchronized
  subst hsz
  have hD := hD0
  have hP : va_P D vwCl [] s.heap := hP
  have hl := lv_entry ([.int (zI k)]) (n := 1) (Nat.le_of_ble_eq_true rfl)
  rw [lg_entry_eq]
  generalize (lg_sl ([.int (zI k)]) ++ List.replicate (1 - (lg_sl ([.int (zI k)])).length) Slot.unset).toArray = ls at hl ⊢
  have hl : lv_has ls 1 [(0, .int (zI k))] := hl
  refine lv_iload_n hx hb dX8_isOfDay_0 rfl (lv_at hl 0 rfl) ?_
  refine lv_iconst (v := zI 0) hx hb dX8_isOfDay_1 rfl ?_
  refine lv_iconst (v := zI 4) hx hb dX8_isOfDay_2 rfl ?_
  refine k_callR (va_runS (As := [.int (zI k), .int (zI 0), .int (zI 4)]) (rest := []) ⟨hx, hb, hml, hown, hts⟩ (c_X8_isWithin l D s.heap.size (v := k) (a := 0) (b := 4) q0 (by omega) (by omega)) (va_cwS 3 hts gX8_isOfDay_X8_isWithin rfl rfl rfl (by decide +kernel) ⟨Nat.le_of_ble_eq_true rfl, Nat.le_of_ble_eq_true rfl⟩) (kPreS hP (kD0 hD) hK hN [] [] ax_X8_isOfDay_0 rfl (by decide +kernel)) rfl rfl hl.1 rfl (lv_room (Nat.le_of_ble_eq_true rfl)) dX8_isOfDay_3 ⟨Nat.le_of_ble_eq_true rfl, Nat.le_of_ble_eq_true rfl⟩) ?_
  refine lv_if_ne (tgt := 20) hx hb dX8_isOfDay_6 (by decide) (fun c_1 => ?_) (fun c_1 => ?_)
  · have c_1 : 0 ≤ k ∧ k ≤ 4 := b01t c_1
    refine lv_iconst (v := zI 1) hx hb dX8_isOfDay_20 rfl ?_
    refine lv_goto (tgt := 25) hx hb dX8_isOfDay_21 (by decide) ?_
    exact W.zret (v := (zI 1)) hx hb hr rfl (fun t ht hW => kRd (kb1 (by omega)) ht) (fun _ h9 => by cases h9) dX8_isOfDay_25
  · have c_1 : ¬ (0 ≤ k ∧ k ≤ 4) := b01f c_1
    refine lv_iload_n hx hb dX8_isOfDay_9 rfl (lv_at hl 0 rfl) ?_
    refine lv_bipush (v := zI 10) hx hb dX8_isOfDay_10 (by decide) ?_
    refine lv_bipush (v := zI 13) hx hb dX8_isOfDay_12 (by decide) ?_
    refine k_callR (va_runS (As := [.int (zI k), .int (zI 10), .int (zI 13)]) (rest := []) ⟨hx, hb, hml, hown, hts⟩ (c_X8_isWithin l D s.heap.size (v := k) (a := 10) (b := 13) q0 (by omega) (by omega)) (va_cwS 3 hts gX8_isOfDay_X8_isWithin rfl rfl rfl (by decide +kernel) ⟨Nat.le_of_ble_eq_true rfl, Nat.le_of_ble_eq_true rfl⟩) (kPreS hP (kD0 hD) hK hN [] [] ax_X8_isOfDay_0 rfl (by decide +kernel)) rfl rfl hl.1 rfl (lv_room (Nat.le_of_ble_eq_true rfl)) dX8_isOfDay_14 ⟨Nat.le_of_ble_eq_true rfl, Nat.le_of_ble_eq_true rfl⟩) ?_
    refine lv_if_eq (tgt := 24) hx hb dX8_isOfDay_17 (by decide) (fun c_2 => ?_) (fun c_2 => ?_)
    · have c_2 : ¬ (10 ≤ k ∧ k ≤ 13) := b01f c_2
      refine lv_iconst (v := zI 0) hx hb dX8_isOfDay_24 rfl ?_
      exact W.zret (v := (zI 0)) hx hb hr rfl (fun t ht hW => kRd (kb0 (by omega)) ht) (fun _ h9 => by cases h9) dX8_isOfDay_25
    · have c_2 : 10 ≤ k ∧ k ≤ 13 := b01t c_2
      refine lv_iconst (v := zI 1) hx hb dX8_isOfDay_20 rfl ?_
      refine lv_goto (tgt := 25) hx hb dX8_isOfDay_21 (by decide) ?_
      exact W.zret (v := (zI 1)) hx hb hr rfl (fun t ht hW => kRd (kb1 (by omega)) ht) (fun _ h9 => by cases h9) dX8_isOfDay_25
theorem dX8_isAct_0 : decode cX8_isAct 0 = .ok (.iload_n 1, 1) := by decide +kernel
theorem dX8_isAct_1 : decode cX8_isAct 1 = .ok (.tableswitch 50 20 22 #[27, 35, 43], 27) := by decide +kernel
theorem dX8_isAct_28 : decode cX8_isAct 28 = .ok (.iload_n 0, 1) := by decide +kernel
theorem dX8_isAct_29 : decode cX8_isAct 29 = .ok (.iconst 0, 1) := by decide +kernel
theorem dX8_isAct_30 : decode cX8_isAct 30 = .ok (.bipush 15, 2) := by decide +kernel
theorem dX8_isAct_32 : decode cX8_isAct 32 = .ok (.invokestatic 128, 3) := by decide +kernel
theorem dX8_isAct_35 : decode cX8_isAct 35 = .ok (.ireturn, 1) := by decide +kernel
theorem dX8_isAct_36 : decode cX8_isAct 36 = .ok (.iload_n 0, 1) := by decide +kernel
theorem dX8_isAct_37 : decode cX8_isAct 37 = .ok (.iconst 0, 1) := by decide +kernel
theorem dX8_isAct_38 : decode cX8_isAct 38 = .ok (.bipush 24, 2) := by decide +kernel
theorem dX8_isAct_40 : decode cX8_isAct 40 = .ok (.invokestatic 128, 3) := by decide +kernel
theorem dX8_isAct_43 : decode cX8_isAct 43 = .ok (.ireturn, 1) := by decide +kernel
theorem dX8_isAct_44 : decode cX8_isAct 44 = .ok (.iload_n 0, 1) := by decide +kernel
theorem dX8_isAct_45 : decode cX8_isAct 45 = .ok (.iconst 0, 1) := by decide +kernel
theorem dX8_isAct_46 : decode cX8_isAct 46 = .ok (.iconst 3, 1) := by decide +kernel
theorem dX8_isAct_47 : decode cX8_isAct 47 = .ok (.invokestatic 128, 3) := by decide +kernel
theorem dX8_isAct_50 : decode cX8_isAct 50 = .ok (.ireturn, 1) := by decide +kernel
theorem dX8_isAct_51 : decode cX8_isAct 51 = .ok (.iconst 0, 1) := by decide +kernel
theorem dX8_isAct_52 : decode cX8_isAct 52 = .ok (.ireturn, 1) := by decide +kernel
set_option maxRecDepth 20000 in
theorem ggX8_isAct_X8_isWithin : GoodIn wsX8_isAct wsX8_isWithin := goodIn_4 _ (List.forall_mem_cons.mpr ⟨List.mem_cons_of_mem _ (List.mem_of_getElem? (i := 3) rfl), fun _ h9 => absurd h9 List.not_mem_nil⟩) (by decide +kernel)
set_option maxRecDepth 20000 in
theorem gX8_isAct_X8_isWithin : GoodIn wsX8_isAct (va_wsS RX8 128 yX8_isWithin wsX8_isWithin) := goodIn_app (goodIn_4 _ (List.forall_mem_cons.mpr ⟨List.mem_cons_of_mem _ (List.mem_of_getElem? (i := 0) rfl), List.forall_mem_cons.mpr ⟨List.mem_cons_of_mem _ (List.mem_of_getElem? (i := 1) rfl), List.forall_mem_cons.mpr ⟨List.mem_cons_of_mem _ (List.mem_of_getElem? (i := 2) rfl), fun _ h9 => absurd h9 List.not_mem_nil⟩⟩⟩) (by decide +kernel)) ggX8_isAct_X8_isWithin
theorem ax_X8_isAct_0 : ([] : List Nat).map (fun i => ([] : va_W)[i]?) = ([] : va_W).map some := rfl
set_option maxHeartbeats 4000000 in
set_option maxRecDepth 100000 in
theorem c_X8_isAct (l : Launch) (D : va_G) (sz : Nat) (k : Int) (a : Int) (q0 : rg k) (q1 : rg a) : Met l yX8_isAct wsX8_isAct ({ frames := 1, cells := 0, slots := 0, locals := 22 }) (kPre [.int (zI k), .int (zI a)] D [] [] sz) (QcRead (if (a = 20 ∧ 0 ≤ k ∧ k ≤ 15) ∨ (a = 21 ∧ 0 ≤ k ∧ k ≤ 24) ∨ (a = 22 ∧ 0 ≤ k ∧ k ≤ 3) then 1 else 0)) 0 0 (fun _ => False) := by
  refine Met.ofW (cc := cX8_isAct) (maxL := 2) (ret := (some .boolean)) (by decide) rfl ?_
  intro p e s m args below meth c s₁ B hml hv
  obtain ⟨rfl, hsz, hP, hK, hD0, hN⟩ := hv
  have hx := B.exec
  have hb := B.bytes
  have hr := B.returns
  have hts := atoms_spec (ws := wsX8_isAct) B.pre
  have hown : s.vm.findClass RX8 = some m.cls := findClass_of_methodNamed B.named
  have hlocks := B.notSynchronized
  subst hsz
  have hD := hD0
  have hP : va_P D vwCl [] s.heap := hP
  have hl := lv_entry ([.int (zI k), .int (zI a)]) (n := 2) (Nat.le_of_ble_eq_true rfl)
  rw [lg_entry_eq]
  generalize (lg_sl ([.int (zI k), .int (zI a)]) ++ List.replicate (2 - (lg_sl ([.int (zI k), .int (zI a)])).length) Slot.unset).toArray = ls at hl ⊢
  have hl : lv_has ls 2 [(0, .int (zI k)), (1, .int (zI a))] := hl
  refine lv_iload_n hx hb dX8_isAct_0 rfl (lv_at hl 1 rfl) ?_
  rcases (show a = 20 ∨ a = 21 ∨ a = 22 ∨ (¬ a = 20 ∧ ¬ a = 21 ∧ ¬ a = 22) from by omega) with c_1 | c_1 | c_1 | c_1
  · refine kz_tabIn (tgt := 28) (off := 27) hx hb dX8_isAct_1 20 (by omega) (by decide) (by decide) (by decide) (by decide) (by decide) ?_
    refine lv_iload_n hx hb dX8_isAct_28 rfl (lv_at hl 0 rfl) ?_
    refine lv_iconst (v := zI 0) hx hb dX8_isAct_29 rfl ?_
    refine lv_bipush (v := zI 15) hx hb dX8_isAct_30 (by decide) ?_
    refine k_callR (va_runS (As := [.int (zI k), .int (zI 0), .int (zI 15)]) (rest := []) ⟨hx, hb, hml, hown, hts⟩ (c_X8_isWithin l D s.heap.size (v := k) (a := 0) (b := 15) q0 (by omega) (by omega)) (va_cwS 3 hts gX8_isAct_X8_isWithin rfl rfl rfl (by decide +kernel) ⟨Nat.le_of_ble_eq_true rfl, Nat.le_of_ble_eq_true rfl⟩) (kPreS hP (kD0 hD) hK hN [] [] ax_X8_isAct_0 rfl (by decide +kernel)) rfl rfl hl.1 rfl (lv_room (Nat.le_of_ble_eq_true rfl)) dX8_isAct_32 ⟨Nat.le_of_ble_eq_true rfl, Nat.le_of_ble_eq_true rfl⟩) ?_
    exact W.zret (v := (if 0 ≤ k ∧ k ≤ 15 then 1 else 0)) hx hb hr kzb (fun t ht hW => kRd (kbc (by constructor <;> (intro h9; omega))) ht) (fun _ h9 => by cases h9) dX8_isAct_35
  · refine kz_tabIn (tgt := 36) (off := 35) hx hb dX8_isAct_1 21 (by omega) (by decide) (by decide) (by decide) (by decide) (by decide) ?_
    refine lv_iload_n hx hb dX8_isAct_36 rfl (lv_at hl 0 rfl) ?_
    refine lv_iconst (v := zI 0) hx hb dX8_isAct_37 rfl ?_
    refine lv_bipush (v := zI 24) hx hb dX8_isAct_38 (by decide) ?_
    refine k_callR (va_runS (As := [.int (zI k), .int (zI 0), .int (zI 24)]) (rest := []) ⟨hx, hb, hml, hown, hts⟩ (c_X8_isWithin l D s.heap.size (v := k) (a := 0) (b := 24) q0 (by omega) (by omega)) (va_cwS 3 hts gX8_isAct_X8_isWithin rfl rfl rfl (by decide +kernel) ⟨Nat.le_of_ble_eq_true rfl, Nat.le_of_ble_eq_true rfl⟩) (kPreS hP (kD0 hD) hK hN [] [] ax_X8_isAct_0 rfl (by decide +kernel)) rfl rfl hl.1 rfl (lv_room (Nat.le_of_ble_eq_true rfl)) dX8_isAct_40 ⟨Nat.le_of_ble_eq_true rfl, Nat.le_of_ble_eq_true rfl⟩) ?_
    exact W.zret (v := (if 0 ≤ k ∧ k ≤ 24 then 1 else 0)) hx hb hr kzb (fun t ht hW => kRd (kbc (by constructor <;> (intro h9; omega))) ht) (fun _ h9 => by cases h9) dX8_isAct_43
  · refine kz_tabIn (tgt := 44) (off := 43) hx hb dX8_isAct_1 22 (by omega) (by decide) (by decide) (by decide) (by decide) (by decide) ?_
    refine lv_iload_n hx hb dX8_isAct_44 rfl (lv_at hl 0 rfl) ?_
    refine lv_iconst (v := zI 0) hx hb dX8_isAct_45 rfl ?_
    refine lv_iconst (v := zI 3) hx hb dX8_isAct_46 rfl ?_
    refine k_callR (va_runS (As := [.int (zI k), .int (zI 0), .int (zI 3)]) (rest := []) ⟨hx, hb, hml, hown, hts⟩ (c_X8_isWithin l D s.heap.size (v := k) (a := 0) (b := 3) q0 (by omega) (by omega)) (va_cwS 3 hts gX8_isAct_X8_isWithin rfl rfl rfl (by decide +kernel) ⟨Nat.le_of_ble_eq_true rfl, Nat.le_of_ble_eq_true rfl⟩) (kPreS hP (kD0 hD) hK hN [] [] ax_X8_isAct_0 rfl (by decide +kernel)) rfl rfl hl.1 rfl (lv_room (Nat.le_of_ble_eq_true rfl)) dX8_isAct_47 ⟨Nat.le_of_ble_eq_true rfl, Nat.le_of_ble_eq_true rfl⟩) ?_
    exact W.zret (v := (if 0 ≤ k ∧ k ≤ 3 then 1 else 0)) hx hb hr kzb (fun t ht hW => kRd (kbc (by constructor <;> (intro h9; omega))) ht) (fun _ h9 => by cases h9) dX8_isAct_50
  · refine kz_tabOut (tgt := 51) hx hb dX8_isAct_1 (by omega) (by omega) (by decide) ?_
    refine lv_iconst (v := zI 0) hx hb dX8_isAct_51 rfl ?_
    exact W.zret (v := (zI 0)) hx hb hr rfl (fun t ht hW => kRd (kb0 (by omega)) ht) (fun _ h9 => by cases h9) dX8_isAct_52
theorem dX9_isPair_0 : decode cX9_isPair 0 = .ok (.iload_n 1, 1) := by decide +kernel
theorem dX9_isPair_1 : decode cX9_isPair 1 = .ok (.bipush 20, 2) := by decide +kernel
theorem dX9_isPair_3 : decode cX9_isPair 3 = .ok (.if_icmp .ne 13, 3) := by decide +kernel
theorem dX9_isPair_6 : decode cX9_isPair 6 = .ok (.iload_n 0, 1) := by decide +kernel
theorem dX9_isPair_7 : decode cX9_isPair 7 = .ok (.iconst 0, 1) := by decide +kernel
theorem dX9_isPair_8 : decode cX9_isPair 8 = .ok (.bipush 15, 2) := by decide +kernel
theorem dX9_isPair_10 : decode cX9_isPair 10 = .ok (.invokestatic 70, 3) := by decide +kernel
theorem dX9_isPair_13 : decode cX9_isPair 13 = .ok (.ifCond .ne 34, 3) := by decide +kernel
theorem dX9_isPair_16 : decode cX9_isPair 16 = .ok (.iload_n 1, 1) := by decide +kernel
theorem dX9_isPair_17 : decode cX9_isPair 17 = .ok (.bipush 21, 2) := by decide +kernel
theorem dX9_isPair_19 : decode cX9_isPair 19 = .ok (.if_icmp .ne 13, 3) := by decide +kernel
theorem dX9_isPair_22 : decode cX9_isPair 22 = .ok (.iload_n 0, 1) := by decide +kernel
theorem dX9_isPair_23 : decode cX9_isPair 23 = .ok (.iconst 0, 1) := by decide +kernel
theorem dX9_isPair_24 : decode cX9_isPair 24 = .ok (.bipush 24, 2) := by decide +kernel
theorem dX9_isPair_26 : decode cX9_isPair 26 = .ok (.invokestatic 70, 3) := by decide +kernel
theorem dX9_isPair_29 : decode cX9_isPair 29 = .ok (.ifCond .ne 18, 3) := by decide +kernel
theorem dX9_isPair_32 : decode cX9_isPair 32 = .ok (.iload_n 1, 1) := by decide +kernel
theorem dX9_isPair_33 : decode cX9_isPair 33 = .ok (.bipush 22, 2) := by decide +kernel
theorem dX9_isPair_35 : decode cX9_isPair 35 = .ok (.if_icmp .ne 16, 3) := by decide +kernel
theorem dX9_isPair_38 : decode cX9_isPair 38 = .ok (.iload_n 0, 1) := by decide +kernel
theorem dX9_isPair_39 : decode cX9_isPair 39 = .ok (.iconst 0, 1) := by decide +kernel
theorem dX9_isPair_40 : decode cX9_isPair 40 = .ok (.iconst 3, 1) := by decide +kernel
theorem dX9_isPair_41 : decode cX9_isPair 41 = .ok (.invokestatic 70, 3) := by decide +kernel
theorem dX9_isPair_44 : decode cX9_isPair 44 = .ok (.ifCond .eq 7, 3) := by decide +kernel
theorem dX9_isPair_47 : decode cX9_isPair 47 = .ok (.iconst 1, 1) := by decide +kernel
theorem dX9_isPair_48 : decode cX9_isPair 48 = .ok (.goto 4, 3) := by decide +kernel
theorem dX9_isPair_51 : decode cX9_isPair 51 = .ok (.iconst 0, 1) := by decide +kernel
theorem dX9_isPair_52 : decode cX9_isPair 52 = .ok (.ireturn, 1) := by decide +kernel
set_option maxRecDepth 20000 in
theorem ggX9_isPair_X9_within : GoodIn wsX9_isPair wsX9_within := goodIn_4 _ (List.forall_mem_cons.mpr ⟨List.mem_cons_of_mem _ (List.mem_of_getElem? (i := 3) rfl), fun _ h9 => absurd h9 List.not_mem_nil⟩) (by decide +kernel)
set_option maxRecDepth 20000 in
theorem gX9_isPair_X9_within : GoodIn wsX9_isPair (va_wsS RX9 70 yX9_within wsX9_within) := goodIn_app (goodIn_4 _ (List.forall_mem_cons.mpr ⟨List.mem_cons_of_mem _ (List.mem_of_getElem? (i := 0) rfl), List.forall_mem_cons.mpr ⟨List.mem_cons_of_mem _ (List.mem_of_getElem? (i := 1) rfl), List.forall_mem_cons.mpr ⟨List.mem_cons_of_mem _ (List.mem_of_getElem? (i := 2) rfl), fun _ h9 => absurd h9 List.not_mem_nil⟩⟩⟩) (by decide +kernel)) ggX9_isPair_X9_within
theorem ax_X9_isPair_0 : ([] : List Nat).map (fun i => ([] : va_W)[i]?) = ([] : va_W).map some := rfl
set_option maxHeartbeats 4000000 in
set_option maxRecDepth 100000 in
theorem c_X9_isPair (l : Launch) (D : va_G) (sz : Nat) (k : Int) (a : Int) (q0 : rg k) (q1 : rg a) : Met l yX9_isPair wsX9_isPair ({ frames := 1, cells := 0, slots := 0, locals := 22 }) (kPre [.int (zI k), .int (zI a)] D [] [] sz) (QcRead (if (a = 20 ∧ 0 ≤ k ∧ k ≤ 15) ∨ (a = 21 ∧ 0 ≤ k ∧ k ≤ 24) ∨ (a = 22 ∧ 0 ≤ k ∧ k ≤ 3) then 1 else 0)) 0 0 (fun _ => False) := by
  refine Met.ofW (cc := cX9_isPair) (maxL := 2) (ret := (some .boolean)) (by decide) rfl ?_
  intro p e s m args below meth c s₁ B hml hv
  obtain ⟨rfl, hsz, hP, hK, hD0, hN⟩ := hv
  have hx := B.exec
  have hb := B.bytes
  have hr := B.returns
  have hts := atoms_spec (ws := wsX9_isPair) B.pre
  have hown : s.vm.findClass RX9 = some m.cls := findClass_of_methodNamed B.named
  have hlocks := B.notSynchronized
  subst hsz
  have hD := hD0
  have hP : va_P D vwCl [] s.heap := hP
  have hl := lv_entry ([.int (zI k), .int (zI a)]) (n := 2) (Nat.le_of_ble_eq_true rfl)
  rw [lg_entry_eq]
  generalize (lg_sl ([.int (zI k), .int (zI a)]) ++ List.replicate (2 - (lg_sl ([.int (zI k), .int (zI a)])).length) Slot.unset).toArray = ls at hl ⊢
  have hl : lv_has ls 2 [(0, .int (zI k)), (1, .int (zI a))] := hl
  refine lv_iload_n hx hb dX9_isPair_0 rfl (lv_at hl 1 rfl) ?_
  refine lv_bipush (v := zI 20) hx hb dX9_isPair_1 (by decide) ?_
  refine kz_icmp_ne (tgt := 16) hx hb dX9_isPair_3 (by decide) (by omega) (by omega) (fun c_1 => ?_) (fun c_1 => ?_)
  · refine lv_iload_n hx hb dX9_isPair_16 rfl (lv_at hl 1 rfl) ?_
    refine lv_bipush (v := zI 21) hx hb dX9_isPair_17 (by decide) ?_
    refine kz_icmp_ne (tgt := 32) hx hb dX9_isPair_19 (by decide) (by omega) (by omega) (fun c_2 => ?_) (fun c_2 => ?_)
    · refine lv_iload_n hx hb dX9_isPair_32 rfl (lv_at hl 1 rfl) ?_
      refine lv_bipush (v := zI 22) hx hb dX9_isPair_33 (by decide) ?_
      refine kz_icmp_ne (tgt := 51) hx hb dX9_isPair_35 (by decide) (by omega) (by omega) (fun c_3 => ?_) (fun c_3 => ?_)
      · refine lv_iconst (v := zI 0) hx hb dX9_isPair_51 rfl ?_
        exact W.zret (v := (zI 0)) hx hb hr rfl (fun t ht hW => kRd (kb0 (by omega)) ht) (fun _ h9 => by cases h9) dX9_isPair_52
      · refine lv_iload_n hx hb dX9_isPair_38 rfl (lv_at hl 0 rfl) ?_
        refine lv_iconst (v := zI 0) hx hb dX9_isPair_39 rfl ?_
        refine lv_iconst (v := zI 3) hx hb dX9_isPair_40 rfl ?_
        refine k_callR (va_runS (As := [.int (zI k), .int (zI 0), .int (zI 3)]) (rest := []) ⟨hx, hb, hml, hown, hts⟩ (c_X9_within l D s.heap.size (v := k) (a := 0) (b := 3) q0 (by omega) (by omega)) (va_cwS 3 hts gX9_isPair_X9_within rfl rfl rfl (by decide +kernel) ⟨Nat.le_of_ble_eq_true rfl, Nat.le_of_ble_eq_true rfl⟩) (kPreS hP (kD0 hD) hK hN [] [] ax_X9_isPair_0 rfl (by decide +kernel)) rfl rfl hl.1 rfl (lv_room (Nat.le_of_ble_eq_true rfl)) dX9_isPair_41 ⟨Nat.le_of_ble_eq_true rfl, Nat.le_of_ble_eq_true rfl⟩) ?_
        refine lv_if_eq (tgt := 51) hx hb dX9_isPair_44 (by decide) (fun c_4 => ?_) (fun c_4 => ?_)
        · have c_4 : ¬ (0 ≤ k ∧ k ≤ 3) := b01f c_4
          refine lv_iconst (v := zI 0) hx hb dX9_isPair_51 rfl ?_
          exact W.zret (v := (zI 0)) hx hb hr rfl (fun t ht hW => kRd (kb0 (by omega)) ht) (fun _ h9 => by cases h9) dX9_isPair_52
        · have c_4 : 0 ≤ k ∧ k ≤ 3 := b01t c_4
          refine lv_iconst (v := zI 1) hx hb dX9_isPair_47 rfl ?_
          refine lv_goto (tgt := 52) hx hb dX9_isPair_48 (by decide) ?_
          exact W.zret (v := (zI 1)) hx hb hr rfl (fun t ht hW => kRd (kb1 (by omega)) ht) (fun _ h9 => by cases h9) dX9_isPair_52
    · refine lv_iload_n hx hb dX9_isPair_22 rfl (lv_at hl 0 rfl) ?_
      refine lv_iconst (v := zI 0) hx hb dX9_isPair_23 rfl ?_
      refine lv_bipush (v := zI 24) hx hb dX9_isPair_24 (by decide) ?_
      refine k_callR (va_runS (As := [.int (zI k), .int (zI 0), .int (zI 24)]) (rest := []) ⟨hx, hb, hml, hown, hts⟩ (c_X9_within l D s.heap.size (v := k) (a := 0) (b := 24) q0 (by omega) (by omega)) (va_cwS 3 hts gX9_isPair_X9_within rfl rfl rfl (by decide +kernel) ⟨Nat.le_of_ble_eq_true rfl, Nat.le_of_ble_eq_true rfl⟩) (kPreS hP (kD0 hD) hK hN [] [] ax_X9_isPair_0 rfl (by decide +kernel)) rfl rfl hl.1 rfl (lv_room (Nat.le_of_ble_eq_true rfl)) dX9_isPair_26 ⟨Nat.le_of_ble_eq_true rfl, Nat.le_of_ble_eq_true rfl⟩) ?_
      refine lv_if_ne (tgt := 47) hx hb dX9_isPair_29 (by decide) (fun c_5 => ?_) (fun c_5 => ?_)
      · have c_5 : 0 ≤ k ∧ k ≤ 24 := b01t c_5
        refine lv_iconst (v := zI 1) hx hb dX9_isPair_47 rfl ?_
        refine lv_goto (tgt := 52) hx hb dX9_isPair_48 (by decide) ?_
        exact W.zret (v := (zI 1)) hx hb hr rfl (fun t ht hW => kRd (kb1 (by omega)) ht) (fun _ h9 => by cases h9) dX9_isPair_52
      · have c_5 : ¬ (0 ≤ k ∧ k ≤ 24) := b01f c_5
        refine lv_iload_n hx hb dX9_isPair_32 rfl (lv_at hl 1 rfl) ?_
        refine lv_bipush (v := zI 22) hx hb dX9_isPair_33 (by decide) ?_
        refine kz_icmp_ne (tgt := 51) hx hb dX9_isPair_35 (by decide) (by omega) (by omega) (fun c_6 => ?_) (fun c_6 => ?_)
        · refine lv_iconst (v := zI 0) hx hb dX9_isPair_51 rfl ?_
          exact W.zret (v := (zI 0)) hx hb hr rfl (fun t ht hW => kRd (kb0 (by omega)) ht) (fun _ h9 => by cases h9) dX9_isPair_52
        · refine lv_iload_n hx hb dX9_isPair_38 rfl (lv_at hl 0 rfl) ?_
          refine lv_iconst (v := zI 0) hx hb dX9_isPair_39 rfl ?_
          refine lv_iconst (v := zI 3) hx hb dX9_isPair_40 rfl ?_
          refine k_callR (va_runS (As := [.int (zI k), .int (zI 0), .int (zI 3)]) (rest := []) ⟨hx, hb, hml, hown, hts⟩ (c_X9_within l D s.heap.size (v := k) (a := 0) (b := 3) q0 (by omega) (by omega)) (va_cwS 3 hts gX9_isPair_X9_within rfl rfl rfl (by decide +kernel) ⟨Nat.le_of_ble_eq_true rfl, Nat.le_of_ble_eq_true rfl⟩) (kPreS hP (kD0 hD) hK hN [] [] ax_X9_isPair_0 rfl (by decide +kernel)) rfl rfl hl.1 rfl (lv_room (Nat.le_of_ble_eq_true rfl)) dX9_isPair_41 ⟨Nat.le_of_ble_eq_true rfl, Nat.le_of_ble_eq_true rfl⟩) ?_
          refine lv_if_eq (tgt := 51) hx hb dX9_isPair_44 (by decide) (fun c_7 => ?_) (fun c_7 => ?_)
          · have c_7 : ¬ (0 ≤ k ∧ k ≤ 3) := b01f c_7
            refine lv_iconst (v := zI 0) hx hb dX9_isPair_51 rfl ?_
            exact W.zret (v := (zI 0)) hx hb hr rfl (fun t ht hW => kRd (kb0 (by omega)) ht) (fun _ h9 => by cases h9) dX9_isPair_52
          · have c_7 : 0 ≤ k ∧ k ≤ 3 := b01t c_7
            refine lv_iconst (v := zI 1) hx hb dX9_isPair_47 rfl ?_
            refine lv_goto (tgt := 52) hx hb dX9_isPair_48 (by decide) ?_
            exact W.zret (v := (zI 1)) hx hb hr rfl (fun t ht hW => kRd (kb1 (by omega)) ht) (fun _ h9 => by cases h9) dX9_isPair_52
  · refine lv_iload_n hx hb dX9_isPair_6 rfl (lv_at hl 0 rfl) ?_
    refine lv_iconst (v := zI 0) hx hb dX9_isPair_7 rfl ?_
    refine lv_bipush (v := zI 15) hx hb dX9_isPair_8 (by decide) ?_
    refine k_callR (va_runS (As := [.int (zI k), .int (zI 0), .int (zI 15)]) (rest := []) ⟨hx, hb, hml, hown, hts⟩ (c_X9_within l D s.heap.size (v := k) (a := 0) (b := 15) q0 (by omega) (by omega)) (va_cwS 3 hts gX9_isPair_X9_within rfl rfl rfl (by decide +kernel) ⟨Nat.le_of_ble_eq_true rfl, Nat.le_of_ble_eq_true rfl⟩) (kPreS hP (kD0 hD) hK hN [] [] ax_X9_isPair_0 rfl (by decide +kernel)) rfl rfl hl.1 rfl (lv_room (Nat.le_of_ble_eq_true rfl)) dX9_isPair_10 ⟨Nat.le_of_ble_eq_true rfl, Nat.le_of_ble_eq_true rfl⟩) ?_
    refine lv_if_ne (tgt := 47) hx hb dX9_isPair_13 (by decide) (fun c_8 => ?_) (fun c_8 => ?_)
    · have c_8 : 0 ≤ k ∧ k ≤ 15 := b01t c_8
      refine lv_iconst (v := zI 1) hx hb dX9_isPair_47 rfl ?_
      refine lv_goto (tgt := 52) hx hb dX9_isPair_48 (by decide) ?_
      exact W.zret (v := (zI 1)) hx hb hr rfl (fun t ht hW => kRd (kb1 (by omega)) ht) (fun _ h9 => by cases h9) dX9_isPair_52
    · have c_8 : ¬ (0 ≤ k ∧ k ≤ 15) := b01f c_8
      refine lv_iload_n hx hb dX9_isPair_16 rfl (lv_at hl 1 rfl) ?_
      refine lv_bipush (v := zI 21) hx hb dX9_isPair_17 (by decide) ?_
      refine kz_icmp_ne (tgt := 32) hx hb dX9_isPair_19 (by decide) (by omega) (by omega) (fun c_9 => ?_) (fun c_9 => ?_)
      · refine lv_iload_n hx hb dX9_isPair_32 rfl (lv_at hl 1 rfl) ?_
        refine lv_bipush (v := zI 22) hx hb dX9_isPair_33 (by decide) ?_
        refine kz_icmp_ne (tgt := 51) hx hb dX9_isPair_35 (by decide) (by omega) (by omega) (fun c_10 => ?_) (fun c_10 => ?_)
        · refine lv_iconst (v := zI 0) hx hb dX9_isPair_51 rfl ?_
          exact W.zret (v := (zI 0)) hx hb hr rfl (fun t ht hW => kRd (kb0 (by omega)) ht) (fun _ h9 => by cases h9) dX9_isPair_52
        · refine lv_iload_n hx hb dX9_isPair_38 rfl (lv_at hl 0 rfl) ?_
          refine lv_iconst (v := zI 0) hx hb dX9_isPair_39 rfl ?_
          refine lv_iconst (v := zI 3) hx hb dX9_isPair_40 rfl ?_
          refine k_callR (va_runS (As := [.int (zI k), .int (zI 0), .int (zI 3)]) (rest := []) ⟨hx, hb, hml, hown, hts⟩ (c_X9_within l D s.heap.size (v := k) (a := 0) (b := 3) q0 (by omega) (by omega)) (va_cwS 3 hts gX9_isPair_X9_within rfl rfl rfl (by decide +kernel) ⟨Nat.le_of_ble_eq_true rfl, Nat.le_of_ble_eq_true rfl⟩) (kPreS hP (kD0 hD) hK hN [] [] ax_X9_isPair_0 rfl (by decide +kernel)) rfl rfl hl.1 rfl (lv_room (Nat.le_of_ble_eq_true rfl)) dX9_isPair_41 ⟨Nat.le_of_ble_eq_true rfl, Nat.le_of_ble_eq_true rfl⟩) ?_
          refine lv_if_eq (tgt := 51) hx hb dX9_isPair_44 (by decide) (fun c_11 => ?_) (fun c_11 => ?_)
          · have c_11 : ¬ (0 ≤ k ∧ k ≤ 3) := b01f c_11
            refine lv_iconst (v := zI 0) hx hb dX9_isPair_51 rfl ?_
            exact W.zret (v := (zI 0)) hx hb hr rfl (fun t ht hW => kRd (kb0 (by omega)) ht) (fun _ h9 => by cases h9) dX9_isPair_52
          · have c_11 : 0 ≤ k ∧ k ≤ 3 := b01t c_11
            refine lv_iconst (v := zI 1) hx hb dX9_isPair_47 rfl ?_
            refine lv_goto (tgt := 52) hx hb dX9_isPair_48 (by decide) ?_
            exact W.zret (v := (zI 1)) hx hb hr rfl (fun t ht hW => kRd (kb1 (by omega)) ht) (fun _ h9 => by cases h9) dX9_isPair_52
      · refine lv_iload_n hx hb dX9_isPair_22 rfl (lv_at hl 0 rfl) ?_
        refine lv_iconst (v := zI 0) hx hb dX9_isPair_23 rfl ?_
        refine lv_bipush (v := zI 24) hx hb dX9_isPair_24 (by decide) ?_
        refine k_callR (va_runS (As := [.int (zI k), .int (zI 0), .int (zI 24)]) (rest := []) ⟨hx, hb, hml, hown, hts⟩ (c_X9_within l D s.heap.size (v := k) (a := 0) (b := 24) q0 (by omega) (by omega)) (va_cwS 3 hts gX9_isPair_X9_within rfl rfl rfl (by decide +kernel) ⟨Nat.le_of_ble_eq_true rfl, Nat.le_of_ble_eq_true rfl⟩) (kPreS hP (kD0 hD) hK hN [] [] ax_X9_isPair_0 rfl (by decide +kernel)) rfl rfl hl.1 rfl (lv_room (Nat.le_of_ble_eq_true rfl)) dX9_isPair_26 ⟨Nat.le_of_ble_eq_true rfl, Nat.le_of_ble_eq_true rfl⟩) ?_
        refine lv_if_ne (tgt := 47) hx hb dX9_isPair_29 (by decide) (fun c_12 => ?_) (fun c_12 => ?_)
        · have c_12 : 0 ≤ k ∧ k ≤ 24 := b01t c_12
          refine lv_iconst (v := zI 1) hx hb dX9_isPair_47 rfl ?_
          refine lv_goto (tgt := 52) hx hb dX9_isPair_48 (by decide) ?_
          exact W.zret (v := (zI 1)) hx hb hr rfl (fun t ht hW => kRd (kb1 (by omega)) ht) (fun _ h9 => by cases h9) dX9_isPair_52
        · have c_12 : ¬ (0 ≤ k ∧ k ≤ 24) := b01f c_12
          refine lv_iload_n hx hb dX9_isPair_32 rfl (lv_at hl 1 rfl) ?_
          refine lv_bipush (v := zI 22) hx hb dX9_isPair_33 (by decide) ?_
          refine kz_icmp_ne (tgt := 51) hx hb dX9_isPair_35 (by decide) (by omega) (by omega) (fun c_13 => ?_) (fun c_13 => ?_)
          · refine lv_iconst (v := zI 0) hx hb dX9_isPair_51 rfl ?_
            exact W.zret (v := (zI 0)) hx hb hr rfl (fun t ht hW => kRd (kb0 (by omega)) ht) (fun _ h9 => by cases h9) dX9_isPair_52
          · refine lv_iload_n hx hb dX9_isPair_38 rfl (lv_at hl 0 rfl) ?_
            refine lv_iconst (v := zI 0) hx hb dX9_isPair_39 rfl ?_
            refine lv_iconst (v := zI 3) hx hb dX9_isPair_40 rfl ?_
            refine k_callR (va_runS (As := [.int (zI k), .int (zI 0), .int (zI 3)]) (rest := []) ⟨hx, hb, hml, hown, hts⟩ (c_X9_within l D s.heap.size (v := k) (a := 0) (b := 3) q0 (by omega) (by omega)) (va_cwS 3 hts gX9_isPair_X9_within rfl rfl rfl (by decide +kernel) ⟨Nat.le_of_ble_eq_true rfl, Nat.le_of_ble_eq_true rfl⟩) (kPreS hP (kD0 hD) hK hN [] [] ax_X9_isPair_0 rfl (by decide +kernel)) rfl rfl hl.1 rfl (lv_room (Nat.le_of_ble_eq_true rfl)) dX9_isPair_41 ⟨Nat.le_of_ble_eq_true rfl, Nat.le_of_ble_eq_true rfl⟩) ?_
            refine lv_if_eq (tgt := 51) hx hb dX9_isPair_44 (by decide) (fun c_14 => ?_) (fun c_14 => ?_)
            · have c_14 : ¬ (0 ≤ k ∧ k ≤ 3) := b01f c_14
              refine lv_iconst (v := zI 0) hx hb dX9_isPair_51 rfl ?_
              exact W.zret (v := (zI 0)) hx hb hr rfl (fun t ht hW => kRd (kb0 (by omega)) ht) (fun _ h9 => by cases h9) dX9_isPair_52
            · have c_14 : 0 ≤ k ∧ k ≤ 3 := b01t c_14
              refine lv_iconst (v := zI 1) hx hb dX9_isPair_47 rfl ?_
              refine lv_goto (tgt := 52) hx hb dX9_isPair_48 (by decide) ?_
              exact W.zret (v := (zI 1)) hx hb hr rfl (fun t ht hW => kRd (kb1 (by omega)) ht) (fun _ h9 => by cases h9) dX9_isPair_52
/-! rows of FONTS: each of the first four is one -/
def kPr (f : Nat → Int32) : Prop := ∀ i : Nat, i < 4 → 0 ≤ (f i).toInt ∧ (f i).toInt ≤ 3
theorem kPr_at {f : Nat → Int32} (h : kPr f) {i : Nat} {z : Int} (hi : i < 4) (hz : rg z) (e : f i = zI z) : 0 ≤ z ∧ z ≤ 3 := by
  have := h i hi
  rw [e, zI_toInt hz] at this
  exact this
theorem kPr_upd {f : Nat → Int32} (h : kPr f) {k : Nat} {v : Int} (hk : k < 4) (hv : 0 ≤ v ∧ v ≤ 3) : kPr (upd f k (zI v)) := by
  intro i hi
  by_cases e : i = k
  · subst e
    rw [pk_us, zI_toInt (by omega)]
    exact hv
  · rw [pk_un e]
    exact h i hi
def kStep (k b : Int) : Int := if k = 2 then 2 * b else if k = 1 then b + 1 else b
theorem dX8_stepOf_0 : decode cX8_stepOf 0 = .ok (.iload_n 0, 1) := by decide +kernel
theorem dX8_stepOf_1 : decode cX8_stepOf 1 = .ok (.lookupswitch 35 #[(1, 31), (2, 27)], 27) := by decide +kernel
theorem dX8_stepOf_28 : decode cX8_stepOf 28 = .ok (.iconst 2, 1) := by decide +kernel
theorem dX8_stepOf_29 : decode cX8_stepOf 29 = .ok (.iload_n 1, 1) := by decide +kernel
theorem dX8_stepOf_30 : decode cX8_stepOf 30 = .ok (.imul, 1) := by decide +kernel
theorem dX8_stepOf_31 : decode cX8_stepOf 31 = .ok (.ireturn, 1) := by decide +kernel
theorem dX8_stepOf_32 : decode cX8_stepOf 32 = .ok (.iload_n 1, 1) := by decide +kernel
theorem dX8_stepOf_33 : decode cX8_stepOf 33 = .ok (.iconst 1, 1) := by decide +kernel
theorem dX8_stepOf_34 : decode cX8_stepOf 34 = .ok (.iadd, 1) := by decide +kernel
theorem dX8_stepOf_35 : decode cX8_stepOf 35 = .ok (.ireturn, 1) := by decide +kernel
theorem dX8_stepOf_36 : decode cX8_stepOf 36 = .ok (.iload_n 1, 1) := by decide +kernel
theorem dX8_stepOf_37 : decode cX8_stepOf 37 = .ok (.ireturn, 1) := by decide +kernel
set_option maxHeartbeats 4000000 in
set_option maxRecDepth 100000 in
theorem c_X8_stepOf (l : Launch) (D : va_G) (sz : Nat) (k : Int) (b : Int) (q0 : rg k) (q1 : rg b) : Met l yX8_stepOf wsX8_stepOf ({ frames := 0, cells := 0, slots := 0, locals := 0 }) (kPre [.int (zI k), .int (zI b)] D [] [] sz) (QcP (fun rz => True)) 0 0 (fun _ => False) := by
  refine Met.ofW (cc := cX8_stepOf) (maxL := 2) (ret := (some .int)) (by decide) rfl ?_
  intro p e s m args below meth c s₁ B hml hv
  obtain ⟨rfl, hsz, hP, hK, hD0, hN⟩ := hv
  have hx := B.exec
  have hb := B.bytes
  have hr := B.returns
  have hts := atoms_spec (ws := wsX8_stepOf) B.pre
  have hown : s.vm.findClass RX8 = some m.cls := findClass_of_methodNamed B.named
  have hlocks := B.notSynchronized
  subst hsz
  have hD := hD0
  have hP : va_P D vwCl [] s.heap := hP
  have hl := lv_entry ([.int (zI k), .int (zI b)]) (n := 2) (Nat.le_of_ble_eq_true rfl)
  rw [lg_entry_eq]
  generalize (lg_sl ([.int (zI k), .int (zI b)]) ++ List.replicate (2 - (lg_sl ([.int (zI k), .int (zI b)])).length) Slot.unset).toArray = ls at hl ⊢
  have hl : lv_has ls 2 [(0, .int (zI k)), (1, .int (zI b))] := hl
  refine lv_iload_n hx hb dX8_stepOf_0 rfl (lv_at hl 0 rfl) ?_
  rcases (show k = 1 ∨ k = 2 ∨ (¬ k = 1 ∧ ¬ k = 2) from by omega) with c_1 | c_1 | c_1
  · refine kz_look (tgt := 32) (off := 31) hx hb dX8_stepOf_1 (by decide) (by omega) (by show Op.lookupswitch.offset [(1, 31), (2, 27)] 35 k = 31; rw [Op.lookupswitch.offset_cons, Op.lookupswitch.offset_cons, Op.lookupswitch.offset_nil]; (repeat' split) <;> omega) (by decide) ?_
    refine lv_iload_n hx hb dX8_stepOf_32 rfl (lv_at hl 1 rfl) ?_
    refine lv_iconst (v := zI 1) hx hb dX8_stepOf_33 rfl ?_
    refine kz_iadd hx hb dX8_stepOf_34 ?_
    refine kz_any (fun z_2 rz_2 ez_2 => ?_)
    exact W.iret (v := (zI z_2)) hx hb hr (fun t ht hW => QcP_of (by omega) trivial ht) (fun _ h9 => by cases h9) dX8_stepOf_35
  · refine kz_look (tgt := 28) (off := 27) hx hb dX8_stepOf_1 (by decide) (by omega) (by show Op.lookupswitch.offset [(1, 31), (2, 27)] 35 k = 27; rw [Op.lookupswitch.offset_cons, Op.lookupswitch.offset_cons, Op.lookupswitch.offset_nil]; (repeat' split) <;> omega) (by decide) ?_
    refine lv_iconst (v := zI 2) hx hb dX8_stepOf_28 rfl ?_
    refine lv_iload_n hx hb dX8_stepOf_29 rfl (lv_at hl 1 rfl) ?_
    refine kz_imul hx hb dX8_stepOf_30 ?_
    refine kz_any (fun z_3 rz_3 ez_3 => ?_)
    exact W.iret (v := (zI z_3)) hx hb hr (fun t ht hW => QcP_of (by omega) trivial ht) (fun _ h9 => by cases h9) dX8_stepOf_31
  · refine kz_look (tgt := 36) (off := 35) hx hb dX8_stepOf_1 (by decide) (by omega) (by show Op.lookupswitch.offset [(1, 31), (2, 27)] 35 k = 35; rw [Op.lookupswitch.offset_cons, Op.lookupswitch.offset_cons, Op.lookupswitch.offset_nil]; (repeat' split) <;> omega) (by decide) ?_
    refine lv_iload_n hx hb dX8_stepOf_36 rfl (lv_at hl 1 rfl) ?_
    refine kz_any (fun z_4 rz_4 ez_4 => ?_)
    exact W.iret (v := (zI z_4)) hx hb hr (fun t ht hW => QcP_of (by omega) trivial ht) (fun _ h9 => by cases h9) dX8_stepOf_37
theorem dX0_isFont_0 : decode cX0_isFont 0 = .ok (.iload_n 1, 1) := by decide +kernel
theorem dX0_isFont_1 : decode cX0_isFont 1 = .ok (.iconst 0, 1) := by decide +kernel
theorem dX0_isFont_2 : decode cX0_isFont 2 = .ok (.aload_n 0, 1) := by decide +kernel
theorem dX0_isFont_3 : decode cX0_isFont 3 = .ok (.getfield 21, 3) := by decide +kernel
theorem dX0_isFont_6 : decode cX0_isFont 6 = .ok (.iconst 1, 1) := by decide +kernel
theorem dX0_isFont_7 : decode cX0_isFont 7 = .ok (.isub, 1) := by decide +kernel
theorem dX0_isFont_8 : decode cX0_isFont 8 = .ok (.invokestatic 25, 3) := by decide +kernel
theorem dX0_isFont_11 : decode cX0_isFont 11 = .ok (.ireturn, 1) := by decide +kernel
set_option maxRecDepth 20000 in
theorem ggX0_isFont_X8_isWithin : GoodIn wsX0_isFont wsX8_isWithin := goodIn_4 _ (List.forall_mem_cons.mpr ⟨List.mem_cons_of_mem _ (List.mem_append_left _ (List.mem_of_getElem? (i := 3) rfl)), fun _ h9 => absurd h9 List.not_mem_nil⟩) (by decide +kernel)
set_option maxRecDepth 20000 in
theorem gX0_isFont_X8_isWithin_n25 : GoodIn wsX0_isFont (wsX8_isWithin) := ggX0_isFont_X8_isWithin
set_option maxRecDepth 20000 in
theorem mw_X0_isFont_0 : (.fieldLink RX0 21 "FontRuns$FontRow" "count" "I" : Cond) ∈ wsX0_isFont := List.mem_cons_of_mem _ (List.mem_append_left _ (List.mem_of_getElem? (i := 0) rfl))
set_option maxRecDepth 20000 in
theorem mw_X0_isFont_1 : (.initialized RX8 : Cond) ∈ wsX0_isFont := List.mem_cons_of_mem _ (List.mem_append_left _ (List.mem_of_getElem? (i := 2) rfl))
set_option maxRecDepth 20000 in
theorem mw_X0_isFont_2 : (.static yX8_isWithin : Cond) ∈ wsX0_isFont := List.mem_cons_of_mem _ (List.mem_append_left _ (List.mem_of_getElem? (i := 1) rfl))
theorem ax_X0_isFont_0 {e0 : Nat × va_E} : ([] : List Nat).map (fun i => ([e0] : va_W)[i]?) = ([] : va_W).map some := rfl
set_option maxHeartbeats 4000000 in
set_option maxRecDepth 100000 in
theorem c_X0_isFont (l : Launch) (D : va_G) (sz : Nat) (f : Int) (h0 : Nat) (k1 : Nat) (k2 : Nat) (k3 : Nat) (n : Int) (q0 : rg f) (q1 : 0 ≤ n ∧ n ≤ 4) : Met l yX0_isFont wsX0_isFont ({ frames := 1, cells := 0, slots := 0, locals := 22 }) (kPre [.ref h0, .int (zI f)] D [(h0, .inr (0, [.ref k1, .ref k2, .ref k3, .int (zI n)]))] [] sz) (QcRead (if 0 ≤ f ∧ f ≤ n - 1 then 1 else 0)) 0 0 (fun _ => False) := by
  refine Met.ofW (cc := cX0_isFont) (maxL := 2) (ret := (some .boolean)) (by decide) rfl ?_
  intro p e s m args below meth c s₁ B hml hv
  obtain ⟨rfl, hsz, hP, hK, hD0, hN⟩ := hv
  have hx := B.exec
  have hb := B.bytes
  have hr := B.returns
  have hts := atoms_spec (ws := wsX0_isFont) B.pre
  have hown : s.vm.findClass RX0 = some m.cls := findClass_of_methodNamed B.named
  have hlocks := B.notSynchronized
  subst hsz
  have hD := hD0
  have hP : va_P D vwCl [(h0, .inr (0, [.ref k1, .ref k2, .ref k3, .int (zI n)]))] s.heap := hP
  have hl := lv_entry ([.ref h0, .int (zI f)]) (n := 2) (Nat.le_of_ble_eq_true rfl)
  rw [lg_entry_eq]
  generalize (lg_sl ([.ref h0, .int (zI f)]) ++ List.replicate (2 - (lg_sl ([.ref h0, .int (zI f)])).length) Slot.unset).toArray = ls at hl ⊢
  have hl : lv_has ls 2 [(0, .ref h0), (1, .int (zI f))] := hl
  refine lv_iload_n hx hb dX0_isFont_0 rfl (lv_at hl 1 rfl) ?_
  refine lv_iconst (v := zI 0) hx hb dX0_isFont_1 rfl ?_
  refine lv_aload_n hx hb dX0_isFont_2 rfl (lv_at hl 0 rfl) ?_
  refine va_get (D := D) (ci := 0) (v := .int (zI n)) (C := RX0) (T := TX0) (N := 4) hx hb hts (fun _ h9 => List.mem_cons_of_mem _ (List.mem_append_right _ h9)) hown hK hP 0 rfl rfl 3 (by decide) (hts (.fieldLink RX0 21 "FontRuns$FontRow" "count" "I") mw_X0_isFont_0) (fun _ h9 => h9) rfl dX0_isFont_3 ?_
  refine lv_iconst (v := zI 1) hx hb dX0_isFont_6 rfl ?_
  refine kz_isub hx hb dX0_isFont_7 ?_
  refine k_callR (va_runSN (As := [.int (zI f), .int (zI 0), .int (zI (n - 1))]) (rest := []) ⟨hx, hb, hml, hown, hts⟩ (c_X8_isWithin l D s.heap.size (v := f) (a := 0) (b := (n - 1)) q0 (by omega) (by omega)) (⟨va_cnB 3 hts gX0_isFont_X8_isWithin_n25 rfl rfl rfl (hN.1 (RX0, 25, yX8_isWithin) (by decide +kernel)) (hts (.initialized RX8) mw_X0_isFont_1) (by decide +kernel) ⟨Nat.le_of_ble_eq_true rfl, Nat.le_of_ble_eq_true rfl⟩, (hts (.static yX8_isWithin) mw_X0_isFont_2), trivial⟩) (kPreS hP (kD0 hD) hK hN [] [] ax_X0_isFont_0 rfl (by decide +kernel)) rfl rfl hl.1 rfl (lv_room (Nat.le_of_ble_eq_true rfl)) dX0_isFont_8 ⟨Nat.le_of_ble_eq_true rfl, Nat.le_of_ble_eq_true rfl⟩) ?_
  exact W.zret (v := (if 0 ≤ f ∧ f ≤ (n - 1) then 1 else 0)) hx hb hr kzb (fun t ht hW => kRd (kbc (by constructor <;> (intro h9; omega))) ht) (fun _ h9 => by cases h9) dX0_isFont_11
theorem dX0_all_0 : decode cX0_all 0 = .ok (.iconst 1, 1) := by decide +kernel
theorem dX0_all_1 : decode cX0_all 1 = .ok (.aload_n 0, 1) := by decide +kernel
theorem dX0_all_2 : decode cX0_all 2 = .ok (.getfield 21, 3) := by decide +kernel
theorem dX0_all_5 : decode cX0_all 5 = .ok (.ishl, 1) := by decide +kernel
theorem dX0_all_6 : decode cX0_all 6 = .ok (.iconst 1, 1) := by decide +kernel
theorem dX0_all_7 : decode cX0_all 7 = .ok (.isub, 1) := by decide +kernel
theorem dX0_all_8 : decode cX0_all 8 = .ok (.ireturn, 1) := by decide +kernel
set_option maxRecDepth 20000 in
theorem mw_X0_all_0 : (.fieldLink RX0 21 "FontRuns$FontRow" "count" "I" : Cond) ∈ wsX0_all := List.mem_cons_of_mem _ (List.mem_append_left _ (List.mem_of_getElem? (i := 0) rfl))
set_option maxHeartbeats 4000000 in
set_option maxRecDepth 100000 in
theorem c_X0_all (l : Launch) (D : va_G) (sz : Nat) (h0 : Nat) (k1 : Nat) (k2 : Nat) (k3 : Nat) (n : Int) (q0 : 0 ≤ n ∧ n ≤ 4) : Met l yX0_all wsX0_all ({ frames := 0, cells := 0, slots := 0, locals := 0 }) (kPre [.ref h0] D [(h0, .inr (0, [.ref k1, .ref k2, .ref k3, .int (zI n)]))] [] sz) (QcP (fun rz => True)) 0 0 (fun _ => False) := by
  refine Met.ofW (cc := cX0_all) (maxL := 1) (ret := (some .int)) (by decide) rfl ?_
  intro p e s m args below meth c s₁ B hml hv
  obtain ⟨rfl, hsz, hP, hK, hD0, hN⟩ := hv
  have hx := B.exec
  have hb := B.bytes
  have hr := B.returns
  have hts := atoms_spec (ws := wsX0_all) B.pre
  have hown : s.vm.findClass RX0 = some m.cls := findClass_of_methodNamed B.named
  have hlocks := B.notSynchronized
  subst hsz
  have hD := hD0
  have hP : va_P D vwCl [(h0, .inr (0, [.ref k1, .ref k2, .ref k3, .int (zI n)]))] s.heap := hP
  have hl := lv_entry ([.ref h0]) (n := 1) (Nat.le_of_ble_eq_true rfl)
  rw [lg_entry_eq]
  generalize (lg_sl ([.ref h0]) ++ List.replicate (1 - (lg_sl ([.ref h0])).length) Slot.unset).toArray = ls at hl ⊢
  have hl : lv_has ls 1 [(0, .ref h0)] := hl
  refine lv_iconst (v := zI 1) hx hb dX0_all_0 rfl ?_
  refine lv_aload_n hx hb dX0_all_1 rfl (lv_at hl 0 rfl) ?_
  refine va_get (D := D) (ci := 0) (v := .int (zI n)) (C := RX0) (T := TX0) (N := 4) hx hb hts (fun _ h9 => List.mem_cons_of_mem _ (List.mem_append_right _ h9)) hown hK hP 0 rfl rfl 3 (by decide) (hts (.fieldLink RX0 21 "FontRuns$FontRow" "count" "I") mw_X0_all_0) (fun _ h9 => h9) rfl dX0_all_2 ?_
  refine lv_ishl hx hb dX0_all_5 ?_
  refine kz_any (fun z_1 rz_1 ez_1 => ?_)
  refine lv_iconst (v := zI 1) hx hb dX0_all_6 rfl ?_
  refine kz_isub hx hb dX0_all_7 ?_
  refine kz_any (fun z_2 rz_2 ez_2 => ?_)
  exact W.iret (v := (zI z_2)) hx hb hr (fun t ht hW => QcP_of (by omega) trivial ht) (fun _ h9 => by cases h9) dX0_all_8
theorem dX0_step_0 : decode cX0_step 0 = .ok (.aload_n 0, 1) := by decide +kernel
theorem dX0_step_1 : decode cX0_step 1 = .ok (.iload_n 1, 1) := by decide +kernel
theorem dX0_step_2 : decode cX0_step 2 = .ok (.invokevirtual 29, 3) := by decide +kernel
theorem dX0_step_5 : decode cX0_step 5 = .ok (.ifCond .eq 21, 3) := by decide +kernel
theorem dX0_step_8 : decode cX0_step 8 = .ok (.aload_n 0, 1) := by decide +kernel
theorem dX0_step_9 : decode cX0_step 9 = .ok (.getfield 9, 3) := by decide +kernel
theorem dX0_step_12 : decode cX0_step 12 = .ok (.iload_n 1, 1) := by decide +kernel
theorem dX0_step_13 : decode cX0_step 13 = .ok (.iaload, 1) := by decide +kernel
theorem dX0_step_14 : decode cX0_step 14 = .ok (.aload_n 0, 1) := by decide +kernel
theorem dX0_step_15 : decode cX0_step 15 = .ok (.getfield 15, 3) := by decide +kernel
theorem dX0_step_18 : decode cX0_step 18 = .ok (.iload_n 1, 1) := by decide +kernel
theorem dX0_step_19 : decode cX0_step 19 = .ok (.iaload, 1) := by decide +kernel
theorem dX0_step_20 : decode cX0_step 20 = .ok (.invokestatic 33, 3) := by decide +kernel
theorem dX0_step_23 : decode cX0_step 23 = .ok (.goto 4, 3) := by decide +kernel
theorem dX0_step_26 : decode cX0_step 26 = .ok (.iconst 0, 1) := by decide +kernel
theorem dX0_step_27 : decode cX0_step 27 = .ok (.ireturn, 1) := by decide +kernel
set_option maxRecDepth 20000 in
theorem ggX0_step_X0_isFont : GoodIn wsX0_step wsX0_isFont := goodIn_4 _ (List.forall_mem_cons.mpr ⟨List.mem_cons_of_mem _ (List.mem_append_left _ (List.mem_of_getElem? (i := 6) rfl)), List.forall_mem_append.mpr ⟨List.forall_mem_cons.mpr ⟨List.mem_cons_of_mem _ (List.mem_append_left _ (List.mem_of_getElem? (i := 7) rfl)), List.forall_mem_cons.mpr ⟨List.mem_cons_of_mem _ (List.mem_append_left _ (List.mem_of_getElem? (i := 8) rfl)), List.forall_mem_cons.mpr ⟨List.mem_cons_of_mem _ (List.mem_append_left _ (List.mem_of_getElem? (i := 9) rfl)), List.forall_mem_cons.mpr ⟨List.mem_cons_of_mem _ (List.mem_append_left _ (List.mem_of_getElem? (i := 10) rfl)), fun _ h9 => absurd h9 List.not_mem_nil⟩⟩⟩⟩, fun w h9 => List.mem_cons_of_mem _ (List.mem_append_right _ (h9))⟩⟩) (by decide +kernel)
set_option maxRecDepth 20000 in
theorem gX0_step_X0_isFont : GoodIn wsX0_step (wsV RX0 29 RX0 yX0_isFont wsX0_isFont) := goodIn_app (goodIn_4 _ (List.forall_mem_cons.mpr ⟨List.mem_cons_of_mem _ (List.mem_append_left _ (List.mem_of_getElem? (i := 2) rfl)), List.forall_mem_cons.mpr ⟨List.mem_cons_of_mem _ (List.mem_append_left _ (List.mem_of_getElem? (i := 3) rfl)), List.forall_mem_cons.mpr ⟨List.mem_cons_of_mem _ (List.mem_append_left _ (List.mem_of_getElem? (i := 4) rfl)), List.forall_mem_cons.mpr ⟨List.mem_cons_of_mem _ (List.mem_append_left _ (List.mem_of_getElem? (i := 5) rfl)), fun _ h9 => absurd h9 List.not_mem_nil⟩⟩⟩⟩) (by decide +kernel)) ggX0_step_X0_isFont
set_option maxRecDepth 20000 in
theorem ggX0_step_X8_stepOf : GoodIn wsX0_step wsX8_stepOf := goodIn_4 _ (List.forall_mem_cons.mpr ⟨List.mem_cons_of_mem _ (List.mem_append_left _ (List.mem_of_getElem? (i := 12) rfl)), fun _ h9 => absurd h9 List.not_mem_nil⟩) (by decide +kernel)
set_option maxRecDepth 20000 in
theorem gX0_step_X8_stepOf_n33 : GoodIn wsX0_step (wsX8_stepOf) := ggX0_step_X8_stepOf
set_option maxRecDepth 20000 in
theorem mw_X0_step_0 : (.fieldLink RX0 9 "FontRuns$FontRow" "kind" "[I" : Cond) ∈ wsX0_step := List.mem_cons_of_mem _ (List.mem_append_left _ (List.mem_of_getElem? (i := 0) rfl))
set_option maxRecDepth 20000 in
theorem mw_X0_step_1 : (.fieldLink RX0 15 "FontRuns$FontRow" "breadth" "[I" : Cond) ∈ wsX0_step := List.mem_cons_of_mem _ (List.mem_append_left _ (List.mem_of_getElem? (i := 1) rfl))
set_option maxRecDepth 20000 in
theorem mw_X0_step_2 : (.initialized RX8 : Cond) ∈ wsX0_step := List.mem_cons_of_mem _ (List.mem_append_left _ (List.mem_of_getElem? (i := 9) rfl))
set_option maxRecDepth 20000 in
theorem mw_X0_step_3 : (.static yX8_stepOf : Cond) ∈ wsX0_step := List.mem_cons_of_mem _ (List.mem_append_left _ (List.mem_of_getElem? (i := 11) rfl))
theorem ax_X0_step_0 {e0 e1 e2 : Nat × va_E} : ([0] : List Nat).map (fun i => ([e0, e1, e2] : va_W)[i]?) = ([e0] : va_W).map some := rfl
theorem ax_X0_step_1 {e0 e1 e2 : Nat × va_E} : ([] : List Nat).map (fun i => ([e0, e1, e2] : va_W)[i]?) = ([] : va_W).map some := rfl
set_option maxHeartbeats 4000000 in
set_option maxRecDepth 100000 in
theorem c_X0_step (l : Launch) (D : va_G) (sz : Nat) (f : Int) (h0 : Nat) (k1 : Nat) (k2 : Nat) (k3 : Nat) (n : Int) (ck1 : ClassId) (fk : Nat → Int32) (ck2 : ClassId) (fb : Nat → Int32) (q0 : rg f) (q1 : 0 ≤ n ∧ n ≤ 4) : Met l yX0_step wsX0_step ({ frames := 2, cells := 0, slots := 0, locals := 43 }) (kPre [.ref h0, .int (zI f)] D [(h0, .inr (0, [.ref k1, .ref k2, .ref k3, .int (zI n)])), (k1, .inl (ck1, 4, .inl fk)), (k2, .inl (ck2, 4, .inl fb))] [(ck1, .int), (ck2, .int)] sz) (QcP (fun rz => True)) 0 0 (fun _ => False) := by
  refine Met.ofW (cc := cX0_step) (maxL := 2) (ret := (some .int)) (by decide) rfl ?_
  intro p e s m args below meth c s₁ B hml hv
  obtain ⟨rfl, hsz, hP, hK, hD0, hN⟩ := hv
  have hx := B.exec
  have hb := B.bytes
  have hr := B.returns
  have hts := atoms_spec (ws := wsX0_step) B.pre
  have hown : s.vm.findClass RX0 = some m.cls := findClass_of_methodNamed B.named
  have hlocks := B.notSynchronized
  subst hsz
  have hD := hD0
  have hP : va_P D vwCl [(h0, .inr (0, [.ref k1, .ref k2, .ref k3, .int (zI n)])), (k1, .inl (ck1, 4, .inl fk)), (k2, .inl (ck2, 4, .inl fb))] s.heap := hP
  have hl := lv_entry ([.ref h0, .int (zI f)]) (n := 2) (Nat.le_of_ble_eq_true rfl)
  rw [lg_entry_eq]
  generalize (lg_sl ([.ref h0, .int (zI f)]) ++ List.replicate (2 - (lg_sl ([.ref h0, .int (zI f)])).length) Slot.unset).toArray = ls at hl ⊢
  have hl : lv_has ls 2 [(0, .ref h0), (1, .int (zI f))] := hl
  refine lv_aload_n hx hb dX0_step_0 rfl (lv_at hl 0 rfl) ?_
  refine lv_iload_n hx hb dX0_step_1 rfl (lv_at hl 1 rfl) ?_
  refine k_callR (va_runV (As := [.int (zI f)]) (rest := []) ⟨hx, hb, hml, hown, hts⟩ (c_X0_isFont l D s.heap.size (f := f) (h0 := h0) (k1 := k1) (k2 := k2) (k3 := k3) (n := n) q0 q1) (cwV 1 hts gX0_step_X0_isFont rfl rfl rfl (by decide +kernel) ⟨Nat.le_of_ble_eq_true rfl, Nat.le_of_ble_eq_true rfl⟩) (kPreV hP (kD0 hD) hK hN [0] [] ax_X0_step_0 rfl (by decide +kernel) 0 0 rfl rfl) rfl rfl hl.1 rfl (lv_room (Nat.le_of_ble_eq_true rfl)) dX0_step_2 ⟨Nat.le_of_ble_eq_true rfl, Nat.le_of_ble_eq_true rfl⟩) ?_
  refine lv_if_eq (tgt := 26) hx hb dX0_step_5 (by decide) (fun c_1 => ?_) (fun c_1 => ?_)
  · have c_1 : ¬ (0 ≤ f ∧ f ≤ n - 1) := b01f c_1
    refine lv_iconst (v := zI 0) hx hb dX0_step_26 rfl ?_
    exact W.iret (v := (zI 0)) hx hb hr (fun t ht hW => QcP_of (by omega) trivial ht) (fun _ h9 => by cases h9) dX0_step_27
  · have c_1 : 0 ≤ f ∧ f ≤ n - 1 := b01t c_1
    refine lv_aload_n hx hb dX0_step_8 rfl (lv_at hl 0 rfl) ?_
    refine va_get (D := D) (ci := 0) (v := .ref k1) (C := RX0) (T := TX0) (N := 4) hx hb hts (fun _ h9 => List.mem_cons_of_mem _ (List.mem_append_right _ h9)) hown hK hP 0 rfl rfl 0 (by decide) (hts (.fieldLink RX0 9 "FontRuns$FontRow" "kind" "[I") mw_X0_step_0) (fun _ h9 => h9) rfl dX0_step_9 ?_
    refine lv_iload_n hx hb dX0_step_12 rfl (lv_at hl 1 rfl) ?_
    refine kz_iald hx hb hK hP 1 0 rfl rfl (by omega) dX0_step_13 (fun z_2 rz_2 ez_2 => ?_)
    refine lv_aload_n hx hb dX0_step_14 rfl (lv_at hl 0 rfl) ?_
    refine va_get (D := D) (ci := 0) (v := .ref k2) (C := RX0) (T := TX0) (N := 4) hx hb hts (fun _ h9 => List.mem_cons_of_mem _ (List.mem_append_right _ h9)) hown hK hP 0 rfl rfl 1 (by decide) (hts (.fieldLink RX0 15 "FontRuns$FontRow" "breadth" "[I") mw_X0_step_1) (fun _ h9 => h9) rfl dX0_step_15 ?_
    refine lv_iload_n hx hb dX0_step_18 rfl (lv_at hl 1 rfl) ?_
    refine kz_iald hx hb hK hP 2 1 rfl rfl (by omega) dX0_step_19 (fun z_3 rz_3 ez_3 => ?_)
    refine k_callP (va_runSN (As := [.int (zI z_2), .int (zI z_3)]) (rest := []) ⟨hx, hb, hml, hown, hts⟩ (c_X8_stepOf l D s.heap.size (k := z_2) (b := z_3) (by omega) (by omega)) (⟨va_cnB 2 hts gX0_step_X8_stepOf_n33 rfl rfl rfl (hN.1 (RX0, 33, yX8_stepOf) (by decide +kernel)) (hts (.initialized RX8) mw_X0_step_2) (by decide +kernel) ⟨Nat.le_of_ble_eq_true rfl, Nat.le_of_ble_eq_true rfl⟩, (hts (.static yX8_stepOf) mw_X0_step_3), trivial⟩) (kPreS hP (kD0 hD) hK hN [] [] ax_X0_step_1 rfl (by decide +kernel)) rfl rfl hl.1 rfl (lv_room (Nat.le_of_ble_eq_true rfl)) dX0_step_20 ⟨Nat.le_of_ble_eq_true rfl, Nat.le_of_ble_eq_true rfl⟩) (fun z_4 rz_4 h_5 => ?_)
    refine lv_goto (tgt := 27) hx hb dX0_step_23 (by decide) ?_
    exact W.iret (v := (zI z_4)) hx hb hr (fun t ht hW => QcP_of (by omega) trivial ht) (fun _ h9 => by cases h9) dX0_step_27
theorem dX0_fitting_0 : decode cX0_fitting 0 = .ok (.iconst 0, 1) := by decide +kernel
theorem dX0_fitting_1 : decode cX0_fitting 1 = .ok (.istore_n 2, 1) := by decide +kernel
theorem dX0_fitting_2 : decode cX0_fitting 2 = .ok (.iconst 0, 1) := by decide +kernel
theorem dX0_fitting_3 : decode cX0_fitting 3 = .ok (.istore_n 3, 1) := by decide +kernel
theorem dX0_fitting_4 : decode cX0_fitting 4 = .ok (.iload_n 3, 1) := by decide +kernel
theorem dX0_fitting_5 : decode cX0_fitting 5 = .ok (.aload_n 0, 1) := by decide +kernel
theorem dX0_fitting_6 : decode cX0_fitting 6 = .ok (.getfield 21, 3) := by decide +kernel
theorem dX0_fitting_9 : decode cX0_fitting 9 = .ok (.if_icmp .ge 27, 3) := by decide +kernel
theorem dX0_fitting_12 : decode cX0_fitting 12 = .ok (.aload_n 0, 1) := by decide +kernel
theorem dX0_fitting_13 : decode cX0_fitting 13 = .ok (.getfield 18, 3) := by decide +kernel
theorem dX0_fitting_16 : decode cX0_fitting 16 = .ok (.iload_n 3, 1) := by decide +kernel
theorem dX0_fitting_17 : decode cX0_fitting 17 = .ok (.iaload, 1) := by decide +kernel
theorem dX0_fitting_18 : decode cX0_fitting 18 = .ok (.iload_n 1, 1) := by decide +kernel
theorem dX0_fitting_19 : decode cX0_fitting 19 = .ok (.iand, 1) := by decide +kernel
theorem dX0_fitting_20 : decode cX0_fitting 20 = .ok (.iload_n 1, 1) := by decide +kernel
theorem dX0_fitting_21 : decode cX0_fitting 21 = .ok (.if_icmp .ne 9, 3) := by decide +kernel
theorem dX0_fitting_24 : decode cX0_fitting 24 = .ok (.iload_n 2, 1) := by decide +kernel
theorem dX0_fitting_25 : decode cX0_fitting 25 = .ok (.iconst 1, 1) := by decide +kernel
theorem dX0_fitting_26 : decode cX0_fitting 26 = .ok (.iload_n 3, 1) := by decide +kernel
theorem dX0_fitting_27 : decode cX0_fitting 27 = .ok (.ishl, 1) := by decide +kernel
theorem dX0_fitting_28 : decode cX0_fitting 28 = .ok (.ior, 1) := by decide +kernel
theorem dX0_fitting_29 : decode cX0_fitting 29 = .ok (.istore_n 2, 1) := by decide +kernel
theorem dX0_fitting_30 : decode cX0_fitting 30 = .ok (.iinc 3 1, 3) := by decide +kernel
theorem dX0_fitting_33 : decode cX0_fitting 33 = .ok (.goto (-29), 3) := by decide +kernel
theorem dX0_fitting_36 : decode cX0_fitting 36 = .ok (.iload_n 2, 1) := by decide +kernel
theorem dX0_fitting_37 : decode cX0_fitting 37 = .ok (.ireturn, 1) := by decide +kernel
set_option maxRecDepth 20000 in
theorem mw_X0_fitting_0 : (.fieldLink RX0 21 "FontRuns$FontRow" "count" "I" : Cond) ∈ wsX0_fitting := List.mem_cons_of_mem _ (List.mem_append_left _ (List.mem_of_getElem? (i := 0) rfl))
set_option maxRecDepth 20000 in
theorem mw_X0_fitting_1 : (.fieldLink RX0 18 "FontRuns$FontRow" "has" "[I" : Cond) ∈ wsX0_fitting := List.mem_cons_of_mem _ (List.mem_append_left _ (List.mem_of_getElem? (i := 1) rfl))
set_option maxHeartbeats 4000000 in
set_option maxRecDepth 100000 in
theorem c_X0_fitting (l : Launch) (D : va_G) (sz : Nat) (le : Int) (h0 : Nat) (k1 : Nat) (k2 : Nat) (k3 : Nat) (n : Int) (ck3 : ClassId) (fh : Nat → Int32) (q0 : rg le) (q1 : 0 ≤ n ∧ n ≤ 4) : Met l yX0_fitting wsX0_fitting ({ frames := 0, cells := 0, slots := 0, locals := 0 }) (kPre [.ref h0, .int (zI le)] D [(h0, .inr (0, [.ref k1, .ref k2, .ref k3, .int (zI n)])), (k3, .inl (ck3, 4, .inl fh))] [(ck3, .int)] sz) (QcP (fun rz => True)) 0 0 (fun _ => False) := by
  refine Met.ofW (cc := cX0_fitting) (maxL := 4) (ret := (some .int)) (by decide) rfl ?_
  intro p e s m args below meth c s₁ B hml hv
  obtain ⟨rfl, hsz, hP, hK, hD0, hN⟩ := hv
  have hx := B.exec
  have hb := B.bytes
  have hr := B.returns
  have hts := atoms_spec (ws := wsX0_fitting) B.pre
  have hown : s.vm.findClass RX0 = some m.cls := findClass_of_methodNamed B.named
  have hlocks := B.notSynchronized
  subst hsz
  have hD := hD0
  have hP : va_P D vwCl [(h0, .inr (0, [.ref k1, .ref k2, .ref k3, .int (zI n)])), (k3, .inl (ck3, 4, .inl fh))] s.heap := hP
  have hl := lv_entry ([.ref h0, .int (zI le)]) (n := 4) (Nat.le_of_ble_eq_true rfl)
  rw [lg_entry_eq]
  generalize (lg_sl ([.ref h0, .int (zI le)]) ++ List.replicate (4 - (lg_sl ([.ref h0, .int (zI le)])).length) Slot.unset).toArray = ls at hl ⊢
  have hl : lv_has ls 4 [(0, .ref h0), (1, .int (zI le))] := hl
  refine lv_iconst (v := zI 0) hx hb dX0_fitting_0 rfl ?_
  refine lv_istore_n (lv' := [(2, .int (zI 0)), (0, .ref h0), (1, .int (zI le))]) hx hb dX0_fitting_1 rfl hl (by decide) rfl (fun ls hl => ?_)
  refine lv_iconst (v := zI 0) hx hb dX0_fitting_2 rfl ?_
  refine lv_istore_n (lv' := [(3, .int (zI 0)), (2, .int (zI 0)), (0, .ref h0), (1, .int (zI le))]) hx hb dX0_fitting_3 rfl hl (by decide) rfl (fun ls hl => ?_)
  refine k_loopM (I := fun n9 H locs ls => ∃ (js : Int) (jk : Int), n9 = (n - jk).toNat ∧ (rg js) ∧ (0 ≤ jk ∧ jk ≤ n) ∧ H = s.heap ∧ locs = [] ∧ lv_has ls 4 [(3, .int (zI jk)), (2, .int (zI js)), (0, .ref h0), (1, .int (zI le))]) ?_ _ ⟨0, 0, rfl, (by omega), (by omega), rfl, rfl, hl⟩
  intro n4 ih4 H locs ls hI
  obtain ⟨js, jk, en4, v_40, v_41, eH, eL, hl⟩ := hI
  subst eH
  subst eL
  refine lv_iload_n hx hb dX0_fitting_4 rfl (lv_at hl 0 rfl) ?_
  refine lv_aload_n hx hb dX0_fitting_5 rfl (lv_at hl 2 rfl) ?_
  refine va_get (D := D) (ci := 0) (v := .int (zI n)) (C := RX0) (T := TX0) (N := 4) hx hb hts (fun _ h9 => List.mem_cons_of_mem _ (List.mem_append_right _ h9)) hown hK hP 0 rfl rfl 3 (by decide) (hts (.fieldLink RX0 21 "FontRuns$FontRow" "count" "I") mw_X0_fitting_0) (fun _ h9 => h9) rfl dX0_fitting_6 ?_
  refine kz_icmp_ge (tgt := 36) hx hb dX0_fitting_9 (by decide) (by omega) (by omega) (fun c_1 => ?_) (fun c_1 => ?_)
  · refine lv_iload_n hx hb dX0_fitting_36 rfl (lv_at hl 1 rfl) ?_
    exact W.iret (v := (zI js)) hx hb hr (fun t ht hW => QcP_of (by omega) trivial ht) (fun _ h9 => by cases h9) dX0_fitting_37
  · refine lv_aload_n hx hb dX0_fitting_12 rfl (lv_at hl 2 rfl) ?_
    refine va_get (D := D) (ci := 0) (v := .ref k3) (C := RX0) (T := TX0) (N := 4) hx hb hts (fun _ h9 => List.mem_cons_of_mem _ (List.mem_append_right _ h9)) hown hK hP 0 rfl rfl 2 (by decide) (hts (.fieldLink RX0 18 "FontRuns$FontRow" "has" "[I") mw_X0_fitting_1) (fun _ h9 => h9) rfl dX0_fitting_13 ?_
    refine lv_iload_n hx hb dX0_fitting_16 rfl (lv_at hl 0 rfl) ?_
    refine kz_iald hx hb hK hP 1 0 rfl rfl (by omega) dX0_fitting_17 (fun z_2 rz_2 ez_2 => ?_)
    refine lv_iload_n hx hb dX0_fitting_18 rfl (lv_at hl 3 rfl) ?_
    refine lv_iand hx hb dX0_fitting_19 ?_
    refine kz_any (fun z_3 rz_3 ez_3 => ?_)
    refine lv_iload_n hx hb dX0_fitting_20 rfl (lv_at hl 3 rfl) ?_
    refine kz_icmp_ne (tgt := 30) hx hb dX0_fitting_21 (by decide) (by omega) (by omega) (fun c_4 => ?_) (fun c_4 => ?_)
    · refine lv_iinc (v := (zI (jk + 1))) (lv' := [(3, .int (zI (jk + 1))), (2, .int (zI js)), (0, .ref h0), (1, .int (zI le))]) hx hb dX0_fitting_30 hl (k := 0) rfl (kz_inc _ 1) (by decide) rfl (fun ls hl => ?_)
      refine lv_goto (tgt := 4) hx hb dX0_fitting_33 (by decide) ?_
      exact ih4 _ (by omega) _ _ _ ⟨js, (jk + 1), rfl, v_40, (by omega), rfl, rfl, lv_sub hl [0, 1, 2, 3] rfl⟩
    · refine lv_iload_n hx hb dX0_fitting_24 rfl (lv_at hl 1 rfl) ?_
      refine lv_iconst (v := zI 1) hx hb dX0_fitting_25 rfl ?_
      refine lv_iload_n hx hb dX0_fitting_26 rfl (lv_at hl 0 rfl) ?_
      refine lv_ishl hx hb dX0_fitting_27 ?_
      refine kz_any (fun z_5 rz_5 ez_5 => ?_)
      refine lv_ior hx hb dX0_fitting_28 ?_
      refine kz_any (fun z_6 rz_6 ez_6 => ?_)
      refine lv_istore_n (lv' := [(2, .int (zI z_6)), (3, .int (zI jk)), (0, .ref h0), (1, .int (zI le))]) hx hb dX0_fitting_29 rfl hl (by decide) rfl (fun ls hl => ?_)
      refine lv_iinc (v := (zI (jk + 1))) (lv' := [(3, .int (zI (jk + 1))), (2, .int (zI z_6)), (0, .ref h0), (1, .int (zI le))]) hx hb dX0_fitting_30 hl (k := 1) rfl (kz_inc _ 1) (by decide) rfl (fun ls hl => ?_)
      refine lv_goto (tgt := 4) hx hb dX0_fitting_33 (by decide) ?_
      exact ih4 _ (by omega) _ _ _ ⟨z_6, (jk + 1), rfl, (by omega), (by omega), rfl, rfl, lv_sub hl [0, 1, 2, 3] rfl⟩
theorem dX0_takeFrom_0 : decode cX0_takeFrom 0 = .ok (.aload_n 0, 1) := by decide +kernel
theorem dX0_takeFrom_1 : decode cX0_takeFrom 1 = .ok (.aload_n 1, 1) := by decide +kernel
theorem dX0_takeFrom_2 : decode cX0_takeFrom 2 = .ok (.getfield 21, 3) := by decide +kernel
theorem dX0_takeFrom_5 : decode cX0_takeFrom 5 = .ok (.putfield 21, 3) := by decide +kernel
theorem dX0_takeFrom_8 : decode cX0_takeFrom 8 = .ok (.iconst 0, 1) := by decide +kernel
theorem dX0_takeFrom_9 : decode cX0_takeFrom 9 = .ok (.istore_n 2, 1) := by decide +kernel
theorem dX0_takeFrom_10 : decode cX0_takeFrom 10 = .ok (.iload_n 2, 1) := by decide +kernel
theorem dX0_takeFrom_11 : decode cX0_takeFrom 11 = .ok (.iconst 4, 1) := by decide +kernel
theorem dX0_takeFrom_12 : decode cX0_takeFrom 12 = .ok (.if_icmp .ge 45, 3) := by decide +kernel
theorem dX0_takeFrom_15 : decode cX0_takeFrom 15 = .ok (.aload_n 0, 1) := by decide +kernel
theorem dX0_takeFrom_16 : decode cX0_takeFrom 16 = .ok (.getfield 9, 3) := by decide +kernel
theorem dX0_takeFrom_19 : decode cX0_takeFrom 19 = .ok (.iload_n 2, 1) := by decide +kernel
theorem dX0_takeFrom_20 : decode cX0_takeFrom 20 = .ok (.aload_n 1, 1) := by decide +kernel
theorem dX0_takeFrom_21 : decode cX0_takeFrom 21 = .ok (.getfield 9, 3) := by decide +kernel
theorem dX0_takeFrom_24 : decode cX0_takeFrom 24 = .ok (.iload_n 2, 1) := by decide +kernel
theorem dX0_takeFrom_25 : decode cX0_takeFrom 25 = .ok (.iaload, 1) := by decide +kernel
theorem dX0_takeFrom_26 : decode cX0_takeFrom 26 = .ok (.iastore, 1) := by decide +kernel
theorem dX0_takeFrom_27 : decode cX0_takeFrom 27 = .ok (.aload_n 0, 1) := by decide +kernel
theorem dX0_takeFrom_28 : decode cX0_takeFrom 28 = .ok (.getfield 15, 3) := by decide +kernel
theorem dX0_takeFrom_31 : decode cX0_takeFrom 31 = .ok (.iload_n 2, 1) := by decide +kernel
theorem dX0_takeFrom_32 : decode cX0_takeFrom 32 = .ok (.aload_n 1, 1) := by decide +kernel
theorem dX0_takeFrom_33 : decode cX0_takeFrom 33 = .ok (.getfield 15, 3) := by decide +kernel
theorem dX0_takeFrom_36 : decode cX0_takeFrom 36 = .ok (.iload_n 2, 1) := by decide +kernel
theorem dX0_takeFrom_37 : decode cX0_takeFrom 37 = .ok (.iaload, 1) := by decide +kernel
theorem dX0_takeFrom_38 : decode cX0_takeFrom 38 = .ok (.iastore, 1) := by decide +kernel
theorem dX0_takeFrom_39 : decode cX0_takeFrom 39 = .ok (.aload_n 0, 1) := by decide +kernel
theorem dX0_takeFrom_40 : decode cX0_takeFrom 40 = .ok (.getfield 18, 3) := by decide +kernel
theorem dX0_takeFrom_43 : decode cX0_takeFrom 43 = .ok (.iload_n 2, 1) := by decide +kernel
theorem dX0_takeFrom_44 : decode cX0_takeFrom 44 = .ok (.aload_n 1, 1) := by decide +kernel
theorem dX0_takeFrom_45 : decode cX0_takeFrom 45 = .ok (.getfield 18, 3) := by decide +kernel
theorem dX0_takeFrom_48 : decode cX0_takeFrom 48 = .ok (.iload_n 2, 1) := by decide +kernel
theorem dX0_takeFrom_49 : decode cX0_takeFrom 49 = .ok (.iaload, 1) := by decide +kernel
theorem dX0_takeFrom_50 : decode cX0_takeFrom 50 = .ok (.iastore, 1) := by decide +kernel
theorem dX0_takeFrom_51 : decode cX0_takeFrom 51 = .ok (.iinc 2 1, 3) := by decide +kernel
theorem dX0_takeFrom_54 : decode cX0_takeFrom 54 = .ok (.goto (-44), 3) := by decide +kernel
theorem dX0_takeFrom_57 : decode cX0_takeFrom 57 = .ok (.return_, 1) := by decide +kernel
set_option maxRecDepth 20000 in
theorem mw_X0_takeFrom_0 : (.fieldLink RX0 21 "FontRuns$FontRow" "count" "I" : Cond) ∈ wsX0_takeFrom := List.mem_cons_of_mem _ (List.mem_append_left _ (List.mem_of_getElem? (i := 0) rfl))
set_option maxRecDepth 20000 in
theorem mw_X0_takeFrom_1 : (.fieldLink RX0 9 "FontRuns$FontRow" "kind" "[I" : Cond) ∈ wsX0_takeFrom := List.mem_cons_of_mem _ (List.mem_append_left _ (List.mem_of_getElem? (i := 1) rfl))
set_option maxRecDepth 20000 in
theorem mw_X0_takeFrom_2 : (.fieldLink RX0 15 "FontRuns$FontRow" "breadth" "[I" : Cond) ∈ wsX0_takeFrom := List.mem_cons_of_mem _ (List.mem_append_left _ (List.mem_of_getElem? (i := 2) rfl))
set_option maxRecDepth 20000 in
theorem mw_X0_takeFrom_3 : (.fieldLink RX0 18 "FontRuns$FontRow" "has" "[I" : Cond) ∈ wsX0_takeFrom := List.mem_cons_of_mem _ (List.mem_append_left _ (List.mem_of_getElem? (i := 3) rfl))
theorem ax_X0_takeFrom_0 {e0 e1 e2 e3 e4 e5 e6 e7 : Nat × va_E} : ([0, 1, 2, 3, 4, 5, 6, 7] : List Nat).map (fun i => ([e0, e1, e2, e3, e4, e5, e6, e7] : va_W)[i]?) = ([e0, e1, e2, e3, e4, e5, e6, e7] : va_W).map some := rfl
set_option maxHeartbeats 4000000 in
set_option maxRecDepth 100000 in
theorem c_X0_takeFrom (l : Launch) (D : va_G) (sz : Nat) (h1 : Nat) (h0 : Nat) (k1 : Nat) (k2 : Nat) (k3 : Nat) (n : Int) (ck1 : ClassId) (fk : Nat → Int32) (ck2 : ClassId) (fb : Nat → Int32) (ck3 : ClassId) (fh : Nat → Int32) (m1 : Nat) (m2 : Nat) (m3 : Nat) (n2 : Int) (cm1 : ClassId) (gk : Nat → Int32) (cm2 : ClassId) (gb : Nat → Int32) (cm3 : ClassId) (gh : Nat → Int32) (q0 : 0 ≤ n2 ∧ n2 ≤ 4) : Met l yX0_takeFrom wsX0_takeFrom ({ frames := 0, cells := 0, slots := 0, locals := 0 }) (kPre [.ref h0, .ref h1] D [(h0, .inr (0, [.ref k1, .ref k2, .ref k3, .int (zI n)])), (k1, .inl (ck1, 4, .inl fk)), (k2, .inl (ck2, 4, .inl fb)), (k3, .inl (ck3, 4, .inl fh)), (h1, .inr (0, [.ref m1, .ref m2, .ref m3, .int (zI n2)])), (m1, .inl (cm1, 4, .inl gk)), (m2, .inl (cm2, 4, .inl gb)), (m3, .inl (cm3, 4, .inl gh))] [(ck1, .int), (ck2, .int), (ck3, .int), (cm1, .int), (cm2, .int), (cm3, .int)] sz) (kQV (fun t => ∃ (un : Int) (uk : Nat → Int32) (ub : Nat → Int32) (uh : Nat → Int32), (0 ≤ un ∧ un ≤ 4) ∧ va_P D vwCl [(h0, .inr (0, [.ref k1, .ref k2, .ref k3, .int (zI un)])), (k1, .inl (ck1, 4, .inl uk)), (k2, .inl (ck2, 4, .inl ub)), (k3, .inl (ck3, 4, .inl uh)), (h1, .inr (0, [.ref m1, .ref m2, .ref m3, .int (zI n2)])), (m1, .inl (cm1, 4, .inl gk)), (m2, .inl (cm2, 4, .inl gb)), (m3, .inl (cm3, 4, .inl gh))] t.heap ∧ va_D (va_A [(h0, .inr (0, [.ref k1, .ref k2, .ref k3, .int (zI n)])), (k1, .inl (ck1, 4, .inl fk)), (k2, .inl (ck2, 4, .inl fb)), (k3, .inl (ck3, 4, .inl fh)), (h1, .inr (0, [.ref m1, .ref m2, .ref m3, .int (zI n2)])), (m1, .inl (cm1, 4, .inl gk)), (m2, .inl (cm2, 4, .inl gb)), (m3, .inl (cm3, 4, .inl gh))] sz) [(h0, .inr (0, [.ref k1, .ref k2, .ref k3, .int (zI un)])), (k1, .inl (ck1, 4, .inl uk)), (k2, .inl (ck2, 4, .inl ub)), (k3, .inl (ck3, 4, .inl uh)), (h1, .inr (0, [.ref m1, .ref m2, .ref m3, .int (zI n2)])), (m1, .inl (cm1, 4, .inl gk)), (m2, .inl (cm2, 4, .inl gb)), (m3, .inl (cm3, 4, .inl gh))]) (va_A [(h0, .inr (0, [.ref k1, .ref k2, .ref k3, .int (zI n)])), (k1, .inl (ck1, 4, .inl fk)), (k2, .inl (ck2, 4, .inl fb)), (k3, .inl (ck3, 4, .inl fh)), (h1, .inr (0, [.ref m1, .ref m2, .ref m3, .int (zI n2)])), (m1, .inl (cm1, 4, .inl gk)), (m2, .inl (cm2, 4, .inl gb)), (m3, .inl (cm3, 4, .inl gh))] sz)) 0 0 (va_A [(h0, .inr (0, [.ref k1, .ref k2, .ref k3, .int (zI n)])), (k1, .inl (ck1, 4, .inl fk)), (k2, .inl (ck2, 4, .inl fb)), (k3, .inl (ck3, 4, .inl fh)), (h1, .inr (0, [.ref m1, .ref m2, .ref m3, .int (zI n2)])), (m1, .inl (cm1, 4, .inl gk)), (m2, .inl (cm2, 4, .inl gb)), (m3, .inl (cm3, 4, .inl gh))] sz) := by
  refine Met.ofW (cc := cX0_takeFrom) (maxL := 3) (ret := none) (by decide) rfl ?_
  intro p e s m args below meth c s₁ B hml hv
  obtain ⟨rfl, hsz, hP, hK, hD0, hN⟩ := hv
  have hx := B.exec
  have hb := B.bytes
  have hr := B.returns
  have hts := atoms_spec (ws := wsX0_takeFrom) B.pre
  have hown : s.vm.findClass RX0 = some m.cls := findClass_of_methodNamed B.named
  have hlocks := B.notSynchronized
  subst hsz
  have hD := hD0.self (sz := s.heap.size)
  generalize hAe : va_A [(h0, .inr (0, [.ref k1, .ref k2, .ref k3, .int (zI n)])), (k1, .inl (ck1, 4, .inl fk)), (k2, .inl (ck2, 4, .inl fb)), (k3, .inl (ck3, 4, .inl fh)), (h1, .inr (0, [.ref m1, .ref m2, .ref m3, .int (zI n2)])), (m1, .inl (cm1, 4, .inl gk)), (m2, .inl (cm2, 4, .inl gb)), (m3, .inl (cm3, 4, .inl gh))] s.heap.size = A at hD ⊢
  have hA : ∀ q : Nat, s.heap.size ≤ q → A q := fun q h => by rw [← hAe]; exact Or.inr h
  have hS : va_S A s.heap s.heap [] := va_S.rf
  have hP : va_P D vwCl [(h0, .inr (0, [.ref k1, .ref k2, .ref k3, .int (zI n)])), (k1, .inl (ck1, 4, .inl fk)), (k2, .inl (ck2, 4, .inl fb)), (k3, .inl (ck3, 4, .inl fh)), (h1, .inr (0, [.ref m1, .ref m2, .ref m3, .int (zI n2)])), (m1, .inl (cm1, 4, .inl gk)), (m2, .inl (cm2, 4, .inl gb)), (m3, .inl (cm3, 4, .inl gh))] s.heap := hP
  have hl := lv_entry ([.ref h0, .ref h1]) (n := 3) (Nat.le_of_ble_eq_true rfl)
  rw [lg_entry_eq]
  generalize (lg_sl ([.ref h0, .ref h1]) ++ List.replicate (3 - (lg_sl ([.ref h0, .ref h1])).length) Slot.unset).toArray = ls at hl ⊢
  have hl : lv_has ls 3 [(0, .ref h0), (1, .ref h1)] := hl
  refine lv_aload_n hx hb dX0_takeFrom_0 rfl (lv_at hl 0 rfl) ?_
  refine lv_aload_n hx hb dX0_takeFrom_1 rfl (lv_at hl 1 rfl) ?_
  refine va_get (D := D) (ci := 0) (v := .int (zI n2)) (C := RX0) (T := TX0) (N := 4) hx hb hts (fun _ h9 => List.mem_cons_of_mem _ (List.mem_append_right _ h9)) hown hK hP 4 rfl rfl 3 (by decide) (hts (.fieldLink RX0 21 "FontRuns$FontRow" "count" "I") mw_X0_takeFrom_0) (fun _ h9 => h9) rfl dX0_takeFrom_2 ?_
  refine va_put (D := D) (ci := 0) (v := .int (zI n2)) (ty := .int) (C := RX0) (T := TX0) (N := 4) hx hb hts (fun _ h9 => List.mem_cons_of_mem _ (List.mem_append_right _ h9)) tyX0 tyX0_ok nmX0 hown hK hP hD hS 0 rfl rfl 3 (by decide) (hts (.fieldLink RX0 21 "FontRuns$FontRow" "count" "I") mw_X0_takeFrom_0) (fun _ h9 => h9) rfl (by decide +kernel) rfl rfl (Nat.le_of_ble_eq_true rfl) dX0_takeFrom_5 (fun H locs hP hD hS => ?_)
  have hP : va_P D vwCl [(h0, .inr (0, [.ref k1, .ref k2, .ref k3, .int (zI n2)])), (k1, .inl (ck1, 4, .inl fk)), (k2, .inl (ck2, 4, .inl fb)), (k3, .inl (ck3, 4, .inl fh)), (h1, .inr (0, [.ref m1, .ref m2, .ref m3, .int (zI n2)])), (m1, .inl (cm1, 4, .inl gk)), (m2, .inl (cm2, 4, .inl gb)), (m3, .inl (cm3, 4, .inl gh))] H := hP
  have hD : va_D A [(h0, .inr (0, [.ref k1, .ref k2, .ref k3, .int (zI n2)])), (k1, .inl (ck1, 4, .inl fk)), (k2, .inl (ck2, 4, .inl fb)), (k3, .inl (ck3, 4, .inl fh)), (h1, .inr (0, [.ref m1, .ref m2, .ref m3, .int (zI n2)])), (m1, .inl (cm1, 4, .inl gk)), (m2, .inl (cm2, 4, .inl gb)), (m3, .inl (cm3, 4, .inl gh))] := hD
  refine lv_iconst (v := zI 0) hx hb dX0_takeFrom_8 rfl ?_
  refine lv_istore_n (lv' := [(2, .int (zI 0)), (0, .ref h0), (1, .ref h1)]) hx hb dX0_takeFrom_9 rfl hl (by decide) rfl (fun ls hl => ?_)
  refine k_loopM (I := fun n9 H locs ls => ∃ (jk : Int) (ja : Nat → Int32) (jb : Nat → Int32) (jc : Nat → Int32), n9 = (4 - jk).toNat ∧ (0 ≤ jk ∧ jk ≤ 4) ∧ va_P D vwCl [(h0, .inr (0, [.ref k1, .ref k2, .ref k3, .int (zI n2)])), (k1, .inl (ck1, 4, .inl ja)), (k2, .inl (ck2, 4, .inl jb)), (k3, .inl (ck3, 4, .inl jc)), (h1, .inr (0, [.ref m1, .ref m2, .ref m3, .int (zI n2)])), (m1, .inl (cm1, 4, .inl gk)), (m2, .inl (cm2, 4, .inl gb)), (m3, .inl (cm3, 4, .inl gh))] H ∧ va_D A [(h0, .inr (0, [.ref k1, .ref k2, .ref k3, .int (zI n2)])), (k1, .inl (ck1, 4, .inl ja)), (k2, .inl (ck2, 4, .inl jb)), (k3, .inl (ck3, 4, .inl jc)), (h1, .inr (0, [.ref m1, .ref m2, .ref m3, .int (zI n2)])), (m1, .inl (cm1, 4, .inl gk)), (m2, .inl (cm2, 4, .inl gb)), (m3, .inl (cm3, 4, .inl gh))] ∧ va_S A s.heap H locs ∧ lv_has ls 3 [(2, .int (zI jk)), (0, .ref h0), (1, .ref h1)]) ?_ _ ⟨0, fk, fb, fh, rfl, (by omega), hP, hD, hS, hl⟩
  intro n10 ih10 H locs ls hI
  obtain ⟨jk, ja, jb, jc, en10, v_100, hP, hD, hS, hl⟩ := hI
  refine lv_iload_n hx hb dX0_takeFrom_10 rfl (lv_at hl 0 rfl) ?_
  refine lv_iconst (v := zI 4) hx hb dX0_takeFrom_11 rfl ?_
  refine kz_icmp_ge (tgt := 57) hx hb dX0_takeFrom_12 (by decide) (by omega) (by omega) (fun c_1 => ?_) (fun c_1 => ?_)
  · have hP9 := hP.sub (ws' := [(h0, .inr (0, [.ref k1, .ref k2, .ref k3, .int (zI n2)])), (k1, .inl (ck1, 4, .inl ja)), (k2, .inl (ck2, 4, .inl jb)), (k3, .inl (ck3, 4, .inl jc)), (h1, .inr (0, [.ref m1, .ref m2, .ref m3, .int (zI n2)])), (m1, .inl (cm1, 4, .inl gk)), (m2, .inl (cm2, 4, .inl gb)), (m3, .inl (cm3, 4, .inl gh))]) [0, 1, 2, 3, 4, 5, 6, 7] rfl
    have hD9 := hD.sub (ws' := [(h0, .inr (0, [.ref k1, .ref k2, .ref k3, .int (zI n2)])), (k1, .inl (ck1, 4, .inl ja)), (k2, .inl (ck2, 4, .inl jb)), (k3, .inl (ck3, 4, .inl jc)), (h1, .inr (0, [.ref m1, .ref m2, .ref m3, .int (zI n2)])), (m1, .inl (cm1, 4, .inl gk)), (m2, .inl (cm2, 4, .inl gb)), (m3, .inl (cm3, 4, .inl gh))]) [0, 1, 2, 3, 4, 5, 6, 7] (by decide +kernel) rfl
    exact W.vret hx hb hr (fun t ht hW => kQV_of ⟨n2, ja, jb, jc, q0, by rw [ht]; exact hP9, hD9⟩ (hS.F ht)) hS.2.2 dX0_takeFrom_57
  · refine lv_aload_n hx hb dX0_takeFrom_15 rfl (lv_at hl 1 rfl) ?_
    refine va_get (D := D) (ci := 0) (v := .ref k1) (C := RX0) (T := TX0) (N := 4) hx hb hts (fun _ h9 => List.mem_cons_of_mem _ (List.mem_append_right _ h9)) hown hK hP 0 rfl rfl 0 (by decide) (hts (.fieldLink RX0 9 "FontRuns$FontRow" "kind" "[I") mw_X0_takeFrom_1) (fun _ h9 => h9) rfl dX0_takeFrom_16 ?_
    refine lv_iload_n hx hb dX0_takeFrom_19 rfl (lv_at hl 0 rfl) ?_
    refine lv_aload_n hx hb dX0_takeFrom_20 rfl (lv_at hl 2 rfl) ?_
    refine va_get (D := D) (ci := 0) (v := .ref m1) (C := RX0) (T := TX0) (N := 4) hx hb hts (fun _ h9 => List.mem_cons_of_mem _ (List.mem_append_right _ h9)) hown hK hP 4 rfl rfl 0 (by decide) (hts (.fieldLink RX0 9 "FontRuns$FontRow" "kind" "[I") mw_X0_takeFrom_1) (fun _ h9 => h9) rfl dX0_takeFrom_21 ?_
    refine lv_iload_n hx hb dX0_takeFrom_24 rfl (lv_at hl 0 rfl) ?_
    refine kz_iald hx hb hK hP 5 3 rfl rfl (by omega) dX0_takeFrom_25 (fun z_2 rz_2 ez_2 => ?_)
    refine kz_iast hx hb hK hP hD hS 1 0 rfl rfl (by omega) dX0_takeFrom_26 (fun H locs hP hD hS => ?_)
    have hP : va_P D vwCl [(h0, .inr (0, [.ref k1, .ref k2, .ref k3, .int (zI n2)])), (k1, .inl (ck1, 4, .inl (upd ja (jk).toNat (zI z_2)))), (k2, .inl (ck2, 4, .inl jb)), (k3, .inl (ck3, 4, .inl jc)), (h1, .inr (0, [.ref m1, .ref m2, .ref m3, .int (zI n2)])), (m1, .inl (cm1, 4, .inl gk)), (m2, .inl (cm2, 4, .inl gb)), (m3, .inl (cm3, 4, .inl gh))] H := hP
    have hD : va_D A [(h0, .inr (0, [.ref k1, .ref k2, .ref k3, .int (zI n2)])), (k1, .inl (ck1, 4, .inl (upd ja (jk).toNat (zI z_2)))), (k2, .inl (ck2, 4, .inl jb)), (k3, .inl (ck3, 4, .inl jc)), (h1, .inr (0, [.ref m1, .ref m2, .ref m3, .int (zI n2)])), (m1, .inl (cm1, 4, .inl gk)), (m2, .inl (cm2, 4, .inl gb)), (m3, .inl (cm3, 4, .inl gh))] := hD
    generalize ef_3 : upd ja (jk).toNat (zI z_2) = f_3 at hP hD
    refine lv_aload_n hx hb dX0_takeFrom_27 rfl (lv_at hl 1 rfl) ?_
    refine va_get (D := D) (ci := 0) (v := .ref k2) (C := RX0) (T := TX0) (N := 4) hx hb hts (fun _ h9 => List.mem_cons_of_mem _ (List.mem_append_right _ h9)) hown hK hP 0 rfl rfl 1 (by decide) (hts (.fieldLink RX0 15 "FontRuns$FontRow" "breadth" "[I") mw_X0_takeFrom_2) (fun _ h9 => h9) rfl dX0_takeFrom_28 ?_
    refine lv_iload_n hx hb dX0_takeFrom_31 rfl (lv_at hl 0 rfl) ?_
    refine lv_aload_n hx hb dX0_takeFrom_32 rfl (lv_at hl 2 rfl) ?_
    refine va_get (D := D) (ci := 0) (v := .ref m2) (C := RX0) (T := TX0) (N := 4) hx hb hts (fun _ h9 => List.mem_cons_of_mem _ (List.mem_append_right _ h9)) hown hK hP 4 rfl rfl 1 (by decide) (hts (.fieldLink RX0 15 "FontRuns$FontRow" "breadth" "[I") mw_X0_takeFrom_2) (fun _ h9 => h9) rfl dX0_takeFrom_33 ?_
    refine lv_iload_n hx hb dX0_takeFrom_36 rfl (lv_at hl 0 rfl) ?_
    refine kz_iald hx hb hK hP 6 4 rfl rfl (by omega) dX0_takeFrom_37 (fun z_4 rz_4 ez_4 => ?_)
    refine kz_iast hx hb hK hP hD hS 2 1 rfl rfl (by omega) dX0_takeFrom_38 (fun H locs hP hD hS => ?_)
    have hP : va_P D vwCl [(h0, .inr (0, [.ref k1, .ref k2, .ref k3, .int (zI n2)])), (k1, .inl (ck1, 4, .inl f_3)), (k2, .inl (ck2, 4, .inl (upd jb (jk).toNat (zI z_4)))), (k3, .inl (ck3, 4, .inl jc)), (h1, .inr (0, [.ref m1, .ref m2, .ref m3, .int (zI n2)])), (m1, .inl (cm1, 4, .inl gk)), (m2, .inl (cm2, 4, .inl gb)), (m3, .inl (cm3, 4, .inl gh))] H := hP
    have hD : va_D A [(h0, .inr (0, [.ref k1, .ref k2, .ref k3, .int (zI n2)])), (k1, .inl (ck1, 4, .inl f_3)), (k2, .inl (ck2, 4, .inl (upd jb (jk).toNat (zI z_4)))), (k3, .inl (ck3, 4, .inl jc)), (h1, .inr (0, [.ref m1, .ref m2, .ref m3, .int (zI n2)])), (m1, .inl (cm1, 4, .inl gk)), (m2, .inl (cm2, 4, .inl gb)), (m3, .inl (cm3, 4, .inl gh))] := hD
    generalize ef_5 : upd jb (jk).toNat (zI z_4) = f_5 at hP hD
    refine lv_aload_n hx hb dX0_takeFrom_39 rfl (lv_at hl 1 rfl) ?_
    refine va_get (D := D) (ci := 0) (v := .ref k3) (C := RX0) (T := TX0) (N := 4) hx hb hts (fun _ h9 => List.mem_cons_of_mem _ (List.mem_append_right _ h9)) hown hK hP 0 rfl rfl 2 (by decide) (hts (.fieldLink RX0 18 "FontRuns$FontRow" "has" "[I") mw_X0_takeFrom_3) (fun _ h9 => h9) rfl dX0_takeFrom_40 ?_
    refine lv_iload_n hx hb dX0_takeFrom_43 rfl (lv_at hl 0 rfl) ?_
    refine lv_aload_n hx hb dX0_takeFrom_44 rfl (lv_at hl 2 rfl) ?_
    refine va_get (D := D) (ci := 0) (v := .ref m3) (C := RX0) (T := TX0) (N := 4) hx hb hts (fun _ h9 => List.mem_cons_of_mem _ (List.mem_append_right _ h9)) hown hK hP 4 rfl rfl 2 (by decide) (hts (.fieldLink RX0 18 "FontRuns$FontRow" "has" "[I") mw_X0_takeFrom_3) (fun _ h9 => h9) rfl dX0_takeFrom_45 ?_
    refine lv_iload_n hx hb dX0_takeFrom_48 rfl (lv_at hl 0 rfl) ?_
    refine kz_iald hx hb hK hP 7 5 rfl rfl (by omega) dX0_takeFrom_49 (fun z_6 rz_6 ez_6 => ?_)
    refine kz_iast hx hb hK hP hD hS 3 2 rfl rfl (by omega) dX0_takeFrom_50 (fun H locs hP hD hS => ?_)
    have hP : va_P D vwCl [(h0, .inr (0, [.ref k1, .ref k2, .ref k3, .int (zI n2)])), (k1, .inl (ck1, 4, .inl f_3)), (k2, .inl (ck2, 4, .inl f_5)), (k3, .inl (ck3, 4, .inl (upd jc (jk).toNat (zI z_6)))), (h1, .inr (0, [.ref m1, .ref m2, .ref m3, .int (zI n2)])), (m1, .inl (cm1, 4, .inl gk)), (m2, .inl (cm2, 4, .inl gb)), (m3, .inl (cm3, 4, .inl gh))] H := hP
    have hD : va_D A [(h0, .inr (0, [.ref k1, .ref k2, .ref k3, .int (zI n2)])), (k1, .inl (ck1, 4, .inl f_3)), (k2, .inl (ck2, 4, .inl f_5)), (k3, .inl (ck3, 4, .inl (upd jc (jk).toNat (zI z_6)))), (h1, .inr (0, [.ref m1, .ref m2, .ref m3, .int (zI n2)])), (m1, .inl (cm1, 4, .inl gk)), (m2, .inl (cm2, 4, .inl gb)), (m3, .inl (cm3, 4, .inl gh))] := hD
    generalize ef_7 : upd jc (jk).toNat (zI z_6) = f_7 at hP hD
    refine lv_iinc (v := (zI (jk + 1))) (lv' := [(2, .int (zI (jk + 1))), (0, .ref h0), (1, .ref h1)]) hx hb dX0_takeFrom_51 hl (k := 0) rfl (kz_inc _ 1) (by decide) rfl (fun ls hl => ?_)
    refine lv_goto (tgt := 10) hx hb dX0_takeFrom_54 (by decide) ?_
    exact ih10 _ (by omega) _ _ _ ⟨(jk + 1), f_3, f_5, f_7, rfl, (by omega), hP, hD, hS, lv_sub hl [0, 1, 2] rfl⟩
theorem dX1_placeOf_0 : decode cX1_placeOf 0 = .ok (.iconst 0, 1) := by decide +kernel
theorem dX1_placeOf_1 : decode cX1_placeOf 1 = .ok (.istore_n 2, 1) := by decide +kernel
theorem dX1_placeOf_2 : decode cX1_placeOf 2 = .ok (.iload_n 2, 1) := by decide +kernel
theorem dX1_placeOf_3 : decode cX1_placeOf 3 = .ok (.aload_n 0, 1) := by decide +kernel
theorem dX1_placeOf_4 : decode cX1_placeOf 4 = .ok (.getfield 21, 3) := by decide +kernel
theorem dX1_placeOf_7 : decode cX1_placeOf 7 = .ok (.if_icmp .ge 21, 3) := by decide +kernel
theorem dX1_placeOf_10 : decode cX1_placeOf 10 = .ok (.aload_n 0, 1) := by decide +kernel
theorem dX1_placeOf_11 : decode cX1_placeOf 11 = .ok (.getfield 9, 3) := by decide +kernel
theorem dX1_placeOf_14 : decode cX1_placeOf 14 = .ok (.iload_n 2, 1) := by decide +kernel
theorem dX1_placeOf_15 : decode cX1_placeOf 15 = .ok (.iaload, 1) := by decide +kernel
theorem dX1_placeOf_16 : decode cX1_placeOf 16 = .ok (.iload_n 1, 1) := by decide +kernel
theorem dX1_placeOf_17 : decode cX1_placeOf 17 = .ok (.if_icmp .ne 5, 3) := by decide +kernel
theorem dX1_placeOf_20 : decode cX1_placeOf 20 = .ok (.iload_n 2, 1) := by decide +kernel
theorem dX1_placeOf_21 : decode cX1_placeOf 21 = .ok (.ireturn, 1) := by decide +kernel
theorem dX1_placeOf_22 : decode cX1_placeOf 22 = .ok (.iinc 2 1, 3) := by decide +kernel
theorem dX1_placeOf_25 : decode cX1_placeOf 25 = .ok (.goto (-23), 3) := by decide +kernel
theorem dX1_placeOf_28 : decode cX1_placeOf 28 = .ok (.bipush (-9), 2) := by decide +kernel
theorem dX1_placeOf_30 : decode cX1_placeOf 30 = .ok (.ireturn, 1) := by decide +kernel
set_option maxRecDepth 20000 in
theorem mw_X1_placeOf_0 : (.fieldLink RX1 21 "FontRuns$Preference" "count" "I" : Cond) ∈ wsX1_placeOf := List.mem_cons_of_mem _ (List.mem_append_left _ (List.mem_of_getElem? (i := 0) rfl))
set_option maxRecDepth 20000 in
theorem mw_X1_placeOf_1 : (.fieldLink RX1 9 "FontRuns$Preference" "row" "[I" : Cond) ∈ wsX1_placeOf := List.mem_cons_of_mem _ (List.mem_append_left _ (List.mem_of_getElem? (i := 1) rfl))
set_option maxHeartbeats 4000000 in
set_option maxRecDepth 100000 in
theorem c_X1_placeOf (l : Launch) (D : va_G) (sz : Nat) (f : Int) (h0 : Nat) (r1 : Nat) (n : Int) (cr1 : ClassId) (fr : Nat → Int32) (q0 : rg f) (q1 : 0 ≤ n ∧ n ≤ 4) (q2 : kPr fr) : Met l yX1_placeOf wsX1_placeOf ({ frames := 0, cells := 0, slots := 0, locals := 0 }) (kPre [.ref h0, .int (zI f)] D [(h0, .inr (1, [.ref r1, .int (zI n)])), (r1, .inl (cr1, 4, .inl fr))] [(cr1, .int)] sz) (QcP (fun rz => rz = -9 ∨ (0 ≤ rz ∧ rz ≤ n - 1 ∧ 0 ≤ f ∧ f ≤ 3))) 0 0 (fun _ => False) := by
  refine Met.ofW (cc := cX1_placeOf) (maxL := 3) (ret := (some .int)) (by decide) rfl ?_
  intro p e s m args below meth c s₁ B hml hv
  obtain ⟨rfl, hsz, hP, hK, hD0, hN⟩ := hv
  have hx := B.exec
  have hb := B.bytes
  have hr := B.returns
  have hts := atoms_spec (ws := wsX1_placeOf) B.pre
  have hown : s.vm.findClass RX1 = some m.cls := findClass_of_methodNamed B.named
  have hlocks := B.notSynchronized
  subst hsz
  have hD := hD0
  have hP : va_P D vwCl [(h0, .inr (1, [.ref r1, .int (zI n)])), (r1, .inl (cr1, 4, .inl fr))] s.heap := hP
  have hl := lv_entry ([.ref h0, .int (zI f)]) (n := 3) (Nat.le_of_ble_eq_true rfl)
  rw [lg_entry_eq]
  generalize (lg_sl ([.ref h0, .int (zI f)]) ++ List.replicate (3 - (lg_sl ([.ref h0, .int (zI f)])).length) Slot.unset).toArray = ls at hl ⊢
  have hl : lv_has ls 3 [(0, .ref h0), (1, .int (zI f))] := hl
  refine lv_iconst (v := zI 0) hx hb dX1_placeOf_0 rfl ?_
  refine lv_istore_n (lv' := [(2, .int (zI 0)), (0, .ref h0), (1, .int (zI f))]) hx hb dX1_placeOf_1 rfl hl (by decide) rfl (fun ls hl => ?_)
  refine k_loopM (I := fun n9 H locs ls => ∃ (jk : Int), n9 = (n - jk).toNat ∧ (0 ≤ jk ∧ jk ≤ n) ∧ H = s.heap ∧ locs = [] ∧ lv_has ls 3 [(2, .int (zI jk)), (0, .ref h0), (1, .int (zI f))]) ?_ _ ⟨0, rfl, (by omega), rfl, rfl, hl⟩
  intro n2 ih2 H locs ls hI
  obtain ⟨jk, en2, v_20, eH, eL, hl⟩ := hI
  subst eH
  subst eL
  refine lv_iload_n hx hb dX1_placeOf_2 rfl (lv_at hl 0 rfl) ?_
  refine lv_aload_n hx hb dX1_placeOf_3 rfl (lv_at hl 1 rfl) ?_
  refine va_get (D := D) (ci := 1) (v := .int (zI n)) (C := RX1) (T := TX1) (N := 2) hx hb hts (fun _ h9 => List.mem_cons_of_mem _ (List.mem_append_right _ h9)) hown hK hP 0 rfl rfl 1 (by decide) (hts (.fieldLink RX1 21 "FontRuns$Preference" "count" "I") mw_X1_placeOf_0) (fun _ h9 => h9) rfl dX1_placeOf_4 ?_
  refine kz_icmp_ge (tgt := 28) hx hb dX1_placeOf_7 (by decide) (by omega) (by omega) (fun c_1 => ?_) (fun c_1 => ?_)
  · refine lv_bipush (v := zI (-9)) hx hb dX1_placeOf_28 (by decide) ?_
    exact W.iret (v := (zI (-9))) hx hb hr (fun t ht hW => QcP_of (by omega) (by omega) ht) (fun _ h9 => by cases h9) dX1_placeOf_30
  · refine lv_aload_n hx hb dX1_placeOf_10 rfl (lv_at hl 1 rfl) ?_
    refine va_get (D := D) (ci := 1) (v := .ref r1) (C := RX1) (T := TX1) (N := 2) hx hb hts (fun _ h9 => List.mem_cons_of_mem _ (List.mem_append_right _ h9)) hown hK hP 0 rfl rfl 0 (by decide) (hts (.fieldLink RX1 9 "FontRuns$Preference" "row" "[I") mw_X1_placeOf_1) (fun _ h9 => h9) rfl dX1_placeOf_11 ?_
    refine lv_iload_n hx hb dX1_placeOf_14 rfl (lv_at hl 0 rfl) ?_
    refine kz_iald hx hb hK hP 1 0 rfl rfl (by omega) dX1_placeOf_15 (fun z_2 rz_2 ez_2 => ?_)
    have bz_2 := kPr_at q2 (by omega) rz_2 ez_2
    refine lv_iload_n hx hb dX1_placeOf_16 rfl (lv_at hl 2 rfl) ?_
    refine kz_icmp_ne (tgt := 22) hx hb dX1_placeOf_17 (by decide) (by omega) (by omega) (fun c_3 => ?_) (fun c_3 => ?_)
    · refine lv_iinc (v := (zI (jk + 1))) (lv' := [(2, .int (zI (jk + 1))), (0, .ref h0), (1, .int (zI f))]) hx hb dX1_placeOf_22 hl (k := 0) rfl (kz_inc _ 1) (by decide) rfl (fun ls hl => ?_)
      refine lv_goto (tgt := 2) hx hb dX1_placeOf_25 (by decide) ?_
      exact ih2 _ (by omega) _ _ _ ⟨(jk + 1), rfl, (by omega), rfl, rfl, lv_sub hl [0, 1, 2] rfl⟩
    · refine lv_iload_n hx hb dX1_placeOf_20 rfl (lv_at hl 0 rfl) ?_
      exact W.iret (v := (zI jk)) hx hb hr (fun t ht hW => QcP_of (by omega) (by omega) ht) (fun _ h9 => by cases h9) dX1_placeOf_21
theorem dX1_begin_0 : decode cX1_begin 0 = .ok (.aload_n 0, 1) := by decide +kernel
theorem dX1_begin_1 : decode cX1_begin 1 = .ok (.iload_n 1, 1) := by decide +kernel
theorem dX1_begin_2 : decode cX1_begin 2 = .ok (.iconst 4, 1) := by decide +kernel
theorem dX1_begin_3 : decode cX1_begin 3 = .ok (.invokestatic 15, 3) := by decide +kernel
theorem dX1_begin_6 : decode cX1_begin 6 = .ok (.putfield 21, 3) := by decide +kernel
theorem dX1_begin_9 : decode cX1_begin 9 = .ok (.iconst 0, 1) := by decide +kernel
theorem dX1_begin_10 : decode cX1_begin 10 = .ok (.istore_n 2, 1) := by decide +kernel
theorem dX1_begin_11 : decode cX1_begin 11 = .ok (.iload_n 2, 1) := by decide +kernel
theorem dX1_begin_12 : decode cX1_begin 12 = .ok (.aload_n 0, 1) := by decide +kernel
theorem dX1_begin_13 : decode cX1_begin 13 = .ok (.getfield 21, 3) := by decide +kernel
theorem dX1_begin_16 : decode cX1_begin 16 = .ok (.if_icmp .ge 16, 3) := by decide +kernel
theorem dX1_begin_19 : decode cX1_begin 19 = .ok (.aload_n 0, 1) := by decide +kernel
theorem dX1_begin_20 : decode cX1_begin 20 = .ok (.getfield 9, 3) := by decide +kernel
theorem dX1_begin_23 : decode cX1_begin 23 = .ok (.iload_n 2, 1) := by decide +kernel
theorem dX1_begin_24 : decode cX1_begin 24 = .ok (.iload_n 2, 1) := by decide +kernel
theorem dX1_begin_25 : decode cX1_begin 25 = .ok (.iastore, 1) := by decide +kernel
theorem dX1_begin_26 : decode cX1_begin 26 = .ok (.iinc 2 1, 3) := by decide +kernel
theorem dX1_begin_29 : decode cX1_begin 29 = .ok (.goto (-18), 3) := by decide +kernel
theorem dX1_begin_32 : decode cX1_begin 32 = .ok (.return_, 1) := by decide +kernel
set_option maxRecDepth 20000 in
theorem mw_X1_begin_0 : (.methodLink RX1 15 Lib.Math.min.name : Cond) ∈ wsX1_begin := List.mem_cons_of_mem _ (List.mem_append_left _ (List.mem_of_getElem? (i := 0) rfl))
set_option maxRecDepth 20000 in
theorem mw_X1_begin_1 : (.static Lib.Math.min.name : Cond) ∈ wsX1_begin := List.mem_cons_of_mem _ (List.mem_append_left _ (List.mem_of_getElem? (i := 1) rfl))
set_option maxRecDepth 20000 in
theorem mw_X1_begin_2 : (.initialized "java/lang/Math" : Cond) ∈ wsX1_begin := List.mem_cons_of_mem _ (List.mem_append_left _ (List.mem_of_getElem? (i := 2) rfl))
set_option maxRecDepth 20000 in
theorem mw_X1_begin_3 : (.code Lib.Math.min.name Lib.Math.min.code 2 (some .int) : Cond) ∈ wsX1_begin := List.mem_cons_of_mem _ (List.mem_append_left _ (List.mem_of_getElem? (i := 3) rfl))
set_option maxRecDepth 20000 in
theorem mw_X1_begin_4 : (.fieldLink RX1 21 "FontRuns$Preference" "count" "I" : Cond) ∈ wsX1_begin := List.mem_cons_of_mem _ (List.mem_append_left _ (List.mem_of_getElem? (i := 4) rfl))
set_option maxRecDepth 20000 in
theorem mw_X1_begin_5 : (.fieldLink RX1 9 "FontRuns$Preference" "row" "[I" : Cond) ∈ wsX1_begin := List.mem_cons_of_mem _ (List.mem_append_left _ (List.mem_of_getElem? (i := 5) rfl))
theorem ax_X1_begin_0 {e0 e1 : Nat × va_E} : ([0, 1] : List Nat).map (fun i => ([e0, e1] : va_W)[i]?) = ([e0, e1] : va_W).map some := rfl
set_option maxHeartbeats 4000000 in
set_option maxRecDepth 100000 in
theorem c_X1_begin (l : Launch) (D : va_G) (sz : Nat) (k : Int) (h0 : Nat) (r1 : Nat) (n : Int) (cr1 : ClassId) (fr : Nat → Int32) (q0 : rg k ∧ 0 ≤ k) (q1 : kPr fr) : Met l yX1_begin wsX1_begin ({ frames := 1, cells := 0, slots := 0, locals := 21 }) (kPre [.ref h0, .int (zI k)] D [(h0, .inr (1, [.ref r1, .int (zI n)])), (r1, .inl (cr1, 4, .inl fr))] [(cr1, .int)] sz) (kQV (fun t => ∃ (un : Int) (uf : Nat → Int32), (0 ≤ un ∧ un ≤ 4) ∧ (kPr uf) ∧ va_P D vwCl [(h0, .inr (1, [.ref r1, .int (zI un)])), (r1, .inl (cr1, 4, .inl uf))] t.heap ∧ va_D (va_A [(h0, .inr (1, [.ref r1, .int (zI n)])), (r1, .inl (cr1, 4, .inl fr))] sz) [(h0, .inr (1, [.ref r1, .int (zI un)])), (r1, .inl (cr1, 4, .inl uf))]) (va_A [(h0, .inr (1, [.ref r1, .int (zI n)])), (r1, .inl (cr1, 4, .inl fr))] sz)) 0 0 (va_A [(h0, .inr (1, [.ref r1, .int (zI n)])), (r1, .inl (cr1, 4, .inl fr))] sz) := by
  refine Met.ofW (cc := cX1_begin) (maxL := 3) (ret := none) (by decide) rfl ?_
  intro p e s m args below meth c s₁ B hml hv
  obtain ⟨rfl, hsz, hP, hK, hD0, hN⟩ := hv
  have hx := B.exec
  have hb := B.bytes
  have hr := B.returns
  have hts := atoms_spec (ws := wsX1_begin) B.pre
  have hown : s.vm.findClass RX1 = some m.cls := findClass_of_methodNamed B.named
  have hlocks := B.notSynchronized
  subst hsz
  have hD := hD0.self (sz := s.heap.size)
  generalize hAe : va_A [(h0, .inr (1, [.ref r1, .int (zI n)])), (r1, .inl (cr1, 4, .inl fr))] s.heap.size = A at hD ⊢
  have hA : ∀ q : Nat, s.heap.size ≤ q → A q := fun q h => by rw [← hAe]; exact Or.inr h
  have hS : va_S A s.heap s.heap [] := va_S.rf
  have hP : va_P D vwCl [(h0, .inr (1, [.ref r1, .int (zI n)])), (r1, .inl (cr1, 4, .inl fr))] s.heap := hP
  have hl := lv_entry ([.ref h0, .int (zI k)]) (n := 3) (Nat.le_of_ble_eq_true rfl)
  rw [lg_entry_eq]
  generalize (lg_sl ([.ref h0, .int (zI k)]) ++ List.replicate (3 - (lg_sl ([.ref h0, .int (zI k)])).length) Slot.unset).toArray = ls at hl ⊢
  have hl : lv_has ls 3 [(0, .ref h0), (1, .int (zI k))] := hl
  refine lv_aload_n hx hb dX1_begin_0 rfl (lv_at hl 0 rfl) ?_
  refine lv_iload_n hx hb dX1_begin_1 rfl (lv_at hl 1 rfl) ?_
  refine lv_iconst (v := zI 4) hx hb dX1_begin_2 rfl ?_
  refine kz_min hx hb (by rw [hml]; exact hl.1.symm) hown (hts (.methodLink RX1 15 Lib.Math.min.name) mw_X1_begin_0) (hts (.static Lib.Math.min.name) mw_X1_begin_1) (hts (.initialized "java/lang/Math") mw_X1_begin_2) (hts (.code Lib.Math.min.name Lib.Math.min.code 2 (some .int)) mw_X1_begin_3) (Nat.le_of_ble_eq_true rfl) (Nat.le_of_ble_eq_true rfl) (Nat.le_of_ble_eq_true rfl) (Nat.le_of_ble_eq_true rfl) (by omega) (by omega) dX1_begin_3 (fun z_1 rz_1 ez_1 => ?_)
  refine va_put (D := D) (ci := 1) (v := .int (zI z_1)) (ty := .int) (C := RX1) (T := TX1) (N := 2) hx hb hts (fun _ h9 => List.mem_cons_of_mem _ (List.mem_append_right _ h9)) tyX1 tyX1_ok nmX1 hown hK hP hD hS 0 rfl rfl 1 (by decide) (hts (.fieldLink RX1 21 "FontRuns$Preference" "count" "I") mw_X1_begin_4) (fun _ h9 => h9) rfl (by decide +kernel) rfl rfl (Nat.le_of_ble_eq_true rfl) dX1_begin_6 (fun H locs hP hD hS => ?_)
  have hP : va_P D vwCl [(h0, .inr (1, [.ref r1, .int (zI z_1)])), (r1, .inl (cr1, 4, .inl fr))] H := hP
  have hD : va_D A [(h0, .inr (1, [.ref r1, .int (zI z_1)])), (r1, .inl (cr1, 4, .inl fr))] := hD
  refine lv_iconst (v := zI 0) hx hb dX1_begin_9 rfl ?_
  refine lv_istore_n (lv' := [(2, .int (zI 0)), (0, .ref h0), (1, .int (zI k))]) hx hb dX1_begin_10 rfl hl (by decide) rfl (fun ls hl => ?_)
  refine k_loopM (I := fun n9 H locs ls => ∃ (jk : Int) (ja : Nat → Int32), n9 = (4 - jk).toNat ∧ (0 ≤ jk ∧ jk ≤ 4) ∧ (kPr ja) ∧ va_P D vwCl [(h0, .inr (1, [.ref r1, .int (zI z_1)])), (r1, .inl (cr1, 4, .inl ja))] H ∧ va_D A [(h0, .inr (1, [.ref r1, .int (zI z_1)])), (r1, .inl (cr1, 4, .inl ja))] ∧ va_S A s.heap H locs ∧ lv_has ls 3 [(2, .int (zI jk)), (0, .ref h0), (1, .int (zI k))]) ?_ _ ⟨0, fr, rfl, (by omega), q1, hP, hD, hS, hl⟩
  intro n11 ih11 H locs ls hI
  obtain ⟨jk, ja, en11, v_110, v_111, hP, hD, hS, hl⟩ := hI
  refine lv_iload_n hx hb dX1_begin_11 rfl (lv_at hl 0 rfl) ?_
  refine lv_aload_n hx hb dX1_begin_12 rfl (lv_at hl 1 rfl) ?_
  refine va_get (D := D) (ci := 1) (v := .int (zI z_1)) (C := RX1) (T := TX1) (N := 2) hx hb hts (fun _ h9 => List.mem_cons_of_mem _ (List.mem_append_right _ h9)) hown hK hP 0 rfl rfl 1 (by decide) (hts (.fieldLink RX1 21 "FontRuns$Preference" "count" "I") mw_X1_begin_4) (fun _ h9 => h9) rfl dX1_begin_13 ?_
  refine kz_icmp_ge (tgt := 32) hx hb dX1_begin_16 (by decide) (by omega) (by omega) (fun c_2 => ?_) (fun c_2 => ?_)
  · have hP9 := hP.sub (ws' := [(h0, .inr (1, [.ref r1, .int (zI z_1)])), (r1, .inl (cr1, 4, .inl ja))]) [0, 1] rfl
    have hD9 := hD.sub (ws' := [(h0, .inr (1, [.ref r1, .int (zI z_1)])), (r1, .inl (cr1, 4, .inl ja))]) [0, 1] (by decide +kernel) rfl
    exact W.vret hx hb hr (fun t ht hW => kQV_of ⟨z_1, ja, (by omega), v_111, by rw [ht]; exact hP9, hD9⟩ (hS.F ht)) hS.2.2 dX1_begin_32
  · refine lv_aload_n hx hb dX1_begin_19 rfl (lv_at hl 1 rfl) ?_
    refine va_get (D := D) (ci := 1) (v := .ref r1) (C := RX1) (T := TX1) (N := 2) hx hb hts (fun _ h9 => List.mem_cons_of_mem _ (List.mem_append_right _ h9)) hown hK hP 0 rfl rfl 0 (by decide) (hts (.fieldLink RX1 9 "FontRuns$Preference" "row" "[I") mw_X1_begin_5) (fun _ h9 => h9) rfl dX1_begin_20 ?_
    refine lv_iload_n hx hb dX1_begin_23 rfl (lv_at hl 0 rfl) ?_
    refine lv_iload_n hx hb dX1_begin_24 rfl (lv_at hl 0 rfl) ?_
    refine kz_iast hx hb hK hP hD hS 1 0 rfl rfl (by omega) dX1_begin_25 (fun H locs hP hD hS => ?_)
    have hP : va_P D vwCl [(h0, .inr (1, [.ref r1, .int (zI z_1)])), (r1, .inl (cr1, 4, .inl (upd ja (jk).toNat (zI jk))))] H := hP
    have hD : va_D A [(h0, .inr (1, [.ref r1, .int (zI z_1)])), (r1, .inl (cr1, 4, .inl (upd ja (jk).toNat (zI jk))))] := hD
    have k_4 : kPr (upd ja (jk).toNat (zI jk)) := kPr_upd v_111 (by omega) (by omega)
    generalize ef_3 : upd ja (jk).toNat (zI jk) = f_3 at hP hD k_4
    refine lv_iinc (v := (zI (jk + 1))) (lv' := [(2, .int (zI (jk + 1))), (0, .ref h0), (1, .int (zI k))]) hx hb dX1_begin_26 hl (k := 0) rfl (kz_inc _ 1) (by decide) rfl (fun ls hl => ?_)
    refine lv_goto (tgt := 11) hx hb dX1_begin_29 (by decide) ?_
    exact ih11 _ (by omega) _ _ _ ⟨(jk + 1), f_3, rfl, (by omega), k_4, hP, hD, hS, lv_sub hl [0, 1, 2] rfl⟩
theorem dX1_lead_0 : decode cX1_lead 0 = .ok (.aload_n 0, 1) := by decide +kernel
theorem dX1_lead_1 : decode cX1_lead 1 = .ok (.iload_n 1, 1) := by decide +kernel
theorem dX1_lead_2 : decode cX1_lead 2 = .ok (.invokevirtual 25, 3) := by decide +kernel
theorem dX1_lead_5 : decode cX1_lead 5 = .ok (.istore_n 2, 1) := by decide +kernel
theorem dX1_lead_6 : decode cX1_lead 6 = .ok (.iload_n 2, 1) := by decide +kernel
theorem dX1_lead_7 : decode cX1_lead 7 = .ok (.bipush (-9), 2) := by decide +kernel
theorem dX1_lead_9 : decode cX1_lead 9 = .ok (.if_icmp .ne 5, 3) := by decide +kernel
theorem dX1_lead_12 : decode cX1_lead 12 = .ok (.iconst 0, 1) := by decide +kernel
theorem dX1_lead_13 : decode cX1_lead 13 = .ok (.ireturn, 1) := by decide +kernel
theorem dX1_lead_14 : decode cX1_lead 14 = .ok (.iload_n 2, 1) := by decide +kernel
theorem dX1_lead_15 : decode cX1_lead 15 = .ok (.istore_n 3, 1) := by decide +kernel
theorem dX1_lead_16 : decode cX1_lead 16 = .ok (.iload_n 3, 1) := by decide +kernel
theorem dX1_lead_17 : decode cX1_lead 17 = .ok (.ifCond .le 23, 3) := by decide +kernel
theorem dX1_lead_20 : decode cX1_lead 20 = .ok (.aload_n 0, 1) := by decide +kernel
theorem dX1_lead_21 : decode cX1_lead 21 = .ok (.getfield 9, 3) := by decide +kernel
theorem dX1_lead_24 : decode cX1_lead 24 = .ok (.iload_n 3, 1) := by decide +kernel
theorem dX1_lead_25 : decode cX1_lead 25 = .ok (.aload_n 0, 1) := by decide +kernel
theorem dX1_lead_26 : decode cX1_lead 26 = .ok (.getfield 9, 3) := by decide +kernel
theorem dX1_lead_29 : decode cX1_lead 29 = .ok (.iload_n 3, 1) := by decide +kernel
theorem dX1_lead_30 : decode cX1_lead 30 = .ok (.iconst 1, 1) := by decide +kernel
theorem dX1_lead_31 : decode cX1_lead 31 = .ok (.isub, 1) := by decide +kernel
theorem dX1_lead_32 : decode cX1_lead 32 = .ok (.iaload, 1) := by decide +kernel
theorem dX1_lead_33 : decode cX1_lead 33 = .ok (.iastore, 1) := by decide +kernel
theorem dX1_lead_34 : decode cX1_lead 34 = .ok (.iinc 3 (-1), 3) := by decide +kernel
theorem dX1_lead_37 : decode cX1_lead 37 = .ok (.goto (-21), 3) := by decide +kernel
theorem dX1_lead_40 : decode cX1_lead 40 = .ok (.aload_n 0, 1) := by decide +kernel
theorem dX1_lead_41 : decode cX1_lead 41 = .ok (.getfield 9, 3) := by decide +kernel
theorem dX1_lead_44 : decode cX1_lead 44 = .ok (.iconst 0, 1) := by decide +kernel
theorem dX1_lead_45 : decode cX1_lead 45 = .ok (.iload_n 1, 1) := by decide +kernel
theorem dX1_lead_46 : decode cX1_lead 46 = .ok (.iastore, 1) := by decide +kernel
theorem dX1_lead_47 : decode cX1_lead 47 = .ok (.iconst 1, 1) := by decide +kernel
theorem dX1_lead_48 : decode cX1_lead 48 = .ok (.ireturn, 1) := by decide +kernel
set_option maxRecDepth 20000 in
theorem ggX1_lead_X1_placeOf : GoodIn wsX1_lead wsX1_placeOf := goodIn_4 _ (List.forall_mem_cons.mpr ⟨List.mem_cons_of_mem _ (List.mem_append_left _ (List.mem_of_getElem? (i := 5) rfl)), List.forall_mem_append.mpr ⟨List.forall_mem_cons.mpr ⟨List.mem_cons_of_mem _ (List.mem_append_left _ (List.mem_of_getElem? (i := 6) rfl)), List.forall_mem_cons.mpr ⟨List.mem_cons_of_mem _ (List.mem_append_left _ (List.mem_of_getElem? (i := 0) rfl)), fun _ h9 => absurd h9 List.not_mem_nil⟩⟩, fun w h9 => List.mem_cons_of_mem _ (List.mem_append_right _ (h9))⟩⟩) (by decide +kernel)
set_option maxRecDepth 20000 in
theorem gX1_lead_X1_placeOf : GoodIn wsX1_lead (wsV RX1 25 RX1 yX1_placeOf wsX1_placeOf) := goodIn_app (goodIn_4 _ (List.forall_mem_cons.mpr ⟨List.mem_cons_of_mem _ (List.mem_append_left _ (List.mem_of_getElem? (i := 1) rfl)), List.forall_mem_cons.mpr ⟨List.mem_cons_of_mem _ (List.mem_append_left _ (List.mem_of_getElem? (i := 2) rfl)), List.forall_mem_cons.mpr ⟨List.mem_cons_of_mem _ (List.mem_append_left _ (List.mem_of_getElem? (i := 3) rfl)), List.forall_mem_cons.mpr ⟨List.mem_cons_of_mem _ (List.mem_append_left _ (List.mem_of_getElem? (i := 4) rfl)), fun _ h9 => absurd h9 List.not_mem_nil⟩⟩⟩⟩) (by decide +kernel)) ggX1_lead_X1_placeOf
set_option maxRecDepth 20000 in
theorem mw_X1_lead_0 : (.fieldLink RX1 9 "FontRuns$Preference" "row" "[I" : Cond) ∈ wsX1_lead := List.mem_cons_of_mem _ (List.mem_append_left _ (List.mem_of_getElem? (i := 0) rfl))
theorem ax_X1_lead_0 {e0 e1 : Nat × va_E} : ([0, 1] : List Nat).map (fun i => ([e0, e1] : va_W)[i]?) = ([e0, e1] : va_W).map some := rfl
set_option maxHeartbeats 4000000 in
set_option maxRecDepth 100000 in
theorem c_X1_lead (l : Launch) (D : va_G) (sz : Nat) (f : Int) (h0 : Nat) (r1 : Nat) (n : Int) (cr1 : ClassId) (fr : Nat → Int32) (q0 : rg f) (q1 : 0 ≤ n ∧ n ≤ 4) (q2 : kPr fr) : Met l yX1_lead wsX1_lead ({ frames := 1, cells := 0, slots := 0, locals := 22 }) (kPre [.ref h0, .int (zI f)] D [(h0, .inr (1, [.ref r1, .int (zI n)])), (r1, .inl (cr1, 4, .inl fr))] [(cr1, .int)] sz) (kQS (fun rz t => ∃ (uf : Nat → Int32), (kPr uf) ∧ (rz = 0 ∨ rz = 1) ∧ va_P D vwCl [(h0, .inr (1, [.ref r1, .int (zI n)])), (r1, .inl (cr1, 4, .inl uf))] t.heap ∧ va_D (va_A [(h0, .inr (1, [.ref r1, .int (zI n)])), (r1, .inl (cr1, 4, .inl fr))] sz) [(h0, .inr (1, [.ref r1, .int (zI n)])), (r1, .inl (cr1, 4, .inl uf))]) (va_A [(h0, .inr (1, [.ref r1, .int (zI n)])), (r1, .inl (cr1, 4, .inl fr))] sz)) 0 0 (va_A [(h0, .inr (1, [.ref r1, .int (zI n)])), (r1, .inl (cr1, 4, .inl fr))] sz) := by
  refine Met.ofW (cc := cX1_lead) (maxL := 4) (ret := (some .boolean)) (by decide) rfl ?_
  intro p e s m args below meth c s₁ B hml hv
  obtain ⟨rfl, hsz, hP, hK, hD0, hN⟩ := hv
  have hx := B.exec
  have hb := B.bytes
  have hr := B.returns
  have hts := atoms_spec (ws := wsX1_lead) B.pre
  have hown : s.vm.findClass RX1 = some m.cls := findClass_of_methodNamed B.named
  have hlocks := B.notSynchronized
  subst hsz
  have hD := hD0.self (sz := s.heap.size)
  generalize hAe : va_A [(h0, .inr (1, [.ref r1, .int (zI n)])), (r1, .inl (cr1, 4, .inl fr))] s.heap.size = A at hD ⊢
  have hA : ∀ q : Nat, s.heap.size ≤ q → A q := fun q h => by rw [← hAe]; exact Or.inr h
  have hS : va_S A s.heap s.heap [] := va_S.rf
  have hP : va_P D vwCl [(h0, .inr (1, [.ref r1, .int (zI n)])), (r1, .inl (cr1, 4, .inl fr))] s.heap := hP
  have hl := lv_entry ([.ref h0, .int (zI f)]) (n := 4) (Nat.le_of_ble_eq_true rfl)
  rw [lg_entry_eq]
  generalize (lg_sl ([.ref h0, .int (zI f)]) ++ List.replicate (4 - (lg_sl ([.ref h0, .int (zI f)])).length) Slot.unset).toArray = ls at hl ⊢
  have hl : lv_has ls 4 [(0, .ref h0), (1, .int (zI f))] := hl
  refine lv_aload_n hx hb dX1_lead_0 rfl (lv_at hl 0 rfl) ?_
  refine lv_iload_n hx hb dX1_lead_1 rfl (lv_at hl 1 rfl) ?_
  refine k_callP (va_runV (As := [.int (zI f)]) (rest := []) ⟨hx, hb, hml, hown, hts⟩ (c_X1_placeOf l D s.heap.size (f := f) (h0 := h0) (r1 := r1) (n := n) (cr1 := cr1) (fr := fr) q0 q1 q2) (cwV 1 hts gX1_lead_X1_placeOf rfl rfl rfl (by decide +kernel) ⟨Nat.le_of_ble_eq_true rfl, Nat.le_of_ble_eq_true rfl⟩) (kPreV hP (kD0 hD) hK hN [0, 1] [0] ax_X1_lead_0 rfl (by decide +kernel) 0 1 rfl rfl) rfl rfl hl.1 rfl (lv_room (Nat.le_of_ble_eq_true rfl)) dX1_lead_2 ⟨Nat.le_of_ble_eq_true rfl, Nat.le_of_ble_eq_true rfl⟩) (fun z_1 rz_1 h_2 => ?_)
  refine lv_istore_n (lv' := [(2, .int (zI z_1)), (0, .ref h0), (1, .int (zI f))]) hx hb dX1_lead_5 rfl hl (by decide) rfl (fun ls hl => ?_)
  refine lv_iload_n hx hb dX1_lead_6 rfl (lv_at hl 0 rfl) ?_
  refine lv_bipush (v := zI (-9)) hx hb dX1_lead_7 (by decide) ?_
  refine kz_icmp_ne (tgt := 14) hx hb dX1_lead_9 (by decide) (by omega) (by omega) (fun c_3 => ?_) (fun c_3 => ?_)
  · refine lv_iload_n hx hb dX1_lead_14 rfl (lv_at hl 0 rfl) ?_
    refine lv_istore_n (lv' := [(3, .int (zI z_1)), (2, .int (zI z_1)), (0, .ref h0), (1, .int (zI f))]) hx hb dX1_lead_15 rfl hl (by decide) rfl (fun ls hl => ?_)
    refine k_loopM (I := fun n9 H locs ls => ∃ (jk : Int) (ja : Nat → Int32), n9 = (jk).toNat ∧ (0 ≤ jk ∧ jk ≤ 3) ∧ (kPr ja) ∧ va_P D vwCl [(h0, .inr (1, [.ref r1, .int (zI n)])), (r1, .inl (cr1, 4, .inl ja))] H ∧ va_D A [(h0, .inr (1, [.ref r1, .int (zI n)])), (r1, .inl (cr1, 4, .inl ja))] ∧ va_S A s.heap H locs ∧ lv_has ls 4 [(3, .int (zI jk)), (2, .int (zI z_1)), (0, .ref h0), (1, .int (zI f))]) ?_ _ ⟨z_1, fr, rfl, (by omega), q2, hP, hD, hS, hl⟩
    intro n16 ih16 H locs ls hI
    obtain ⟨jk, ja, en16, v_160, v_161, hP, hD, hS, hl⟩ := hI
    refine lv_iload_n hx hb dX1_lead_16 rfl (lv_at hl 0 rfl) ?_
    refine kz_if_le (tgt := 40) hx hb dX1_lead_17 (by decide) (by omega) (fun c_4 => ?_) (fun c_4 => ?_)
    · refine lv_aload_n hx hb dX1_lead_40 rfl (lv_at hl 2 rfl) ?_
      refine va_get (D := D) (ci := 1) (v := .ref r1) (C := RX1) (T := TX1) (N := 2) hx hb hts (fun _ h9 => List.mem_cons_of_mem _ (List.mem_append_right _ h9)) hown hK hP 0 rfl rfl 0 (by decide) (hts (.fieldLink RX1 9 "FontRuns$Preference" "row" "[I") mw_X1_lead_0) (fun _ h9 => h9) rfl dX1_lead_41 ?_
      refine lv_iconst (v := zI 0) hx hb dX1_lead_44 rfl ?_
      refine lv_iload_n hx hb dX1_lead_45 rfl (lv_at hl 3 rfl) ?_
      refine kz_iast hx hb hK hP hD hS 1 0 rfl rfl (by omega) dX1_lead_46 (fun H locs hP hD hS => ?_)
      have hP : va_P D vwCl [(h0, .inr (1, [.ref r1, .int (zI n)])), (r1, .inl (cr1, 4, .inl (upd ja (0 : Int).toNat (zI f))))] H := hP
      have hD : va_D A [(h0, .inr (1, [.ref r1, .int (zI n)])), (r1, .inl (cr1, 4, .inl (upd ja (0 : Int).toNat (zI f))))] := hD
      have k_6 : kPr (upd ja (0 : Int).toNat (zI f)) := kPr_upd v_161 (by omega) (by omega)
      generalize ef_5 : upd ja (0 : Int).toNat (zI f) = f_5 at hP hD k_6
      refine lv_iconst (v := zI 1) hx hb dX1_lead_47 rfl ?_
      have hP9 := hP.sub (ws' := [(h0, .inr (1, [.ref r1, .int (zI n)])), (r1, .inl (cr1, 4, .inl f_5))]) [0, 1] rfl
      have hD9 := hD.sub (ws' := [(h0, .inr (1, [.ref r1, .int (zI n)])), (r1, .inl (cr1, 4, .inl f_5))]) [0, 1] (by decide +kernel) rfl
      exact W.zret (v := (zI 1)) hx hb hr rfl (fun t ht hW => kQS_of (by omega) ⟨f_5, k_6, (by omega), by rw [ht]; exact hP9, hD9⟩ (hS.F ht)) hS.2.2 dX1_lead_48
    · refine lv_aload_n hx hb dX1_lead_20 rfl (lv_at hl 2 rfl) ?_
      refine va_get (D := D) (ci := 1) (v := .ref r1) (C := RX1) (T := TX1) (N := 2) hx hb hts (fun _ h9 => List.mem_cons_of_mem _ (List.mem_append_right _ h9)) hown hK hP 0 rfl rfl 0 (by decide) (hts (.fieldLink RX1 9 "FontRuns$Preference" "row" "[I") mw_X1_lead_0) (fun _ h9 => h9) rfl dX1_lead_21 ?_
      refine lv_iload_n hx hb dX1_lead_24 rfl (lv_at hl 0 rfl) ?_
      refine lv_aload_n hx hb dX1_lead_25 rfl (lv_at hl 2 rfl) ?_
      refine va_get (D := D) (ci := 1) (v := .ref r1) (C := RX1) (T := TX1) (N := 2) hx hb hts (fun _ h9 => List.mem_cons_of_mem _ (List.mem_append_right _ h9)) hown hK hP 0 rfl rfl 0 (by decide) (hts (.fieldLink RX1 9 "FontRuns$Preference" "row" "[I") mw_X1_lead_0) (fun _ h9 => h9) rfl dX1_lead_26 ?_
      refine lv_iload_n hx hb dX1_lead_29 rfl (lv_at hl 0 rfl) ?_
      refine lv_iconst (v := zI 1) hx hb dX1_lead_30 rfl ?_
      refine kz_isub hx hb dX1_lead_31 ?_
      refine kz_iald hx hb hK hP 1 0 rfl rfl (by omega) dX1_lead_32 (fun z_7 rz_7 ez_7 => ?_)
      have bz_7 := kPr_at v_161 (by omega) rz_7 ez_7
      refine kz_iast hx hb hK hP hD hS 1 0 rfl rfl (by omega) dX1_lead_33 (fun H locs hP hD hS => ?_)
      have hP : va_P D vwCl [(h0, .inr (1, [.ref r1, .int (zI n)])), (r1, .inl (cr1, 4, .inl (upd ja (jk).toNat (zI z_7))))] H := hP
      have hD : va_D A [(h0, .inr (1, [.ref r1, .int (zI n)])), (r1, .inl (cr1, 4, .inl (upd ja (jk).toNat (zI z_7))))] := hD
      have k_9 : kPr (upd ja (jk).toNat (zI z_7)) := kPr_upd v_161 (by omega) (by omega)
      generalize ef_8 : upd ja (jk).toNat (zI z_7) = f_8 at hP hD k_9
      refine lv_iinc (v := (zI (jk - 1))) (lv' := [(3, .int (zI (jk - 1))), (2, .int (zI z_1)), (0, .ref h0), (1, .int (zI f))]) hx hb dX1_lead_34 hl (k := 0) rfl (kz_dec _ 1) (by decide) rfl (fun ls hl => ?_)
      refine lv_goto (tgt := 16) hx hb dX1_lead_37 (by decide) ?_
      exact ih16 _ (by omega) _ _ _ ⟨(jk - 1), f_8, rfl, (by omega), k_9, hP, hD, hS, lv_sub hl [0, 1, 2, 3] rfl⟩
  · refine lv_iconst (v := zI 0) hx hb dX1_lead_12 rfl ?_
    have hP9 := hP.sub (ws' := [(h0, .inr (1, [.ref r1, .int (zI n)])), (r1, .inl (cr1, 4, .inl fr))]) [0, 1] rfl
    have hD9 := hD.sub (ws' := [(h0, .inr (1, [.ref r1, .int (zI n)])), (r1, .inl (cr1, 4, .inl fr))]) [0, 1] (by decide +kernel) rfl
    exact W.zret (v := (zI 0)) hx hb hr rfl (fun t ht hW => kQS_of (by omega) ⟨fr, q2, (by omega), by rw [ht]; exact hP9, hD9⟩ (hS.F ht)) hS.2.2 dX1_lead_13
theorem dX1_takeFrom_0 : decode cX1_takeFrom 0 = .ok (.aload_n 0, 1) := by decide +kernel
theorem dX1_takeFrom_1 : decode cX1_takeFrom 1 = .ok (.aload_n 1, 1) := by decide +kernel
theorem dX1_takeFrom_2 : decode cX1_takeFrom 2 = .ok (.getfield 21, 3) := by decide +kernel
theorem dX1_takeFrom_5 : decode cX1_takeFrom 5 = .ok (.putfield 21, 3) := by decide +kernel
theorem dX1_takeFrom_8 : decode cX1_takeFrom 8 = .ok (.iconst 0, 1) := by decide +kernel
theorem dX1_takeFrom_9 : decode cX1_takeFrom 9 = .ok (.istore_n 2, 1) := by decide +kernel
theorem dX1_takeFrom_10 : decode cX1_takeFrom 10 = .ok (.iload_n 2, 1) := by decide +kernel
theorem dX1_takeFrom_11 : decode cX1_takeFrom 11 = .ok (.iconst 4, 1) := by decide +kernel
theorem dX1_takeFrom_12 : decode cX1_takeFrom 12 = .ok (.if_icmp .ge 21, 3) := by decide +kernel
theorem dX1_takeFrom_15 : decode cX1_takeFrom 15 = .ok (.aload_n 0, 1) := by decide +kernel
theorem dX1_takeFrom_16 : decode cX1_takeFrom 16 = .ok (.getfield 9, 3) := by decide +kernel
theorem dX1_takeFrom_19 : decode cX1_takeFrom 19 = .ok (.iload_n 2, 1) := by decide +kernel
theorem dX1_takeFrom_20 : decode cX1_takeFrom 20 = .ok (.aload_n 1, 1) := by decide +kernel
theorem dX1_takeFrom_21 : decode cX1_takeFrom 21 = .ok (.getfield 9, 3) := by decide +kernel
theorem dX1_takeFrom_24 : decode cX1_takeFrom 24 = .ok (.iload_n 2, 1) := by decide +kernel
theorem dX1_takeFrom_25 : decode cX1_takeFrom 25 = .ok (.iaload, 1) := by decide +kernel
theorem dX1_takeFrom_26 : decode cX1_takeFrom 26 = .ok (.iastore, 1) := by decide +kernel
theorem dX1_takeFrom_27 : decode cX1_takeFrom 27 = .ok (.iinc 2 1, 3) := by decide +kernel
theorem dX1_takeFrom_30 : decode cX1_takeFrom 30 = .ok (.goto (-20), 3) := by decide +kernel
theorem dX1_takeFrom_33 : decode cX1_takeFrom 33 = .ok (.return_, 1) := by decide +kernel
set_option maxRecDepth 20000 in
theorem mw_X1_takeFrom_0 : (.fieldLink RX1 21 "FontRuns$Preference" "count" "I" : Cond) ∈ wsX1_takeFrom := List.mem_cons_of_mem _ (List.mem_append_left _ (List.mem_of_getElem? (i := 0) rfl))
set_option maxRecDepth 20000 in
theorem mw_X1_takeFrom_1 : (.fieldLink RX1 9 "FontRuns$Preference" "row" "[I" : Cond) ∈ wsX1_takeFrom := List.mem_cons_of_mem _ (List.mem_append_left _ (List.mem_of_getElem? (i := 1) rfl))
theorem ax_X1_takeFrom_0 {e0 e1 e2 e3 : Nat × va_E} : ([0, 1, 2, 3] : List Nat).map (fun i => ([e0, e1, e2, e3] : va_W)[i]?) = ([e0, e1, e2, e3] : va_W).map some := rfl
set_option maxHeartbeats 4000000 in
set_option maxRecDepth 100000 in
theorem c_X1_takeFrom (l : Launch) (D : va_G) (sz : Nat) (h1 : Nat) (h0 : Nat) (r1 : Nat) (n : Int) (cr1 : ClassId) (fr : Nat → Int32) (r2 : Nat) (n2 : Int) (cr2 : ClassId) (fr2 : Nat → Int32) (q0 : 0 ≤ n2 ∧ n2 ≤ 4) (q1 : kPr fr) (q2 : kPr fr2) : Met l yX1_takeFrom wsX1_takeFrom ({ frames := 0, cells := 0, slots := 0, locals := 0 }) (kPre [.ref h0, .ref h1] D [(h0, .inr (1, [.ref r1, .int (zI n)])), (r1, .inl (cr1, 4, .inl fr)), (h1, .inr (1, [.ref r2, .int (zI n2)])), (r2, .inl (cr2, 4, .inl fr2))] [(cr1, .int), (cr2, .int)] sz) (kQV (fun t => ∃ (un : Int) (uf : Nat → Int32), (0 ≤ un ∧ un ≤ 4) ∧ (kPr uf) ∧ va_P D vwCl [(h0, .inr (1, [.ref r1, .int (zI un)])), (r1, .inl (cr1, 4, .inl uf)), (h1, .inr (1, [.ref r2, .int (zI n2)])), (r2, .inl (cr2, 4, .inl fr2))] t.heap ∧ va_D (va_A [(h0, .inr (1, [.ref r1, .int (zI n)])), (r1, .inl (cr1, 4, .inl fr)), (h1, .inr (1, [.ref r2, .int (zI n2)])), (r2, .inl (cr2, 4, .inl fr2))] sz) [(h0, .inr (1, [.ref r1, .int (zI un)])), (r1, .inl (cr1, 4, .inl uf)), (h1, .inr (1, [.ref r2, .int (zI n2)])), (r2, .inl (cr2, 4, .inl fr2))]) (va_A [(h0, .inr (1, [.ref r1, .int (zI n)])), (r1, .inl (cr1, 4, .inl fr)), (h1, .inr (1, [.ref r2, .int (zI n2)])), (r2, .inl (cr2, 4, .inl fr2))] sz)) 0 0 (va_A [(h0, .inr (1, [.ref r1, .int (zI n)])), (r1, .inl (cr1, 4, .inl fr)), (h1, .inr (1, [.ref r2, .int (zI n2)])), (r2, .inl (cr2, 4, .inl fr2))] sz) := by
  refine Met.ofW (cc := cX1_takeFrom) (maxL := 3) (ret := none) (by decide) rfl ?_
  intro p e s m args below meth c s₁ B hml hv
  obtain ⟨rfl, hsz, hP, hK, hD0, hN⟩ := hv
  have hx := B.exec
  have hb := B.bytes
  have hr := B.returns
  have hts := atoms_spec (ws := wsX1_takeFrom) B.pre
  have hown : s.vm.findClass RX1 = some m.cls := findClass_of_methodNamed B.named
  have hlocks := B.notSynchronized
  subst hsz
  have hD := hD0.self (sz := s.heap.size)
  generalize hAe : va_A [(h0, .inr (1, [.ref r1, .int (zI n)])), (r1, .inl (cr1, 4, .inl fr)), (h1, .inr (1, [.ref r2, .int (zI n2)])), (r2, .inl (cr2, 4, .inl fr2))] s.heap.size = A at hD ⊢
  have hA : ∀ q : Nat, s.heap.size ≤ q → A q := fun q h => by rw [← hAe]; exact Or.inr h
  have hS : va_S A s.heap s.heap [] := va_S.rf
  have hP : va_P D vwCl [(h0, .inr (1, [.ref r1, .int (zI n)])), (r1, .inl (cr1, 4, .inl fr)), (h1, .inr (1, [.ref r2, .int (zI n2)])), (r2, .inl (cr2, 4, .inl fr2))] s.heap := hP
  have hl := lv_entry ([.ref h0, .ref h1]) (n := 3) (Nat.le_of_ble_eq_true rfl)
  rw [lg_entry_eq]
  generalize (lg_sl ([.ref h0, .ref h1]) ++ List.replicate (3 - (lg_sl ([.ref h0, .ref h1])).length) Slot.unset).toArray = ls at hl ⊢
  have hl : lv_has ls 3 [(0, .ref h0), (1, .ref h1)] := hl
  refine lv_aload_n hx hb dX1_takeFrom_0 rfl (lv_at hl 0 rfl) ?_
  refine lv_aload_n hx hb dX1_takeFrom_1 rfl (lv_at hl 1 rfl) ?_
  refine va_get (D := D) (ci := 1) (v := .int (zI n2)) (C := RX1) (T := TX1) (N := 2) hx hb hts (fun _ h9 => List.mem_cons_of_mem _ (List.mem_append_right _ h9)) hown hK hP 2 rfl rfl 1 (by decide) (hts (.fieldLink RX1 21 "FontRuns$Preference" "count" "I") mw_X1_takeFrom_0) (fun _ h9 => h9) rfl dX1_takeFrom_2 ?_
  refine va_put (D := D) (ci := 1) (v := .int (zI n2)) (ty := .int) (C := RX1) (T := TX1) (N := 2) hx hb hts (fun _ h9 => List.mem_cons_of_mem _ (List.mem_append_right _ h9)) tyX1 tyX1_ok nmX1 hown hK hP hD hS 0 rfl rfl 1 (by decide) (hts (.fieldLink RX1 21 "FontRuns$Preference" "count" "I") mw_X1_takeFrom_0) (fun _ h9 => h9) rfl (by decide +kernel) rfl rfl (Nat.le_of_ble_eq_true rfl) dX1_takeFrom_5 (fun H locs hP hD hS => ?_)
  have hP : va_P D vwCl [(h0, .inr (1, [.ref r1, .int (zI n2)])), (r1, .inl (cr1, 4, .inl fr)), (h1, .inr (1, [.ref r2, .int (zI n2)])), (r2, .inl (cr2, 4, .inl fr2))] H := hP
  have hD : va_D A [(h0, .inr (1, [.ref r1, .int (zI n2)])), (r1, .inl (cr1, 4, .inl fr)), (h1, .inr (1, [.ref r2, .int (zI n2)])), (r2, .inl (cr2, 4, .inl fr2))] := hD
  refine lv_iconst (v := zI 0) hx hb dX1_takeFrom_8 rfl ?_
  refine lv_istore_n (lv' := [(2, .int (zI 0)), (0, .ref h0), (1, .ref h1)]) hx hb dX1_takeFrom_9 rfl hl (by decide) rfl (fun ls hl => ?_)
  refine k_loopM (I := fun n9 H locs ls => ∃ (jk : Int) (ja : Nat → Int32), n9 = (4 - jk).toNat ∧ (0 ≤ jk ∧ jk ≤ 4) ∧ (kPr ja) ∧ va_P D vwCl [(h0, .inr (1, [.ref r1, .int (zI n2)])), (r1, .inl (cr1, 4, .inl ja)), (h1, .inr (1, [.ref r2, .int (zI n2)])), (r2, .inl (cr2, 4, .inl fr2))] H ∧ va_D A [(h0, .inr (1, [.ref r1, .int (zI n2)])), (r1, .inl (cr1, 4, .inl ja)), (h1, .inr (1, [.ref r2, .int (zI n2)])), (r2, .inl (cr2, 4, .inl fr2))] ∧ va_S A s.heap H locs ∧ lv_has ls 3 [(2, .int (zI jk)), (0, .ref h0), (1, .ref h1)]) ?_ _ ⟨0, fr, rfl, (by omega), q1, hP, hD, hS, hl⟩
  intro n10 ih10 H locs ls hI
  obtain ⟨jk, ja, en10, v_100, v_101, hP, hD, hS, hl⟩ := hI
  refine lv_iload_n hx hb dX1_takeFrom_10 rfl (lv_at hl 0 rfl) ?_
  refine lv_iconst (v := zI 4) hx hb dX1_takeFrom_11 rfl ?_
  refine kz_icmp_ge (tgt := 33) hx hb dX1_takeFrom_12 (by decide) (by omega) (by omega) (fun c_1 => ?_) (fun c_1 => ?_)
  · have hP9 := hP.sub (ws' := [(h0, .inr (1, [.ref r1, .int (zI n2)])), (r1, .inl (cr1, 4, .inl ja)), (h1, .inr (1, [.ref r2, .int (zI n2)])), (r2, .inl (cr2, 4, .inl fr2))]) [0, 1, 2, 3] rfl
    have hD9 := hD.sub (ws' := [(h0, .inr (1, [.ref r1, .int (zI n2)])), (r1, .inl (cr1, 4, .inl ja)), (h1, .inr (1, [.ref r2, .int (zI n2)])), (r2, .inl (cr2, 4, .inl fr2))]) [0, 1, 2, 3] (by decide +kernel) rfl
    exact W.vret hx hb hr (fun t ht hW => kQV_of ⟨n2, ja, q0, v_101, by rw [ht]; exact hP9, hD9⟩ (hS.F ht)) hS.2.2 dX1_takeFrom_33
  · refine lv_aload_n hx hb dX1_takeFrom_15 rfl (lv_at hl 1 rfl) ?_
    refine va_get (D := D) (ci := 1) (v := .ref r1) (C := RX1) (T := TX1) (N := 2) hx hb hts (fun _ h9 => List.mem_cons_of_mem _ (List.mem_append_right _ h9)) hown hK hP 0 rfl rfl 0 (by decide) (hts (.fieldLink RX1 9 "FontRuns$Preference" "row" "[I") mw_X1_takeFrom_1) (fun _ h9 => h9) rfl dX1_takeFrom_16 ?_
    refine lv_iload_n hx hb dX1_takeFrom_19 rfl (lv_at hl 0 rfl) ?_
    refine lv_aload_n hx hb dX1_takeFrom_20 rfl (lv_at hl 2 rfl) ?_
    refine va_get (D := D) (ci := 1) (v := .ref r2) (C := RX1) (T := TX1) (N := 2) hx hb hts (fun _ h9 => List.mem_cons_of_mem _ (List.mem_append_right _ h9)) hown hK hP 2 rfl rfl 0 (by decide) (hts (.fieldLink RX1 9 "FontRuns$Preference" "row" "[I") mw_X1_takeFrom_1) (fun _ h9 => h9) rfl dX1_takeFrom_21 ?_
    refine lv_iload_n hx hb dX1_takeFrom_24 rfl (lv_at hl 0 rfl) ?_
    refine kz_iald hx hb hK hP 3 1 rfl rfl (by omega) dX1_takeFrom_25 (fun z_2 rz_2 ez_2 => ?_)
    have bz_2 := kPr_at q2 (by omega) rz_2 ez_2
    refine kz_iast hx hb hK hP hD hS 1 0 rfl rfl (by omega) dX1_takeFrom_26 (fun H locs hP hD hS => ?_)
    have hP : va_P D vwCl [(h0, .inr (1, [.ref r1, .int (zI n2)])), (r1, .inl (cr1, 4, .inl (upd ja (jk).toNat (zI z_2)))), (h1, .inr (1, [.ref r2, .int (zI n2)])), (r2, .inl (cr2, 4, .inl fr2))] H := hP
    have hD : va_D A [(h0, .inr (1, [.ref r1, .int (zI n2)])), (r1, .inl (cr1, 4, .inl (upd ja (jk).toNat (zI z_2)))), (h1, .inr (1, [.ref r2, .int (zI n2)])), (r2, .inl (cr2, 4, .inl fr2))] := hD
    have k_4 : kPr (upd ja (jk).toNat (zI z_2)) := kPr_upd v_101 (by omega) (by omega)
    generalize ef_3 : upd ja (jk).toNat (zI z_2) = f_3 at hP hD k_4
    refine lv_iinc (v := (zI (jk + 1))) (lv' := [(2, .int (zI (jk + 1))), (0, .ref h0), (1, .ref h1)]) hx hb dX1_takeFrom_27 hl (k := 0) rfl (kz_inc _ 1) (by decide) rfl (fun ls hl => ?_)
    refine lv_goto (tgt := 10) hx hb dX1_takeFrom_30 (by decide) ?_
    exact ih10 _ (by omega) _ _ _ ⟨(jk + 1), f_3, rfl, (by omega), k_4, hP, hD, hS, lv_sub hl [0, 1, 2] rfl⟩

theorem dX7_add_0 : decode cX7_add 0 = .ok (.aload_n 0, 1) := by decide +kernel
theorem dX7_add_1 : decode cX7_add 1 = .ok (.getfield 15, 3) := by decide +kernel
theorem dX7_add_4 : decode cX7_add 4 = .ok (.iconst 0, 1) := by decide +kernel
theorem dX7_add_5 : decode cX7_add 5 = .ok (.bipush 23, 2) := by decide +kernel
theorem dX7_add_7 : decode cX7_add 7 = .ok (.invokestatic 19, 3) := by decide +kernel
theorem dX7_add_10 : decode cX7_add 10 = .ok (.ifCond .ne 5, 3) := by decide +kernel
theorem dX7_add_13 : decode cX7_add 13 = .ok (.iconst 0, 1) := by decide +kernel
theorem dX7_add_14 : decode cX7_add 14 = .ok (.ireturn, 1) := by decide +kernel
theorem dX7_add_15 : decode cX7_add 15 = .ok (.aload_n 0, 1) := by decide +kernel
theorem dX7_add_16 : decode cX7_add 16 = .ok (.getfield 9, 3) := by decide +kernel
theorem dX7_add_19 : decode cX7_add 19 = .ok (.aload_n 0, 1) := by decide +kernel
theorem dX7_add_20 : decode cX7_add 20 = .ok (.getfield 15, 3) := by decide +kernel
theorem dX7_add_23 : decode cX7_add 23 = .ok (.iload_n 1, 1) := by decide +kernel
theorem dX7_add_24 : decode cX7_add 24 = .ok (.iastore, 1) := by decide +kernel
theorem dX7_add_25 : decode cX7_add 25 = .ok (.aload_n 0, 1) := by decide +kernel
theorem dX7_add_26 : decode cX7_add 26 = .ok (.dup, 1) := by decide +kernel
theorem dX7_add_27 : decode cX7_add 27 = .ok (.getfield 15, 3) := by decide +kernel
theorem dX7_add_30 : decode cX7_add 30 = .ok (.iconst 1, 1) := by decide +kernel
theorem dX7_add_31 : decode cX7_add 31 = .ok (.iadd, 1) := by decide +kernel
theorem dX7_add_32 : decode cX7_add 32 = .ok (.putfield 15, 3) := by decide +kernel
theorem dX7_add_35 : decode cX7_add 35 = .ok (.iconst 1, 1) := by decide +kernel
theorem dX7_add_36 : decode cX7_add 36 = .ok (.ireturn, 1) := by decide +kernel
set_option maxRecDepth 20000 in
theorem ggX7_add_X8_isWithin : GoodIn wsX7_add wsX8_isWithin := goodIn_4 _ (List.forall_mem_cons.mpr ⟨List.mem_cons_of_mem _ (List.mem_append_left _ (List.mem_of_getElem? (i := 4) rfl)), fun _ h9 => absurd h9 List.not_mem_nil⟩) (by decide +kernel)
set_option maxRecDepth 20000 in
theorem gX7_add_X8_isWithin_n19 : GoodIn wsX7_add (wsX8_isWithin) := ggX7_add_X8_isWithin
set_option maxRecDepth 20000 in
theorem mw_X7_add_0 : (.fieldLink RX7 15 "FontRuns$Writing" "count" "I" : Cond) ∈ wsX7_add := List.mem_cons_of_mem _ (List.mem_append_left _ (List.mem_of_getElem? (i := 0) rfl))
set_option maxRecDepth 20000 in
theorem mw_X7_add_1 : (.initialized RX8 : Cond) ∈ wsX7_add := List.mem_cons_of_mem _ (List.mem_append_left _ (List.mem_of_getElem? (i := 3) rfl))
set_option maxRecDepth 20000 in
theorem mw_X7_add_2 : (.static yX8_isWithin : Cond) ∈ wsX7_add := List.mem_cons_of_mem _ (List.mem_append_left _ (List.mem_of_getElem? (i := 2) rfl))
set_option maxRecDepth 20000 in
theorem mw_X7_add_3 : (.fieldLink RX7 9 "FontRuns$Writing" "row" "[I" : Cond) ∈ wsX7_add := List.mem_cons_of_mem _ (List.mem_append_left _ (List.mem_of_getElem? (i := 1) rfl))
theorem ax_X7_add_0 {e0 e1 : Nat × va_E} : ([] : List Nat).map (fun i => ([e0, e1] : va_W)[i]?) = ([] : va_W).map some := rfl
theorem ax_X7_add_1 {e0 e1 : Nat × va_E} : ([0, 1] : List Nat).map (fun i => ([e0, e1] : va_W)[i]?) = ([e0, e1] : va_W).map some := rfl
set_option maxHeartbeats 4000000 in
set_option maxRecDepth 100000 in
theorem c_X7_add (l : Launch) (D : va_G) (sz : Nat) (x : Int) (h0 : Nat) (r1 : Nat) (n : Int) (cr1 : ClassId) (fr : Nat → Int32) (q0 : rg x) (q1 : 0 ≤ n ∧ n ≤ 24) : Met l yX7_add wsX7_add ({ frames := 1, cells := 0, slots := 0, locals := 22 }) (kPre [.ref h0, .int (zI x)] D [(h0, .inr (7, [.ref r1, .int (zI n)])), (r1, .inl (cr1, 24, .inl fr))] [(cr1, .int)] sz) (kQS (fun rz t => ∃ (un : Int) (uf : Nat → Int32), (0 ≤ un ∧ un ≤ 24) ∧ (rz = 0 ∨ rz = 1) ∧ va_P D vwCl [(h0, .inr (7, [.ref r1, .int (zI un)])), (r1, .inl (cr1, 24, .inl uf))] t.heap ∧ va_D (va_A [(h0, .inr (7, [.ref r1, .int (zI n)])), (r1, .inl (cr1, 24, .inl fr))] sz) [(h0, .inr (7, [.ref r1, .int (zI un)])), (r1, .inl (cr1, 24, .inl uf))]) (va_A [(h0, .inr (7, [.ref r1, .int (zI n)])), (r1, .inl (cr1, 24, .inl fr))] sz)) 0 0 (va_A [(h0, .inr (7, [.ref r1, .int (zI n)])), (r1, .inl (cr1, 24, .inl fr))] sz) := by
  refine Met.ofW (cc := cX7_add) (maxL := 2) (ret := (some .boolean)) (by decide) rfl ?_
  intro p e s m args below meth c s₁ B hml hv
  obtain ⟨rfl, hsz, hP, hK, hD0, hN⟩ := hv
  have hx := B.exec
  have hb := B.bytes
  have hr := B.returns
  have hts := atoms_spec (ws := wsX7_add) B.pre
  have hown : s.vm.findClass RX7 = some m.cls := findClass_of_methodNamed B.named
  have hlocks := B.notSynchronized
  subst hsz
  have hD := hD0.self (sz := s.heap.size)
  generalize hAe : va_A [(h0, .inr (7, [.ref r1, .int (zI n)])), (r1, .inl (cr1, 24, .inl fr))] s.heap.size = A at hD ⊢
  have hA : ∀ q : Nat, s.heap.size ≤ q → A q := fun q h => by rw [← hAe]; exact Or.inr h
  have hS : va_S A s.heap s.heap [] := va_S.rf
  have hP : va_P D vwCl [(h0, .inr (7, [.ref r1, .int (zI n)])), (r1, .inl (cr1, 24, .inl fr))] s.heap := hP
  have hl := lv_entry ([.ref h0, .int (zI x)]) (n := 2) (Nat.le_of_ble_eq_true rfl)
  rw [lg_entry_eq]
  generalize (lg_sl ([.ref h0, .int (zI x)]) ++ List.replicate (2 - (lg_sl ([.ref h0, .int (zI x)])).length) Slot.unset).toArray = ls at hl ⊢
  have hl : lv_has ls 2 [(0, .ref h0), (1, .int (zI x))] := hl
  refine lv_aload_n hx hb dX7_add_0 rfl (lv_at hl 0 rfl) ?_
  refine va_get (D := D) (ci := 7) (v := .int (zI n)) (C := RX7) (T := TX7) (N := 2) hx hb hts (fun _ h9 => List.mem_cons_of_mem _ (List.mem_append_right _ h9)) hown hK hP 0 rfl rfl 1 (by decide) (hts (.fieldLink RX7 15 "FontRuns$Writing" "count" "I") mw_X7_add_0) (fun _ h9 => h9) rfl dX7_add_1 ?_
  refine lv_iconst (v := zI 0) hx hb dX7_add_4 rfl ?_
  refine lv_bipush (v := zI 23) hx hb dX7_add_5 (by decide) ?_
  refine k_callR (va_runSN (As := [.int (zI n), .int (zI 0), .int (zI 23)]) (rest := []) ⟨hx, hb, hml, hown, hts⟩ (c_X8_isWithin l D s.heap.size (v := n) (a := 0) (b := 23) (by omega) (by omega) (by omega)) (⟨va_cnB 3 hts gX7_add_X8_isWithin_n19 rfl rfl rfl (hN.1 (RX7, 19, yX8_isWithin) (by decide +kernel)) (hts (.initialized RX8) mw_X7_add_1) (by decide +kernel) ⟨Nat.le_of_ble_eq_true rfl, Nat.le_of_ble_eq_true rfl⟩, (hts (.static yX8_isWithin) mw_X7_add_2), trivial⟩) (kPreS hP (kD0 hD) hK hN [] [] ax_X7_add_0 rfl (by decide +kernel)) rfl rfl hl.1 rfl (lv_room (Nat.le_of_ble_eq_true rfl)) dX7_add_7 ⟨Nat.le_of_ble_eq_true rfl, Nat.le_of_ble_eq_true rfl⟩) ?_
  refine lv_if_ne (tgt := 15) hx hb dX7_add_10 (by decide) (fun c_1 => ?_) (fun c_1 => ?_)
  · have c_1 : 0 ≤ n ∧ n ≤ 23 := b01t c_1
    refine lv_aload_n hx hb dX7_add_15 rfl (lv_at hl 0 rfl) ?_
    refine va_get (D := D) (ci := 7) (v := .ref r1) (C := RX7) (T := TX7) (N := 2) hx hb hts (fun _ h9 => List.mem_cons_of_mem _ (List.mem_append_right _ h9)) hown hK hP 0 rfl rfl 0 (by decide) (hts (.fieldLink RX7 9 "FontRuns$Writing" "row" "[I") mw_X7_add_3) (fun _ h9 => h9) rfl dX7_add_16 ?_
    refine lv_aload_n hx hb dX7_add_19 rfl (lv_at hl 0 rfl) ?_
    refine va_get (D := D) (ci := 7) (v := .int (zI n)) (C := RX7) (T := TX7) (N := 2) hx hb hts (fun _ h9 => List.mem_cons_of_mem _ (List.mem_append_right _ h9)) hown hK hP 0 rfl rfl 1 (by decide) (hts (.fieldLink RX7 15 "FontRuns$Writing" "count" "I") mw_X7_add_0) (fun _ h9 => h9) rfl dX7_add_20 ?_
    refine lv_iload_n hx hb dX7_add_23 rfl (lv_at hl 1 rfl) ?_
    refine kz_iast hx hb hK hP hD hS 1 0 rfl rfl (by omega) dX7_add_24 (fun H locs hP hD hS => ?_)
    have hP : va_P D vwCl [(h0, .inr (7, [.ref r1, .int (zI n)])), (r1, .inl (cr1, 24, .inl (upd fr (n).toNat (zI x))))] H := hP
    have hD : va_D A [(h0, .inr (7, [.ref r1, .int (zI n)])), (r1, .inl (cr1, 24, .inl (upd fr (n).toNat (zI x))))] := hD
    generalize ef_2 : upd fr (n).toNat (zI x) = f_2 at hP hD
    refine lv_aload_n hx hb dX7_add_25 rfl (lv_at hl 0 rfl) ?_
    refine lv_dup hx hb dX7_add_26 rfl ?_
    refine va_get (D := D) (ci := 7) (v := .int (zI n)) (C := RX7) (T := TX7) (N := 2) hx hb hts (fun _ h9 => List.mem_cons_of_mem _ (List.mem_append_right _ h9)) hown hK hP 0 rfl rfl 1 (by decide) (hts (.fieldLink RX7 15 "FontRuns$Writing" "count" "I") mw_X7_add_0) (fun _ h9 => h9) rfl dX7_add_27 ?_
    refine lv_iconst (v := zI 1) hx hb dX7_add_30 rfl ?_
    refine kz_iadd hx hb dX7_add_31 ?_
    refine va_put (D := D) (ci := 7) (v := .int (zI (n + 1))) (ty := .int) (C := RX7) (T := TX7) (N := 2) hx hb hts (fun _ h9 => List.mem_cons_of_mem _ (List.mem_append_right _ h9)) tyX7 tyX7_ok nmX7 hown hK hP hD hS 0 rfl rfl 1 (by decide) (hts (.fieldLink RX7 15 "FontRuns$Writing" "count" "I") mw_X7_add_0) (fun _ h9 => h9) rfl (by decide +kernel) rfl rfl (Nat.le_of_ble_eq_true rfl) dX7_add_32 (fun H locs hP hD hS => ?_)
    have hP : va_P D vwCl [(h0, .inr (7, [.ref r1, .int (zI (n + 1))])), (r1, .inl (cr1, 24, .inl f_2))] H := hP
    have hD : va_D A [(h0, .inr (7, [.ref r1, .int (zI (n + 1))])), (r1, .inl (cr1, 24, .inl f_2))] := hD
    refine lv_iconst (v := zI 1) hx hb dX7_add_35 rfl ?_
    have hP9 := hP.sub (ws' := [(h0, .inr (7, [.ref r1, .int (zI (n + 1))])), (r1, .inl (cr1, 24, .inl f_2))]) [0, 1] rfl
    have hD9 := hD.sub (ws' := [(h0, .inr (7, [.ref r1, .int (zI (n + 1))])), (r1, .inl (cr1, 24, .inl f_2))]) [0, 1] (by decide +kernel) rfl
    exact W.zret (v := (zI 1)) hx hb hr rfl (fun t ht hW => kQS_of (by omega) ⟨(n + 1), f_2, (by omega), (by omega), by rw [ht]; exact hP9, hD9⟩ (hS.F ht)) hS.2.2 dX7_add_36
  · have c_1 : ¬ (0 ≤ n ∧ n ≤ 23) := b01f c_1
    refine lv_iconst (v := zI 0) hx hb dX7_add_13 rfl ?_
    have hP9 := hP.sub (ws' := [(h0, .inr (7, [.ref r1, .int (zI n)])), (r1, .inl (cr1, 24, .inl fr))]) [0, 1] rfl
    have hD9 := hD.sub (ws' := [(h0, .inr (7, [.ref r1, .int (zI n)])), (r1, .inl (cr1, 24, .inl fr))]) [0, 1] (by decide +kernel) rfl
    exact W.zret (v := (zI 0)) hx hb hr rfl (fun t ht hW => kQS_of (by omega) ⟨n, fr, q1, (by omega), by rw [ht]; exact hP9, hD9⟩ (hS.F ht)) hS.2.2 dX7_add_14
theorem dX7_drop_0 : decode cX7_drop 0 = .ok (.iload_n 1, 1) := by decide +kernel
theorem dX7_drop_1 : decode cX7_drop 1 = .ok (.iconst 0, 1) := by decide +kernel
theorem dX7_drop_2 : decode cX7_drop 2 = .ok (.aload_n 0, 1) := by decide +kernel
theorem dX7_drop_3 : decode cX7_drop 3 = .ok (.getfield 15, 3) := by decide +kernel
theorem dX7_drop_6 : decode cX7_drop 6 = .ok (.invokestatic 19, 3) := by decide +kernel
theorem dX7_drop_9 : decode cX7_drop 9 = .ok (.ifCond .ne 5, 3) := by decide +kernel
theorem dX7_drop_12 : decode cX7_drop 12 = .ok (.iconst 0, 1) := by decide +kernel
theorem dX7_drop_13 : decode cX7_drop 13 = .ok (.ireturn, 1) := by decide +kernel
theorem dX7_drop_14 : decode cX7_drop 14 = .ok (.aload_n 0, 1) := by decide +kernel
theorem dX7_drop_15 : decode cX7_drop 15 = .ok (.dup, 1) := by decide +kernel
theorem dX7_drop_16 : decode cX7_drop 16 = .ok (.getfield 15, 3) := by decide +kernel
theorem dX7_drop_19 : decode cX7_drop 19 = .ok (.iload_n 1, 1) := by decide +kernel
theorem dX7_drop_20 : decode cX7_drop 20 = .ok (.isub, 1) := by decide +kernel
theorem dX7_drop_21 : decode cX7_drop 21 = .ok (.putfield 15, 3) := by decide +kernel
theorem dX7_drop_24 : decode cX7_drop 24 = .ok (.iconst 1, 1) := by decide +kernel
theorem dX7_drop_25 : decode cX7_drop 25 = .ok (.ireturn, 1) := by decide +kernel
set_option maxRecDepth 20000 in
theorem ggX7_drop_X8_isWithin : GoodIn wsX7_drop wsX8_isWithin := goodIn_4 _ (List.forall_mem_cons.mpr ⟨List.mem_cons_of_mem _ (List.mem_append_left _ (List.mem_of_getElem? (i := 3) rfl)), fun _ h9 => absurd h9 List.not_mem_nil⟩) (by decide +kernel)
set_option maxRecDepth 20000 in
theorem gX7_drop_X8_isWithin_n19 : GoodIn wsX7_drop (wsX8_isWithin) := ggX7_drop_X8_isWithin
set_option maxRecDepth 20000 in
theorem mw_X7_drop_0 : (.fieldLink RX7 15 "FontRuns$Writing" "count" "I" : Cond) ∈ wsX7_drop := List.mem_cons_of_mem _ (List.mem_append_left _ (List.mem_of_getElem? (i := 0) rfl))
set_option maxRecDepth 20000 in
theorem mw_X7_drop_1 : (.initialized RX8 : Cond) ∈ wsX7_drop := List.mem_cons_of_mem _ (List.mem_append_left _ (List.mem_of_getElem? (i := 2) rfl))
set_option maxRecDepth 20000 in
theorem mw_X7_drop_2 : (.static yX8_isWithin : Cond) ∈ wsX7_drop := List.mem_cons_of_mem _ (List.mem_append_left _ (List.mem_of_getElem? (i := 1) rfl))
theorem ax_X7_drop_0 {e0 : Nat × va_E} : ([] : List Nat).map (fun i => ([e0] : va_W)[i]?) = ([] : va_W).map some := rfl
theorem ax_X7_drop_1 {e0 : Nat × va_E} : ([0] : List Nat).map (fun i => ([e0] : va_W)[i]?) = ([e0] : va_W).map some := rfl
set_option maxHeartbeats 4000000 in
set_option maxRecDepth 100000 in
theorem c_X7_drop (l : Launch) (D : va_G) (sz : Nat) (x : Int) (h0 : Nat) (r1 : Nat) (n : Int) (q0 : rg x) (q1 : 0 ≤ n ∧ n ≤ 24) : Met l yX7_drop wsX7_drop ({ frames := 1, cells := 0, slots := 0, locals := 22 }) (kPre [.ref h0, .int (zI x)] D [(h0, .inr (7, [.ref r1, .int (zI n)]))] [] sz) (kQS (fun rz t => ∃ (un : Int), (0 ≤ un ∧ un ≤ 24) ∧ (rz = 0 ∨ rz = 1) ∧ va_P D vwCl [(h0, .inr (7, [.ref r1, .int (zI un)]))] t.heap ∧ va_D (va_A [(h0, .inr (7, [.ref r1, .int (zI n)]))] sz) [(h0, .inr (7, [.ref r1, .int (zI un)]))]) (va_A [(h0, .inr (7, [.ref r1, .int (zI n)]))] sz)) 0 0 (va_A [(h0, .inr (7, [.ref r1, .int (zI n)]))] sz) := by
  refine Met.ofW (cc := cX7_drop) (maxL := 2) (ret := (some .boolean)) (by decide) rfl ?_
  intro p e s m args below meth c s₁ B hml hv
  obtain ⟨rfl, hsz, hP, hK, hD0, hN⟩ := hv
  have hx := B.exec
  have hb := B.bytes
  have hr := B.returns
  have hts := atoms_spec (ws := wsX7_drop) B.pre
  have hown : s.vm.findClass RX7 = some m.cls := findClass_of_methodNamed B.named
  have hlocks := B.notSynchronized
  subst hsz
  have hD := hD0.self (sz := s.heap.size)
  generalize hAe : va_A [(h0, .inr (7, [.ref r1, .int (zI n)]))] s.heap.size = A at hD ⊢
  have hA : ∀ q : Nat, s.heap.size ≤ q → A q := fun q h => by rw [← hAe]; exact Or.inr h
  have hS : va_S A s.heap s.heap [] := va_S.rf
  have hP : va_P D vwCl [(h0, .inr (7, [.ref r1, .int (zI n)]))] s.heap := hP
  have hl := lv_entry ([.ref h0, .int (zI x)]) (n := 2) (Nat.le_of_ble_eq_true rfl)
  rw [lg_entry_eq]
  generalize (lg_sl ([.ref h0, .int (zI x)]) ++ List.replicate (2 - (lg_sl ([.ref h0, .int (zI x)])).length) Slot.unset).toArray = ls at hl ⊢
  have hl : lv_has ls 2 [(0, .ref h0), (1, .int (zI x))] := hl
  refine lv_iload_n hx hb dX7_drop_0 rfl (lv_at hl 1 rfl) ?_
  refine lv_iconst (v := zI 0) hx hb dX7_drop_1 rfl ?_
  refine lv_aload_n hx hb dX7_drop_2 rfl (lv_at hl 0 rfl) ?_
  refine va_get (D := D) (ci := 7) (v := .int (zI n)) (C := RX7) (T := TX7) (N := 2) hx hb hts (fun _ h9 => List.mem_cons_of_mem _ (List.mem_append_right _ h9)) hown hK hP 0 rfl rfl 1 (by decide) (hts (.fieldLink RX7 15 "FontRuns$Writing" "count" "I") mw_X7_drop_0) (fun _ h9 => h9) rfl dX7_drop_3 ?_
  refine k_callR (va_runSN (As := [.int (zI x), .int (zI 0), .int (zI n)]) (rest := []) ⟨hx, hb, hml, hown, hts⟩ (c_X8_isWithin l D s.heap.size (v := x) (a := 0) (b := n) q0 (by omega) (by omega)) (⟨va_cnB 3 hts gX7_drop_X8_isWithin_n19 rfl rfl rfl (hN.1 (RX7, 19, yX8_isWithin) (by decide +kernel)) (hts (.initialized RX8) mw_X7_drop_1) (by decide +kernel) ⟨Nat.le_of_ble_eq_true rfl, Nat.le_of_ble_eq_true rfl⟩, (hts (.static yX8_isWithin) mw_X7_drop_2), trivial⟩) (kPreS hP (kD0 hD) hK hN [] [] ax_X7_drop_0 rfl (by decide +kernel)) rfl rfl hl.1 rfl (lv_room (Nat.le_of_ble_eq_true rfl)) dX7_drop_6 ⟨Nat.le_of_ble_eq_true rfl, Nat.le_of_ble_eq_true rfl⟩) ?_
  refine lv_if_ne (tgt := 14) hx hb dX7_drop_9 (by decide) (fun c_1 => ?_) (fun c_1 => ?_)
  · have c_1 : 0 ≤ x ∧ x ≤ n := b01t c_1
    refine lv_aload_n hx hb dX7_drop_14 rfl (lv_at hl 0 rfl) ?_
    refine lv_dup hx hb dX7_drop_15 rfl ?_
    refine va_get (D := D) (ci := 7) (v := .int (zI n)) (C := RX7) (T := TX7) (N := 2) hx hb hts (fun _ h9 => List.mem_cons_of_mem _ (List.mem_append_right _ h9)) hown hK hP 0 rfl rfl 1 (by decide) (hts (.fieldLink RX7 15 "FontRuns$Writing" "count" "I") mw_X7_drop_0) (fun _ h9 => h9) rfl dX7_drop_16 ?_
    refine lv_iload_n hx hb dX7_drop_19 rfl (lv_at hl 1 rfl) ?_
    refine kz_isub hx hb dX7_drop_20 ?_
    refine va_put (D := D) (ci := 7) (v := .int (zI (n - x))) (ty := .int) (C := RX7) (T := TX7) (N := 2) hx hb hts (fun _ h9 => List.mem_cons_of_mem _ (List.mem_append_right _ h9)) tyX7 tyX7_ok nmX7 hown hK hP hD hS 0 rfl rfl 1 (by decide) (hts (.fieldLink RX7 15 "FontRuns$Writing" "count" "I") mw_X7_drop_0) (fun _ h9 => h9) rfl (by decide +kernel) rfl rfl (Nat.le_of_ble_eq_true rfl) dX7_drop_21 (fun H locs hP hD hS => ?_)
    have hP : va_P D vwCl [(h0, .inr (7, [.ref r1, .int (zI (n - x))]))] H := hP
    have hD : va_D A [(h0, .inr (7, [.ref r1, .int (zI (n - x))]))] := hD
    refine lv_iconst (v := zI 1) hx hb dX7_drop_24 rfl ?_
    have hP9 := hP.sub (ws' := [(h0, .inr (7, [.ref r1, .int (zI (n - x))]))]) [0] rfl
    have hD9 := hD.sub (ws' := [(h0, .inr (7, [.ref r1, .int (zI (n - x))]))]) [0] (by decide +kernel) rfl
    exact W.zret (v := (zI 1)) hx hb hr rfl (fun t ht hW => kQS_of (by omega) ⟨(n - x), (by omega), (by omega), by rw [ht]; exact hP9, hD9⟩ (hS.F ht)) hS.2.2 dX7_drop_25
  · have c_1 : ¬ (0 ≤ x ∧ x ≤ n) := b01f c_1
    refine lv_iconst (v := zI 0) hx hb dX7_drop_12 rfl ?_
    have hP9 := hP.sub (ws' := [(h0, .inr (7, [.ref r1, .int (zI n)]))]) [0] rfl
    have hD9 := hD.sub (ws' := [(h0, .inr (7, [.ref r1, .int (zI n)]))]) [0] (by decide +kernel) rfl
    exact W.zret (v := (zI 0)) hx hb hr rfl (fun t ht hW => kQS_of (by omega) ⟨n, q1, (by omega), by rw [ht]; exact hP9, hD9⟩ (hS.F ht)) hS.2.2 dX7_drop_13
theorem dX7_takeFrom_0 : decode cX7_takeFrom 0 = .ok (.aload_n 0, 1) := by decide +kernel
theorem dX7_takeFrom_1 : decode cX7_takeFrom 1 = .ok (.aload_n 1, 1) := by decide +kernel
theorem dX7_takeFrom_2 : decode cX7_takeFrom 2 = .ok (.getfield 15, 3) := by decide +kernel
theorem dX7_takeFrom_5 : decode cX7_takeFrom 5 = .ok (.putfield 15, 3) := by decide +kernel
theorem dX7_takeFrom_8 : decode cX7_takeFrom 8 = .ok (.iconst 0, 1) := by decide +kernel
theorem dX7_takeFrom_9 : decode cX7_takeFrom 9 = .ok (.istore_n 2, 1) := by decide +kernel
theorem dX7_takeFrom_10 : decode cX7_takeFrom 10 = .ok (.iload_n 2, 1) := by decide +kernel
theorem dX7_takeFrom_11 : decode cX7_takeFrom 11 = .ok (.bipush 24, 2) := by decide +kernel
theorem dX7_takeFrom_13 : decode cX7_takeFrom 13 = .ok (.if_icmp .ge 21, 3) := by decide +kernel
theorem dX7_takeFrom_16 : decode cX7_takeFrom 16 = .ok (.aload_n 0, 1) := by decide +kernel
theorem dX7_takeFrom_17 : decode cX7_takeFrom 17 = .ok (.getfield 9, 3) := by decide +kernel
theorem dX7_takeFrom_20 : decode cX7_takeFrom 20 = .ok (.iload_n 2, 1) := by decide +kernel
theorem dX7_takeFrom_21 : decode cX7_takeFrom 21 = .ok (.aload_n 1, 1) := by decide +kernel
theorem dX7_takeFrom_22 : decode cX7_takeFrom 22 = .ok (.getfield 9, 3) := by decide +kernel
theorem dX7_takeFrom_25 : decode cX7_takeFrom 25 = .ok (.iload_n 2, 1) := by decide +kernel
theorem dX7_takeFrom_26 : decode cX7_takeFrom 26 = .ok (.iaload, 1) := by decide +kernel
theorem dX7_takeFrom_27 : decode cX7_takeFrom 27 = .ok (.iastore, 1) := by decide +kernel
theorem dX7_takeFrom_28 : decode cX7_takeFrom 28 = .ok (.iinc 2 1, 3) := by decide +kernel
theorem dX7_takeFrom_31 : decode cX7_takeFrom 31 = .ok (.goto (-21), 3) := by decide +kernel
theorem dX7_takeFrom_34 : decode cX7_takeFrom 34 = .ok (.return_, 1) := by decide +kernel
set_option maxRecDepth 20000 in
theorem mw_X7_takeFrom_0 : (.fieldLink RX7 15 "FontRuns$Writing" "count" "I" : Cond) ∈ wsX7_takeFrom := List.mem_cons_of_mem _ (List.mem_append_left _ (List.mem_of_getElem? (i := 0) rfl))
set_option maxRecDepth 20000 in
theorem mw_X7_takeFrom_1 : (.fieldLink RX7 9 "FontRuns$Writing" "row" "[I" : Cond) ∈ wsX7_takeFrom := List.mem_cons_of_mem _ (List.mem_append_left _ (List.mem_of_getElem? (i := 1) rfl))
theorem ax_X7_takeFrom_0 {e0 e1 e2 e3 : Nat × va_E} : ([0, 1, 2, 3] : List Nat).map (fun i => ([e0, e1, e2, e3] : va_W)[i]?) = ([e0, e1, e2, e3] : va_W).map some := rfl
set_option maxHeartbeats 4000000 in
set_option maxRecDepth 100000 in
theorem c_X7_takeFrom (l : Launch) (D : va_G) (sz : Nat) (h1 : Nat) (h0 : Nat) (r1 : Nat) (n : Int) (cr1 : ClassId) (fr : Nat → Int32) (r2 : Nat) (n2 : Int) (cr2 : ClassId) (fr2 : Nat → Int32) (q0 : 0 ≤ n2 ∧ n2 ≤ 24) : Met l yX7_takeFrom wsX7_takeFrom ({ frames := 0, cells := 0, slots := 0, locals := 0 }) (kPre [.ref h0, .ref h1] D [(h0, .inr (7, [.ref r1, .int (zI n)])), (r1, .inl (cr1, 24, .inl fr)), (h1, .inr (7, [.ref r2, .int (zI n2)])), (r2, .inl (cr2, 24, .inl fr2))] [(cr1, .int), (cr2, .int)] sz) (kQV (fun t => ∃ (un : Int) (uf : Nat → Int32), (0 ≤ un ∧ un ≤ 24) ∧ va_P D vwCl [(h0, .inr (7, [.ref r1, .int (zI un)])), (r1, .inl (cr1, 24, .inl uf)), (h1, .inr (7, [.ref r2, .int (zI n2)])), (r2, .inl (cr2, 24, .inl fr2))] t.heap ∧ va_D (va_A [(h0, .inr (7, [.ref r1, .int (zI n)])), (r1, .inl (cr1, 24, .inl fr)), (h1, .inr (7, [.ref r2, .int (zI n2)])), (r2, .inl (cr2, 24, .inl fr2))] sz) [(h0, .inr (7, [.ref r1, .int (zI un)])), (r1, .inl (cr1, 24, .inl uf)), (h1, .inr (7, [.ref r2, .int (zI n2)])), (r2, .inl (cr2, 24, .inl fr2))]) (va_A [(h0, .inr (7, [.ref r1, .int (zI n)])), (r1, .inl (cr1, 24, .inl fr)), (h1, .inr (7, [.ref r2, .int (zI n2)])), (r2, .inl (cr2, 24, .inl fr2))] sz)) 0 0 (va_A [(h0, .inr (7, [.ref r1, .int (zI n)])), (r1, .inl (cr1, 24, .inl fr)), (h1, .inr (7, [.ref r2, .int (zI n2)])), (r2, .inl (cr2, 24, .inl fr2))] sz) := by
  refine Met.ofW (cc := cX7_takeFrom) (maxL := 3) (ret := none) (by decide) rfl ?_
  intro p e s m args below meth c s₁ B hml hv
  obtain ⟨rfl, hsz, hP, hK, hD0, hN⟩ := hv
  have hx := B.exec
  have hb := B.bytes
  have hr := B.returns
  have hts := atoms_spec (ws := wsX7_takeFrom) B.pre
  have hown : s.vm.findClass RX7 = some m.cls := findClass_of_methodNamed B.named
  have hlocks := B.notSynchronized
  subst hsz
  have hD := hD0.self (sz := s.heap.size)
  generalize hAe : va_A [(h0, .inr (7, [.ref r1, .int (zI n)])), (r1, .inl (cr1, 24, .inl fr)), (h1, .inr (7, [.ref r2, .int (zI n2)])), (r2, .inl (cr2, 24, .inl fr2))] s.heap.size = A at hD ⊢
  have hA : ∀ q : Nat, s.heap.size ≤ q → A q := fun q h => by rw [← hAe]; exact Or.inr h
  have hS : va_S A s.heap s.heap [] := va_S.rf
  have hP : va_P D vwCl [(h0, .inr (7, [.ref r1, .int (zI n)])), (r1, .inl (cr1, 24, .inl fr)), (h1, .inr (7, [.ref r2, .int (zI n2)])), (r2, .inl (cr2, 24, .inl fr2))] s.heap := hP
  have hl := lv_entry ([.ref h0, .ref h1]) (n := 3) (Nat.le_of_ble_eq_true rfl)
  rw [lg_entry_eq]
  generalize (lg_sl ([.ref h0, .ref h1]) ++ List.replicate (3 - (lg_sl ([.ref h0, .ref h1])).length) Slot.unset).toArray = ls at hl ⊢
  have hl : lv_has ls 3 [(0, .ref h0), (1, .ref h1)] := hl
  refine lv_aload_n hx hb dX7_takeFrom_0 rfl (lv_at hl 0 rfl) ?_
  refine lv_aload_n hx hb dX7_takeFrom_1 rfl (lv_at hl 1 rfl) ?_
  refine va_get (D := D) (ci := 7) (v := .int (zI n2)) (C := RX7) (T := TX7) (N := 2) hx hb hts (fun _ h9 => List.mem_cons_of_mem _ (List.mem_append_right _ h9)) hown hK hP 2 rfl rfl 1 (by decide) (hts (.fieldLink RX7 15 "FontRuns$Writing" "count" "I") mw_X7_takeFrom_0) (fun _ h9 => h9) rfl dX7_takeFrom_2 ?_
  refine va_put (D := D) (ci := 7) (v := .int (zI n2)) (ty := .int) (C := RX7) (T := TX7) (N := 2) hx hb hts (fun _ h9 => List.mem_cons_of_mem _ (List.mem_append_right _ h9)) tyX7 tyX7_ok nmX7 hown hK hP hD hS 0 rfl rfl 1 (by decide) (hts (.fieldLink RX7 15 "FontRuns$Writing" "count" "I") mw_X7_takeFrom_0) (fun _ h9 => h9) rfl (by decide +kernel) rfl rfl (Nat.le_of_ble_eq_true rfl) dX7_takeFrom_5 (fun H locs hP hD hS => ?_)
  have hP : va_P D vwCl [(h0, .inr (7, [.ref r1, .int (zI n2)])), (r1, .inl (cr1, 24, .inl fr)), (h1, .inr (7, [.ref r2, .int (zI n2)])), (r2, .inl (cr2, 24, .inl fr2))] H := hP
  have hD : va_D A [(h0, .inr (7, [.ref r1, .int (zI n2)])), (r1, .inl (cr1, 24, .inl fr)), (h1, .inr (7, [.ref r2, .int (zI n2)])), (r2, .inl (cr2, 24, .inl fr2))] := hD
  refine lv_iconst (v := zI 0) hx hb dX7_takeFrom_8 rfl ?_
  refine lv_istore_n (lv' := [(2, .int (zI 0)), (0, .ref h0), (1, .ref h1)]) hx hb dX7_takeFrom_9 rfl hl (by decide) rfl (fun ls hl => ?_)
  refine k_loopM (I := fun n9 H locs ls => ∃ (jk : Int) (ja : Nat → Int32), n9 = (24 - jk).toNat ∧ (0 ≤ jk ∧ jk ≤ 24) ∧ va_P D vwCl [(h0, .inr (7, [.ref r1, .int (zI n2)])), (r1, .inl (cr1, 24, .inl ja)), (h1, .inr (7, [.ref r2, .int (zI n2)])), (r2, .inl (cr2, 24, .inl fr2))] H ∧ va_D A [(h0, .inr (7, [.ref r1, .int (zI n2)])), (r1, .inl (cr1, 24, .inl ja)), (h1, .inr (7, [.ref r2, .int (zI n2)])), (r2, .inl (cr2, 24, .inl fr2))] ∧ va_S A s.heap H locs ∧ lv_has ls 3 [(2, .int (zI jk)), (0, .ref h0), (1, .ref h1)]) ?_ _ ⟨0, fr, rfl, (by omega), hP, hD, hS, hl⟩
  intro n10 ih10 H locs ls hI
  obtain ⟨jk, ja, en10, v_100, hP, hD, hS, hl⟩ := hI
  refine lv_iload_n hx hb dX7_takeFrom_10 rfl (lv_at hl 0 rfl) ?_
  refine lv_bipush (v := zI 24) hx hb dX7_takeFrom_11 (by decide) ?_
  refine kz_icmp_ge (tgt := 34) hx hb dX7_takeFrom_13 (by decide) (by omega) (by omega) (fun c_1 => ?_) (fun c_1 => ?_)
  · have hP9 := hP.sub (ws' := [(h0, .inr (7, [.ref r1, .int (zI n2)])), (r1, .inl (cr1, 24, .inl ja)), (h1, .inr (7, [.ref r2, .int (zI n2)])), (r2, .inl (cr2, 24, .inl fr2))]) [0, 1, 2, 3] rfl
    have hD9 := hD.sub (ws' := [(h0, .inr (7, [.ref r1, .int (zI n2)])), (r1, .inl (cr1, 24, .inl ja)), (h1, .inr (7, [.ref r2, .int (zI n2)])), (r2, .inl (cr2, 24, .inl fr2))]) [0, 1, 2, 3] (by decide +kernel) rfl
    exact W.vret hx hb hr (fun t ht hW => kQV_of ⟨n2, ja, q0, by rw [ht]; exact hP9, hD9⟩ (hS.F ht)) hS.2.2 dX7_takeFrom_34
  · refine lv_aload_n hx hb dX7_takeFrom_16 rfl (lv_at hl 1 rfl) ?_
    refine va_get (D := D) (ci := 7) (v := .ref r1) (C := RX7) (T := TX7) (N := 2) hx hb hts (fun _ h9 => List.mem_cons_of_mem _ (List.mem_append_right _ h9)) hown hK hP 0 rfl rfl 0 (by decide) (hts (.fieldLink RX7 9 "FontRuns$Writing" "row" "[I") mw_X7_takeFrom_1) (fun _ h9 => h9) rfl dX7_takeFrom_17 ?_
    refine lv_iload_n hx hb dX7_takeFrom_20 rfl (lv_at hl 0 rfl) ?_
    refine lv_aload_n hx hb dX7_takeFrom_21 rfl (lv_at hl 2 rfl) ?_
    refine va_get (D := D) (ci := 7) (v := .ref r2) (C := RX7) (T := TX7) (N := 2) hx hb hts (fun _ h9 => List.mem_cons_of_mem _ (List.mem_append_right _ h9)) hown hK hP 2 rfl rfl 0 (by decide) (hts (.fieldLink RX7 9 "FontRuns$Writing" "row" "[I") mw_X7_takeFrom_1) (fun _ h9 => h9) rfl dX7_takeFrom_22 ?_
    refine lv_iload_n hx hb dX7_takeFrom_25 rfl (lv_at hl 0 rfl) ?_
    refine kz_iald hx hb hK hP 3 1 rfl rfl (by omega) dX7_takeFrom_26 (fun z_2 rz_2 ez_2 => ?_)
    refine kz_iast hx hb hK hP hD hS 1 0 rfl rfl (by omega) dX7_takeFrom_27 (fun H locs hP hD hS => ?_)
    have hP : va_P D vwCl [(h0, .inr (7, [.ref r1, .int (zI n2)])), (r1, .inl (cr1, 24, .inl (upd ja (jk).toNat (zI z_2)))), (h1, .inr (7, [.ref r2, .int (zI n2)])), (r2, .inl (cr2, 24, .inl fr2))] H := hP
    have hD : va_D A [(h0, .inr (7, [.ref r1, .int (zI n2)])), (r1, .inl (cr1, 24, .inl (upd ja (jk).toNat (zI z_2)))), (h1, .inr (7, [.ref r2, .int (zI n2)])), (r2, .inl (cr2, 24, .inl fr2))] := hD
    generalize ef_3 : upd ja (jk).toNat (zI z_2) = f_3 at hP hD
    refine lv_iinc (v := (zI (jk + 1))) (lv' := [(2, .int (zI (jk + 1))), (0, .ref h0), (1, .ref h1)]) hx hb dX7_takeFrom_28 hl (k := 0) rfl (kz_inc _ 1) (by decide) rfl (fun ls hl => ?_)
    refine lv_goto (tgt := 10) hx hb dX7_takeFrom_31 (by decide) ?_
    exact ih10 _ (by omega) _ _ _ ⟨(jk + 1), f_3, rfl, (by omega), hP, hD, hS, lv_sub hl [0, 1, 2] rfl⟩
theorem dX5_begin_0 : decode cX5_begin 0 = .ok (.iconst 0, 1) := by decide +kernel
theorem dX5_begin_1 : decode cX5_begin 1 = .ok (.istore_n 3, 1) := by decide +kernel
theorem dX5_begin_2 : decode cX5_begin 2 = .ok (.iload_n 3, 1) := by decide +kernel
theorem dX5_begin_3 : decode cX5_begin 3 = .ok (.bipush 60, 2) := by decide +kernel
theorem dX5_begin_5 : decode cX5_begin 5 = .ok (.if_icmp .ge 16, 3) := by decide +kernel
theorem dX5_begin_8 : decode cX5_begin 8 = .ok (.aload_n 0, 1) := by decide +kernel
theorem dX5_begin_9 : decode cX5_begin 9 = .ok (.getfield 9, 3) := by decide +kernel
theorem dX5_begin_12 : decode cX5_begin 12 = .ok (.iload_n 3, 1) := by decide +kernel
theorem dX5_begin_13 : decode cX5_begin 13 = .ok (.iconst 0, 1) := by decide +kernel
theorem dX5_begin_14 : decode cX5_begin 14 = .ok (.iastore, 1) := by decide +kernel
theorem dX5_begin_15 : decode cX5_begin 15 = .ok (.iinc 3 1, 3) := by decide +kernel
theorem dX5_begin_18 : decode cX5_begin 18 = .ok (.goto (-16), 3) := by decide +kernel
theorem dX5_begin_21 : decode cX5_begin 21 = .ok (.aload_n 0, 1) := by decide +kernel
theorem dX5_begin_22 : decode cX5_begin 22 = .ok (.iconst 1, 1) := by decide +kernel
theorem dX5_begin_23 : decode cX5_begin 23 = .ok (.putfield 15, 3) := by decide +kernel
theorem dX5_begin_26 : decode cX5_begin 26 = .ok (.aload_n 0, 1) := by decide +kernel
theorem dX5_begin_27 : decode cX5_begin 27 = .ok (.iload_n 1, 1) := by decide +kernel
theorem dX5_begin_28 : decode cX5_begin 28 = .ok (.putfield 19, 3) := by decide +kernel
theorem dX5_begin_31 : decode cX5_begin 31 = .ok (.aload_n 0, 1) := by decide +kernel
theorem dX5_begin_32 : decode cX5_begin 32 = .ok (.iload_n 2, 1) := by decide +kernel
theorem dX5_begin_33 : decode cX5_begin 33 = .ok (.putfield 23, 3) := by decide +kernel
theorem dX5_begin_36 : decode cX5_begin 36 = .ok (.return_, 1) := by decide +kernel
set_option maxRecDepth 20000 in
theorem mw_X5_begin_0 : (.fieldLink RX5 15 "FontRuns$Sheet" "isThere" "Z" : Cond) ∈ wsX5_begin := List.mem_cons_of_mem _ (List.mem_append_left _ (List.mem_of_getElem? (i := 1) rfl))
set_option maxRecDepth 20000 in
theorem mw_X5_begin_1 : (.fieldLink RX5 19 "FontRuns$Sheet" "lane" "I" : Cond) ∈ wsX5_begin := List.mem_cons_of_mem _ (List.mem_append_left _ (List.mem_of_getElem? (i := 2) rfl))
set_option maxRecDepth 20000 in
theorem mw_X5_begin_2 : (.fieldLink RX5 23 "FontRuns$Sheet" "size" "I" : Cond) ∈ wsX5_begin := List.mem_cons_of_mem _ (List.mem_append_left _ (List.mem_of_getElem? (i := 3) rfl))
set_option maxRecDepth 20000 in
theorem mw_X5_begin_3 : (.fieldLink RX5 9 "FontRuns$Sheet" "cells" "[I" : Cond) ∈ wsX5_begin := List.mem_cons_of_mem _ (List.mem_append_left _ (List.mem_of_getElem? (i := 0) rfl))
theorem ax_X5_begin_0 {e0 e1 : Nat × va_E} : ([0, 1] : List Nat).map (fun i => ([e0, e1] : va_W)[i]?) = ([e0, e1] : va_W).map some := rfl
set_option maxHeartbeats 4000000 in
set_option maxRecDepth 100000 in
theorem c_X5_begin (l : Launch) (D : va_G) (sz : Nat) (x : Int) (y : Int) (h0 : Nat) (r1 : Nat) (th : Int) (la : Int) (n : Int) (cr1 : ClassId) (fr : Nat → Int32) (q0 : rg x) (q1 : 0 ≤ y ∧ y ≤ 60) : Met l yX5_begin wsX5_begin ({ frames := 0, cells := 0, slots := 0, locals := 0 }) (kPre [.ref h0, .int (zI x), .int (zI y)] D [(h0, .inr (5, [.ref r1, .int (zI th), .int (zI la), .int (zI n)])), (r1, .inl (cr1, 60, .inl fr))] [(cr1, .int)] sz) (kQV (fun t => ∃ (uf : Nat → Int32), va_P D vwCl [(h0, .inr (5, [.ref r1, .int (zI 1), .int (zI x), .int (zI y)])), (r1, .inl (cr1, 60, .inl uf))] t.heap ∧ va_D (va_A [(h0, .inr (5, [.ref r1, .int (zI th), .int (zI la), .int (zI n)])), (r1, .inl (cr1, 60, .inl fr))] sz) [(h0, .inr (5, [.ref r1, .int (zI 1), .int (zI x), .int (zI y)])), (r1, .inl (cr1, 60, .inl uf))]) (va_A [(h0, .inr (5, [.ref r1, .int (zI th), .int (zI la), .int (zI n)])), (r1, .inl (cr1, 60, .inl fr))] sz)) 0 0 (va_A [(h0, .inr (5, [.ref r1, .int (zI th), .int (zI la), .int (zI n)])), (r1, .inl (cr1, 60, .inl fr))] sz) := by
  refine Met.ofW (cc := cX5_begin) (maxL := 4) (ret := none) (by decide) rfl ?_
  intro p e s m args below meth c s₁ B hml hv
  obtain ⟨rfl, hsz, hP, hK, hD0, hN⟩ := hv
  have hx := B.exec
  have hb := B.bytes
  have hr := B.returns
  have hts := atoms_spec (ws := wsX5_begin) B.pre
  have hown : s.vm.findClass RX5 = some m.cls := findClass_of_methodNamed B.named
  have hlocks := B.notSynchronized
  subst hsz
  have hD := hD0.self (sz := s.heap.size)
  generalize hAe : va_A [(h0, .inr (5, [.ref r1, .int (zI th), .int (zI la), .int (zI n)])), (r1, .inl (cr1, 60, .inl fr))] s.heap.size = A at hD ⊢
  have hA : ∀ q : Nat, s.heap.size ≤ q → A q := fun q h => by rw [← hAe]; exact Or.inr h
  have hS : va_S A s.heap s.heap [] := va_S.rf
  have hP : va_P D vwCl [(h0, .inr (5, [.ref r1, .int (zI th), .int (zI la), .int (zI n)])), (r1, .inl (cr1, 60, .inl fr))] s.heap := hP
  have hl := lv_entry ([.ref h0, .int (zI x), .int (zI y)]) (n := 4) (Nat.le_of_ble_eq_true rfl)
  rw [lg_entry_eq]
  generalize (lg_sl ([.ref h0, .int (zI x), .int (zI y)]) ++ List.replicate (4 - (lg_sl ([.ref h0, .int (zI x), .int (zI y)])).length) Slot.unset).toArray = ls at hl ⊢
  have hl : lv_has ls 4 [(0, .ref h0), (1, .int (zI x)), (2, .int (zI y))] := hl
  refine lv_iconst (v := zI 0) hx hb dX5_begin_0 rfl ?_
  refine lv_istore_n (lv' := [(3, .int (zI 0)), (0, .ref h0), (1, .int (zI x)), (2, .int (zI y))]) hx hb dX5_begin_1 rfl hl (by decide) rfl (fun ls hl => ?_)
  refine k_loopM (I := fun n9 H locs ls => ∃ (jk : Int) (ja : Nat → Int32), n9 = (60 - jk).toNat ∧ (0 ≤ jk ∧ jk ≤ 60) ∧ va_P D vwCl [(h0, .inr (5, [.ref r1, .int (zI th), .int (zI la), .int (zI n)])), (r1, .inl (cr1, 60, .inl ja))] H ∧ va_D A [(h0, .inr (5, [.ref r1, .int (zI th), .int (zI la), .int (zI n)])), (r1, .inl (cr1, 60, .inl ja))] ∧ va_S A s.heap H locs ∧ lv_has ls 4 [(3, .int (zI jk)), (0, .ref h0), (1, .int (zI x)), (2, .int (zI y))]) ?_ _ ⟨0, fr, rfl, (by omega), hP, hD, hS, hl⟩
  intro n2 ih2 H locs ls hI
  obtain ⟨jk, ja, en2, v_20, hP, hD, hS, hl⟩ := hI
  refine lv_iload_n hx hb dX5_begin_2 rfl (lv_at hl 0 rfl) ?_
  refine lv_bipush (v := zI 60) hx hb dX5_begin_3 (by decide) ?_
  refine kz_icmp_ge (tgt := 21) hx hb dX5_begin_5 (by decide) (by omega) (by omega) (fun c_1 => ?_) (fun c_1 => ?_)
  · refine lv_aload_n hx hb dX5_begin_21 rfl (lv_at hl 1 rfl) ?_
    refine lv_iconst (v := zI 1) hx hb dX5_begin_22 rfl ?_
    refine va_put (D := D) (ci := 5) (v := .int (zI 1)) (ty := .boolean) (C := RX5) (T := TX5) (N := 4) hx hb hts (fun _ h9 => List.mem_cons_of_mem _ (List.mem_append_right _ h9)) tyX5 tyX5_ok nmX5 hown hK hP hD hS 0 rfl rfl 1 (by decide) (hts (.fieldLink RX5 15 "FontRuns$Sheet" "isThere" "Z") mw_X5_begin_0) (fun _ h9 => h9) rfl (by decide +kernel) rfl rfl (Nat.le_of_ble_eq_true rfl) dX5_begin_23 (fun H locs hP hD hS => ?_)
    have hP : va_P D vwCl [(h0, .inr (5, [.ref r1, .int (zI 1), .int (zI la), .int (zI n)])), (r1, .inl (cr1, 60, .inl ja))] H := hP
    have hD : va_D A [(h0, .inr (5, [.ref r1, .int (zI 1), .int (zI la), .int (zI n)])), (r1, .inl (cr1, 60, .inl ja))] := hD
    refine lv_aload_n hx hb dX5_begin_26 rfl (lv_at hl 1 rfl) ?_
    refine lv_iload_n hx hb dX5_begin_27 rfl (lv_at hl 2 rfl) ?_
    refine va_put (D := D) (ci := 5) (v := .int (zI x)) (ty := .int) (C := RX5) (T := TX5) (N := 4) hx hb hts (fun _ h9 => List.mem_cons_of_mem _ (List.mem_append_right _ h9)) tyX5 tyX5_ok nmX5 hown hK hP hD hS 0 rfl rfl 2 (by decide) (hts (.fieldLink RX5 19 "FontRuns$Sheet" "lane" "I") mw_X5_begin_1) (fun _ h9 => h9) rfl (by decide +kernel) rfl rfl (Nat.le_of_ble_eq_true rfl) dX5_begin_28 (fun H locs hP hD hS => ?_)
    have hP : va_P D vwCl [(h0, .inr (5, [.ref r1, .int (zI 1), .int (zI x), .int (zI n)])), (r1, .inl (cr1, 60, .inl ja))] H := hP
    have hD : va_D A [(h0, .inr (5, [.ref r1, .int (zI 1), .int (zI x), .int (zI n)])), (r1, .inl (cr1, 60, .inl ja))] := hD
    refine lv_aload_n hx hb dX5_begin_31 rfl (lv_at hl 1 rfl) ?_
    refine lv_iload_n hx hb dX5_begin_32 rfl (lv_at hl 3 rfl) ?_
    refine va_put (D := D) (ci := 5) (v := .int (zI y)) (ty := .int) (C := RX5) (T := TX5) (N := 4) hx hb hts (fun _ h9 => List.mem_cons_of_mem _ (List.mem_append_right _ h9)) tyX5 tyX5_ok nmX5 hown hK hP hD hS 0 rfl rfl 3 (by decide) (hts (.fieldLink RX5 23 "FontRuns$Sheet" "size" "I") mw_X5_begin_2) (fun _ h9 => h9) rfl (by decide +kernel) rfl rfl (Nat.le_of_ble_eq_true rfl) dX5_begin_33 (fun H locs hP hD hS => ?_)
    have hP : va_P D vwCl [(h0, .inr (5, [.ref r1, .int (zI 1), .int (zI x), .int (zI y)])), (r1, .inl (cr1, 60, .inl ja))] H := hP
    have hD : va_D A [(h0, .inr (5, [.ref r1, .int (zI 1), .int (zI x), .int (zI y)])), (r1, .inl (cr1, 60, .inl ja))] := hD
    have hP9 := hP.sub (ws' := [(h0, .inr (5, [.ref r1, .int (zI 1), .int (zI x), .int (zI y)])), (r1, .inl (cr1, 60, .inl ja))]) [0, 1] rfl
    have hD9 := hD.sub (ws' := [(h0, .inr (5, [.ref r1, .int (zI 1), .int (zI x), .int (zI y)])), (r1, .inl (cr1, 60, .inl ja))]) [0, 1] (by decide +kernel) rfl
    exact W.vret hx hb hr (fun t ht hW => kQV_of ⟨ja, by rw [ht]; exact hP9, hD9⟩ (hS.F ht)) hS.2.2 dX5_begin_36
  · refine lv_aload_n hx hb dX5_begin_8 rfl (lv_at hl 1 rfl) ?_
    refine va_get (D := D) (ci := 5) (v := .ref r1) (C := RX5) (T := TX5) (N := 4) hx hb hts (fun _ h9 => List.mem_cons_of_mem _ (List.mem_append_right _ h9)) hown hK hP 0 rfl rfl 0 (by decide) (hts (.fieldLink RX5 9 "FontRuns$Sheet" "cells" "[I") mw_X5_begin_3) (fun _ h9 => h9) rfl dX5_begin_9 ?_
    refine lv_iload_n hx hb dX5_begin_12 rfl (lv_at hl 0 rfl) ?_
    refine lv_iconst (v := zI 0) hx hb dX5_begin_13 rfl ?_
    refine kz_iast hx hb hK hP hD hS 1 0 rfl rfl (by omega) dX5_begin_14 (fun H locs hP hD hS => ?_)
    have hP : va_P D vwCl [(h0, .inr (5, [.ref r1, .int (zI th), .int (zI la), .int (zI n)])), (r1, .inl (cr1, 60, .inl (upd ja (jk).toNat (zI 0))))] H := hP
    have hD : va_D A [(h0, .inr (5, [.ref r1, .int (zI th), .int (zI la), .int (zI n)])), (r1, .inl (cr1, 60, .inl (upd ja (jk).toNat (zI 0))))] := hD
    generalize ef_2 : upd ja (jk).toNat (zI 0) = f_2 at hP hD
    refine lv_iinc (v := (zI (jk + 1))) (lv' := [(3, .int (zI (jk + 1))), (0, .ref h0), (1, .int (zI x)), (2, .int (zI y))]) hx hb dX5_begin_15 hl (k := 0) rfl (kz_inc _ 1) (by decide) rfl (fun ls hl => ?_)
    refine lv_goto (tgt := 2) hx hb dX5_begin_18 (by decide) ?_
    exact ih2 _ (by omega) _ _ _ ⟨(jk + 1), f_2, rfl, (by omega), hP, hD, hS, lv_sub hl [0, 1, 2, 3] rfl⟩
theorem dX5_hasCell_0 : decode cX5_hasCell 0 = .ok (.aload_n 0, 1) := by decide +kernel
theorem dX5_hasCell_1 : decode cX5_hasCell 1 = .ok (.getfield 15, 3) := by decide +kernel
theorem dX5_hasCell_4 : decode cX5_hasCell 4 = .ok (.ifCond .eq 21, 3) := by decide +kernel
theorem dX5_hasCell_7 : decode cX5_hasCell 7 = .ok (.iload_n 1, 1) := by decide +kernel
theorem dX5_hasCell_8 : decode cX5_hasCell 8 = .ok (.iconst 0, 1) := by decide +kernel
theorem dX5_hasCell_9 : decode cX5_hasCell 9 = .ok (.aload_n 0, 1) := by decide +kernel
theorem dX5_hasCell_10 : decode cX5_hasCell 10 = .ok (.getfield 23, 3) := by decide +kernel
theorem dX5_hasCell_13 : decode cX5_hasCell 13 = .ok (.iconst 1, 1) := by decide +kernel
theorem dX5_hasCell_14 : decode cX5_hasCell 14 = .ok (.isub, 1) := by decide +kernel
theorem dX5_hasCell_15 : decode cX5_hasCell 15 = .ok (.invokestatic 26, 3) := by decide +kernel
theorem dX5_hasCell_18 : decode cX5_hasCell 18 = .ok (.ifCond .eq 7, 3) := by decide +kernel
theorem dX5_hasCell_21 : decode cX5_hasCell 21 = .ok (.iconst 1, 1) := by decide +kernel
theorem dX5_hasCell_22 : decode cX5_hasCell 22 = .ok (.goto 4, 3) := by decide +kernel
theorem dX5_hasCell_25 : decode cX5_hasCell 25 = .ok (.iconst 0, 1) := by decide +kernel
theorem dX5_hasCell_26 : decode cX5_hasCell 26 = .ok (.ireturn, 1) := by decide +kernel
set_option maxRecDepth 20000 in
theorem ggX5_hasCell_X8_isWithin : GoodIn wsX5_hasCell wsX8_isWithin := goodIn_4 _ (List.forall_mem_cons.mpr ⟨List.mem_cons_of_mem _ (List.mem_append_left _ (List.mem_of_getElem? (i := 4) rfl)), fun _ h9 => absurd h9 List.not_mem_nil⟩) (by decide +kernel)
set_option maxRecDepth 20000 in
theorem gX5_hasCell_X8_isWithin_n26 : GoodIn wsX5_hasCell (wsX8_isWithin) := ggX5_hasCell_X8_isWithin
set_option maxRecDepth 20000 in
theorem mw_X5_hasCell_0 : (.fieldLink RX5 15 "FontRuns$Sheet" "isThere" "Z" : Cond) ∈ wsX5_hasCell := List.mem_cons_of_mem _ (List.mem_append_left _ (List.mem_of_getElem? (i := 0) rfl))
set_option maxRecDepth 20000 in
theorem mw_X5_hasCell_1 : (.fieldLink RX5 23 "FontRuns$Sheet" "size" "I" : Cond) ∈ wsX5_hasCell := List.mem_cons_of_mem _ (List.mem_append_left _ (List.mem_of_getElem? (i := 1) rfl))
set_option maxRecDepth 20000 in
theorem mw_X5_hasCell_2 : (.initialized RX8 : Cond) ∈ wsX5_hasCell := List.mem_cons_of_mem _ (List.mem_append_left _ (List.mem_of_getElem? (i := 3) rfl))
set_option maxRecDepth 20000 in
theorem mw_X5_hasCell_3 : (.static yX8_isWithin : Cond) ∈ wsX5_hasCell := List.mem_cons_of_mem _ (List.mem_append_left _ (List.mem_of_getElem? (i := 2) rfl))
theorem ax_X5_hasCell_0 {e0 : Nat × va_E} : ([] : List Nat).map (fun i => ([e0] : va_W)[i]?) = ([] : va_W).map some := rfl
set_option maxHeartbeats 4000000 in
set_option maxRecDepth 100000 in
theorem c_X5_hasCell (l : Launch) (D : va_G) (sz : Nat) (i : Int) (h0 : Nat) (r1 : Nat) (th : Int) (la : Int) (n : Int) (q0 : rg i) (q1 : th = 0 ∨ th = 1) (q2 : rg la) (q3 : 0 ≤ n ∧ n ≤ 60) : Met l yX5_hasCell wsX5_hasCell ({ frames := 1, cells := 0, slots := 0, locals := 22 }) (kPre [.ref h0, .int (zI i)] D [(h0, .inr (5, [.ref r1, .int (zI th), .int (zI la), .int (zI n)]))] [] sz) (QcRead (if th = 1 ∧ 0 ≤ i ∧ i ≤ n - 1 then 1 else 0)) 0 0 (fun _ => False) := by
  refine Met.ofW (cc := cX5_hasCell) (maxL := 2) (ret := (some .boolean)) (by decide) rfl ?_
  intro p e s m args below meth c s₁ B hml hv
  obtain ⟨rfl, hsz, hP, hK, hD0, hN⟩ := hv
  have hx := B.exec
  have hb := B.bytes
  have hr := B.returns
  have hts := atoms_spec (ws := wsX5_hasCell) B.pre
  have hown : s.vm.findClass RX5 = some m.cls := findClass_of_methodNamed B.named
  have hlocks := B.notSynchronized
  subst hsz
  have hD := hD0
  have hP : va_P D vwCl [(h0, .inr (5, [.ref r1, .int (zI th), .int (zI la), .int (zI n)]))] s.heap := hP
  have hl := lv_entry ([.ref h0, .int (zI i)]) (n := 2) (Nat.le_of_ble_eq_true rfl)
  rw [lg_entry_eq]
  generalize (lg_sl ([.ref h0, .int (zI i)]) ++ List.replicate (2 - (lg_sl ([.ref h0, .int (zI i)])).length) Slot.unset).toArray = ls at hl ⊢
  have hl : lv_has ls 2 [(0, .ref h0), (1, .int (zI i))] := hl
  refine lv_aload_n hx hb dX5_hasCell_0 rfl (lv_at hl 0 rfl) ?_
  refine va_get (D := D) (ci := 5) (v := .int (zI th)) (C := RX5) (T := TX5) (N := 4) hx hb hts (fun _ h9 => List.mem_cons_of_mem _ (List.mem_append_right _ h9)) hown hK hP 0 rfl rfl 1 (by decide) (hts (.fieldLink RX5 15 "FontRuns$Sheet" "isThere" "Z") mw_X5_hasCell_0) (fun _ h9 => h9) rfl dX5_hasCell_1 ?_
  refine kz_if_eq (tgt := 25) hx hb dX5_hasCell_4 (by decide) (by omega) (fun c_1 => ?_) (fun c_1 => ?_)
  · refine lv_iconst (v := zI 0) hx hb dX5_hasCell_25 rfl ?_
    exact W.zret (v := (zI 0)) hx hb hr rfl (fun t ht hW => kRd (kb0 (by omega)) ht) (fun _ h9 => by cases h9) dX5_hasCell_26
  · refine lv_iload_n hx hb dX5_hasCell_7 rfl (lv_at hl 1 rfl) ?_
    refine lv_iconst (v := zI 0) hx hb dX5_hasCell_8 rfl ?_
    refine lv_aload_n hx hb dX5_hasCell_9 rfl (lv_at hl 0 rfl) ?_
    refine va_get (D := D) (ci := 5) (v := .int (zI n)) (C := RX5) (T := TX5) (N := 4) hx hb hts (fun _ h9 => List.mem_cons_of_mem _ (List.mem_append_right _ h9)) hown hK hP 0 rfl rfl 3 (by decide) (hts (.fieldLink RX5 23 "FontRuns$Sheet" "size" "I") mw_X5_hasCell_1) (fun _ h9 => h9) rfl dX5_hasCell_10 ?_
    refine lv_iconst (v := zI 1) hx hb dX5_hasCell_13 rfl ?_
    refine kz_isub hx hb dX5_hasCell_14 ?_
    refine k_callR (va_runSN (As := [.int (zI i), .int (zI 0), .int (zI (n - 1))]) (rest := []) ⟨hx, hb, hml, hown, hts⟩ (c_X8_isWithin l D s.heap.size (v := i) (a := 0) (b := (n - 1)) q0 (by omega) (by omega)) (⟨va_cnB 3 hts gX5_hasCell_X8_isWithin_n26 rfl rfl rfl (hN.1 (RX5, 26, yX8_isWithin) (by decide +kernel)) (hts (.initialized RX8) mw_X5_hasCell_2) (by decide +kernel) ⟨Nat.le_of_ble_eq_true rfl, Nat.le_of_ble_eq_true rfl⟩, (hts (.static yX8_isWithin) mw_X5_hasCell_3), trivial⟩) (kPreS hP (kD0 hD) hK hN [] [] ax_X5_hasCell_0 rfl (by decide +kernel)) rfl rfl hl.1 rfl (lv_room (Nat.le_of_ble_eq_true rfl)) dX5_hasCell_15 ⟨Nat.le_of_ble_eq_true rfl, Nat.le_of_ble_eq_true rfl⟩) ?_
    refine lv_if_eq (tgt := 25) hx hb dX5_hasCell_18 (by decide) (fun c_2 => ?_) (fun c_2 => ?_)
    · have c_2 : ¬ (0 ≤ i ∧ i ≤ (n - 1)) := b01f c_2
      refine lv_iconst (v := zI 0) hx hb dX5_hasCell_25 rfl ?_
      exact W.zret (v := (zI 0)) hx hb hr rfl (fun t ht hW => kRd (kb0 (by omega)) ht) (fun _ h9 => by cases h9) dX5_hasCell_26
    · have c_2 : 0 ≤ i ∧ i ≤ (n - 1) := b01t c_2
      refine lv_iconst (v := zI 1) hx hb dX5_hasCell_21 rfl ?_
      refine lv_goto (tgt := 26) hx hb dX5_hasCell_22 (by decide) ?_
      exact W.zret (v := (zI 1)) hx hb hr rfl (fun t ht hW => kRd (kb1 (by omega)) ht) (fun _ h9 => by cases h9) dX5_hasCell_26
theorem dX5_hasCells_0 : decode cX5_hasCells 0 = .ok (.aload_n 0, 1) := by decide +kernel
theorem dX5_hasCells_1 : decode cX5_hasCells 1 = .ok (.getfield 15, 3) := by decide +kernel
theorem dX5_hasCells_4 : decode cX5_hasCells 4 = .ok (.ifCond .eq 33, 3) := by decide +kernel
theorem dX5_hasCells_7 : decode cX5_hasCells 7 = .ok (.iload_n 1, 1) := by decide +kernel
theorem dX5_hasCells_8 : decode cX5_hasCells 8 = .ok (.iconst 0, 1) := by decide +kernel
theorem dX5_hasCells_9 : decode cX5_hasCells 9 = .ok (.aload_n 0, 1) := by decide +kernel
theorem dX5_hasCells_10 : decode cX5_hasCells 10 = .ok (.getfield 23, 3) := by decide +kernel
theorem dX5_hasCells_13 : decode cX5_hasCells 13 = .ok (.invokestatic 26, 3) := by decide +kernel
theorem dX5_hasCells_16 : decode cX5_hasCells 16 = .ok (.ifCond .eq 21, 3) := by decide +kernel
theorem dX5_hasCells_19 : decode cX5_hasCells 19 = .ok (.iload_n 2, 1) := by decide +kernel
theorem dX5_hasCells_20 : decode cX5_hasCells 20 = .ok (.iconst 0, 1) := by decide +kernel
theorem dX5_hasCells_21 : decode cX5_hasCells 21 = .ok (.aload_n 0, 1) := by decide +kernel
theorem dX5_hasCells_22 : decode cX5_hasCells 22 = .ok (.getfield 23, 3) := by decide +kernel
theorem dX5_hasCells_25 : decode cX5_hasCells 25 = .ok (.iload_n 1, 1) := by decide +kernel
theorem dX5_hasCells_26 : decode cX5_hasCells 26 = .ok (.isub, 1) := by decide +kernel
theorem dX5_hasCells_27 : decode cX5_hasCells 27 = .ok (.invokestatic 26, 3) := by decide +kernel
theorem dX5_hasCells_30 : decode cX5_hasCells 30 = .ok (.ifCond .eq 7, 3) := by decide +kernel
theorem dX5_hasCells_33 : decode cX5_hasCells 33 = .ok (.iconst 1, 1) := by decide +kernel
theorem dX5_hasCells_34 : decode cX5_hasCells 34 = .ok (.goto 4, 3) := by decide +kernel
theorem dX5_hasCells_37 : decode cX5_hasCells 37 = .ok (.iconst 0, 1) := by decide +kernel
theorem dX5_hasCells_38 : decode cX5_hasCells 38 = .ok (.ireturn, 1) := by decide +kernel
set_option maxRecDepth 20000 in
theorem ggX5_hasCells_X8_isWithin : GoodIn wsX5_hasCells wsX8_isWithin := goodIn_4 _ (List.forall_mem_cons.mpr ⟨List.mem_cons_of_mem _ (List.mem_append_left _ (List.mem_of_getElem? (i := 4) rfl)), fun _ h9 => absurd h9 List.not_mem_nil⟩) (by decide +kernel)
set_option maxRecDepth 20000 in
theorem gX5_hasCells_X8_isWithin_n26 : GoodIn wsX5_hasCells (wsX8_isWithin) := ggX5_hasCells_X8_isWithin
set_option maxRecDepth 20000 in
theorem mw_X5_hasCells_0 : (.fieldLink RX5 15 "FontRuns$Sheet" "isThere" "Z" : Cond) ∈ wsX5_hasCells := List.mem_cons_of_mem _ (List.mem_append_left _ (List.mem_of_getElem? (i := 0) rfl))
set_option maxRecDepth 20000 in
theorem mw_X5_hasCells_1 : (.fieldLink RX5 23 "FontRuns$Sheet" "size" "I" : Cond) ∈ wsX5_hasCells := List.mem_cons_of_mem _ (List.mem_append_left _ (List.mem_of_getElem? (i := 1) rfl))
set_option maxRecDepth 20000 in
theorem mw_X5_hasCells_2 : (.initialized RX8 : Cond) ∈ wsX5_hasCells := List.mem_cons_of_mem _ (List.mem_append_left _ (List.mem_of_getElem? (i := 3) rfl))
set_option maxRecDepth 20000 in
theorem mw_X5_hasCells_3 : (.static yX8_isWithin : Cond) ∈ wsX5_hasCells := List.mem_cons_of_mem _ (List.mem_append_left _ (List.mem_of_getElem? (i := 2) rfl))
theorem ax_X5_hasCells_0 {e0 : Nat × va_E} : ([] : List Nat).map (fun i => ([e0] : va_W)[i]?) = ([] : va_W).map some := rfl
set_option maxHeartbeats 4000000 in
set_option maxRecDepth 100000 in
theorem c_X5_hasCells (l : Launch) (D : va_G) (sz : Nat) (i : Int) (k : Int) (h0 : Nat) (r1 : Nat) (th : Int) (la : Int) (n : Int) (q0 : rg i) (q1 : rg k) (q2 : th = 0 ∨ th = 1) (q3 : rg la) (q4 : 0 ≤ n ∧ n ≤ 60) : Met l yX5_hasCells wsX5_hasCells ({ frames := 1, cells := 0, slots := 0, locals := 22 }) (kPre [.ref h0, .int (zI i), .int (zI k)] D [(h0, .inr (5, [.ref r1, .int (zI th), .int (zI la), .int (zI n)]))] [] sz) (QcRead (if th = 1 ∧ (0 ≤ i ∧ i ≤ n) ∧ (0 ≤ k ∧ k ≤ n - i) then 1 else 0)) 0 0 (fun _ => False) := by
  refine Met.ofW (cc := cX5_hasCells) (maxL := 3) (ret := (some .boolean)) (by decide) rfl ?_
  intro p e s m args below meth c s₁ B hml hv
  obtain ⟨rfl, hsz, hP, hK, hD0, hN⟩ := hv
  have hx := B.exec
  have hb := B.bytes
  have hr := B.returns
  have hts := atoms_spec (ws := wsX5_hasCells) B.pre
  have hown : s.vm.findClass RX5 = some m.cls := findClass_of_methodNamed B.named
  have hlocks := B.notSynchronized
  subst hsz
  have hD := hD0
  have hP : va_P D vwCl [(h0, .inr (5, [.ref r1, .int (zI th), .int (zI la), .int (zI n)]))] s.heap := hP
  have hl := lv_entry ([.ref h0, .int (zI i), .int (zI k)]) (n := 3) (Nat.le_of_ble_eq_true rfl)
  rw [lg_entry_eq]
  generalize (lg_sl ([.ref h0, .int (zI i), .int (zI k)]) ++ List.replicate (3 - (lg_sl ([.ref h0, .int (zI i), .int (zI k)])).length) Slot.unset).toArray = ls at hl ⊢
  have hl : lv_has ls 3 [(0, .ref h0), (1, .int (zI i)), (2, .int (zI k))] := hl
  refine lv_aload_n hx hb dX5_hasCells_0 rfl (lv_at hl 0 rfl) ?_
  refine va_get (D := D) (ci := 5) (v := .int (zI th)) (C := RX5) (T := TX5) (N := 4) hx hb hts (fun _ h9 => List.mem_cons_of_mem _ (List.mem_append_right _ h9)) hown hK hP 0 rfl rfl 1 (by decide) (hts (.fieldLink RX5 15 "FontRuns$Sheet" "isThere" "Z") mw_X5_hasCells_0) (fun _ h9 => h9) rfl dX5_hasCells_1 ?_
  refine kz_if_eq (tgt := 37) hx hb dX5_hasCells_4 (by decide) (by omega) (fun c_1 => ?_) (fun c_1 => ?_)
  · refine lv_iconst (v := zI 0) hx hb dX5_hasCells_37 rfl ?_
    exact W.zret (v := (zI 0)) hx hb hr rfl (fun t ht hW => kRd (kb0 (by omega)) ht) (fun _ h9 => by cases h9) dX5_hasCells_38
  · refine lv_iload_n hx hb dX5_hasCells_7 rfl (lv_at hl 1 rfl) ?_
    refine lv_iconst (v := zI 0) hx hb dX5_hasCells_8 rfl ?_
    refine lv_aload_n hx hb dX5_hasCells_9 rfl (lv_at hl 0 rfl) ?_
    refine va_get (D := D) (ci := 5) (v := .int (zI n)) (C := RX5) (T := TX5) (N := 4) hx hb hts (fun _ h9 => List.mem_cons_of_mem _ (List.mem_append_right _ h9)) hown hK hP 0 rfl rfl 3 (by decide) (hts (.fieldLink RX5 23 "FontRuns$Sheet" "size" "I") mw_X5_hasCells_1) (fun _ h9 => h9) rfl dX5_hasCells_10 ?_
    refine k_callR (va_runSN (As := [.int (zI i), .int (zI 0), .int (zI n)]) (rest := []) ⟨hx, hb, hml, hown, hts⟩ (c_X8_isWithin l D s.heap.size (v := i) (a := 0) (b := n) q0 (by omega) (by omega)) (⟨va_cnB 3 hts gX5_hasCells_X8_isWithin_n26 rfl rfl rfl (hN.1 (RX5, 26, yX8_isWithin) (by decide +kernel)) (hts (.initialized RX8) mw_X5_hasCells_2) (by decide +kernel) ⟨Nat.le_of_ble_eq_true rfl, Nat.le_of_ble_eq_true rfl⟩, (hts (.static yX8_isWithin) mw_X5_hasCells_3), trivial⟩) (kPreS hP (kD0 hD) hK hN [] [] ax_X5_hasCells_0 rfl (by decide +kernel)) rfl rfl hl.1 rfl (lv_room (Nat.le_of_ble_eq_true rfl)) dX5_hasCells_13 ⟨Nat.le_of_ble_eq_true rfl, Nat.le_of_ble_eq_true rfl⟩) ?_
    refine lv_if_eq (tgt := 37) hx hb dX5_hasCells_16 (by decide) (fun c_2 => ?_) (fun c_2 => ?_)
    · have c_2 : ¬ (0 ≤ i ∧ i ≤ n) := b01f c_2
      refine lv_iconst (v := zI 0) hx hb dX5_hasCells_37 rfl ?_
      exact W.zret (v := (zI 0)) hx hb hr rfl (fun t ht hW => kRd (kb0 (by omega)) ht) (fun _ h9 => by cases h9) dX5_hasCells_38
    · have c_2 : 0 ≤ i ∧ i ≤ n := b01t c_2
      refine lv_iload_n hx hb dX5_hasCells_19 rfl (lv_at hl 2 rfl) ?_
      refine lv_iconst (v := zI 0) hx hb dX5_hasCells_20 rfl ?_
      refine lv_aload_n hx hb dX5_hasCells_21 rfl (lv_at hl 0 rfl) ?_
      refine va_get (D := D) (ci := 5) (v := .int (zI n)) (C := RX5) (T := TX5) (N := 4) hx hb hts (fun _ h9 => List.mem_cons_of_mem _ (List.mem_append_right _ h9)) hown hK hP 0 rfl rfl 3 (by decide) (hts (.fieldLink RX5 23 "FontRuns$Sheet" "size" "I") mw_X5_hasCells_1) (fun _ h9 => h9) rfl dX5_hasCells_22 ?_
      refine lv_iload_n hx hb dX5_hasCells_25 rfl (lv_at hl 1 rfl) ?_
      refine kz_isub hx hb dX5_hasCells_26 ?_
      refine k_callR (va_runSN (As := [.int (zI k), .int (zI 0), .int (zI (n - i))]) (rest := []) ⟨hx, hb, hml, hown, hts⟩ (c_X8_isWithin l D s.heap.size (v := k) (a := 0) (b := (n - i)) q1 (by omega) (by omega)) (⟨va_cnB 3 hts gX5_hasCells_X8_isWithin_n26 rfl rfl rfl (hN.1 (RX5, 26, yX8_isWithin) (by decide +kernel)) (hts (.initialized RX8) mw_X5_hasCells_2) (by decide +kernel) ⟨Nat.le_of_ble_eq_true rfl, Nat.le_of_ble_eq_true rfl⟩, (hts (.static yX8_isWithin) mw_X5_hasCells_3), trivial⟩) (kPreS hP (kD0 hD) hK hN [] [] ax_X5_hasCells_0 rfl (by decide +kernel)) rfl rfl hl.1 rfl (lv_room (Nat.le_of_ble_eq_true rfl)) dX5_hasCells_27 ⟨Nat.le_of_ble_eq_true rfl, Nat.le_of_ble_eq_true rfl⟩) ?_
      refine lv_if_eq (tgt := 37) hx hb dX5_hasCells_30 (by decide) (fun c_3 => ?_) (fun c_3 => ?_)
      · have c_3 : ¬ (0 ≤ k ∧ k ≤ (n - i)) := b01f c_3
        refine lv_iconst (v := zI 0) hx hb dX5_hasCells_37 rfl ?_
        exact W.zret (v := (zI 0)) hx hb hr rfl (fun t ht hW => kRd (kb0 (by omega)) ht) (fun _ h9 => by cases h9) dX5_hasCells_38
      · have c_3 : 0 ≤ k ∧ k ≤ (n - i) := b01t c_3
        refine lv_iconst (v := zI 1) hx hb dX5_hasCells_33 rfl ?_
        refine lv_goto (tgt := 38) hx hb dX5_hasCells_34 (by decide) ?_
        exact W.zret (v := (zI 1)) hx hb hr rfl (fun t ht hW => kRd (kb1 (by omega)) ht) (fun _ h9 => by cases h9) dX5_hasCells_38
theorem dX5_at_0 : decode cX5_at 0 = .ok (.aload_n 0, 1) := by decide +kernel
theorem dX5_at_1 : decode cX5_at 1 = .ok (.iload_n 1, 1) := by decide +kernel
theorem dX5_at_2 : decode cX5_at 2 = .ok (.invokevirtual 30, 3) := by decide +kernel
theorem dX5_at_5 : decode cX5_at 5 = .ok (.ifCond .eq 12, 3) := by decide +kernel
theorem dX5_at_8 : decode cX5_at 8 = .ok (.aload_n 0, 1) := by decide +kernel
theorem dX5_at_9 : decode cX5_at 9 = .ok (.getfield 9, 3) := by decide +kernel
theorem dX5_at_12 : decode cX5_at 12 = .ok (.iload_n 1, 1) := by decide +kernel
theorem dX5_at_13 : decode cX5_at 13 = .ok (.iaload, 1) := by decide +kernel
theorem dX5_at_14 : decode cX5_at 14 = .ok (.goto 4, 3) := by decide +kernel
theorem dX5_at_17 : decode cX5_at 17 = .ok (.iconst 0, 1) := by decide +kernel
theorem dX5_at_18 : decode cX5_at 18 = .ok (.ireturn, 1) := by decide +kernel
set_option maxRecDepth 20000 in
theorem ggX5_at_X5_hasCell : GoodIn wsX5_at wsX5_hasCell := goodIn_4 _ (List.forall_mem_cons.mpr ⟨List.mem_cons_of_mem _ (List.mem_append_left _ (List.mem_of_getElem? (i := 5) rfl)), List.forall_mem_append.mpr ⟨List.forall_mem_cons.mpr ⟨List.mem_cons_of_mem _ (List.mem_append_left _ (List.mem_of_getElem? (i := 6) rfl)), List.forall_mem_cons.mpr ⟨List.mem_cons_of_mem _ (List.mem_append_left _ (List.mem_of_getElem? (i := 7) rfl)), List.forall_mem_cons.mpr ⟨List.mem_cons_of_mem _ (List.mem_append_left _ (List.mem_of_getElem? (i := 8) rfl)), List.forall_mem_cons.mpr ⟨List.mem_cons_of_mem _ (List.mem_append_left _ (List.mem_of_getElem? (i := 9) rfl)), List.forall_mem_cons.mpr ⟨List.mem_cons_of_mem _ (List.mem_append_left _ (List.mem_of_getElem? (i := 10) rfl)), fun _ h9 => absurd h9 List.not_mem_nil⟩⟩⟩⟩⟩, fun w h9 => List.mem_cons_of_mem _ (List.mem_append_right _ (h9))⟩⟩) (by decide +kernel)
set_option maxRecDepth 20000 in
theorem gX5_at_X5_hasCell : GoodIn wsX5_at (wsV RX5 30 RX5 yX5_hasCell wsX5_hasCell) := goodIn_app (goodIn_4 _ (List.forall_mem_cons.mpr ⟨List.mem_cons_of_mem _ (List.mem_append_left _ (List.mem_of_getElem? (i := 1) rfl)), List.forall_mem_cons.mpr ⟨List.mem_cons_of_mem _ (List.mem_append_left _ (List.mem_of_getElem? (i := 2) rfl)), List.forall_mem_cons.mpr ⟨List.mem_cons_of_mem _ (List.mem_append_left _ (List.mem_of_getElem? (i := 3) rfl)), List.forall_mem_cons.mpr ⟨List.mem_cons_of_mem _ (List.mem_append_left _ (List.mem_of_getElem? (i := 4) rfl)), fun _ h9 => absurd h9 List.not_mem_nil⟩⟩⟩⟩) (by decide +kernel)) ggX5_at_X5_hasCell
set_option maxRecDepth 20000 in
theorem mw_X5_at_0 : (.fieldLink RX5 9 "FontRuns$Sheet" "cells" "[I" : Cond) ∈ wsX5_at := List.mem_cons_of_mem _ (List.mem_append_left _ (List.mem_of_getElem? (i := 0) rfl))
theorem ax_X5_at_0 {e0 e1 : Nat × va_E} : ([0] : List Nat).map (fun i => ([e0, e1] : va_W)[i]?) = ([e0] : va_W).map some := rfl
set_option maxHeartbeats 4000000 in
set_option maxRecDepth 100000 in
theorem c_X5_at (l : Launch) (D : va_G) (sz : Nat) (i : Int) (h0 : Nat) (r1 : Nat) (th : Int) (la : Int) (n : Int) (cr1 : ClassId) (fr : Nat → Int32) (q0 : rg i) (q1 : th = 0 ∨ th = 1) (q2 : rg la) (q3 : 0 ≤ n ∧ n ≤ 60) : Met l yX5_at wsX5_at ({ frames := 2, cells := 0, slots := 0, locals := 43 }) (kPre [.ref h0, .int (zI i)] D [(h0, .inr (5, [.ref r1, .int (zI th), .int (zI la), .int (zI n)])), (r1, .inl (cr1, 60, .inl fr))] [(cr1, .int)] sz) (QcP (fun rz => True)) 0 0 (fun _ => False) := by
  refine Met.ofW (cc := cX5_at) (maxL := 2) (ret := (some .int)) (by decide) rfl ?_
  intro p e s m args below meth c s₁ B hml hv
  obtain ⟨rfl, hsz, hP, hK, hD0, hN⟩ := hv
  have hx := B.exec
  have hb := B.bytes
  have hr := B.returns
  have hts := atoms_spec (ws := wsX5_at) B.pre
  have hown : s.vm.findClass RX5 = some m.cls := findClass_of_methodNamed B.named
  have hlocks := B.notSynchronized
  subst hsz
  have hD := hD0
  have hP : va_P D vwCl [(h0, .inr (5, [.ref r1, .int (zI th), .int (zI la), .int (zI n)])), (r1, .inl (cr1, 60, .inl fr))] s.heap := hP
  have hl := lv_entry ([.ref h0, .int (zI i)]) (n := 2) (Nat.le_of_ble_eq_true rfl)
  rw [lg_entry_eq]
  generalize (lg_sl ([.ref h0, .int (zI i)]) ++ List.replicate (2 - (lg_sl ([.ref h0, .int (zI i)])).length) Slot.unset).toArray = ls at hl ⊢
  have hl : lv_has ls 2 [(0, .ref h0), (1, .int (zI i))] := hl
  refine lv_aload_n hx hb dX5_at_0 rfl (lv_at hl 0 rfl) ?_
  refine lv_iload_n hx hb dX5_at_1 rfl (lv_at hl 1 rfl) ?_
  refine k_callR (va_runV (As := [.int (zI i)]) (rest := []) ⟨hx, hb, hml, hown, hts⟩ (c_X5_hasCell l D s.heap.size (i := i) (h0 := h0) (r1 := r1) (th := th) (la := la) (n := n) q0 q1 q2 q3) (cwV 1 hts gX5_at_X5_hasCell rfl rfl rfl (by decide +kernel) ⟨Nat.le_of_ble_eq_true rfl, Nat.le_of_ble_eq_true rfl⟩) (kPreV hP (kD0 hD) hK hN [0] [] ax_X5_at_0 rfl (by decide +kernel) 0 5 rfl rfl) rfl rfl hl.1 rfl (lv_room (Nat.le_of_ble_eq_true rfl)) dX5_at_2 ⟨Nat.le_of_ble_eq_true rfl, Nat.le_of_ble_eq_true rfl⟩) ?_
  refine lv_if_eq (tgt := 17) hx hb dX5_at_5 (by decide) (fun c_1 => ?_) (fun c_1 => ?_)
  · have c_1 : ¬ (th = 1 ∧ 0 ≤ i ∧ i ≤ n - 1) := b01f c_1
    refine lv_iconst (v := zI 0) hx hb dX5_at_17 rfl ?_
    exact W.iret (v := (zI 0)) hx hb hr (fun t ht hW => QcP_of (by omega) trivial ht) (fun _ h9 => by cases h9) dX5_at_18
  · have c_1 : th = 1 ∧ 0 ≤ i ∧ i ≤ n - 1 := b01t c_1
    refine lv_aload_n hx hb dX5_at_8 rfl (lv_at hl 0 rfl) ?_
    refine va_get (D := D) (ci := 5) (v := .ref r1) (C := RX5) (T := TX5) (N := 4) hx hb hts (fun _ h9 => List.mem_cons_of_mem _ (List.mem_append_right _ h9)) hown hK hP 0 rfl rfl 0 (by decide) (hts (.fieldLink RX5 9 "FontRuns$Sheet" "cells" "[I") mw_X5_at_0) (fun _ h9 => h9) rfl dX5_at_9 ?_
    refine lv_iload_n hx hb dX5_at_12 rfl (lv_at hl 1 rfl) ?_
    refine kz_iald hx hb hK hP 1 0 rfl rfl (by omega) dX5_at_13 (fun z_2 rz_2 ez_2 => ?_)
    refine lv_goto (tgt := 18) hx hb dX5_at_14 (by decide) ?_
    exact W.iret (v := (zI z_2)) hx hb hr (fun t ht hW => QcP_of (by omega) trivial ht) (fun _ h9 => by cases h9) dX5_at_18
theorem dX5_cut_0 : decode cX5_cut 0 = .ok (.aload_n 0, 1) := by decide +kernel
theorem dX5_cut_1 : decode cX5_cut 1 = .ok (.getfield 19, 3) := by decide +kernel
theorem dX5_cut_4 : decode cX5_cut 4 = .ok (.lookupswitch 34 #[(0, 28), (1, 31)], 28) := by decide +kernel
theorem dX5_cut_32 : decode cX5_cut 32 = .ok (.iload_n 1, 1) := by decide +kernel
theorem dX5_cut_33 : decode cX5_cut 33 = .ok (.i2b, 1) := by decide +kernel
theorem dX5_cut_34 : decode cX5_cut 34 = .ok (.ireturn, 1) := by decide +kernel
theorem dX5_cut_35 : decode cX5_cut 35 = .ok (.iload_n 1, 1) := by decide +kernel
theorem dX5_cut_36 : decode cX5_cut 36 = .ok (.i2s, 1) := by decide +kernel
theorem dX5_cut_37 : decode cX5_cut 37 = .ok (.ireturn, 1) := by decide +kernel
theorem dX5_cut_38 : decode cX5_cut 38 = .ok (.iload_n 1, 1) := by decide +kernel
theorem dX5_cut_39 : decode cX5_cut 39 = .ok (.ireturn, 1) := by decide +kernel
set_option maxRecDepth 20000 in
theorem mw_X5_cut_0 : (.fieldLink RX5 19 "FontRuns$Sheet" "lane" "I" : Cond) ∈ wsX5_cut := List.mem_cons_of_mem _ (List.mem_append_left _ (List.mem_of_getElem? (i := 0) rfl))
set_option maxHeartbeats 4000000 in
set_option maxRecDepth 100000 in
theorem c_X5_cut (l : Launch) (D : va_G) (sz : Nat) (x : Int) (h0 : Nat) (r1 : Nat) (th : Int) (la : Int) (n : Int) (q0 : rg x) (q1 : th = 0 ∨ th = 1) (q2 : rg la) (q3 : 0 ≤ n ∧ n ≤ 60) : Met l yX5_cut wsX5_cut ({ frames := 0, cells := 0, slots := 0, locals := 0 }) (kPre [.ref h0, .int (zI x)] D [(h0, .inr (5, [.ref r1, .int (zI th), .int (zI la), .int (zI n)]))] [] sz) (QcP (fun rz => True)) 0 0 (fun _ => False) := by
  refine Met.ofW (cc := cX5_cut) (maxL := 2) (ret := (some .int)) (by decide) rfl ?_
  intro p e s m args below meth c s₁ B hml hv
  obtain ⟨rfl, hsz, hP, hK, hD0, hN⟩ := hv
  have hx := B.exec
  have hb := B.bytes
  have hr := B.returns
  have hts := atoms_spec (ws := wsX5_cut) B.pre
  have hown : s.vm.findClass RX5 = some m.cls := findClass_of_methodNamed B.named
  have hlocks := B.notSynchronized
  subst hsz
  have hD := hD0
  have hP : va_P D vwCl [(h0, .inr (5, [.ref r1, .int (zI th), .int (zI la), .int (zI n)]))] s.heap := hP
  have hl := lv_entry ([.ref h0, .int (zI x)]) (n := 2) (Nat.le_of_ble_eq_true rfl)
  rw [lg_entry_eq]
  generalize (lg_sl ([.ref h0, .int (zI x)]) ++ List.replicate (2 - (lg_sl ([.ref h0, .int (zI x)])).length) Slot.unset).toArray = ls at hl ⊢
  have hl : lv_has ls 2 [(0, .ref h0), (1, .int (zI x))] := hl
  refine lv_aload_n hx hb dX5_cut_0 rfl (lv_at hl 0 rfl) ?_
  refine va_get (D := D) (ci := 5) (v := .int (zI la)) (C := RX5) (T := TX5) (N := 4) hx hb hts (fun _ h9 => List.mem_cons_of_mem _ (List.mem_append_right _ h9)) hown hK hP 0 rfl rfl 2 (by decide) (hts (.fieldLink RX5 19 "FontRuns$Sheet" "lane" "I") mw_X5_cut_0) (fun _ h9 => h9) rfl dX5_cut_1 ?_
  rcases (show la = 0 ∨ la = 1 ∨ (¬ la = 0 ∧ ¬ la = 1) from by omega) with c_1 | c_1 | c_1
  · refine kz_look (tgt := 32) (off := 28) hx hb dX5_cut_4 (by decide) (by omega) (by show Op.lookupswitch.offset [(0, 28), (1, 31)] 34 la = 28; rw [Op.lookupswitch.offset_cons, Op.lookupswitch.offset_cons, Op.lookupswitch.offset_nil]; (repeat' split) <;> omega) (by decide) ?_
    refine lv_iload_n hx hb dX5_cut_32 rfl (lv_at hl 1 rfl) ?_
    refine lv_i2b (v := (zI x).toInt8.toInt32) hx hb dX5_cut_33 rfl ?_
    refine kz_any (fun z_2 rz_2 ez_2 => ?_)
    exact W.iret (v := (zI z_2)) hx hb hr (fun t ht hW => QcP_of (by omega) trivial ht) (fun _ h9 => by cases h9) dX5_cut_34
  · refine kz_look (tgt := 35) (off := 31) hx hb dX5_cut_4 (by decide) (by omega) (by show Op.lookupswitch.offset [(0, 28), (1, 31)] 34 la = 31; rw [Op.lookupswitch.offset_cons, Op.lookupswitch.offset_cons, Op.lookupswitch.offset_nil]; (repeat' split) <;> omega) (by decide) ?_
    refine lv_iload_n hx hb dX5_cut_35 rfl (lv_at hl 1 rfl) ?_
    refine lv_i2s (v := (zI x).toInt16.toInt32) hx hb dX5_cut_36 rfl ?_
    refine kz_any (fun z_3 rz_3 ez_3 => ?_)
    exact W.iret (v := (zI z_3)) hx hb hr (fun t ht hW => QcP_of (by omega) trivial ht) (fun _ h9 => by cases h9) dX5_cut_37
  · refine kz_look (tgt := 38) (off := 34) hx hb dX5_cut_4 (by decide) (by omega) (by show Op.lookupswitch.offset [(0, 28), (1, 31)] 34 la = 34; rw [Op.lookupswitch.offset_cons, Op.lookupswitch.offset_cons, Op.lookupswitch.offset_nil]; (repeat' split) <;> omega) (by decide) ?_
    refine lv_iload_n hx hb dX5_cut_38 rfl (lv_at hl 1 rfl) ?_
    exact W.iret (v := (zI x)) hx hb hr (fun t ht hW => QcP_of (by omega) trivial ht) (fun _ h9 => by cases h9) dX5_cut_39
theorem dJ6_bitCount_0f7a4_0 : decode cJ6_bitCount_0f7a4 0 = .ok (.iload_n 0, 1) := by decide +kernel
theorem dJ6_bitCount_0f7a4_1 : decode cJ6_bitCount_0f7a4 1 = .ok (.iload_n 0, 1) := by decide +kernel
theorem dJ6_bitCount_0f7a4_2 : decode cJ6_bitCount_0f7a4 2 = .ok (.iconst 1, 1) := by decide +kernel
theorem dJ6_bitCount_0f7a4_3 : decode cJ6_bitCount_0f7a4 3 = .ok (.iushr, 1) := by decide +kernel
theorem dJ6_bitCount_0f7a4_4 : decode cJ6_bitCount_0f7a4 4 = .ok (.ldc_w 265, 3) := by decide +kernel
theorem dJ6_bitCount_0f7a4_7 : decode cJ6_bitCount_0f7a4 7 = .ok (.iand, 1) := by decide +kernel
theorem dJ6_bitCount_0f7a4_8 : decode cJ6_bitCount_0f7a4 8 = .ok (.isub, 1) := by decide +kernel
theorem dJ6_bitCount_0f7a4_9 : decode cJ6_bitCount_0f7a4 9 = .ok (.istore_n 0, 1) := by decide +kernel
theorem dJ6_bitCount_0f7a4_10 : decode cJ6_bitCount_0f7a4 10 = .ok (.iload_n 0, 1) := by decide +kernel
theorem dJ6_bitCount_0f7a4_11 : decode cJ6_bitCount_0f7a4 11 = .ok (.ldc_w 266, 3) := by decide +kernel
theorem dJ6_bitCount_0f7a4_14 : decode cJ6_bitCount_0f7a4 14 = .ok (.iand, 1) := by decide +kernel
theorem dJ6_bitCount_0f7a4_15 : decode cJ6_bitCount_0f7a4 15 = .ok (.iload_n 0, 1) := by decide +kernel
theorem dJ6_bitCount_0f7a4_16 : decode cJ6_bitCount_0f7a4 16 = .ok (.iconst 2, 1) := by decide +kernel
theorem dJ6_bitCount_0f7a4_17 : decode cJ6_bitCount_0f7a4 17 = .ok (.iushr, 1) := by decide +kernel
theorem dJ6_bitCount_0f7a4_18 : decode cJ6_bitCount_0f7a4 18 = .ok (.ldc_w 266, 3) := by decide +kernel
theorem dJ6_bitCount_0f7a4_21 : decode cJ6_bitCount_0f7a4 21 = .ok (.iand, 1) := by decide +kernel
theorem dJ6_bitCount_0f7a4_22 : decode cJ6_bitCount_0f7a4 22 = .ok (.iadd, 1) := by decide +kernel
theorem dJ6_bitCount_0f7a4_23 : decode cJ6_bitCount_0f7a4 23 = .ok (.istore_n 0, 1) := by decide +kernel
theorem dJ6_bitCount_0f7a4_24 : decode cJ6_bitCount_0f7a4 24 = .ok (.iload_n 0, 1) := by decide +kernel
theorem dJ6_bitCount_0f7a4_25 : decode cJ6_bitCount_0f7a4 25 = .ok (.iload_n 0, 1) := by decide +kernel
theorem dJ6_bitCount_0f7a4_26 : decode cJ6_bitCount_0f7a4 26 = .ok (.iconst 4, 1) := by decide +kernel
theorem dJ6_bitCount_0f7a4_27 : decode cJ6_bitCount_0f7a4 27 = .ok (.iushr, 1) := by decide +kernel
theorem dJ6_bitCount_0f7a4_28 : decode cJ6_bitCount_0f7a4 28 = .ok (.iadd, 1) := by decide +kernel
theorem dJ6_bitCount_0f7a4_29 : decode cJ6_bitCount_0f7a4 29 = .ok (.ldc_w 267, 3) := by decide +kernel
theorem dJ6_bitCount_0f7a4_32 : decode cJ6_bitCount_0f7a4 32 = .ok (.iand, 1) := by decide +kernel
theorem dJ6_bitCount_0f7a4_33 : decode cJ6_bitCount_0f7a4 33 = .ok (.istore_n 0, 1) := by decide +kernel
theorem dJ6_bitCount_0f7a4_34 : decode cJ6_bitCount_0f7a4 34 = .ok (.iload_n 0, 1) := by decide +kernel
theorem dJ6_bitCount_0f7a4_35 : decode cJ6_bitCount_0f7a4 35 = .ok (.iload_n 0, 1) := by decide +kernel
theorem dJ6_bitCount_0f7a4_36 : decode cJ6_bitCount_0f7a4 36 = .ok (.bipush 8, 2) := by decide +kernel
theorem dJ6_bitCount_0f7a4_38 : decode cJ6_bitCount_0f7a4 38 = .ok (.iushr, 1) := by decide +kernel
theorem dJ6_bitCount_0f7a4_39 : decode cJ6_bitCount_0f7a4 39 = .ok (.iadd, 1) := by decide +kernel
theorem dJ6_bitCount_0f7a4_40 : decode cJ6_bitCount_0f7a4 40 = .ok (.istore_n 0, 1) := by decide +kernel
theorem dJ6_bitCount_0f7a4_41 : decode cJ6_bitCount_0f7a4 41 = .ok (.iload_n 0, 1) := by decide +kernel
theorem dJ6_bitCount_0f7a4_42 : decode cJ6_bitCount_0f7a4 42 = .ok (.iload_n 0, 1) := by decide +kernel
theorem dJ6_bitCount_0f7a4_43 : decode cJ6_bitCount_0f7a4 43 = .ok (.bipush 16, 2) := by decide +kernel
theorem dJ6_bitCount_0f7a4_45 : decode cJ6_bitCount_0f7a4 45 = .ok (.iushr, 1) := by decide +kernel
theorem dJ6_bitCount_0f7a4_46 : decode cJ6_bitCount_0f7a4 46 = .ok (.iadd, 1) := by decide +kernel
theorem dJ6_bitCount_0f7a4_47 : decode cJ6_bitCount_0f7a4 47 = .ok (.istore_n 0, 1) := by decide +kernel
theorem dJ6_bitCount_0f7a4_48 : decode cJ6_bitCount_0f7a4 48 = .ok (.iload_n 0, 1) := by decide +kernel
theorem dJ6_bitCount_0f7a4_49 : decode cJ6_bitCount_0f7a4 49 = .ok (.bipush 63, 2) := by decide +kernel
theorem dJ6_bitCount_0f7a4_51 : decode cJ6_bitCount_0f7a4 51 = .ok (.iand, 1) := by decide +kernel
theorem dJ6_bitCount_0f7a4_52 : decode cJ6_bitCount_0f7a4 52 = .ok (.ireturn, 1) := by decide +kernel
set_option maxRecDepth 20000 in
theorem mw_J6_bitCount_0f7a4_0 : (.constant RJ6 265 (1431655765) : Cond) ∈ wsJ6_bitCount_0f7a4 := List.mem_cons_of_mem _ (List.mem_of_getElem? (i := 0) rfl)
set_option maxRecDepth 20000 in
theorem mw_J6_bitCount_0f7a4_1 : (.constant RJ6 266 (858993459) : Cond) ∈ wsJ6_bitCount_0f7a4 := List.mem_cons_of_mem _ (List.mem_of_getElem? (i := 1) rfl)
set_option maxRecDepth 20000 in
theorem mw_J6_bitCount_0f7a4_2 : (.constant RJ6 267 (252645135) : Cond) ∈ wsJ6_bitCount_0f7a4 := List.mem_cons_of_mem _ (List.mem_of_getElem? (i := 2) rfl)
set_option maxHeartbeats 4000000 in
set_option maxRecDepth 100000 in
theorem c_J6_bitCount_0f7a4 (l : Launch) (D : va_G) (sz : Nat) (x : Int) (q0 : rg x) : Met l yJ6_bitCount_0f7a4 wsJ6_bitCount_0f7a4 ({ frames := 0, cells := 0, slots := 0, locals := 0 }) (kPre [.int (zI x)] D [] [] sz) (QcP (fun rz => True)) 0 0 (fun _ => False) := by
  refine Met.ofW (cc := cJ6_bitCount_0f7a4) (maxL := 1) (ret := (some .int)) (by decide) rfl ?_
  intro p e s m args below meth c s₁ B hml hv
  obtain ⟨rfl, hsz, hP, hK, hD0, hN⟩ := hv
  have hx := B.exec
  have hb := B.bytes
  have hr := B.returns
  have hts := atoms_spec (ws := wsJ6_bitCount_0f7a4) B.pre
  have hown : s.vm.findClass RJ6 = some m.cls := findClass_of_methodNamed B.named
  have hlocks := B.notSynchronized
  subst hsz
  have hD := hD0
  have hP : va_P D vwCl [] s.heap := hP
  have hl := lv_entry ([.int (zI x)]) (n := 1) (Nat.le_of_ble_eq_true rfl)
  rw [lg_entry_eq]
  generalize (lg_sl ([.int (zI x)]) ++ List.replicate (1 - (lg_sl ([.int (zI x)])).length) Slot.unset).toArray = ls at hl ⊢
  have hl : lv_has ls 1 [(0, .int (zI x))] := hl
  refine lv_iload_n hx hb dJ6_bitCount_0f7a4_0 rfl (lv_at hl 0 rfl) ?_
  refine lv_iload_n hx hb dJ6_bitCount_0f7a4_1 rfl (lv_at hl 0 rfl) ?_
  refine lv_iconst (v := zI 1) hx hb dJ6_bitCount_0f7a4_2 rfl ?_
  refine lv_iushr hx hb dJ6_bitCount_0f7a4_3 rfl ?_
  refine kz_any (fun z_1 rz_1 ez_1 => ?_)
  refine lv_ldcw (v := zI 1431655765) hx hb hown (show (Cond.constant RJ6 265 (zI 1431655765)).before _ s = true from (hts (.constant RJ6 265 (1431655765)) mw_J6_bitCount_0f7a4_0)) dJ6_bitCount_0f7a4_4 ?_
  refine lv_iand hx hb dJ6_bitCount_0f7a4_7 ?_
  refine kz_any (fun z_2 rz_2 ez_2 => ?_)
  refine kz_isub hx hb dJ6_bitCount_0f7a4_8 ?_
  refine kz_any (fun z_3 rz_3 ez_3 => ?_)
  refine lv_istore_n (lv' := [(0, .int (zI z_3))]) hx hb dJ6_bitCount_0f7a4_9 rfl hl (by decide) rfl (fun ls hl => ?_)
  refine lv_iload_n hx hb dJ6_bitCount_0f7a4_10 rfl (lv_at hl 0 rfl) ?_
  refine lv_ldcw (v := zI 858993459) hx hb hown (show (Cond.constant RJ6 266 (zI 858993459)).before _ s = true from (hts (.constant RJ6 266 (858993459)) mw_J6_bitCount_0f7a4_1)) dJ6_bitCount_0f7a4_11 ?_
  refine lv_iand hx hb dJ6_bitCount_0f7a4_14 ?_
  refine kz_any (fun z_4 rz_4 ez_4 => ?_)
  refine lv_iload_n hx hb dJ6_bitCount_0f7a4_15 rfl (lv_at hl 0 rfl) ?_
  refine lv_iconst (v := zI 2) hx hb dJ6_bitCount_0f7a4_16 rfl ?_
  refine lv_iushr hx hb dJ6_bitCount_0f7a4_17 rfl ?_
  refine kz_any (fun z_5 rz_5 ez_5 => ?_)
  refine lv_ldcw (v := zI 858993459) hx hb hown (show (Cond.constant RJ6 266 (zI 858993459)).before _ s = true from (hts (.constant RJ6 266 (858993459)) mw_J6_bitCount_0f7a4_1)) dJ6_bitCount_0f7a4_18 ?_
  refine lv_iand hx hb dJ6_bitCount_0f7a4_21 ?_
  refine kz_any (fun z_6 rz_6 ez_6 => ?_)
  refine kz_iadd hx hb dJ6_bitCount_0f7a4_22 ?_
  refine kz_any (fun z_7 rz_7 ez_7 => ?_)
  refine lv_istore_n (lv' := [(0, .int (zI z_7))]) hx hb dJ6_bitCount_0f7a4_23 rfl hl (by decide) rfl (fun ls hl => ?_)
  refine lv_iload_n hx hb dJ6_bitCount_0f7a4_24 rfl (lv_at hl 0 rfl) ?_
  refine lv_iload_n hx hb dJ6_bitCount_0f7a4_25 rfl (lv_at hl 0 rfl) ?_
  refine lv_iconst (v := zI 4) hx hb dJ6_bitCount_0f7a4_26 rfl ?_
  refine lv_iushr hx hb dJ6_bitCount_0f7a4_27 rfl ?_
  refine kz_any (fun z_8 rz_8 ez_8 => ?_)
  refine kz_iadd hx hb dJ6_bitCount_0f7a4_28 ?_
  refine lv_ldcw (v := zI 252645135) hx hb hown (show (Cond.constant RJ6 267 (zI 252645135)).before _ s = true from (hts (.constant RJ6 267 (252645135)) mw_J6_bitCount_0f7a4_2)) dJ6_bitCount_0f7a4_29 ?_
  refine lv_iand hx hb dJ6_bitCount_0f7a4_32 ?_
  refine kz_any (fun z_9 rz_9 ez_9 => ?_)
  refine kz_any (fun z_10 rz_10 ez_10 => ?_)
  refine lv_istore_n (lv' := [(0, .int (zI z_10))]) hx hb dJ6_bitCount_0f7a4_33 rfl hl (by decide) rfl (fun ls hl => ?_)
  refine lv_iload_n hx hb dJ6_bitCount_0f7a4_34 rfl (lv_at hl 0 rfl) ?_
  refine lv_iload_n hx hb dJ6_bitCount_0f7a4_35 rfl (lv_at hl 0 rfl) ?_
  refine lv_bipush (v := zI 8) hx hb dJ6_bitCount_0f7a4_36 (by decide) ?_
  refine lv_iushr hx hb dJ6_bitCount_0f7a4_38 rfl ?_
  refine kz_any (fun z_11 rz_11 ez_11 => ?_)
  refine kz_iadd hx hb dJ6_bitCount_0f7a4_39 ?_
  refine kz_any (fun z_12 rz_12 ez_12 => ?_)
  refine lv_istore_n (lv' := [(0, .int (zI z_12))]) hx hb dJ6_bitCount_0f7a4_40 rfl hl (by decide) rfl (fun ls hl => ?_)
  refine lv_iload_n hx hb dJ6_bitCount_0f7a4_41 rfl (lv_at hl 0 rfl) ?_
  refine lv_iload_n hx hb dJ6_bitCount_0f7a4_42 rfl (lv_at hl 0 rfl) ?_
  refine lv_bipush (v := zI 16) hx hb dJ6_bitCount_0f7a4_43 (by decide) ?_
  refine lv_iushr hx hb dJ6_bitCount_0f7a4_45 rfl ?_
  refine kz_any (fun z_13 rz_13 ez_13 => ?_)
  refine kz_iadd hx hb dJ6_bitCount_0f7a4_46 ?_
  refine kz_any (fun z_14 rz_14 ez_14 => ?_)
  refine lv_istore_n (lv' := [(0, .int (zI z_14))]) hx hb dJ6_bitCount_0f7a4_47 rfl hl (by decide) rfl (fun ls hl => ?_)
  refine lv_iload_n hx hb dJ6_bitCount_0f7a4_48 rfl (lv_at hl 0 rfl) ?_
  refine lv_bipush (v := zI 63) hx hb dJ6_bitCount_0f7a4_49 (by decide) ?_
  refine lv_iand hx hb dJ6_bitCount_0f7a4_51 ?_
  refine kz_any (fun z_15 rz_15 ez_15 => ?_)
  exact W.iret (v := (zI z_15)) hx hb hr (fun t ht hW => QcP_of (by omega) trivial ht) (fun _ h9 => by cases h9) dJ6_bitCount_0f7a4_52
theorem dX4_isCluster_0 : decode cX4_isCluster 0 = .ok (.iload_n 1, 1) := by decide +kernel
theorem dX4_isCluster_1 : decode cX4_isCluster 1 = .ok (.iconst 0, 1) := by decide +kernel
theorem dX4_isCluster_2 : decode cX4_isCluster 2 = .ok (.aload_n 0, 1) := by decide +kernel
theorem dX4_isCluster_3 : decode cX4_isCluster 3 = .ok (.getfield 51, 3) := by decide +kernel
theorem dX4_isCluster_6 : decode cX4_isCluster 6 = .ok (.iconst 1, 1) := by decide +kernel
theorem dX4_isCluster_7 : decode cX4_isCluster 7 = .ok (.isub, 1) := by decide +kernel
theorem dX4_isCluster_8 : decode cX4_isCluster 8 = .ok (.invokestatic 55, 3) := by decide +kernel
theorem dX4_isCluster_11 : decode cX4_isCluster 11 = .ok (.ireturn, 1) := by decide +kernel
set_option maxRecDepth 20000 in
theorem ggX4_isCluster_X8_isWithin : GoodIn wsX4_isCluster wsX8_isWithin := goodIn_4 _ (List.forall_mem_cons.mpr ⟨List.mem_cons_of_mem _ (List.mem_append_left _ (List.mem_of_getElem? (i := 3) rfl)), fun _ h9 => absurd h9 List.not_mem_nil⟩) (by decide +kernel)
set_option maxRecDepth 20000 in
theorem gX4_isCluster_X8_isWithin_n55 : GoodIn wsX4_isCluster (wsX8_isWithin) := ggX4_isCluster_X8_isWithin
set_option maxRecDepth 20000 in
theorem mw_X4_isCluster_0 : (.fieldLink RX4 51 "FontRuns$Setting" "count" "I" : Cond) ∈ wsX4_isCluster := List.mem_cons_of_mem _ (List.mem_append_left _ (List.mem_of_getElem? (i := 0) rfl))
set_option maxRecDepth 20000 in
theorem mw_X4_isCluster_1 : (.initialized RX8 : Cond) ∈ wsX4_isCluster := List.mem_cons_of_mem _ (List.mem_append_left _ (List.mem_of_getElem? (i := 2) rfl))
set_option maxRecDepth 20000 in
theorem mw_X4_isCluster_2 : (.static yX8_isWithin : Cond) ∈ wsX4_isCluster := List.mem_cons_of_mem _ (List.mem_append_left _ (List.mem_of_getElem? (i := 1) rfl))
theorem ax_X4_isCluster_0 {e0 : Nat × va_E} : ([] : List Nat).map (fun i => ([e0] : va_W)[i]?) = ([] : va_W).map some := rfl
set_option maxHeartbeats 4000000 in
set_option maxRecDepth 100000 in
theorem c_X4_isCluster (l : Launch) (D : va_G) (sz : Nat) (k : Int) (h0 : Nat) (g1 : Nat) (g2 : Nat) (g3 : Nat) (g4 : Nat) (g5 : Nat) (cn : Int) (bo : Int) (ru : Int) (g6 : Nat) (g7 : Nat) (q0 : rg k) (q1 : 0 ≤ cn ∧ cn ≤ 24) (q2 : 0 ≤ bo ∧ bo ≤ 24) (q3 : 0 ≤ ru ∧ ru ≤ cn) : Met l yX4_isCluster wsX4_isCluster ({ frames := 1, cells := 0, slots := 0, locals := 22 }) (kPre [.ref h0, .int (zI k)] D [(h0, .inr (4, [.ref g1, .ref g2, .ref g3, .ref g4, .ref g5, .int (zI cn), .int (zI bo), .int (zI ru), .ref g6, .ref g7]))] [] sz) (QcRead (if 0 ≤ k ∧ k ≤ cn - 1 then 1 else 0)) 0 0 (fun _ => False) := by
  refine Met.ofW (cc := cX4_isCluster) (maxL := 2) (ret := (some .boolean)) (by decide) rfl ?_
  intro p e s m args below meth c s₁ B hml hv
  obtain ⟨rfl, hsz, hP, hK, hD0, hN⟩ := hv
  have hx := B.exec
  have hb := B.bytes
  have hr := B.returns
  have hts := atoms_spec (ws := wsX4_isCluster) B.pre
  have hown : s.vm.findClass RX4 = some m.cls := findClass_of_methodNamed B.named
  have hlocks := B.notSynchronized
  subst hsz
  have hD := hD0
  have hP : va_P D vwCl [(h0, .inr (4, [.ref g1, .ref g2, .ref g3, .ref g4, .ref g5, .int (zI cn), .int (zI bo), .int (zI ru), .ref g6, .ref g7]))] s.heap := hP
  have hl := lv_entry ([.ref h0, .int (zI k)]) (n := 2) (Nat.le_of_ble_eq_true rfl)
  rw [lg_entry_eq]
  generalize (lg_sl ([.ref h0, .int (zI k)]) ++ List.replicate (2 - (lg_sl ([.ref h0, .int (zI k)])).length) Slot.unset).toArray = ls at hl ⊢
  have hl : lv_has ls 2 [(0, .ref h0), (1, .int (zI k))] := hl
  refine lv_iload_n hx hb dX4_isCluster_0 rfl (lv_at hl 1 rfl) ?_
  refine lv_iconst (v := zI 0) hx hb dX4_isCluster_1 rfl ?_
  refine lv_aload_n hx hb dX4_isCluster_2 rfl (lv_at hl 0 rfl) ?_
  refine va_get (D := D) (ci := 4) (v := .int (zI cn)) (C := RX4) (T := TX4) (N := 10) hx hb hts (fun _ h9 => List.mem_cons_of_mem _ (List.mem_append_right _ h9)) hown hK hP 0 rfl rfl 5 (by decide) (hts (.fieldLink RX4 51 "FontRuns$Setting" "count" "I") mw_X4_isCluster_0) (fun _ h9 => h9) rfl dX4_isCluster_3 ?_
  refine lv_iconst (v := zI 1) hx hb dX4_isCluster_6 rfl ?_
  refine kz_isub hx hb dX4_isCluster_7 ?_
  refine k_callR (va_runSN (As := [.int (zI k), .int (zI 0), .int (zI (cn - 1))]) (rest := []) ⟨hx, hb, hml, hown, hts⟩ (c_X8_isWithin l D s.heap.size (v := k) (a := 0) (b := (cn - 1)) q0 (by omega) (by omega)) (⟨va_cnB 3 hts gX4_isCluster_X8_isWithin_n55 rfl rfl rfl (hN.1 (RX4, 55, yX8_isWithin) (by decide +kernel)) (hts (.initialized RX8) mw_X4_isCluster_1) (by decide +kernel) ⟨Nat.le_of_ble_eq_true rfl, Nat.le_of_ble_eq_true rfl⟩, (hts (.static yX8_isWithin) mw_X4_isCluster_2), trivial⟩) (kPreS hP (kD0 hD) hK hN [] [] ax_X4_isCluster_0 rfl (by decide +kernel)) rfl rfl hl.1 rfl (lv_room (Nat.le_of_ble_eq_true rfl)) dX4_isCluster_8 ⟨Nat.le_of_ble_eq_true rfl, Nat.le_of_ble_eq_true rfl⟩) ?_
  exact W.zret (v := (if 0 ≤ k ∧ k ≤ (cn - 1) then 1 else 0)) hx hb hr kzb (fun t ht hW => kRd (kbc (by constructor <;> (intro h9; omega))) ht) (fun _ h9 => by cases h9) dX4_isCluster_11
theorem dX4_changes_0 : decode cX4_changes 0 = .ok (.aload_n 0, 1) := by decide +kernel
theorem dX4_changes_1 : decode cX4_changes 1 = .ok (.getfield 59, 3) := by decide +kernel
theorem dX4_changes_4 : decode cX4_changes 4 = .ok (.iconst 1, 1) := by decide +kernel
theorem dX4_changes_5 : decode cX4_changes 5 = .ok (.isub, 1) := by decide +kernel
theorem dX4_changes_6 : decode cX4_changes 6 = .ok (.iconst 0, 1) := by decide +kernel
theorem dX4_changes_7 : decode cX4_changes 7 = .ok (.invokestatic 62, 3) := by decide +kernel
theorem dX4_changes_10 : decode cX4_changes 10 = .ok (.ireturn, 1) := by decide +kernel
set_option maxRecDepth 20000 in
theorem mw_X4_changes_0 : (.fieldLink RX4 59 "FontRuns$Setting" "runs" "I" : Cond) ∈ wsX4_changes := List.mem_cons_of_mem _ (List.mem_append_left _ (List.mem_of_getElem? (i := 0) rfl))
set_option maxRecDepth 20000 in
theorem mw_X4_changes_1 : (.methodLink RX4 62 Lib.Math.max.name : Cond) ∈ wsX4_changes := List.mem_cons_of_mem _ (List.mem_append_left _ (List.mem_of_getElem? (i := 1) rfl))
set_option maxRecDepth 20000 in
theorem mw_X4_changes_2 : (.static Lib.Math.max.name : Cond) ∈ wsX4_changes := List.mem_cons_of_mem _ (List.mem_append_left _ (List.mem_of_getElem? (i := 2) rfl))
set_option maxRecDepth 20000 in
theorem mw_X4_changes_3 : (.initialized "java/lang/Math" : Cond) ∈ wsX4_changes := List.mem_cons_of_mem _ (List.mem_append_left _ (List.mem_of_getElem? (i := 3) rfl))
set_option maxRecDepth 20000 in
theorem mw_X4_changes_4 : (.code Lib.Math.max.name Lib.Math.max.code 2 (some .int) : Cond) ∈ wsX4_changes := List.mem_cons_of_mem _ (List.mem_append_left _ (List.mem_of_getElem? (i := 4) rfl))
set_option maxHeartbeats 4000000 in
set_option maxRecDepth 100000 in
theorem c_X4_changes (l : Launch) (D : va_G) (sz : Nat) (h0 : Nat) (g1 : Nat) (g2 : Nat) (g3 : Nat) (g4 : Nat) (g5 : Nat) (cn : Int) (bo : Int) (ru : Int) (g6 : Nat) (g7 : Nat) (q0 : 0 ≤ cn ∧ cn ≤ 24) (q1 : 0 ≤ bo ∧ bo ≤ 24) (q2 : 0 ≤ ru ∧ ru ≤ cn) : Met l yX4_changes wsX4_changes ({ frames := 1, cells := 0, slots := 0, locals := 21 }) (kPre [.ref h0] D [(h0, .inr (4, [.ref g1, .ref g2, .ref g3, .ref g4, .ref g5, .int (zI cn), .int (zI bo), .int (zI ru), .ref g6, .ref g7]))] [] sz) (QcP (fun rz => True)) 0 0 (fun _ => False) := by
  refine Met.ofW (cc := cX4_changes) (maxL := 1) (ret := (some .int)) (by decide) rfl ?_
  intro p e s m args below meth c s₁ B hml hv
  obtain ⟨rfl, hsz, hP, hK, hD0, hN⟩ := hv
  have hx := B.exec
  have hb := B.bytes
  have hr := B.returns
  have hts := atoms_spec (ws := wsX4_changes) B.pre
  have hown : s.vm.findClass RX4 = some m.cls := findClass_of_methodNamed B.named
  have hlocks := B.notSynchronized
  subst hsz
  have hD := hD0
  have hP : va_P D vwCl [(h0, .inr (4, [.ref g1, .ref g2, .ref g3, .ref g4, .ref g5, .int (zI cn), .int (zI bo), .int (zI ru), .ref g6, .ref g7]))] s.heap := hP
  have hl := lv_entry ([.ref h0]) (n := 1) (Nat.le_of_ble_eq_true rfl)
  rw [lg_entry_eq]
  generalize (lg_sl ([.ref h0]) ++ List.replicate (1 - (lg_sl ([.ref h0])).length) Slot.unset).toArray = ls at hl ⊢
  have hl : lv_has ls 1 [(0, .ref h0)] := hl
  refine lv_aload_n hx hb dX4_changes_0 rfl (lv_at hl 0 rfl) ?_
  refine va_get (D := D) (ci := 4) (v := .int (zI ru)) (C := RX4) (T := TX4) (N := 10) hx hb hts (fun _ h9 => List.mem_cons_of_mem _ (List.mem_append_right _ h9)) hown hK hP 0 rfl rfl 7 (by decide) (hts (.fieldLink RX4 59 "FontRuns$Setting" "runs" "I") mw_X4_changes_0) (fun _ h9 => h9) rfl dX4_changes_1 ?_
  refine lv_iconst (v := zI 1) hx hb dX4_changes_4 rfl ?_
  refine kz_isub hx hb dX4_changes_5 ?_
  refine lv_iconst (v := zI 0) hx hb dX4_changes_6 rfl ?_
  refine kz_max hx hb (by rw [hml]; exact hl.1.symm) hown (hts (.methodLink RX4 62 Lib.Math.max.name) mw_X4_changes_1) (hts (.static Lib.Math.max.name) mw_X4_changes_2) (hts (.initialized "java/lang/Math") mw_X4_changes_3) (hts (.code Lib.Math.max.name Lib.Math.max.code 2 (some .int)) mw_X4_changes_4) (Nat.le_of_ble_eq_true rfl) (Nat.le_of_ble_eq_true rfl) (Nat.le_of_ble_eq_true rfl) (Nat.le_of_ble_eq_true rfl) (by omega) (by omega) dX4_changes_7 (fun z_1 rz_1 ez_1 => ?_)
  exact W.iret (v := (zI z_1)) hx hb hr (fun t ht hW => QcP_of (by omega) trivial ht) (fun _ h9 => by cases h9) dX4_changes_10
theorem dX4_advance_0 : decode cX4_advance 0 = .ok (.iconst 0, 1) := by decide +kernel
theorem dX4_advance_1 : decode cX4_advance 1 = .ok (.istore_n 2, 1) := by decide +kernel
theorem dX4_advance_2 : decode cX4_advance 2 = .ok (.iconst 0, 1) := by decide +kernel
theorem dX4_advance_3 : decode cX4_advance 3 = .ok (.istore_n 3, 1) := by decide +kernel
theorem dX4_advance_4 : decode cX4_advance 4 = .ok (.iload_n 3, 1) := by decide +kernel
theorem dX4_advance_5 : decode cX4_advance 5 = .ok (.aload_n 0, 1) := by decide +kernel
theorem dX4_advance_6 : decode cX4_advance 6 = .ok (.getfield 51, 3) := by decide +kernel
theorem dX4_advance_9 : decode cX4_advance 9 = .ok (.if_icmp .ge 22, 3) := by decide +kernel
theorem dX4_advance_12 : decode cX4_advance 12 = .ok (.iload_n 2, 1) := by decide +kernel
theorem dX4_advance_13 : decode cX4_advance 13 = .ok (.aload_n 1, 1) := by decide +kernel
theorem dX4_advance_14 : decode cX4_advance 14 = .ok (.aload_n 0, 1) := by decide +kernel
theorem dX4_advance_15 : decode cX4_advance 15 = .ok (.getfield 21, 3) := by decide +kernel
theorem dX4_advance_18 : decode cX4_advance 18 = .ok (.iload_n 3, 1) := by decide +kernel
theorem dX4_advance_19 : decode cX4_advance 19 = .ok (.iaload, 1) := by decide +kernel
theorem dX4_advance_20 : decode cX4_advance 20 = .ok (.invokevirtual 68, 3) := by decide +kernel
theorem dX4_advance_23 : decode cX4_advance 23 = .ok (.iadd, 1) := by decide +kernel
theorem dX4_advance_24 : decode cX4_advance 24 = .ok (.istore_n 2, 1) := by decide +kernel
theorem dX4_advance_25 : decode cX4_advance 25 = .ok (.iinc 3 1, 3) := by decide +kernel
theorem dX4_advance_28 : decode cX4_advance 28 = .ok (.goto (-24), 3) := by decide +kernel
theorem dX4_advance_31 : decode cX4_advance 31 = .ok (.iload_n 2, 1) := by decide +kernel
theorem dX4_advance_32 : decode cX4_advance 32 = .ok (.ireturn, 1) := by decide +kernel
set_option maxRecDepth 20000 in
theorem ggX4_advance_X0_step : GoodIn wsX4_advance wsX0_step := goodIn_4 _ (List.forall_mem_cons.mpr ⟨List.mem_cons_of_mem _ (List.mem_append_left _ (List.mem_append_left _ (List.mem_of_getElem? (i := 6) rfl))), List.forall_mem_append.mpr ⟨List.forall_mem_cons.mpr ⟨List.mem_cons_of_mem _ (List.mem_append_left _ (List.mem_append_left _ (List.mem_of_getElem? (i := 7) rfl))), List.forall_mem_cons.mpr ⟨List.mem_cons_of_mem _ (List.mem_append_left _ (List.mem_append_left _ (List.mem_of_getElem? (i := 8) rfl))), List.forall_mem_cons.mpr ⟨List.mem_cons_of_mem _ (List.mem_append_left _ (List.mem_append_left _ (List.mem_of_getElem? (i := 9) rfl))), List.forall_mem_cons.mpr ⟨List.mem_cons_of_mem _ (List.mem_append_left _ (List.mem_append_left _ (List.mem_of_getElem? (i := 10) rfl))), List.forall_mem_cons.mpr ⟨List.mem_cons_of_mem _ (List.mem_append_left _ (List.mem_append_left _ (List.mem_of_getElem? (i := 11) rfl))), List.forall_mem_cons.mpr ⟨List.mem_cons_of_mem _ (List.mem_append_left _ (List.mem_append_left _ (List.mem_of_getElem? (i := 5) rfl))), List.forall_mem_cons.mpr ⟨List.mem_cons_of_mem _ (List.mem_append_left _ (List.mem_append_left _ (List.mem_of_getElem? (i := 12) rfl))), List.forall_mem_cons.mpr ⟨List.mem_cons_of_mem _ (List.mem_append_left _ (List.mem_append_left _ (List.mem_of_getElem? (i := 13) rfl))), List.forall_mem_cons.mpr ⟨List.mem_cons_of_mem _ (List.mem_append_left _ (List.mem_append_left _ (List.mem_of_getElem? (i := 14) rfl))), List.forall_mem_cons.mpr ⟨List.mem_cons_of_mem _ (List.mem_append_left _ (List.mem_append_left _ (List.mem_of_getElem? (i := 15) rfl))), List.forall_mem_cons.mpr ⟨List.mem_cons_of_mem _ (List.mem_append_left _ (List.mem_append_left _ (List.mem_of_getElem? (i := 16) rfl))), List.forall_mem_cons.mpr ⟨List.mem_cons_of_mem _ (List.mem_append_left _ (List.mem_append_left _ (List.mem_of_getElem? (i := 17) rfl))), List.forall_mem_cons.mpr ⟨List.mem_cons_of_mem _ (List.mem_append_left _ (List.mem_append_left _ (List.mem_of_getElem? (i := 18) rfl))), fun _ h9 => absurd h9 List.not_mem_nil⟩⟩⟩⟩⟩⟩⟩⟩⟩⟩⟩⟩⟩, fun w h9 => List.mem_cons_of_mem _ (List.mem_append_right _ (h9))⟩⟩) (by decide +kernel)
set_option maxRecDepth 20000 in
theorem gX4_advance_X0_step : GoodIn wsX4_advance (wsV RX4 68 RX0 yX0_step wsX0_step) := goodIn_app (goodIn_4 _ (List.forall_mem_cons.mpr ⟨List.mem_cons_of_mem _ (List.mem_append_left _ (List.mem_append_left _ (List.mem_of_getElem? (i := 2) rfl))), List.forall_mem_cons.mpr ⟨List.mem_cons_of_mem _ (List.mem_append_left _ (List.mem_append_left _ (List.mem_of_getElem? (i := 3) rfl))), List.forall_mem_cons.mpr ⟨List.mem_cons_of_mem _ (List.mem_append_left _ (List.mem_append_left _ (List.mem_of_getElem? (i := 4) rfl))), List.forall_mem_cons.mpr ⟨List.mem_cons_of_mem _ (List.mem_append_left _ (List.mem_append_left _ (List.mem_of_getElem? (i := 5) rfl))), fun _ h9 => absurd h9 List.not_mem_nil⟩⟩⟩⟩) (by decide +kernel)) ggX4_advance_X0_step
set_option maxRecDepth 20000 in
theorem mw_X4_advance_0 : (.fieldLink RX4 51 "FontRuns$Setting" "count" "I" : Cond) ∈ wsX4_advance := List.mem_cons_of_mem _ (List.mem_append_left _ (List.mem_append_left _ (List.mem_of_getElem? (i := 0) rfl)))
set_option maxRecDepth 20000 in
theorem mw_X4_advance_1 : (.fieldLink RX4 21 "FontRuns$Setting" "chosen" "[I" : Cond) ∈ wsX4_advance := List.mem_cons_of_mem _ (List.mem_append_left _ (List.mem_append_left _ (List.mem_of_getElem? (i := 1) rfl)))
theorem ax_X4_advance_0 {e0 e1 e2 e3 e4 : Nat × va_E} : ([2, 3, 4] : List Nat).map (fun i => ([e0, e1, e2, e3, e4] : va_W)[i]?) = ([e2, e3, e4] : va_W).map some := rfl
set_option maxHeartbeats 4000000 in
set_option maxRecDepth 100000 in
theorem c_X4_advance (l : Launch) (D : va_G) (sz : Nat) (fr : Nat) (h0 : Nat) (g1 : Nat) (g2 : Nat) (g3 : Nat) (g4 : Nat) (g5 : Nat) (cn : Int) (bo : Int) (ru : Int) (g6 : Nat) (g7 : Nat) (cg4 : ClassId) (f4 : Nat → Int32) (k1 : Nat) (k2 : Nat) (k3 : Nat) (n : Int) (ck1 : ClassId) (fk : Nat → Int32) (ck2 : ClassId) (fb : Nat → Int32) (q0 : 0 ≤ cn ∧ cn ≤ 24) (q1 : 0 ≤ bo ∧ bo ≤ 24) (q2 : 0 ≤ ru ∧ ru ≤ cn) (q3 : 0 ≤ n ∧ n ≤ 4) : Met l yX4_advance wsX4_advance ({ frames := 3, cells := 0, slots := 0, locals := 64 }) (kPre [.ref h0, .ref fr] D [(h0, .inr (4, [.ref g1, .ref g2, .ref g3, .ref g4, .ref g5, .int (zI cn), .int (zI bo), .int (zI ru), .ref g6, .ref g7])), (g4, .inl (cg4, 24, .inl f4)), (fr, .inr (0, [.ref k1, .ref k2, .ref k3, .int (zI n)])), (k1, .inl (ck1, 4, .inl fk)), (k2, .inl (ck2, 4, .inl fb))] [(cg4, .int), (ck1, .int), (ck2, .int)] sz) (QcP (fun rz => True)) 0 0 (fun _ => False) := by
  refine Met.ofW (cc := cX4_advance) (maxL := 4) (ret := (some .int)) (by decide) rfl ?_
  intro p e s m args below meth c s₁ B hml hv
  obtain ⟨rfl, hsz, hP, hK, hD0, hN⟩ := hv
  have hx := B.exec
  have hb := B.bytes
  have hr := B.returns
  have hts := atoms_spec (ws := wsX4_advance) B.pre
  have hown : s.vm.findClass RX4 = some m.cls := findClass_of_methodNamed B.named
  have hlocks := B.notSynchronized
  subst hsz
  have hD := hD0
  have hP : va_P D vwCl [(h0, .inr (4, [.ref g1, .ref g2, .ref g3, .ref g4, .ref g5, .int (zI cn), .int (zI bo), .int (zI ru), .ref g6, .ref g7])), (g4, .inl (cg4, 24, .inl f4)), (fr, .inr (0, [.ref k1, .ref k2, .ref k3, .int (zI n)])), (k1, .inl (ck1, 4, .inl fk)), (k2, .inl (ck2, 4, .inl fb))] s.heap := hP
  have hl := lv_entry ([.ref h0, .ref fr]) (n := 4) (Nat.le_of_ble_eq_true rfl)
  rw [lg_entry_eq]
  generalize (lg_sl ([.ref h0, .ref fr]) ++ List.replicate (4 - (lg_sl ([.ref h0, .ref fr])).length) Slot.unset).toArray = ls at hl ⊢
  have hl : lv_has ls 4 [(0, .ref h0), (1, .ref fr)] := hl
  refine lv_iconst (v := zI 0) hx hb dX4_advance_0 rfl ?_
  refine lv_istore_n (lv' := [(2, .int (zI 0)), (0, .ref h0), (1, .ref fr)]) hx hb dX4_advance_1 rfl hl (by decide) rfl (fun ls hl => ?_)
  refine lv_iconst (v := zI 0) hx hb dX4_advance_2 rfl ?_
  refine lv_istore_n (lv' := [(3, .int (zI 0)), (2, .int (zI 0)), (0, .ref h0), (1, .ref fr)]) hx hb dX4_advance_3 rfl hl (by decide) rfl (fun ls hl => ?_)
  refine k_loopM (I := fun n9 H locs ls => ∃ (js : Int) (jk : Int), n9 = (cn - jk).toNat ∧ (rg js) ∧ (0 ≤ jk ∧ jk ≤ cn) ∧ H = s.heap ∧ locs = [] ∧ lv_has ls 4 [(3, .int (zI jk)), (2, .int (zI js)), (0, .ref h0), (1, .ref fr)]) ?_ _ ⟨0, 0, rfl, (by omega), (by omega), rfl, rfl, hl⟩
  intro n4 ih4 H locs ls hI
  obtain ⟨js, jk, en4, v_40, v_41, eH, eL, hl⟩ := hI
  subst eH
  subst eL
  refine lv_iload_n hx hb dX4_advance_4 rfl (lv_at hl 0 rfl) ?_
  refine lv_aload_n hx hb dX4_advance_5 rfl (lv_at hl 2 rfl) ?_
  refine va_get (D := D) (ci := 4) (v := .int (zI cn)) (C := RX4) (T := TX4) (N := 10) hx hb hts (fun _ h9 => List.mem_cons_of_mem _ (List.mem_append_left _ (List.mem_append_right _ h9))) hown hK hP 0 rfl rfl 5 (by decide) (hts (.fieldLink RX4 51 "FontRuns$Setting" "count" "I") mw_X4_advance_0) (fun _ h9 => h9) rfl dX4_advance_6 ?_
  refine kz_icmp_ge (tgt := 31) hx hb dX4_advance_9 (by decide) (by omega) (by omega) (fun c_1 => ?_) (fun c_1 => ?_)
  · refine lv_iload_n hx hb dX4_advance_31 rfl (lv_at hl 1 rfl) ?_
    exact W.iret (v := (zI js)) hx hb hr (fun t ht hW => QcP_of (by omega) trivial ht) (fun _ h9 => by cases h9) dX4_advance_32
  · refine lv_iload_n hx hb dX4_advance_12 rfl (lv_at hl 1 rfl) ?_
    refine lv_aload_n hx hb dX4_advance_13 rfl (lv_at hl 3 rfl) ?_
    refine lv_aload_n hx hb dX4_advance_14 rfl (lv_at hl 2 rfl) ?_
    refine va_get (D := D) (ci := 4) (v := .ref g4) (C := RX4) (T := TX4) (N := 10) hx hb hts (fun _ h9 => List.mem_cons_of_mem _ (List.mem_append_left _ (List.mem_append_right _ h9))) hown hK hP 0 rfl rfl 3 (by decide) (hts (.fieldLink RX4 21 "FontRuns$Setting" "chosen" "[I") mw_X4_advance_1) (fun _ h9 => h9) rfl dX4_advance_15 ?_
    refine lv_iload_n hx hb dX4_advance_18 rfl (lv_at hl 0 rfl) ?_
    refine kz_iald hx hb hK hP 1 0 rfl rfl (by omega) dX4_advance_19 (fun z_2 rz_2 ez_2 => ?_)
    refine k_callP (va_runV (As := [.int (zI z_2)]) (rest := [.int (zI js)]) ⟨hx, hb, hml, hown, hts⟩ (c_X0_step l D s.heap.size (f := z_2) (h0 := fr) (k1 := k1) (k2 := k2) (k3 := k3) (n := n) (ck1 := ck1) (fk := fk) (ck2 := ck2) (fb := fb) (by omega) q3) (cwV 1 hts gX4_advance_X0_step rfl rfl rfl (by decide +kernel) ⟨Nat.le_of_ble_eq_true rfl, Nat.le_of_ble_eq_true rfl⟩) (kPreV hP (kD0 hD) hK hN [2, 3, 4] [1, 2] ax_X4_advance_0 rfl (by decide +kernel) 2 0 rfl rfl) rfl rfl hl.1 rfl (lv_room (Nat.le_of_ble_eq_true rfl)) dX4_advance_20 ⟨Nat.le_of_ble_eq_true rfl, Nat.le_of_ble_eq_true rfl⟩) (fun z_3 rz_3 h_4 => ?_)
    refine kz_iadd hx hb dX4_advance_23 ?_
    refine kz_any (fun z_5 rz_5 ez_5 => ?_)
    refine lv_istore_n (lv' := [(2, .int (zI z_5)), (3, .int (zI jk)), (0, .ref h0), (1, .ref fr)]) hx hb dX4_advance_24 rfl hl (by decide) rfl (fun ls hl => ?_)
    refine lv_iinc (v := (zI (jk + 1))) (lv' := [(3, .int (zI (jk + 1))), (2, .int (zI z_5)), (0, .ref h0), (1, .ref fr)]) hx hb dX4_advance_25 hl (k := 1) rfl (kz_inc _ 1) (by decide) rfl (fun ls hl => ?_)
    refine lv_goto (tgt := 4) hx hb dX4_advance_28 (by decide) ?_
    exact ih4 _ (by omega) _ _ _ ⟨z_5, (jk + 1), rfl, (by omega), (by omega), rfl, rfl, lv_sub hl [0, 1, 2, 3] rfl⟩
theorem dX4_clustersIn_0 : decode cX4_clustersIn 0 = .ok (.iconst 0, 1) := by decide +kernel
theorem dX4_clustersIn_1 : decode cX4_clustersIn 1 = .ok (.istore_n 2, 1) := by decide +kernel
theorem dX4_clustersIn_2 : decode cX4_clustersIn 2 = .ok (.iconst 0, 1) := by decide +kernel
theorem dX4_clustersIn_3 : decode cX4_clustersIn 3 = .ok (.istore_n 3, 1) := by decide +kernel
theorem dX4_clustersIn_4 : decode cX4_clustersIn 4 = .ok (.iload_n 3, 1) := by decide +kernel
theorem dX4_clustersIn_5 : decode cX4_clustersIn 5 = .ok (.aload_n 0, 1) := by decide +kernel
theorem dX4_clustersIn_6 : decode cX4_clustersIn 6 = .ok (.getfield 51, 3) := by decide +kernel
theorem dX4_clustersIn_9 : decode cX4_clustersIn 9 = .ok (.if_icmp .ge 22, 3) := by decide +kernel
theorem dX4_clustersIn_12 : decode cX4_clustersIn 12 = .ok (.aload_n 0, 1) := by decide +kernel
theorem dX4_clustersIn_13 : decode cX4_clustersIn 13 = .ok (.getfield 21, 3) := by decide +kernel
theorem dX4_clustersIn_16 : decode cX4_clustersIn 16 = .ok (.iload_n 3, 1) := by decide +kernel
theorem dX4_clustersIn_17 : decode cX4_clustersIn 17 = .ok (.iaload, 1) := by decide +kernel
theorem dX4_clustersIn_18 : decode cX4_clustersIn 18 = .ok (.iload_n 1, 1) := by decide +kernel
theorem dX4_clustersIn_19 : decode cX4_clustersIn 19 = .ok (.if_icmp .ne 6, 3) := by decide +kernel
theorem dX4_clustersIn_22 : decode cX4_clustersIn 22 = .ok (.iinc 2 1, 3) := by decide +kernel
theorem dX4_clustersIn_25 : decode cX4_clustersIn 25 = .ok (.iinc 3 1, 3) := by decide +kernel
theorem dX4_clustersIn_28 : decode cX4_clustersIn 28 = .ok (.goto (-24), 3) := by decide +kernel
theorem dX4_clustersIn_31 : decode cX4_clustersIn 31 = .ok (.iload_n 2, 1) := by decide +kernel
theorem dX4_clustersIn_32 : decode cX4_clustersIn 32 = .ok (.ireturn, 1) := by decide +kernel
set_option maxRecDepth 20000 in
theorem mw_X4_clustersIn_0 : (.fieldLink RX4 51 "FontRuns$Setting" "count" "I" : Cond) ∈ wsX4_clustersIn := List.mem_cons_of_mem _ (List.mem_append_left _ (List.mem_of_getElem? (i := 0) rfl))
set_option maxRecDepth 20000 in
theorem mw_X4_clustersIn_1 : (.fieldLink RX4 21 "FontRuns$Setting" "chosen" "[I" : Cond) ∈ wsX4_clustersIn := List.mem_cons_of_mem _ (List.mem_append_left _ (List.mem_of_getElem? (i := 1) rfl))
set_option maxHeartbeats 4000000 in
set_option maxRecDepth 100000 in
theorem c_X4_clustersIn (l : Launch) (D : va_G) (sz : Nat) (f : Int) (h0 : Nat) (g1 : Nat) (g2 : Nat) (g3 : Nat) (g4 : Nat) (g5 : Nat) (cn : Int) (bo : Int) (ru : Int) (g6 : Nat) (g7 : Nat) (cg4 : ClassId) (f4 : Nat → Int32) (q0 : rg f) (q1 : 0 ≤ cn ∧ cn ≤ 24) (q2 : 0 ≤ bo ∧ bo ≤ 24) (q3 : 0 ≤ ru ∧ ru ≤ cn) : Met l yX4_clustersIn wsX4_clustersIn ({ frames := 0, cells := 0, slots := 0, locals := 0 }) (kPre [.ref h0, .int (zI f)] D [(h0, .inr (4, [.ref g1, .ref g2, .ref g3, .ref g4, .ref g5, .int (zI cn), .int (zI bo), .int (zI ru), .ref g6, .ref g7])), (g4, .inl (cg4, 24, .inl f4))] [(cg4, .int)] sz) (QcP (fun rz => True)) 0 0 (fun _ => False) := by
  refine Met.ofW (cc := cX4_clustersIn) (maxL := 4) (ret := (some .int)) (by decide) rfl ?_
  intro p e s m args below meth c s₁ B hml hv
  obtain ⟨rfl, hsz, hP, hK, hD0, hN⟩ := hv
  have hx := B.exec
  have hb := B.bytes
  have hr := B.returns
  have hts := atoms_spec (ws := wsX4_clustersIn) B.pre
  have hown : s.vm.findClass RX4 = some m.cls := findClass_of_methodNamed B.named
  have hlocks := B.notSynchronized
  subst hsz
  have hD := hD0
  have hP : va_P D vwCl [(h0, .inr (4, [.ref g1, .ref g2, .ref g3, .ref g4, .ref g5, .int (zI cn), .int (zI bo), .int (zI ru), .ref g6, .ref g7])), (g4, .inl (cg4, 24, .inl f4))] s.heap := hP
  have hl := lv_entry ([.ref h0, .int (zI f)]) (n := 4) (Nat.le_of_ble_eq_true rfl)
  rw [lg_entry_eq]
  generalize (lg_sl ([.ref h0, .int (zI f)]) ++ List.replicate (4 - (lg_sl ([.ref h0, .int (zI f)])).length) Slot.unset).toArray = ls at hl ⊢
  have hl : lv_has ls 4 [(0, .ref h0), (1, .int (zI f))] := hl
  refine lv_iconst (v := zI 0) hx hb dX4_clustersIn_0 rfl ?_
  refine lv_istore_n (lv' := [(2, .int (zI 0)), (0, .ref h0), (1, .int (zI f))]) hx hb dX4_clustersIn_1 rfl hl (by decide) rfl (fun ls hl => ?_)
  refine lv_iconst (v := zI 0) hx hb dX4_clustersIn_2 rfl ?_
  refine lv_istore_n (lv' := [(3, .int (zI 0)), (2, .int (zI 0)), (0, .ref h0), (1, .int (zI f))]) hx hb dX4_clustersIn_3 rfl hl (by decide) rfl (fun ls hl => ?_)
  refine k_loopM (I := fun n9 H locs ls => ∃ (js : Int) (jk : Int), n9 = (cn - jk).toNat ∧ (0 ≤ js ∧ js ≤ jk) ∧ (0 ≤ jk ∧ jk ≤ cn) ∧ H = s.heap ∧ locs = [] ∧ lv_has ls 4 [(3, .int (zI jk)), (2, .int (zI js)), (0, .ref h0), (1, .int (zI f))]) ?_ _ ⟨0, 0, rfl, (by omega), (by omega), rfl, rfl, hl⟩
  intro n4 ih4 H locs ls hI
  obtain ⟨js, jk, en4, v_40, v_41, eH, eL, hl⟩ := hI
  subst eH
  subst eL
  refine lv_iload_n hx hb dX4_clustersIn_4 rfl (lv_at hl 0 rfl) ?_
  refine lv_aload_n hx hb dX4_clustersIn_5 rfl (lv_at hl 2 rfl) ?_
  refine va_get (D := D) (ci := 4) (v := .int (zI cn)) (C := RX4) (T := TX4) (N := 10) hx hb hts (fun _ h9 => List.mem_cons_of_mem _ (List.mem_append_right _ h9)) hown hK hP 0 rfl rfl 5 (by decide) (hts (.fieldLink RX4 51 "FontRuns$Setting" "count" "I") mw_X4_clustersIn_0) (fun _ h9 => h9) rfl dX4_clustersIn_6 ?_
  refine kz_icmp_ge (tgt := 31) hx hb dX4_clustersIn_9 (by decide) (by omega) (by omega) (fun c_1 => ?_) (fun c_1 => ?_)
  · refine lv_iload_n hx hb dX4_clustersIn_31 rfl (lv_at hl 1 rfl) ?_
    exact W.iret (v := (zI js)) hx hb hr (fun t ht hW => QcP_of (by omega) trivial ht) (fun _ h9 => by cases h9) dX4_clustersIn_32
  · refine lv_aload_n hx hb dX4_clustersIn_12 rfl (lv_at hl 2 rfl) ?_
    refine va_get (D := D) (ci := 4) (v := .ref g4) (C := RX4) (T := TX4) (N := 10) hx hb hts (fun _ h9 => List.mem_cons_of_mem _ (List.mem_append_right _ h9)) hown hK hP 0 rfl rfl 3 (by decide) (hts (.fieldLink RX4 21 "FontRuns$Setting" "chosen" "[I") mw_X4_clustersIn_1) (fun _ h9 => h9) rfl dX4_clustersIn_13 ?_
    refine lv_iload_n hx hb dX4_clustersIn_16 rfl (lv_at hl 0 rfl) ?_
    refine kz_iald hx hb hK hP 1 0 rfl rfl (by omega) dX4_clustersIn_17 (fun z_2 rz_2 ez_2 => ?_)
    refine lv_iload_n hx hb dX4_clustersIn_18 rfl (lv_at hl 3 rfl) ?_
    refine kz_icmp_ne (tgt := 25) hx hb dX4_clustersIn_19 (by decide) (by omega) (by omega) (fun c_3 => ?_) (fun c_3 => ?_)
    · refine lv_iinc (v := (zI (jk + 1))) (lv' := [(3, .int (zI (jk + 1))), (2, .int (zI js)), (0, .ref h0), (1, .int (zI f))]) hx hb dX4_clustersIn_25 hl (k := 0) rfl (kz_inc _ 1) (by decide) rfl (fun ls hl => ?_)
      refine lv_goto (tgt := 4) hx hb dX4_clustersIn_28 (by decide) ?_
      exact ih4 _ (by omega) _ _ _ ⟨js, (jk + 1), rfl, (by omega), (by omega), rfl, rfl, lv_sub hl [0, 1, 2, 3] rfl⟩
    · refine lv_iinc (v := (zI (js + 1))) (lv' := [(2, .int (zI (js + 1))), (3, .int (zI jk)), (0, .ref h0), (1, .int (zI f))]) hx hb dX4_clustersIn_22 hl (k := 1) rfl (kz_inc _ 1) (by decide) rfl (fun ls hl => ?_)
      refine lv_iinc (v := (zI (jk + 1))) (lv' := [(3, .int (zI (jk + 1))), (2, .int (zI (js + 1))), (0, .ref h0), (1, .int (zI f))]) hx hb dX4_clustersIn_25 hl (k := 1) rfl (kz_inc _ 1) (by decide) rfl (fun ls hl => ?_)
      refine lv_goto (tgt := 4) hx hb dX4_clustersIn_28 (by decide) ?_
      exact ih4 _ (by omega) _ _ _ ⟨(js + 1), (jk + 1), rfl, (by omega), (by omega), rfl, rfl, lv_sub hl [0, 1, 2, 3] rfl⟩
theorem dX4_firstOfRun_0 : decode cX4_firstOfRun 0 = .ok (.iconst 0, 1) := by decide +kernel
theorem dX4_firstOfRun_1 : decode cX4_firstOfRun 1 = .ok (.istore_n 2, 1) := by decide +kernel
theorem dX4_firstOfRun_2 : decode cX4_firstOfRun 2 = .ok (.iload_n 2, 1) := by decide +kernel
theorem dX4_firstOfRun_3 : decode cX4_firstOfRun 3 = .ok (.aload_n 0, 1) := by decide +kernel
theorem dX4_firstOfRun_4 : decode cX4_firstOfRun 4 = .ok (.getfield 51, 3) := by decide +kernel
theorem dX4_firstOfRun_7 : decode cX4_firstOfRun 7 = .ok (.iconst 1, 1) := by decide +kernel
theorem dX4_firstOfRun_8 : decode cX4_firstOfRun 8 = .ok (.isub, 1) := by decide +kernel
theorem dX4_firstOfRun_9 : decode cX4_firstOfRun 9 = .ok (.if_icmp .ge 19, 3) := by decide +kernel
theorem dX4_firstOfRun_12 : decode cX4_firstOfRun 12 = .ok (.aload_n 0, 1) := by decide +kernel
theorem dX4_firstOfRun_13 : decode cX4_firstOfRun 13 = .ok (.getfield 24, 3) := by decide +kernel
theorem dX4_firstOfRun_16 : decode cX4_firstOfRun 16 = .ok (.iload_n 2, 1) := by decide +kernel
theorem dX4_firstOfRun_17 : decode cX4_firstOfRun 17 = .ok (.iaload, 1) := by decide +kernel
theorem dX4_firstOfRun_18 : decode cX4_firstOfRun 18 = .ok (.iload_n 1, 1) := by decide +kernel
theorem dX4_firstOfRun_19 : decode cX4_firstOfRun 19 = .ok (.if_icmp .eq 9, 3) := by decide +kernel
theorem dX4_firstOfRun_22 : decode cX4_firstOfRun 22 = .ok (.iinc 2 1, 3) := by decide +kernel
theorem dX4_firstOfRun_25 : decode cX4_firstOfRun 25 = .ok (.goto (-23), 3) := by decide +kernel
theorem dX4_firstOfRun_28 : decode cX4_firstOfRun 28 = .ok (.iload_n 2, 1) := by decide +kernel
theorem dX4_firstOfRun_29 : decode cX4_firstOfRun 29 = .ok (.ireturn, 1) := by decide +kernel
set_option maxRecDepth 20000 in
theorem mw_X4_firstOfRun_0 : (.fieldLink RX4 51 "FontRuns$Setting" "count" "I" : Cond) ∈ wsX4_firstOfRun := List.mem_cons_of_mem _ (List.mem_append_left _ (List.mem_of_getElem? (i := 0) rfl))
set_option maxRecDepth 20000 in
theorem mw_X4_firstOfRun_1 : (.fieldLink RX4 24 "FontRuns$Setting" "runOf" "[I" : Cond) ∈ wsX4_firstOfRun := List.mem_cons_of_mem _ (List.mem_append_left _ (List.mem_of_getElem? (i := 1) rfl))
set_option maxHeartbeats 4000000 in
set_option maxRecDepth 100000 in
theorem c_X4_firstOfRun (l : Launch) (D : va_G) (sz : Nat) (f : Int) (h0 : Nat) (g1 : Nat) (g2 : Nat) (g3 : Nat) (g4 : Nat) (g5 : Nat) (cn : Int) (bo : Int) (ru : Int) (g6 : Nat) (g7 : Nat) (cg5 : ClassId) (f5 : Nat → Int32) (q0 : rg f) (q1 : 0 ≤ cn ∧ cn ≤ 24) (q2 : 0 ≤ bo ∧ bo ≤ 24) (q3 : 0 ≤ ru ∧ ru ≤ cn) : Met l yX4_firstOfRun wsX4_firstOfRun ({ frames := 0, cells := 0, slots := 0, locals := 0 }) (kPre [.ref h0, .int (zI f)] D [(h0, .inr (4, [.ref g1, .ref g2, .ref g3, .ref g4, .ref g5, .int (zI cn), .int (zI bo), .int (zI ru), .ref g6, .ref g7])), (g5, .inl (cg5, 24, .inl f5))] [(cg5, .int)] sz) (QcP (fun rz => 0 ≤ rz ∧ rz ≤ 23)) 0 0 (fun _ => False) := by
  refine Met.ofW (cc := cX4_firstOfRun) (maxL := 3) (ret := (some .int)) (by decide) rfl ?_
  intro p e s m args below meth c s₁ B hml hv
  obtain ⟨rfl, hsz, hP, hK, hD0, hN⟩ := hv
  have hx := B.exec
  have hb := B.bytes
  have hr := B.returns
  have hts := atoms_spec (ws := wsX4_firstOfRun) B.pre
  have hown : s.vm.findClass RX4 = some m.cls := findClass_of_methodNamed B.named
  have hlocks := B.notSynchronized
  subst hsz
  have hD := hD0
  have hP : va_P D vwCl [(h0, .inr (4, [.ref g1, .ref g2, .ref g3, .ref g4, .ref g5, .int (zI cn), .int (zI bo), .int (zI ru), .ref g6, .ref g7])), (g5, .inl (cg5, 24, .inl f5))] s.heap := hP
  have hl := lv_entry ([.ref h0, .int (zI f)]) (n := 3) (Nat.le_of_ble_eq_true rfl)
  rw [lg_entry_eq]
  generalize (lg_sl ([.ref h0, .int (zI f)]) ++ List.replicate (3 - (lg_sl ([.ref h0, .int (zI f)])).length) Slot.unset).toArray = ls at hl ⊢
  have hl : lv_has ls 3 [(0, .ref h0), (1, .int (zI f))] := hl
  refine lv_iconst (v := zI 0) hx hb dX4_firstOfRun_0 rfl ?_
  refine lv_istore_n (lv' := [(2, .int (zI 0)), (0, .ref h0), (1, .int (zI f))]) hx hb dX4_firstOfRun_1 rfl hl (by decide) rfl (fun ls hl => ?_)
  refine k_loopM (I := fun n9 H locs ls => ∃ (jk : Int), n9 = (cn - jk).toNat ∧ (0 ≤ jk ∧ (jk ≤ cn - 1 ∨ jk = 0)) ∧ H = s.heap ∧ locs = [] ∧ lv_has ls 3 [(2, .int (zI jk)), (0, .ref h0), (1, .int (zI f))]) ?_ _ ⟨0, rfl, (by omega), rfl, rfl, hl⟩
  intro n2 ih2 H locs ls hI
  obtain ⟨jk, en2, v_20, eH, eL, hl⟩ := hI
  subst eH
  subst eL
  refine lv_iload_n hx hb dX4_firstOfRun_2 rfl (lv_at hl 0 rfl) ?_
  refine lv_aload_n hx hb dX4_firstOfRun_3 rfl (lv_at hl 1 rfl) ?_
  refine va_get (D := D) (ci := 4) (v := .int (zI cn)) (C := RX4) (T := TX4) (N := 10) hx hb hts (fun _ h9 => List.mem_cons_of_mem _ (List.mem_append_right _ h9)) hown hK hP 0 rfl rfl 5 (by decide) (hts (.fieldLink RX4 51 "FontRuns$Setting" "count" "I") mw_X4_firstOfRun_0) (fun _ h9 => h9) rfl dX4_firstOfRun_4 ?_
  refine lv_iconst (v := zI 1) hx hb dX4_firstOfRun_7 rfl ?_
  refine kz_isub hx hb dX4_firstOfRun_8 ?_
  refine kz_icmp_ge (tgt := 28) hx hb dX4_firstOfRun_9 (by decide) (by omega) (by omega) (fun c_1 => ?_) (fun c_1 => ?_)
  · refine lv_iload_n hx hb dX4_firstOfRun_28 rfl (lv_at hl 0 rfl) ?_
    exact W.iret (v := (zI jk)) hx hb hr (fun t ht hW => QcP_of (by omega) (by omega) ht) (fun _ h9 => by cases h9) dX4_firstOfRun_29
  · refine lv_aload_n hx hb dX4_firstOfRun_12 rfl (lv_at hl 1 rfl) ?_
    refine va_get (D := D) (ci := 4) (v := .ref g5) (C := RX4) (T := TX4) (N := 10) hx hb hts (fun _ h9 => List.mem_cons_of_mem _ (List.mem_append_right _ h9)) hown hK hP 0 rfl rfl 4 (by decide) (hts (.fieldLink RX4 24 "FontRuns$Setting" "runOf" "[I") mw_X4_firstOfRun_1) (fun _ h9 => h9) rfl dX4_firstOfRun_13 ?_
    refine lv_iload_n hx hb dX4_firstOfRun_16 rfl (lv_at hl 0 rfl) ?_
    refine kz_iald hx hb hK hP 1 0 rfl rfl (by omega) dX4_firstOfRun_17 (fun z_2 rz_2 ez_2 => ?_)
    refine lv_iload_n hx hb dX4_firstOfRun_18 rfl (lv_at hl 2 rfl) ?_
    refine kz_icmp_eq (tgt := 28) hx hb dX4_firstOfRun_19 (by decide) (by omega) (by omega) (fun c_3 => ?_) (fun c_3 => ?_)
    · refine lv_iload_n hx hb dX4_firstOfRun_28 rfl (lv_at hl 0 rfl) ?_
      exact W.iret (v := (zI jk)) hx hb hr (fun t ht hW => QcP_of (by omega) (by omega) ht) (fun _ h9 => by cases h9) dX4_firstOfRun_29
    · refine lv_iinc (v := (zI (jk + 1))) (lv' := [(2, .int (zI (jk + 1))), (0, .ref h0), (1, .int (zI f))]) hx hb dX4_firstOfRun_22 hl (k := 0) rfl (kz_inc _ 1) (by decide) rfl (fun ls hl => ?_)
      refine lv_goto (tgt := 2) hx hb dX4_firstOfRun_25 (by decide) ?_
      exact ih2 _ (by omega) _ _ _ ⟨(jk + 1), rfl, (by omega), rfl, rfl, lv_sub hl [0, 1, 2] rfl⟩
theorem dX4_clustersOfRun_0 : decode cX4_clustersOfRun 0 = .ok (.iconst 0, 1) := by decide +kernel
theorem dX4_clustersOfRun_1 : decode cX4_clustersOfRun 1 = .ok (.istore_n 2, 1) := by decide +kernel
theorem dX4_clustersOfRun_2 : decode cX4_clustersOfRun 2 = .ok (.iconst 0, 1) := by decide +kernel
theorem dX4_clustersOfRun_3 : decode cX4_clustersOfRun 3 = .ok (.istore_n 3, 1) := by decide +kernel
theorem dX4_clustersOfRun_4 : decode cX4_clustersOfRun 4 = .ok (.iload_n 3, 1) := by decide +kernel
theorem dX4_clustersOfRun_5 : decode cX4_clustersOfRun 5 = .ok (.aload_n 0, 1) := by decide +kernel
theorem dX4_clustersOfRun_6 : decode cX4_clustersOfRun 6 = .ok (.getfield 51, 3) := by decide +kernel
theorem dX4_clustersOfRun_9 : decode cX4_clustersOfRun 9 = .ok (.if_icmp .ge 22, 3) := by decide +kernel
theorem dX4_clustersOfRun_12 : decode cX4_clustersOfRun 12 = .ok (.aload_n 0, 1) := by decide +kernel
theorem dX4_clustersOfRun_13 : decode cX4_clustersOfRun 13 = .ok (.getfield 24, 3) := by decide +kernel
theorem dX4_clustersOfRun_16 : decode cX4_clustersOfRun 16 = .ok (.iload_n 3, 1) := by decide +kernel
theorem dX4_clustersOfRun_17 : decode cX4_clustersOfRun 17 = .ok (.iaload, 1) := by decide +kernel
theorem dX4_clustersOfRun_18 : decode cX4_clustersOfRun 18 = .ok (.iload_n 1, 1) := by decide +kernel
theorem dX4_clustersOfRun_19 : decode cX4_clustersOfRun 19 = .ok (.if_icmp .ne 6, 3) := by decide +kernel
theorem dX4_clustersOfRun_22 : decode cX4_clustersOfRun 22 = .ok (.iinc 2 1, 3) := by decide +kernel
theorem dX4_clustersOfRun_25 : decode cX4_clustersOfRun 25 = .ok (.iinc 3 1, 3) := by decide +kernel
theorem dX4_clustersOfRun_28 : decode cX4_clustersOfRun 28 = .ok (.goto (-24), 3) := by decide +kernel
theorem dX4_clustersOfRun_31 : decode cX4_clustersOfRun 31 = .ok (.iload_n 2, 1) := by decide +kernel
theorem dX4_clustersOfRun_32 : decode cX4_clustersOfRun 32 = .ok (.ireturn, 1) := by decide +kernel
set_option maxRecDepth 20000 in
theorem mw_X4_clustersOfRun_0 : (.fieldLink RX4 51 "FontRuns$Setting" "count" "I" : Cond) ∈ wsX4_clustersOfRun := List.mem_cons_of_mem _ (List.mem_append_left _ (List.mem_of_getElem? (i := 0) rfl))
set_option maxRecDepth 20000 in
theorem mw_X4_clustersOfRun_1 : (.fieldLink RX4 24 "FontRuns$Setting" "runOf" "[I" : Cond) ∈ wsX4_clustersOfRun := List.mem_cons_of_mem _ (List.mem_append_left _ (List.mem_of_getElem? (i := 1) rfl))
set_option maxHeartbeats 4000000 in
set_option maxRecDepth 100000 in
theorem c_X4_clustersOfRun (l : Launch) (D : va_G) (sz : Nat) (f : Int) (h0 : Nat) (g1 : Nat) (g2 : Nat) (g3 : Nat) (g4 : Nat) (g5 : Nat) (cn : Int) (bo : Int) (ru : Int) (g6 : Nat) (g7 : Nat) (cg5 : ClassId) (f5 : Nat → Int32) (q0 : rg f) (q1 : 0 ≤ cn ∧ cn ≤ 24) (q2 : 0 ≤ bo ∧ bo ≤ 24) (q3 : 0 ≤ ru ∧ ru ≤ cn) : Met l yX4_clustersOfRun wsX4_clustersOfRun ({ frames := 0, cells := 0, slots := 0, locals := 0 }) (kPre [.ref h0, .int (zI f)] D [(h0, .inr (4, [.ref g1, .ref g2, .ref g3, .ref g4, .ref g5, .int (zI cn), .int (zI bo), .int (zI ru), .ref g6, .ref g7])), (g5, .inl (cg5, 24, .inl f5))] [(cg5, .int)] sz) (QcP (fun rz => 0 ≤ rz ∧ rz ≤ 24)) 0 0 (fun _ => False) := by
  refine Met.ofW (cc := cX4_clustersOfRun) (maxL := 4) (ret := (some .int)) (by decide) rfl ?_
  intro p e s m args below meth c s₁ B hml hv
  obtain ⟨rfl, hsz, hP, hK, hD0, hN⟩ := hv
  have hx := B.exec
  have hb := B.bytes
  have hr := B.returns
  have hts := atoms_spec (ws := wsX4_clustersOfRun) B.pre
  have hown : s.vm.findClass RX4 = some m.cls := findClass_of_methodNamed B.named
  have hlocks := B.notSynchronized
  subst hsz
  have hD := hD0
  have hP : va_P D vwCl [(h0, .inr (4, [.ref g1, .ref g2, .ref g3, .ref g4, .ref g5, .int (zI cn), .int (zI bo), .int (zI ru), .ref g6, .ref g7])), (g5, .inl (cg5, 24, .inl f5))] s.heap := hP
  have hl := lv_entry ([.ref h0, .int (zI f)]) (n := 4) (Nat.le_of_ble_eq_true rfl)
  rw [lg_entry_eq]
  generalize (lg_sl ([.ref h0, .int (zI f)]) ++ List.replicate (4 - (lg_sl ([.ref h0, .int (zI f)])).length) Slot.unset).toArray = ls at hl ⊢
  have hl : lv_has ls 4 [(0, .ref h0), (1, .int (zI f))] := hl
  refine lv_iconst (v := zI 0) hx hb dX4_clustersOfRun_0 rfl ?_
  refine lv_istore_n (lv' := [(2, .int (zI 0)), (0, .ref h0), (1, .int (zI f))]) hx hb dX4_clustersOfRun_1 rfl hl (by decide) rfl (fun ls hl => ?_)
  refine lv_iconst (v := zI 0) hx hb dX4_clustersOfRun_2 rfl ?_
  refine lv_istore_n (lv' := [(3, .int (zI 0)), (2, .int (zI 0)), (0, .ref h0), (1, .int (zI f))]) hx hb dX4_clustersOfRun_3 rfl hl (by decide) rfl (fun ls hl => ?_)
  refine k_loopM (I := fun n9 H locs ls => ∃ (js : Int) (jk : Int), n9 = (cn - jk).toNat ∧ (0 ≤ js ∧ js ≤ jk) ∧ (0 ≤ jk ∧ jk ≤ cn) ∧ H = s.heap ∧ locs = [] ∧ lv_has ls 4 [(3, .int (zI jk)), (2, .int (zI js)), (0, .ref h0), (1, .int (zI f))]) ?_ _ ⟨0, 0, rfl, (by omega), (by omega), rfl, rfl, hl⟩
  intro n4 ih4 H locs ls hI
  obtain ⟨js, jk, en4, v_40, v_41, eH, eL, hl⟩ := hI
  subst eH
  subst eL
  refine lv_iload_n hx hb dX4_clustersOfRun_4 rfl (lv_at hl 0 rfl) ?_
  refine lv_aload_n hx hb dX4_clustersOfRun_5 rfl (lv_at hl 2 rfl) ?_
  refine va_get (D := D) (ci := 4) (v := .int (zI cn)) (C := RX4) (T := TX4) (N := 10) hx hb hts (fun _ h9 => List.mem_cons_of_mem _ (List.mem_append_right _ h9)) hown hK hP 0 rfl rfl 5 (by decide) (hts (.fieldLink RX4 51 "FontRuns$Setting" "count" "I") mw_X4_clustersOfRun_0) (fun _ h9 => h9) rfl dX4_clustersOfRun_6 ?_
  refine kz_icmp_ge (tgt := 31) hx hb dX4_clustersOfRun_9 (by decide) (by omega) (by omega) (fun c_1 => ?_) (fun c_1 => ?_)
  · refine lv_iload_n hx hb dX4_clustersOfRun_31 rfl (lv_at hl 1 rfl) ?_
    exact W.iret (v := (zI js)) hx hb hr (fun t ht hW => QcP_of (by omega) (by omega) ht) (fun _ h9 => by cases h9) dX4_clustersOfRun_32
  · refine lv_aload_n hx hb dX4_clustersOfRun_12 rfl (lv_at hl 2 rfl) ?_
    refine va_get (D := D) (ci := 4) (v := .ref g5) (C := RX4) (T := TX4) (N := 10) hx hb hts (fun _ h9 => List.mem_cons_of_mem _ (List.mem_append_right _ h9)) hown hK hP 0 rfl rfl 4 (by decide) (hts (.fieldLink RX4 24 "FontRuns$Setting" "runOf" "[I") mw_X4_clustersOfRun_1) (fun _ h9 => h9) rfl dX4_clustersOfRun_13 ?_
    refine lv_iload_n hx hb dX4_clustersOfRun_16 rfl (lv_at hl 0 rfl) ?_
    refine kz_iald hx hb hK hP 1 0 rfl rfl (by omega) dX4_clustersOfRun_17 (fun z_2 rz_2 ez_2 => ?_)
    refine lv_iload_n hx hb dX4_clustersOfRun_18 rfl (lv_at hl 3 rfl) ?_
    refine kz_icmp_ne (tgt := 25) hx hb dX4_clustersOfRun_19 (by decide) (by omega) (by omega) (fun c_3 => ?_) (fun c_3 => ?_)
    · refine lv_iinc (v := (zI (jk + 1))) (lv' := [(3, .int (zI (jk + 1))), (2, .int (zI js)), (0, .ref h0), (1, .int (zI f))]) hx hb dX4_clustersOfRun_25 hl (k := 0) rfl (kz_inc _ 1) (by decide) rfl (fun ls hl => ?_)
      refine lv_goto (tgt := 4) hx hb dX4_clustersOfRun_28 (by decide) ?_
      exact ih4 _ (by omega) _ _ _ ⟨js, (jk + 1), rfl, (by omega), (by omega), rfl, rfl, lv_sub hl [0, 1, 2, 3] rfl⟩
    · refine lv_iinc (v := (zI (js + 1))) (lv' := [(2, .int (zI (js + 1))), (3, .int (zI jk)), (0, .ref h0), (1, .int (zI f))]) hx hb dX4_clustersOfRun_22 hl (k := 1) rfl (kz_inc _ 1) (by decide) rfl (fun ls hl => ?_)
      refine lv_iinc (v := (zI (jk + 1))) (lv' := [(3, .int (zI (jk + 1))), (2, .int (zI (js + 1))), (0, .ref h0), (1, .int (zI f))]) hx hb dX4_clustersOfRun_25 hl (k := 1) rfl (kz_inc _ 1) (by decide) rfl (fun ls hl => ?_)
      refine lv_goto (tgt := 4) hx hb dX4_clustersOfRun_28 (by decide) ?_
      exact ih4 _ (by omega) _ _ _ ⟨(js + 1), (jk + 1), rfl, (by omega), (by omega), rfl, rfl, lv_sub hl [0, 1, 2, 3] rfl⟩
theorem dX4_isServedBy_0 : decode cX4_isServedBy 0 = .ok (.iconst 0, 1) := by decide +kernel
theorem dX4_isServedBy_1 : decode cX4_isServedBy 1 = .ok (.istore_n 2, 1) := by decide +kernel
theorem dX4_isServedBy_2 : decode cX4_isServedBy 2 = .ok (.iload_n 2, 1) := by decide +kernel
theorem dX4_isServedBy_3 : decode cX4_isServedBy 3 = .ok (.aload_n 0, 1) := by decide +kernel
theorem dX4_isServedBy_4 : decode cX4_isServedBy 4 = .ok (.getfield 51, 3) := by decide +kernel
theorem dX4_isServedBy_7 : decode cX4_isServedBy 7 = .ok (.if_icmp .ge 31, 3) := by decide +kernel
theorem dX4_isServedBy_10 : decode cX4_isServedBy 10 = .ok (.aload_n 0, 1) := by decide +kernel
theorem dX4_isServedBy_11 : decode cX4_isServedBy 11 = .ok (.getfield 18, 3) := by decide +kernel
theorem dX4_isServedBy_14 : decode cX4_isServedBy 14 = .ok (.iload_n 2, 1) := by decide +kernel
theorem dX4_isServedBy_15 : decode cX4_isServedBy 15 = .ok (.iaload, 1) := by decide +kernel
theorem dX4_isServedBy_16 : decode cX4_isServedBy 16 = .ok (.ifCond .eq 16, 3) := by decide +kernel
theorem dX4_isServedBy_19 : decode cX4_isServedBy 19 = .ok (.aload_n 0, 1) := by decide +kernel
theorem dX4_isServedBy_20 : decode cX4_isServedBy 20 = .ok (.getfield 18, 3) := by decide +kernel
theorem dX4_isServedBy_23 : decode cX4_isServedBy 23 = .ok (.iload_n 2, 1) := by decide +kernel
theorem dX4_isServedBy_24 : decode cX4_isServedBy 24 = .ok (.iaload, 1) := by decide +kernel
theorem dX4_isServedBy_25 : decode cX4_isServedBy 25 = .ok (.iload_n 1, 1) := by decide +kernel
theorem dX4_isServedBy_26 : decode cX4_isServedBy 26 = .ok (.iand, 1) := by decide +kernel
theorem dX4_isServedBy_27 : decode cX4_isServedBy 27 = .ok (.ifCond .ne 5, 3) := by decide +kernel
theorem dX4_isServedBy_30 : decode cX4_isServedBy 30 = .ok (.iconst 0, 1) := by decide +kernel
theorem dX4_isServedBy_31 : decode cX4_isServedBy 31 = .ok (.ireturn, 1) := by decide +kernel
theorem dX4_isServedBy_32 : decode cX4_isServedBy 32 = .ok (.iinc 2 1, 3) := by decide +kernel
theorem dX4_isServedBy_35 : decode cX4_isServedBy 35 = .ok (.goto (-33), 3) := by decide +kernel
theorem dX4_isServedBy_38 : decode cX4_isServedBy 38 = .ok (.iconst 1, 1) := by decide +kernel
theorem dX4_isServedBy_39 : decode cX4_isServedBy 39 = .ok (.ireturn, 1) := by decide +kernel
set_option maxRecDepth 20000 in
theorem mw_X4_isServedBy_0 : (.fieldLink RX4 51 "FontRuns$Setting" "count" "I" : Cond) ∈ wsX4_isServedBy := List.mem_cons_of_mem _ (List.mem_append_left _ (List.mem_of_getElem? (i := 0) rfl))
set_option maxRecDepth 20000 in
theorem mw_X4_isServedBy_1 : (.fieldLink RX4 18 "FontRuns$Setting" "fitting" "[I" : Cond) ∈ wsX4_isServedBy := List.mem_cons_of_mem _ (List.mem_append_left _ (List.mem_of_getElem? (i := 1) rfl))
set_option maxHeartbeats 4000000 in
set_option maxRecDepth 100000 in
theorem c_X4_isServedBy (l : Launch) (D : va_G) (sz : Nat) (f : Int) (h0 : Nat) (g1 : Nat) (g2 : Nat) (g3 : Nat) (g4 : Nat) (g5 : Nat) (cn : Int) (bo : Int) (ru : Int) (g6 : Nat) (g7 : Nat) (cg3 : ClassId) (f3 : Nat → Int32) (q0 : rg f) (q1 : 0 ≤ cn ∧ cn ≤ 24) (q2 : 0 ≤ bo ∧ bo ≤ 24) (q3 : 0 ≤ ru ∧ ru ≤ cn) : Met l yX4_isServedBy wsX4_isServedBy ({ frames := 0, cells := 0, slots := 0, locals := 0 }) (kPre [.ref h0, .int (zI f)] D [(h0, .inr (4, [.ref g1, .ref g2, .ref g3, .ref g4, .ref g5, .int (zI cn), .int (zI bo), .int (zI ru), .ref g6, .ref g7])), (g3, .inl (cg3, 24, .inl f3))] [(cg3, .int)] sz) (QcP (fun rz => True)) 0 0 (fun _ => False) := by
  refine Met.ofW (cc := cX4_isServedBy) (maxL := 3) (ret := (some .boolean)) (by decide) rfl ?_
  intro p e s m args below meth c s₁ B hml hv
  obtain ⟨rfl, hsz, hP, hK, hD0, hN⟩ := hv
  have hx := B.exec
  have hb := B.bytes
  have hr := B.returns
  have hts := atoms_spec (ws := wsX4_isServedBy) B.pre
  have hown : s.vm.findClass RX4 = some m.cls := findClass_of_methodNamed B.named
  have hlocks := B.notSynchronized
  subst hsz
  have hD := hD0
  have hP : va_P D vwCl [(h0, .inr (4, [.ref g1, .ref g2, .ref g3, .ref g4, .ref g5, .int (zI cn), .int (zI bo), .int (zI ru), .ref g6, .ref g7])), (g3, .inl (cg3, 24, .inl f3))] s.heap := hP
  have hl := lv_entry ([.ref h0, .int (zI f)]) (n := 3) (Nat.le_of_ble_eq_true rfl)
  rw [lg_entry_eq]
  generalize (lg_sl ([.ref h0, .int (zI f)]) ++ List.replicate (3 - (lg_sl ([.ref h0, .int (zI f)])).length) Slot.unset).toArray = ls at hl ⊢
  have hl : lv_has ls 3 [(0, .ref h0), (1, .int (zI f))] := hl
  refine lv_iconst (v := zI 0) hx hb dX4_isServedBy_0 rfl ?_
  refine lv_istore_n (lv' := [(2, .int (zI 0)), (0, .ref h0), (1, .int (zI f))]) hx hb dX4_isServedBy_1 rfl hl (by decide) rfl (fun ls hl => ?_)
  refine k_loopM (I := fun n9 H locs ls => ∃ (jk : Int), n9 = (cn - jk).toNat ∧ (0 ≤ jk ∧ jk ≤ cn) ∧ H = s.heap ∧ locs = [] ∧ lv_has ls 3 [(2, .int (zI jk)), (0, .ref h0), (1, .int (zI f))]) ?_ _ ⟨0, rfl, (by omega), rfl, rfl, hl⟩
  intro n2 ih2 H locs ls hI
  obtain ⟨jk, en2, v_20, eH, eL, hl⟩ := hI
  subst eH
  subst eL
  refine lv_iload_n hx hb dX4_isServedBy_2 rfl (lv_at hl 0 rfl) ?_
  refine lv_aload_n hx hb dX4_isServedBy_3 rfl (lv_at hl 1 rfl) ?_
  refine va_get (D := D) (ci := 4) (v := .int (zI cn)) (C := RX4) (T := TX4) (N := 10) hx hb hts (fun _ h9 => List.mem_cons_of_mem _ (List.mem_append_right _ h9)) hown hK hP 0 rfl rfl 5 (by decide) (hts (.fieldLink RX4 51 "FontRuns$Setting" "count" "I") mw_X4_isServedBy_0) (fun _ h9 => h9) rfl dX4_isServedBy_4 ?_
  refine kz_icmp_ge (tgt := 38) hx hb dX4_isServedBy_7 (by decide) (by omega) (by omega) (fun c_1 => ?_) (fun c_1 => ?_)
  · refine lv_iconst (v := zI 1) hx hb dX4_isServedBy_38 rfl ?_
    exact W.zret (v := (zI 1)) hx hb hr rfl (fun t ht hW => QcP_of (by omega) trivial ht) (fun _ h9 => by cases h9) dX4_isServedBy_39
  · refine lv_aload_n hx hb dX4_isServedBy_10 rfl (lv_at hl 1 rfl) ?_
    refine va_get (D := D) (ci := 4) (v := .ref g3) (C := RX4) (T := TX4) (N := 10) hx hb hts (fun _ h9 => List.mem_cons_of_mem _ (List.mem_append_right _ h9)) hown hK hP 0 rfl rfl 2 (by decide) (hts (.fieldLink RX4 18 "FontRuns$Setting" "fitting" "[I") mw_X4_isServedBy_1) (fun _ h9 => h9) rfl dX4_isServedBy_11 ?_
    refine lv_iload_n hx hb dX4_isServedBy_14 rfl (lv_at hl 0 rfl) ?_
    refine kz_iald hx hb hK hP 1 0 rfl rfl (by omega) dX4_isServedBy_15 (fun z_2 rz_2 ez_2 => ?_)
    refine kz_if_eq (tgt := 32) hx hb dX4_isServedBy_16 (by decide) (by omega) (fun c_3 => ?_) (fun c_3 => ?_)
    · refine lv_iinc (v := (zI (jk + 1))) (lv' := [(2, .int (zI (jk + 1))), (0, .ref h0), (1, .int (zI f))]) hx hb dX4_isServedBy_32 hl (k := 0) rfl (kz_inc _ 1) (by decide) rfl (fun ls hl => ?_)
      refine lv_goto (tgt := 2) hx hb dX4_isServedBy_35 (by decide) ?_
      exact ih2 _ (by omega) _ _ _ ⟨(jk + 1), rfl, (by omega), rfl, rfl, lv_sub hl [0, 1, 2] rfl⟩
    · refine lv_aload_n hx hb dX4_isServedBy_19 rfl (lv_at hl 1 rfl) ?_
      refine va_get (D := D) (ci := 4) (v := .ref g3) (C := RX4) (T := TX4) (N := 10) hx hb hts (fun _ h9 => List.mem_cons_of_mem _ (List.mem_append_right _ h9)) hown hK hP 0 rfl rfl 2 (by decide) (hts (.fieldLink RX4 18 "FontRuns$Setting" "fitting" "[I") mw_X4_isServedBy_1) (fun _ h9 => h9) rfl dX4_isServedBy_20 ?_
      refine lv_iload_n hx hb dX4_isServedBy_23 rfl (lv_at hl 0 rfl) ?_
      refine kz_iald hx hb hK hP 1 0 rfl rfl (by omega) dX4_isServedBy_24 (fun z_4 rz_4 ez_4 => ?_)
      refine lv_iload_n hx hb dX4_isServedBy_25 rfl (lv_at hl 2 rfl) ?_
      refine lv_iand hx hb dX4_isServedBy_26 ?_
      refine kz_any (fun z_5 rz_5 ez_5 => ?_)
      refine kz_if_ne (tgt := 32) hx hb dX4_isServedBy_27 (by decide) (by omega) (fun c_6 => ?_) (fun c_6 => ?_)
      · refine lv_iinc (v := (zI (jk + 1))) (lv' := [(2, .int (zI (jk + 1))), (0, .ref h0), (1, .int (zI f))]) hx hb dX4_isServedBy_32 hl (k := 0) rfl (kz_inc _ 1) (by decide) rfl (fun ls hl => ?_)
        refine lv_goto (tgt := 2) hx hb dX4_isServedBy_35 (by decide) ?_
        exact ih2 _ (by omega) _ _ _ ⟨(jk + 1), rfl, (by omega), rfl, rfl, lv_sub hl [0, 1, 2] rfl⟩
      · refine lv_iconst (v := zI 0) hx hb dX4_isServedBy_30 rfl ?_
        exact W.zret (v := (zI 0)) hx hb hr rfl (fun t ht hW => QcP_of (by omega) trivial ht) (fun _ h9 => by cases h9) dX4_isServedBy_31
theorem dX4_cut_0 : decode cX4_cut 0 = .ok (.aload_n 0, 1) := by decide +kernel
theorem dX4_cut_1 : decode cX4_cut 1 = .ok (.iconst 0, 1) := by decide +kernel
theorem dX4_cut_2 : decode cX4_cut 2 = .ok (.putfield 51, 3) := by decide +kernel
theorem dX4_cut_5 : decode cX4_cut 5 = .ok (.iconst 0, 1) := by decide +kernel
theorem dX4_cut_6 : decode cX4_cut 6 = .ok (.istore_n 2, 1) := by decide +kernel
theorem dX4_cut_7 : decode cX4_cut 7 = .ok (.iload_n 2, 1) := by decide +kernel
theorem dX4_cut_8 : decode cX4_cut 8 = .ok (.aload_n 1, 1) := by decide +kernel
theorem dX4_cut_9 : decode cX4_cut 9 = .ok (.getfield 74, 3) := by decide +kernel
theorem dX4_cut_12 : decode cX4_cut 12 = .ok (.if_icmp .ge 101, 3) := by decide +kernel
theorem dX4_cut_15 : decode cX4_cut 15 = .ok (.aload_n 1, 1) := by decide +kernel
theorem dX4_cut_16 : decode cX4_cut 16 = .ok (.getfield 77, 3) := by decide +kernel
theorem dX4_cut_19 : decode cX4_cut 19 = .ok (.iload_n 2, 1) := by decide +kernel
theorem dX4_cut_20 : decode cX4_cut 20 = .ok (.iaload, 1) := by decide +kernel
theorem dX4_cut_21 : decode cX4_cut 21 = .ok (.istore_n 3, 1) := by decide +kernel
theorem dX4_cut_22 : decode cX4_cut 22 = .ok (.aload_n 0, 1) := by decide +kernel
theorem dX4_cut_23 : decode cX4_cut 23 = .ok (.getfield 51, 3) := by decide +kernel
theorem dX4_cut_26 : decode cX4_cut 26 = .ok (.ifCond .eq 9, 3) := by decide +kernel
theorem dX4_cut_29 : decode cX4_cut 29 = .ok (.iload_n 3, 1) := by decide +kernel
theorem dX4_cut_30 : decode cX4_cut 30 = .ok (.bipush 12, 2) := by decide +kernel
theorem dX4_cut_32 : decode cX4_cut 32 = .ok (.if_icmp .ge 43, 3) := by decide +kernel
theorem dX4_cut_35 : decode cX4_cut 35 = .ok (.aload_n 0, 1) := by decide +kernel
theorem dX4_cut_36 : decode cX4_cut 36 = .ok (.getfield 9, 3) := by decide +kernel
theorem dX4_cut_39 : decode cX4_cut 39 = .ok (.aload_n 0, 1) := by decide +kernel
theorem dX4_cut_40 : decode cX4_cut 40 = .ok (.getfield 51, 3) := by decide +kernel
theorem dX4_cut_43 : decode cX4_cut 43 = .ok (.iload_n 2, 1) := by decide +kernel
theorem dX4_cut_44 : decode cX4_cut 44 = .ok (.iastore, 1) := by decide +kernel
theorem dX4_cut_45 : decode cX4_cut 45 = .ok (.aload_n 0, 1) := by decide +kernel
theorem dX4_cut_46 : decode cX4_cut 46 = .ok (.getfield 15, 3) := by decide +kernel
theorem dX4_cut_49 : decode cX4_cut 49 = .ok (.aload_n 0, 1) := by decide +kernel
theorem dX4_cut_50 : decode cX4_cut 50 = .ok (.getfield 51, 3) := by decide +kernel
theorem dX4_cut_53 : decode cX4_cut 53 = .ok (.iconst 0, 1) := by decide +kernel
theorem dX4_cut_54 : decode cX4_cut 54 = .ok (.iastore, 1) := by decide +kernel
theorem dX4_cut_55 : decode cX4_cut 55 = .ok (.aload_n 0, 1) := by decide +kernel
theorem dX4_cut_56 : decode cX4_cut 56 = .ok (.getfield 27, 3) := by decide +kernel
theorem dX4_cut_59 : decode cX4_cut 59 = .ok (.aload_n 0, 1) := by decide +kernel
theorem dX4_cut_60 : decode cX4_cut 60 = .ok (.getfield 51, 3) := by decide +kernel
theorem dX4_cut_63 : decode cX4_cut 63 = .ok (.iconst 0, 1) := by decide +kernel
theorem dX4_cut_64 : decode cX4_cut 64 = .ok (.iastore, 1) := by decide +kernel
theorem dX4_cut_65 : decode cX4_cut 65 = .ok (.aload_n 0, 1) := by decide +kernel
theorem dX4_cut_66 : decode cX4_cut 66 = .ok (.dup, 1) := by decide +kernel
theorem dX4_cut_67 : decode cX4_cut 67 = .ok (.getfield 51, 3) := by decide +kernel
theorem dX4_cut_70 : decode cX4_cut 70 = .ok (.iconst 1, 1) := by decide +kernel
theorem dX4_cut_71 : decode cX4_cut 71 = .ok (.iadd, 1) := by decide +kernel
theorem dX4_cut_72 : decode cX4_cut 72 = .ok (.putfield 51, 3) := by decide +kernel
theorem dX4_cut_75 : decode cX4_cut 75 = .ok (.aload_n 0, 1) := by decide +kernel
theorem dX4_cut_76 : decode cX4_cut 76 = .ok (.getfield 15, 3) := by decide +kernel
theorem dX4_cut_79 : decode cX4_cut 79 = .ok (.aload_n 0, 1) := by decide +kernel
theorem dX4_cut_80 : decode cX4_cut 80 = .ok (.getfield 51, 3) := by decide +kernel
theorem dX4_cut_83 : decode cX4_cut 83 = .ok (.iconst 1, 1) := by decide +kernel
theorem dX4_cut_84 : decode cX4_cut 84 = .ok (.isub, 1) := by decide +kernel
theorem dX4_cut_85 : decode cX4_cut 85 = .ok (.dup2, 1) := by decide +kernel
theorem dX4_cut_86 : decode cX4_cut 86 = .ok (.iaload, 1) := by decide +kernel
theorem dX4_cut_87 : decode cX4_cut 87 = .ok (.iconst 1, 1) := by decide +kernel
theorem dX4_cut_88 : decode cX4_cut 88 = .ok (.iadd, 1) := by decide +kernel
theorem dX4_cut_89 : decode cX4_cut 89 = .ok (.iastore, 1) := by decide +kernel
theorem dX4_cut_90 : decode cX4_cut 90 = .ok (.aload_n 0, 1) := by decide +kernel
theorem dX4_cut_91 : decode cX4_cut 91 = .ok (.getfield 27, 3) := by decide +kernel
theorem dX4_cut_94 : decode cX4_cut 94 = .ok (.aload_n 0, 1) := by decide +kernel
theorem dX4_cut_95 : decode cX4_cut 95 = .ok (.getfield 51, 3) := by decide +kernel
theorem dX4_cut_98 : decode cX4_cut 98 = .ok (.iconst 1, 1) := by decide +kernel
theorem dX4_cut_99 : decode cX4_cut 99 = .ok (.isub, 1) := by decide +kernel
theorem dX4_cut_100 : decode cX4_cut 100 = .ok (.dup2, 1) := by decide +kernel
theorem dX4_cut_101 : decode cX4_cut 101 = .ok (.iaload, 1) := by decide +kernel
theorem dX4_cut_102 : decode cX4_cut 102 = .ok (.iconst 1, 1) := by decide +kernel
theorem dX4_cut_103 : decode cX4_cut 103 = .ok (.iload_n 3, 1) := by decide +kernel
theorem dX4_cut_104 : decode cX4_cut 104 = .ok (.ishl, 1) := by decide +kernel
theorem dX4_cut_105 : decode cX4_cut 105 = .ok (.ior, 1) := by decide +kernel
theorem dX4_cut_106 : decode cX4_cut 106 = .ok (.iastore, 1) := by decide +kernel
theorem dX4_cut_107 : decode cX4_cut 107 = .ok (.iinc 2 1, 3) := by decide +kernel
theorem dX4_cut_110 : decode cX4_cut 110 = .ok (.goto (-103), 3) := by decide +kernel
theorem dX4_cut_113 : decode cX4_cut 113 = .ok (.return_, 1) := by decide +kernel
set_option maxRecDepth 20000 in
theorem mw_X4_cut_0 : (.fieldLink RX4 51 "FontRuns$Setting" "count" "I" : Cond) ∈ wsX4_cut := List.mem_cons_of_mem _ (List.mem_append_left _ (List.mem_append_left _ (List.mem_of_getElem? (i := 0) rfl)))
set_option maxRecDepth 20000 in
theorem mw_X4_cut_1 : (.fieldLink RX4 74 "FontRuns$Writing" "count" "I" : Cond) ∈ wsX4_cut := List.mem_cons_of_mem _ (List.mem_append_left _ (List.mem_append_left _ (List.mem_of_getElem? (i := 1) rfl)))
set_option maxRecDepth 20000 in
theorem mw_X4_cut_2 : (.fieldLink RX4 77 "FontRuns$Writing" "row" "[I" : Cond) ∈ wsX4_cut := List.mem_cons_of_mem _ (List.mem_append_left _ (List.mem_append_left _ (List.mem_of_getElem? (i := 2) rfl)))
set_option maxRecDepth 20000 in
theorem mw_X4_cut_3 : (.fieldLink RX4 9 "FontRuns$Setting" "first" "[I" : Cond) ∈ wsX4_cut := List.mem_cons_of_mem _ (List.mem_append_left _ (List.mem_append_left _ (List.mem_of_getElem? (i := 3) rfl)))
set_option maxRecDepth 20000 in
theorem mw_X4_cut_4 : (.fieldLink RX4 15 "FontRuns$Setting" "length" "[I" : Cond) ∈ wsX4_cut := List.mem_cons_of_mem _ (List.mem_append_left _ (List.mem_append_left _ (List.mem_of_getElem? (i := 4) rfl)))
set_option maxRecDepth 20000 in
theorem mw_X4_cut_5 : (.fieldLink RX4 27 "FontRuns$Setting" "letters" "[I" : Cond) ∈ wsX4_cut := List.mem_cons_of_mem _ (List.mem_append_left _ (List.mem_append_left _ (List.mem_of_getElem? (i := 5) rfl)))
theorem ax_X4_cut_0 {e0 e1 e2 e3 e4 e5 : Nat × va_E} : ([0, 1, 2, 3, 4, 5] : List Nat).map (fun i => ([e0, e1, e2, e3, e4, e5] : va_W)[i]?) = ([e0, e1, e2, e3, e4, e5] : va_W).map some := rfl
set_option maxHeartbeats 4000000 in
set_option maxRecDepth 100000 in
theorem c_X4_cut (l : Launch) (D : va_G) (sz : Nat) (wr : Nat) (h0 : Nat) (g1 : Nat) (g2 : Nat) (g3 : Nat) (g4 : Nat) (g5 : Nat) (cn : Int) (bo : Int) (ru : Int) (g6 : Nat) (g7 : Nat) (cg1 : ClassId) (f1 : Nat → Int32) (cg2 : ClassId) (f2 : Nat → Int32) (cg6 : ClassId) (f6 : Nat → Int32) (w1 : Nat) (wn : Int) (cw1 : ClassId) (fw : Nat → Int32) (q0 : 0 ≤ wn ∧ wn ≤ 24) : Met l yX4_cut wsX4_cut ({ frames := 0, cells := 0, slots := 0, locals := 0 }) (kPre [.ref h0, .ref wr] D [(h0, .inr (4, [.ref g1, .ref g2, .ref g3, .ref g4, .ref g5, .int (zI cn), .int (zI bo), .int (zI ru), .ref g6, .ref g7])), (g1, .inl (cg1, 24, .inl f1)), (g2, .inl (cg2, 24, .inl f2)), (g6, .inl (cg6, 24, .inl f6)), (wr, .inr (7, [.ref w1, .int (zI wn)])), (w1, .inl (cw1, 24, .inl fw))] [(cg1, .int), (cg2, .int), (cg6, .int), (cw1, .int)] sz) (kQV (fun t => ∃ (uc : Int) (v1 : Nat → Int32) (v2 : Nat → Int32) (v6 : Nat → Int32), (0 ≤ uc ∧ uc ≤ 24) ∧ va_P D vwCl [(h0, .inr (4, [.ref g1, .ref g2, .ref g3, .ref g4, .ref g5, .int (zI uc), .int (zI bo), .int (zI ru), .ref g6, .ref g7])), (g1, .inl (cg1, 24, .inl v1)), (g2, .inl (cg2, 24, .inl v2)), (g6, .inl (cg6, 24, .inl v6)), (wr, .inr (7, [.ref w1, .int (zI wn)])), (w1, .inl (cw1, 24, .inl fw))] t.heap ∧ va_D (va_A [(h0, .inr (4, [.ref g1, .ref g2, .ref g3, .ref g4, .ref g5, .int (zI cn), .int (zI bo), .int (zI ru), .ref g6, .ref g7])), (g1, .inl (cg1, 24, .inl f1)), (g2, .inl (cg2, 24, .inl f2)), (g6, .inl (cg6, 24, .inl f6)), (wr, .inr (7, [.ref w1, .int (zI wn)])), (w1, .inl (cw1, 24, .inl fw))] sz) [(h0, .inr (4, [.ref g1, .ref g2, .ref g3, .ref g4, .ref g5, .int (zI uc), .int (zI bo), .int (zI ru), .ref g6, .ref g7])), (g1, .inl (cg1, 24, .inl v1)), (g2, .inl (cg2, 24, .inl v2)), (g6, .inl (cg6, 24, .inl v6)), (wr, .inr (7, [.ref w1, .int (zI wn)])), (w1, .inl (cw1, 24, .inl fw))]) (va_A [(h0, .inr (4, [.ref g1, .ref g2, .ref g3, .ref g4, .ref g5, .int (zI cn), .int (zI bo), .int (zI ru), .ref g6, .ref g7])), (g1, .inl (cg1, 24, .inl f1)), (g2, .inl (cg2, 24, .inl f2)), (g6, .inl (cg6, 24, .inl f6)), (wr, .inr (7, [.ref w1, .int (zI wn)])), (w1, .inl (cw1, 24, .inl fw))] sz)) 0 0 (va_A [(h0, .inr (4, [.ref g1, .ref g2, .ref g3, .ref g4, .ref g5, .int (zI cn), .int (zI bo), .int (zI ru), .ref g6, .ref g7])), (g1, .inl (cg1, 24, .inl f1)), (g2, .inl (cg2, 24, .inl f2)), (g6, .inl (cg6, 24, .inl f6)), (wr, .inr (7, [.ref w1, .int (zI wn)])), (w1, .inl (cw1, 24, .inl fw))] sz) := by
  refine Met.ofW (cc := cX4_cut) (maxL := 4) (ret := none) (by decide) rfl ?_
  intro p e s m args below meth c s₁ B hml hv
  obtain ⟨rfl, hsz, hP, hK, hD0, hN⟩ := hv
  have hx := B.exec
  have hb := B.bytes
  have hr := B.returns
  have hts := atoms_spec (ws := wsX4_cut) B.pre
  have hown : s.vm.findClass RX4 = some m.cls := findClass_of_methodNamed B.named
  have hlocks := B.notSynchronized
  subst hsz
  have hD := hD0.self (sz := s.heap.size)
  generalize hAe : va_A [(h0, .inr (4, [.ref g1, .ref g2, .ref g3, .ref g4, .ref g5, .int (zI cn), .int (zI bo), .int (zI ru), .ref g6, .ref g7])), (g1, .inl (cg1, 24, .inl f1)), (g2, .inl (cg2, 24, .inl f2)), (g6, .inl (cg6, 24, .inl f6)), (wr, .inr (7, [.ref w1, .int (zI wn)])), (w1, .inl (cw1, 24, .inl fw))] s.heap.size = A at hD ⊢
  have hA : ∀ q : Nat, s.heap.size ≤ q → A q := fun q h => by rw [← hAe]; exact Or.inr h
  have hS : va_S A s.heap s.heap [] := va_S.rf
  have hP : va_P D vwCl [(h0, .inr (4, [.ref g1, .ref g2, .ref g3, .ref g4, .ref g5, .int (zI cn), .int (zI bo), .int (zI ru), .ref g6, .ref g7])), (g1, .inl (cg1, 24, .inl f1)), (g2, .inl (cg2, 24, .inl f2)), (g6, .inl (cg6, 24, .inl f6)), (wr, .inr (7, [.ref w1, .int (zI wn)])), (w1, .inl (cw1, 24, .inl fw))] s.heap := hP
  have hl := lv_entry ([.ref h0, .ref wr]) (n := 4) (Nat.le_of_ble_eq_true rfl)
  rw [lg_entry_eq]
  generalize (lg_sl ([.ref h0, .ref wr]) ++ List.replicate (4 - (lg_sl ([.ref h0, .ref wr])).length) Slot.unset).toArray = ls at hl ⊢
  have hl : lv_has ls 4 [(0, .ref h0), (1, .ref wr)] := hl
  refine lv_aload_n hx hb dX4_cut_0 rfl (lv_at hl 0 rfl) ?_
  refine lv_iconst (v := zI 0) hx hb dX4_cut_1 rfl ?_
  refine va_put (D := D) (ci := 4) (v := .int (zI 0)) (ty := .int) (C := RX4) (T := TX4) (N := 10) hx hb hts (fun _ h9 => List.mem_cons_of_mem _ (List.mem_append_left _ (List.mem_append_right _ h9))) tyX4 tyX4_ok nmX4 hown hK hP hD hS 0 rfl rfl 5 (by decide) (hts (.fieldLink RX4 51 "FontRuns$Setting" "count" "I") mw_X4_cut_0) (fun _ h9 => h9) rfl (by decide +kernel) rfl rfl (Nat.le_of_ble_eq_true rfl) dX4_cut_2 (fun H locs hP hD hS => ?_)
  have hP : va_P D vwCl [(h0, .inr (4, [.ref g1, .ref g2, .ref g3, .ref g4, .ref g5, .int (zI 0), .int (zI bo), .int (zI ru), .ref g6, .ref g7])), (g1, .inl (cg1, 24, .inl f1)), (g2, .inl (cg2, 24, .inl f2)), (g6, .inl (cg6, 24, .inl f6)), (wr, .inr (7, [.ref w1, .int (zI wn)])), (w1, .inl (cw1, 24, .inl fw))] H := hP
  have hD : va_D A [(h0, .inr (4, [.ref g1, .ref g2, .ref g3, .ref g4, .ref g5, .int (zI 0), .int (zI bo), .int (zI ru), .ref g6, .ref g7])), (g1, .inl (cg1, 24, .inl f1)), (g2, .inl (cg2, 24, .inl f2)), (g6, .inl (cg6, 24, .inl f6)), (wr, .inr (7, [.ref w1, .int (zI wn)])), (w1, .inl (cw1, 24, .inl fw))] := hD
  refine lv_iconst (v := zI 0) hx hb dX4_cut_5 rfl ?_
  refine lv_istore_n (lv' := [(2, .int (zI 0)), (0, .ref h0), (1, .ref wr)]) hx hb dX4_cut_6 rfl hl (by decide) rfl (fun ls hl => ?_)
  refine k_loopM (I := fun n9 H locs ls => ∃ (jk : Int) (jc : Int) (ja : Nat → Int32) (jb : Nat → Int32) (jl : Nat → Int32), n9 = (wn - jk).toNat ∧ (0 ≤ jk ∧ jk ≤ wn) ∧ (0 ≤ jc ∧ jc ≤ jk) ∧ (jk = 0 ∨ 1 ≤ jc) ∧ va_P D vwCl [(h0, .inr (4, [.ref g1, .ref g2, .ref g3, .ref g4, .ref g5, .int (zI jc), .int (zI bo), .int (zI ru), .ref g6, .ref g7])), (g1, .inl (cg1, 24, .inl ja)), (g2, .inl (cg2, 24, .inl jb)), (g6, .inl (cg6, 24, .inl jl)), (wr, .inr (7, [.ref w1, .int (zI wn)])), (w1, .inl (cw1, 24, .inl fw))] H ∧ va_D A [(h0, .inr (4, [.ref g1, .ref g2, .ref g3, .ref g4, .ref g5, .int (zI jc), .int (zI bo), .int (zI ru), .ref g6, .ref g7])), (g1, .inl (cg1, 24, .inl ja)), (g2, .inl (cg2, 24, .inl jb)), (g6, .inl (cg6, 24, .inl jl)), (wr, .inr (7, [.ref w1, .int (zI wn)])), (w1, .inl (cw1, 24, .inl fw))] ∧ va_S A s.heap H locs ∧ lv_has ls 4 [(2, .int (zI jk)), (0, .ref h0), (1, .ref wr)]) ?_ _ ⟨0, 0, f1, f2, f6, rfl, (by omega), (by omega), (by omega), hP, hD, hS, hl⟩
  intro n7 ih7 H locs ls hI
  obtain ⟨jk, jc, ja, jb, jl, en7, v_70, v_71, v_72, hP, hD, hS, hl⟩ := hI
  refine lv_iload_n hx hb dX4_cut_7 rfl (lv_at hl 0 rfl) ?_
  refine lv_aload_n hx hb dX4_cut_8 rfl (lv_at hl 2 rfl) ?_
  refine va_get (D := D) (ci := 7) (v := .int (zI wn)) (C := RX7) (T := TX7) (N := 2) hx hb hts (fun _ h9 => List.mem_cons_of_mem _ (List.mem_append_right _ h9)) hown hK hP 4 rfl rfl 1 (by decide) (hts (.fieldLink RX4 74 "FontRuns$Writing" "count" "I") mw_X4_cut_1) (fun _ h9 => h9) rfl dX4_cut_9 ?_
  refine kz_icmp_ge (tgt := 113) hx hb dX4_cut_12 (by decide) (by omega) (by omega) (fun c_1 => ?_) (fun c_1 => ?_)
  · have hP9 := hP.sub (ws' := [(h0, .inr (4, [.ref g1, .ref g2, .ref g3, .ref g4, .ref g5, .int (zI jc), .int (zI bo), .int (zI ru), .ref g6, .ref g7])), (g1, .inl (cg1, 24, .inl ja)), (g2, .inl (cg2, 24, .inl jb)), (g6, .inl (cg6, 24, .inl jl)), (wr, .inr (7, [.ref w1, .int (zI wn)])), (w1, .inl (cw1, 24, .inl fw))]) [0, 1, 2, 3, 4, 5] rfl
    have hD9 := hD.sub (ws' := [(h0, .inr (4, [.ref g1, .ref g2, .ref g3, .ref g4, .ref g5, .int (zI jc), .int (zI bo), .int (zI ru), .ref g6, .ref g7])), (g1, .inl (cg1, 24, .inl ja)), (g2, .inl (cg2, 24, .inl jb)), (g6, .inl (cg6, 24, .inl jl)), (wr, .inr (7, [.ref w1, .int (zI wn)])), (w1, .inl (cw1, 24, .inl fw))]) [0, 1, 2, 3, 4, 5] (by decide +kernel) rfl
    exact W.vret hx hb hr (fun t ht hW => kQV_of ⟨jc, ja, jb, jl, (by omega), by rw [ht]; exact hP9, hD9⟩ (hS.F ht)) hS.2.2 dX4_cut_113
  · refine lv_aload_n hx hb dX4_cut_15 rfl (lv_at hl 2 rfl) ?_
    refine va_get (D := D) (ci := 7) (v := .ref w1) (C := RX7) (T := TX7) (N := 2) hx hb hts (fun _ h9 => List.mem_cons_of_mem _ (List.mem_append_right _ h9)) hown hK hP 4 rfl rfl 0 (by decide) (hts (.fieldLink RX4 77 "FontRuns$Writing" "row" "[I") mw_X4_cut_2) (fun _ h9 => h9) rfl dX4_cut_16 ?_
    refine lv_iload_n hx hb dX4_cut_19 rfl (lv_at hl 0 rfl) ?_
    refine kz_iald hx hb hK hP 5 3 rfl rfl (by omega) dX4_cut_20 (fun z_2 rz_2 ez_2 => ?_)
    refine lv_istore_n (lv' := [(3, .int (zI z_2)), (2, .int (zI jk)), (0, .ref h0), (1, .ref wr)]) hx hb dX4_cut_21 rfl hl (by decide) rfl (fun ls hl => ?_)
    refine lv_aload_n hx hb dX4_cut_22 rfl (lv_at hl 2 rfl) ?_
    refine va_get (D := D) (ci := 4) (v := .int (zI jc)) (C := RX4) (T := TX4) (N := 10) hx hb hts (fun _ h9 => List.mem_cons_of_mem _ (List.mem_append_left _ (List.mem_append_right _ h9))) hown hK hP 0 rfl rfl 5 (by decide) (hts (.fieldLink RX4 51 "FontRuns$Setting" "count" "I") mw_X4_cut_0) (fun _ h9 => h9) rfl dX4_cut_23 ?_
    refine kz_if_eq (tgt := 35) hx hb dX4_cut_26 (by decide) (by omega) (fun c_3 => ?_) (fun c_3 => ?_)
    · refine lv_aload_n hx hb dX4_cut_35 rfl (lv_at hl 2 rfl) ?_
      refine va_get (D := D) (ci := 4) (v := .ref g1) (C := RX4) (T := TX4) (N := 10) hx hb hts (fun _ h9 => List.mem_cons_of_mem _ (List.mem_append_left _ (List.mem_append_right _ h9))) hown hK hP 0 rfl rfl 0 (by decide) (hts (.fieldLink RX4 9 "FontRuns$Setting" "first" "[I") mw_X4_cut_3) (fun _ h9 => h9) rfl dX4_cut_36 ?_
      refine lv_aload_n hx hb dX4_cut_39 rfl (lv_at hl 2 rfl) ?_
      refine va_get (D := D) (ci := 4) (v := .int (zI jc)) (C := RX4) (T := TX4) (N := 10) hx hb hts (fun _ h9 => List.mem_cons_of_mem _ (List.mem_append_left _ (List.mem_append_right _ h9))) hown hK hP 0 rfl rfl 5 (by decide) (hts (.fieldLink RX4 51 "FontRuns$Setting" "count" "I") mw_X4_cut_0) (fun _ h9 => h9) rfl dX4_cut_40 ?_
      refine lv_iload_n hx hb dX4_cut_43 rfl (lv_at hl 1 rfl) ?_
      refine kz_iast hx hb hK hP hD hS 1 0 rfl rfl (by omega) dX4_cut_44 (fun H locs hP hD hS => ?_)
      have hP : va_P D vwCl [(h0, .inr (4, [.ref g1, .ref g2, .ref g3, .ref g4, .ref g5, .int (zI jc), .int (zI bo), .int (zI ru), .ref g6, .ref g7])), (g1, .inl (cg1, 24, .inl (upd ja (jc).toNat (zI jk)))), (g2, .inl (cg2, 24, .inl jb)), (g6, .inl (cg6, 24, .inl jl)), (wr, .inr (7, [.ref w1, .int (zI wn)])), (w1, .inl (cw1, 24, .inl fw))] H := hP
      have hD : va_D A [(h0, .inr (4, [.ref g1, .ref g2, .ref g3, .ref g4, .ref g5, .int (zI jc), .int (zI bo), .int (zI ru), .ref g6, .ref g7])), (g1, .inl (cg1, 24, .inl (upd ja (jc).toNat (zI jk)))), (g2, .inl (cg2, 24, .inl jb)), (g6, .inl (cg6, 24, .inl jl)), (wr, .inr (7, [.ref w1, .int (zI wn)])), (w1, .inl (cw1, 24, .inl fw))] := hD
      generalize ef_4 : upd ja (jc).toNat (zI jk) = f_4 at hP hD
      refine lv_aload_n hx hb dX4_cut_45 rfl (lv_at hl 2 rfl) ?_
      refine va_get (D := D) (ci := 4) (v := .ref g2) (C := RX4) (T := TX4) (N := 10) hx hb hts (fun _ h9 => List.mem_cons_of_mem _ (List.mem_append_left _ (List.mem_append_right _ h9))) hown hK hP 0 rfl rfl 1 (by decide) (hts (.fieldLink RX4 15 "FontRuns$Setting" "length" "[I") mw_X4_cut_4) (fun _ h9 => h9) rfl dX4_cut_46 ?_
      refine lv_aload_n hx hb dX4_cut_49 rfl (lv_at hl 2 rfl) ?_
      refine va_get (D := D) (ci := 4) (v := .int (zI jc)) (C := RX4) (T := TX4) (N := 10) hx hb hts (fun _ h9 => List.mem_cons_of_mem _ (List.mem_append_left _ (List.mem_append_right _ h9))) hown hK hP 0 rfl rfl 5 (by decide) (hts (.fieldLink RX4 51 "FontRuns$Setting" "count" "I") mw_X4_cut_0) (fun _ h9 => h9) rfl dX4_cut_50 ?_
      refine lv_iconst (v := zI 0) hx hb dX4_cut_53 rfl ?_
      refine kz_iast hx hb hK hP hD hS 2 1 rfl rfl (by omega) dX4_cut_54 (fun H locs hP hD hS => ?_)
      have hP : va_P D vwCl [(h0, .inr (4, [.ref g1, .ref g2, .ref g3, .ref g4, .ref g5, .int (zI jc), .int (zI bo), .int (zI ru), .ref g6, .ref g7])), (g1, .inl (cg1, 24, .inl f_4)), (g2, .inl (cg2, 24, .inl (upd jb (jc).toNat (zI 0)))), (g6, .inl (cg6, 24, .inl jl)), (wr, .inr (7, [.ref w1, .int (zI wn)])), (w1, .inl (cw1, 24, .inl fw))] H := hP
      have hD : va_D A [(h0, .inr (4, [.ref g1, .ref g2, .ref g3, .ref g4, .ref g5, .int (zI jc), .int (zI bo), .int (zI ru), .ref g6, .ref g7])), (g1, .inl (cg1, 24, .inl f_4)), (g2, .inl (cg2, 24, .inl (upd jb (jc).toNat (zI 0)))), (g6, .inl (cg6, 24, .inl jl)), (wr, .inr (7, [.ref w1, .int (zI wn)])), (w1, .inl (cw1, 24, .inl fw))] := hD
      generalize ef_5 : upd jb (jc).toNat (zI 0) = f_5 at hP hD
      refine lv_aload_n hx hb dX4_cut_55 rfl (lv_at hl 2 rfl) ?_
      refine va_get (D := D) (ci := 4) (v := .ref g6) (C := RX4) (T := TX4) (N := 10) hx hb hts (fun _ h9 => List.mem_cons_of_mem _ (List.mem_append_left _ (List.mem_append_right _ h9))) hown hK hP 0 rfl rfl 8 (by decide) (hts (.fieldLink RX4 27 "FontRuns$Setting" "letters" "[I") mw_X4_cut_5) (fun _ h9 => h9) rfl dX4_cut_56 ?_
      refine lv_aload_n hx hb dX4_cut_59 rfl (lv_at hl 2 rfl) ?_
      refine va_get (D := D) (ci := 4) (v := .int (zI jc)) (C := RX4) (T := TX4) (N := 10) hx hb hts (fun _ h9 => List.mem_cons_of_mem _ (List.mem_append_left _ (List.mem_append_right _ h9))) hown hK hP 0 rfl rfl 5 (by decide) (hts (.fieldLink RX4 51 "FontRuns$Setting" "count" "I") mw_X4_cut_0) (fun _ h9 => h9) rfl dX4_cut_60 ?_
      refine lv_iconst (v := zI 0) hx hb dX4_cut_63 rfl ?_
      refine kz_iast hx hb hK hP hD hS 3 2 rfl rfl (by omega) dX4_cut_64 (fun H locs hP hD hS => ?_)
      have hP : va_P D vwCl [(h0, .inr (4, [.ref g1, .ref g2, .ref g3, .ref g4, .ref g5, .int (zI jc), .int (zI bo), .int (zI ru), .ref g6, .ref g7])), (g1, .inl (cg1, 24, .inl f_4)), (g2, .inl (cg2, 24, .inl f_5)), (g6, .inl (cg6, 24, .inl (upd jl (jc).toNat (zI 0)))), (wr, .inr (7, [.ref w1, .int (zI wn)])), (w1, .inl (cw1, 24, .inl fw))] H := hP
      have hD : va_D A [(h0, .inr (4, [.ref g1, .ref g2, .ref g3, .ref g4, .ref g5, .int (zI jc), .int (zI bo), .int (zI ru), .ref g6, .ref g7])), (g1, .inl (cg1, 24, .inl f_4)), (g2, .inl (cg2, 24, .inl f_5)), (g6, .inl (cg6, 24, .inl (upd jl (jc).toNat (zI 0)))), (wr, .inr (7, [.ref w1, .int (zI wn)])), (w1, .inl (cw1, 24, .inl fw))] := hD
      generalize ef_6 : upd jl (jc).toNat (zI 0) = f_6 at hP hD
      refine lv_aload_n hx hb dX4_cut_65 rfl (lv_at hl 2 rfl) ?_
      refine lv_dup hx hb dX4_cut_66 rfl ?_
      refine va_get (D := D) (ci := 4) (v := .int (zI jc)) (C := RX4) (T := TX4) (N := 10) hx hb hts (fun _ h9 => List.mem_cons_of_mem _ (List.mem_append_left _ (List.mem_append_right _ h9))) hown hK hP 0 rfl rfl 5 (by decide) (hts (.fieldLink RX4 51 "FontRuns$Setting" "count" "I") mw_X4_cut_0) (fun _ h9 => h9) rfl dX4_cut_67 ?_
      refine lv_iconst (v := zI 1) hx hb dX4_cut_70 rfl ?_
      refine kz_iadd hx hb dX4_cut_71 ?_
      refine va_put (D := D) (ci := 4) (v := .int (zI (jc + 1))) (ty := .int) (C := RX4) (T := TX4) (N := 10) hx hb hts (fun _ h9 => List.mem_cons_of_mem _ (List.mem_append_left _ (List.mem_append_right _ h9))) tyX4 tyX4_ok nmX4 hown hK hP hD hS 0 rfl rfl 5 (by decide) (hts (.fieldLink RX4 51 "FontRuns$Setting" "count" "I") mw_X4_cut_0) (fun _ h9 => h9) rfl (by decide +kernel) rfl rfl (Nat.le_of_ble_eq_true rfl) dX4_cut_72 (fun H locs hP hD hS => ?_)
      have hP : va_P D vwCl [(h0, .inr (4, [.ref g1, .ref g2, .ref g3, .ref g4, .ref g5, .int (zI (jc + 1)), .int (zI bo), .int (zI ru), .ref g6, .ref g7])), (g1, .inl (cg1, 24, .inl f_4)), (g2, .inl (cg2, 24, .inl f_5)), (g6, .inl (cg6, 24, .inl f_6)), (wr, .inr (7, [.ref w1, .int (zI wn)])), (w1, .inl (cw1, 24, .inl fw))] H := hP
      have hD : va_D A [(h0, .inr (4, [.ref g1, .ref g2, .ref g3, .ref g4, .ref g5, .int (zI (jc + 1)), .int (zI bo), .int (zI ru), .ref g6, .ref g7])), (g1, .inl (cg1, 24, .inl f_4)), (g2, .inl (cg2, 24, .inl f_5)), (g6, .inl (cg6, 24, .inl f_6)), (wr, .inr (7, [.ref w1, .int (zI wn)])), (w1, .inl (cw1, 24, .inl fw))] := hD
      refine lv_aload_n hx hb dX4_cut_75 rfl (lv_at hl 2 rfl) ?_
      refine va_get (D := D) (ci := 4) (v := .ref g2) (C := RX4) (T := TX4) (N := 10) hx hb hts (fun _ h9 => List.mem_cons_of_mem _ (List.mem_append_left _ (List.mem_append_right _ h9))) hown hK hP 0 rfl rfl 1 (by decide) (hts (.fieldLink RX4 15 "FontRuns$Setting" "length" "[I") mw_X4_cut_4) (fun _ h9 => h9) rfl dX4_cut_76 ?_
      refine lv_aload_n hx hb dX4_cut_79 rfl (lv_at hl 2 rfl) ?_
      refine va_get (D := D) (ci := 4) (v := .int (zI (jc + 1))) (C := RX4) (T := TX4) (N := 10) hx hb hts (fun _ h9 => List.mem_cons_of_mem _ (List.mem_append_left _ (List.mem_append_right _ h9))) hown hK hP 0 rfl rfl 5 (by decide) (hts (.fieldLink RX4 51 "FontRuns$Setting" "count" "I") mw_X4_cut_0) (fun _ h9 => h9) rfl dX4_cut_80 ?_
      refine lv_iconst (v := zI 1) hx hb dX4_cut_83 rfl ?_
      refine kz_isub hx hb dX4_cut_84 ?_
      refine lv_dup2_11 hx hb dX4_cut_85 rfl rfl ?_
      refine kz_iald hx hb hK hP 2 1 rfl rfl (by omega) dX4_cut_86 (fun z_7 rz_7 ez_7 => ?_)
      refine lv_iconst (v := zI 1) hx hb dX4_cut_87 rfl ?_
      refine kz_iadd hx hb dX4_cut_88 ?_
      refine kz_iast hx hb hK hP hD hS 2 1 rfl rfl (by omega) dX4_cut_89 (fun H locs hP hD hS => ?_)
      have hP : va_P D vwCl [(h0, .inr (4, [.ref g1, .ref g2, .ref g3, .ref g4, .ref g5, .int (zI (jc + 1)), .int (zI bo), .int (zI ru), .ref g6, .ref g7])), (g1, .inl (cg1, 24, .inl f_4)), (g2, .inl (cg2, 24, .inl (upd f_5 ((jc + 1) - 1).toNat (zI (z_7 + 1))))), (g6, .inl (cg6, 24, .inl f_6)), (wr, .inr (7, [.ref w1, .int (zI wn)])), (w1, .inl (cw1, 24, .inl fw))] H := hP
      have hD : va_D A [(h0, .inr (4, [.ref g1, .ref g2, .ref g3, .ref g4, .ref g5, .int (zI (jc + 1)), .int (zI bo), .int (zI ru), .ref g6, .ref g7])), (g1, .inl (cg1, 24, .inl f_4)), (g2, .inl (cg2, 24, .inl (upd f_5 ((jc + 1) - 1).toNat (zI (z_7 + 1))))), (g6, .inl (cg6, 24, .inl f_6)), (wr, .inr (7, [.ref w1, .int (zI wn)])), (w1, .inl (cw1, 24, .inl fw))] := hD
      generalize ef_8 : upd f_5 ((jc + 1) - 1).toNat (zI (z_7 + 1)) = f_8 at hP hD
      refine lv_aload_n hx hb dX4_cut_90 rfl (lv_at hl 2 rfl) ?_
      refine va_get (D := D) (ci := 4) (v := .ref g6) (C := RX4) (T := TX4) (N := 10) hx hb hts (fun _ h9 => List.mem_cons_of_mem _ (List.mem_append_left _ (List.mem_append_right _ h9))) hown hK hP 0 rfl rfl 8 (by decide) (hts (.fieldLink RX4 27 "FontRuns$Setting" "letters" "[I") mw_X4_cut_5) (fun _ h9 => h9) rfl dX4_cut_91 ?_
      refine lv_aload_n hx hb dX4_cut_94 rfl (lv_at hl 2 rfl) ?_
      refine va_get (D := D) (ci := 4) (v := .int (zI (jc + 1))) (C := RX4) (T := TX4) (N := 10) hx hb hts (fun _ h9 => List.mem_cons_of_mem _ (List.mem_append_left _ (List.mem_append_right _ h9))) hown hK hP 0 rfl rfl 5 (by decide) (hts (.fieldLink RX4 51 "FontRuns$Setting" "count" "I") mw_X4_cut_0) (fun _ h9 => h9) rfl dX4_cut_95 ?_
      refine lv_iconst (v := zI 1) hx hb dX4_cut_98 rfl ?_
      refine kz_isub hx hb dX4_cut_99 ?_
      refine lv_dup2_11 hx hb dX4_cut_100 rfl rfl ?_
      refine kz_iald hx hb hK hP 3 2 rfl rfl (by omega) dX4_cut_101 (fun z_9 rz_9 ez_9 => ?_)
      refine lv_iconst (v := zI 1) hx hb dX4_cut_102 rfl ?_
      refine lv_iload_n hx hb dX4_cut_103 rfl (lv_at hl 0 rfl) ?_
      refine lv_ishl hx hb dX4_cut_104 ?_
      refine kz_any (fun z_10 rz_10 ez_10 => ?_)
      refine lv_ior hx hb dX4_cut_105 ?_
      refine kz_any (fun z_11 rz_11 ez_11 => ?_)
      refine kz_iast hx hb hK hP hD hS 3 2 rfl rfl (by omega) dX4_cut_106 (fun H locs hP hD hS => ?_)
      have hP : va_P D vwCl [(h0, .inr (4, [.ref g1, .ref g2, .ref g3, .ref g4, .ref g5, .int (zI (jc + 1)), .int (zI bo), .int (zI ru), .ref g6, .ref g7])), (g1, .inl (cg1, 24, .inl f_4)), (g2, .inl (cg2, 24, .inl f_8)), (g6, .inl (cg6, 24, .inl (upd f_6 ((jc + 1) - 1).toNat (zI z_11)))), (wr, .inr (7, [.ref w1, .int (zI wn)])), (w1, .inl (cw1, 24, .inl fw))] H := hP
      have hD : va_D A [(h0, .inr (4, [.ref g1, .ref g2, .ref g3, .ref g4, .ref g5, .int (zI (jc + 1)), .int (zI bo), .int (zI ru), .ref g6, .ref g7])), (g1, .inl (cg1, 24, .inl f_4)), (g2, .inl (cg2, 24, .inl f_8)), (g6, .inl (cg6, 24, .inl (upd f_6 ((jc + 1) - 1).toNat (zI z_11)))), (wr, .inr (7, [.ref w1, .int (zI wn)])), (w1, .inl (cw1, 24, .inl fw))] := hD
      generalize ef_12 : upd f_6 ((jc + 1) - 1).toNat (zI z_11) = f_12 at hP hD
      refine lv_iinc (v := (zI (jk + 1))) (lv' := [(2, .int (zI (jk + 1))), (3, .int (zI z_2)), (0, .ref h0), (1, .ref wr)]) hx hb dX4_cut_107 hl (k := 1) rfl (kz_inc _ 1) (by decide) rfl (fun ls hl => ?_)
      refine lv_goto (tgt := 7) hx hb dX4_cut_110 (by decide) ?_
      exact ih7 _ (by omega) _ _ _ ⟨(jk + 1), (jc + 1), f_4, f_8, f_12, rfl, (by omega), (by omega), (by omega), hP, hD, hS, lv_sub hl [0, 2, 3] rfl⟩
    · refine lv_iload_n hx hb dX4_cut_29 rfl (lv_at hl 0 rfl) ?_
      refine lv_bipush (v := zI 12) hx hb dX4_cut_30 (by decide) ?_
      refine kz_icmp_ge (tgt := 75) hx hb dX4_cut_32 (by decide) (by omega) (by omega) (fun c_13 => ?_) (fun c_13 => ?_)
      · refine lv_aload_n hx hb dX4_cut_75 rfl (lv_at hl 2 rfl) ?_
        refine va_get (D := D) (ci := 4) (v := .ref g2) (C := RX4) (T := TX4) (N := 10) hx hb hts (fun _ h9 => List.mem_cons_of_mem _ (List.mem_append_left _ (List.mem_append_right _ h9))) hown hK hP 0 rfl rfl 1 (by decide) (hts (.fieldLink RX4 15 "FontRuns$Setting" "length" "[I") mw_X4_cut_4) (fun _ h9 => h9) rfl dX4_cut_76 ?_
        refine lv_aload_n hx hb dX4_cut_79 rfl (lv_at hl 2 rfl) ?_
        refine va_get (D := D) (ci := 4) (v := .int (zI jc)) (C := RX4) (T := TX4) (N := 10) hx hb hts (fun _ h9 => List.mem_cons_of_mem _ (List.mem_append_left _ (List.mem_append_right _ h9))) hown hK hP 0 rfl rfl 5 (by decide) (hts (.fieldLink RX4 51 "FontRuns$Setting" "count" "I") mw_X4_cut_0) (fun _ h9 => h9) rfl dX4_cut_80 ?_
        refine lv_iconst (v := zI 1) hx hb dX4_cut_83 rfl ?_
        refine kz_isub hx hb dX4_cut_84 ?_
        refine lv_dup2_11 hx hb dX4_cut_85 rfl rfl ?_
        refine kz_iald hx hb hK hP 2 1 rfl rfl (by omega) dX4_cut_86 (fun z_14 rz_14 ez_14 => ?_)
        refine lv_iconst (v := zI 1) hx hb dX4_cut_87 rfl ?_
        refine kz_iadd hx hb dX4_cut_88 ?_
        refine kz_iast hx hb hK hP hD hS 2 1 rfl rfl (by omega) dX4_cut_89 (fun H locs hP hD hS => ?_)
        have hP : va_P D vwCl [(h0, .inr (4, [.ref g1, .ref g2, .ref g3, .ref g4, .ref g5, .int (zI jc), .int (zI bo), .int (zI ru), .ref g6, .ref g7])), (g1, .inl (cg1, 24, .inl ja)), (g2, .inl (cg2, 24, .inl (upd jb (jc - 1).toNat (zI (z_14 + 1))))), (g6, .inl (cg6, 24, .inl jl)), (wr, .inr (7, [.ref w1, .int (zI wn)])), (w1, .inl (cw1, 24, .inl fw))] H := hP
        have hD : va_D A [(h0, .inr (4, [.ref g1, .ref g2, .ref g3, .ref g4, .ref g5, .int (zI jc), .int (zI bo), .int (zI ru), .ref g6, .ref g7])), (g1, .inl (cg1, 24, .inl ja)), (g2, .inl (cg2, 24, .inl (upd jb (jc - 1).toNat (zI (z_14 + 1))))), (g6, .inl (cg6, 24, .inl jl)), (wr, .inr (7, [.ref w1, .int (zI wn)])), (w1, .inl (cw1, 24, .inl fw))] := hD
        generalize ef_15 : upd jb (jc - 1).toNat (zI (z_14 + 1)) = f_15 at hP hD
        refine lv_aload_n hx hb dX4_cut_90 rfl (lv_at hl 2 rfl) ?_
        refine va_get (D := D) (ci := 4) (v := .ref g6) (C := RX4) (T := TX4) (N := 10) hx hb hts (fun _ h9 => List.mem_cons_of_mem _ (List.mem_append_left _ (List.mem_append_right _ h9))) hown hK hP 0 rfl rfl 8 (by decide) (hts (.fieldLink RX4 27 "FontRuns$Setting" "letters" "[I") mw_X4_cut_5) (fun _ h9 => h9) rfl dX4_cut_91 ?_
        refine lv_aload_n hx hb dX4_cut_94 rfl (lv_at hl 2 rfl) ?_
        refine va_get (D := D) (ci := 4) (v := .int (zI jc)) (C := RX4) (T := TX4) (N := 10) hx hb hts (fun _ h9 => List.mem_cons_of_mem _ (List.mem_append_left _ (List.mem_append_right _ h9))) hown hK hP 0 rfl rfl 5 (by decide) (hts (.fieldLink RX4 51 "FontRuns$Setting" "count" "I") mw_X4_cut_0) (fun _ h9 => h9) rfl dX4_cut_95 ?_
        refine lv_iconst (v := zI 1) hx hb dX4_cut_98 rfl ?_
        refine kz_isub hx hb dX4_cut_99 ?_
        refine lv_dup2_11 hx hb dX4_cut_100 rfl rfl ?_
        refine kz_iald hx hb hK hP 3 2 rfl rfl (by omega) dX4_cut_101 (fun z_16 rz_16 ez_16 => ?_)
        refine lv_iconst (v := zI 1) hx hb dX4_cut_102 rfl ?_
        refine lv_iload_n hx hb dX4_cut_103 rfl (lv_at hl 0 rfl) ?_
        refine lv_ishl hx hb dX4_cut_104 ?_
        refine kz_any (fun z_17 rz_17 ez_17 => ?_)
        refine lv_ior hx hb dX4_cut_105 ?_
        refine kz_any (fun z_18 rz_18 ez_18 => ?_)
        refine kz_iast hx hb hK hP hD hS 3 2 rfl rfl (by omega) dX4_cut_106 (fun H locs hP hD hS => ?_)
        have hP : va_P D vwCl [(h0, .inr (4, [.ref g1, .ref g2, .ref g3, .ref g4, .ref g5, .int (zI jc), .int (zI bo), .int (zI ru), .ref g6, .ref g7])), (g1, .inl (cg1, 24, .inl ja)), (g2, .inl (cg2, 24, .inl f_15)), (g6, .inl (cg6, 24, .inl (upd jl (jc - 1).toNat (zI z_18)))), (wr, .inr (7, [.ref w1, .int (zI wn)])), (w1, .inl (cw1, 24, .inl fw))] H := hP
        have hD : va_D A [(h0, .inr (4, [.ref g1, .ref g2, .ref g3, .ref g4, .ref g5, .int (zI jc), .int (zI bo), .int (zI ru), .ref g6, .ref g7])), (g1, .inl (cg1, 24, .inl ja)), (g2, .inl (cg2, 24, .inl f_15)), (g6, .inl (cg6, 24, .inl (upd jl (jc - 1).toNat (zI z_18)))), (wr, .inr (7, [.ref w1, .int (zI wn)])), (w1, .inl (cw1, 24, .inl fw))] := hD
        generalize ef_19 : upd jl (jc - 1).toNat (zI z_18) = f_19 at hP hD
        refine lv_iinc (v := (zI (jk + 1))) (lv' := [(2, .int (zI (jk + 1))), (3, .int (zI z_2)), (0, .ref h0), (1, .ref wr)]) hx hb dX4_cut_107 hl (k := 1) rfl (kz_inc _ 1) (by decide) rfl (fun ls hl => ?_)
        refine lv_goto (tgt := 7) hx hb dX4_cut_110 (by decide) ?_
        exact ih7 _ (by omega) _ _ _ ⟨(jk + 1), jc, ja, f_15, f_19, rfl, (by omega), (by omega), (by omega), hP, hD, hS, lv_sub hl [0, 2, 3] rfl⟩
      · refine lv_aload_n hx hb dX4_cut_35 rfl (lv_at hl 2 rfl) ?_
        refine va_get (D := D) (ci := 4) (v := .ref g1) (C := RX4) (T := TX4) (N := 10) hx hb hts (fun _ h9 => List.mem_cons_of_mem _ (List.mem_append_left _ (List.mem_append_right _ h9))) hown hK hP 0 rfl rfl 0 (by decide) (hts (.fieldLink RX4 9 "FontRuns$Setting" "first" "[I") mw_X4_cut_3) (fun _ h9 => h9) rfl dX4_cut_36 ?_
        refine lv_aload_n hx hb dX4_cut_39 rfl (lv_at hl 2 rfl) ?_
        refine va_get (D := D) (ci := 4) (v := .int (zI jc)) (C := RX4) (T := TX4) (N := 10) hx hb hts (fun _ h9 => List.mem_cons_of_mem _ (List.mem_append_left _ (List.mem_append_right _ h9))) hown hK hP 0 rfl rfl 5 (by decide) (hts (.fieldLink RX4 51 "FontRuns$Setting" "count" "I") mw_X4_cut_0) (fun _ h9 => h9) rfl dX4_cut_40 ?_
        refine lv_iload_n hx hb dX4_cut_43 rfl (lv_at hl 1 rfl) ?_
        refine kz_iast hx hb hK hP hD hS 1 0 rfl rfl (by omega) dX4_cut_44 (fun H locs hP hD hS => ?_)
        have hP : va_P D vwCl [(h0, .inr (4, [.ref g1, .ref g2, .ref g3, .ref g4, .ref g5, .int (zI jc), .int (zI bo), .int (zI ru), .ref g6, .ref g7])), (g1, .inl (cg1, 24, .inl (upd ja (jc).toNat (zI jk)))), (g2, .inl (cg2, 24, .inl jb)), (g6, .inl (cg6, 24, .inl jl)), (wr, .inr (7, [.ref w1, .int (zI wn)])), (w1, .inl (cw1, 24, .inl fw))] H := hP
        have hD : va_D A [(h0, .inr (4, [.ref g1, .ref g2, .ref g3, .ref g4, .ref g5, .int (zI jc), .int (zI bo), .int (zI ru), .ref g6, .ref g7])), (g1, .inl (cg1, 24, .inl (upd ja (jc).toNat (zI jk)))), (g2, .inl (cg2, 24, .inl jb)), (g6, .inl (cg6, 24, .inl jl)), (wr, .inr (7, [.ref w1, .int (zI wn)])), (w1, .inl (cw1, 24, .inl fw))] := hD
        generalize ef_20 : upd ja (jc).toNat (zI jk) = f_20 at hP hD
        refine lv_aload_n hx hb dX4_cut_45 rfl (lv_at hl 2 rfl) ?_
        refine va_get (D := D) (ci := 4) (v := .ref g2) (C := RX4) (T := TX4) (N := 10) hx hb hts (fun _ h9 => List.mem_cons_of_mem _ (List.mem_append_left _ (List.mem_append_right _ h9))) hown hK hP 0 rfl rfl 1 (by decide) (hts (.fieldLink RX4 15 "FontRuns$Setting" "length" "[I") mw_X4_cut_4) (fun _ h9 => h9) rfl dX4_cut_46 ?_
        refine lv_aload_n hx hb dX4_cut_49 rfl (lv_at hl 2 rfl) ?_
        refine va_get (D := D) (ci := 4) (v := .int (zI jc)) (C := RX4) (T := TX4) (N := 10) hx hb hts (fun _ h9 => List.mem_cons_of_mem _ (List.mem_append_left _ (List.mem_append_right _ h9))) hown hK hP 0 rfl rfl 5 (by decide) (hts (.fieldLink RX4 51 "FontRuns$Setting" "count" "I") mw_X4_cut_0) (fun _ h9 => h9) rfl dX4_cut_50 ?_
        refine lv_iconst (v := zI 0) hx hb dX4_cut_53 rfl ?_
        refine kz_iast hx hb hK hP hD hS 2 1 rfl rfl (by omega) dX4_cut_54 (fun H locs hP hD hS => ?_)
        have hP : va_P D vwCl [(h0, .inr (4, [.ref g1, .ref g2, .ref g3, .ref g4, .ref g5, .int (zI jc), .int (zI bo), .int (zI ru), .ref g6, .ref g7])), (g1, .inl (cg1, 24, .inl f_20)), (g2, .inl (cg2, 24, .inl (upd jb (jc).toNat (zI 0)))), (g6, .inl (cg6, 24, .inl jl)), (wr, .inr (7, [.ref w1, .int (zI wn)])), (w1, .inl (cw1, 24, .inl fw))] H := hP
        have hD : va_D A [(h0, .inr (4, [.ref g1, .ref g2, .ref g3, .ref g4, .ref g5, .int (zI jc), .int (zI bo), .int (zI ru), .ref g6, .ref g7])), (g1, .inl (cg1, 24, .inl f_20)), (g2, .inl (cg2, 24, .inl (upd jb (jc).toNat (zI 0)))), (g6, .inl (cg6, 24, .inl jl)), (wr, .inr (7, [.ref w1, .int (zI wn)])), (w1, .inl (cw1, 24, .inl fw))] := hD
        generalize ef_21 : upd jb (jc).toNat (zI 0) = f_21 at hP hD
        refine lv_aload_n hx hb dX4_cut_55 rfl (lv_at hl 2 rfl) ?_
        refine va_get (D := D) (ci := 4) (v := .ref g6) (C := RX4) (T := TX4) (N := 10) hx hb hts (fun _ h9 => List.mem_cons_of_mem _ (List.mem_append_left _ (List.mem_append_right _ h9))) hown hK hP 0 rfl rfl 8 (by decide) (hts (.fieldLink RX4 27 "FontRuns$Setting" "letters" "[I") mw_X4_cut_5) (fun _ h9 => h9) rfl dX4_cut_56 ?_
        refine lv_aload_n hx hb dX4_cut_59 rfl (lv_at hl 2 rfl) ?_
        refine va_get (D := D) (ci := 4) (v := .int (zI jc)) (C := RX4) (T := TX4) (N := 10) hx hb hts (fun _ h9 => List.mem_cons_of_mem _ (List.mem_append_left _ (List.mem_append_right _ h9))) hown hK hP 0 rfl rfl 5 (by decide) (hts (.fieldLink RX4 51 "FontRuns$Setting" "count" "I") mw_X4_cut_0) (fun _ h9 => h9) rfl dX4_cut_60 ?_
        refine lv_iconst (v := zI 0) hx hb dX4_cut_63 rfl ?_
        refine kz_iast hx hb hK hP hD hS 3 2 rfl rfl (by omega) dX4_cut_64 (fun H locs hP hD hS => ?_)
        have hP : va_P D vwCl [(h0, .inr (4, [.ref g1, .ref g2, .ref g3, .ref g4, .ref g5, .int (zI jc), .int (zI bo), .int (zI ru), .ref g6, .ref g7])), (g1, .inl (cg1, 24, .inl f_20)), (g2, .inl (cg2, 24, .inl f_21)), (g6, .inl (cg6, 24, .inl (upd jl (jc).toNat (zI 0)))), (wr, .inr (7, [.ref w1, .int (zI wn)])), (w1, .inl (cw1, 24, .inl fw))] H := hP
        have hD : va_D A [(h0, .inr (4, [.ref g1, .ref g2, .ref g3, .ref g4, .ref g5, .int (zI jc), .int (zI bo), .int (zI ru), .ref g6, .ref g7])), (g1, .inl (cg1, 24, .inl f_20)), (g2, .inl (cg2, 24, .inl f_21)), (g6, .inl (cg6, 24, .inl (upd jl (jc).toNat (zI 0)))), (wr, .inr (7, [.ref w1, .int (zI wn)])), (w1, .inl (cw1, 24, .inl fw))] := hD
        generalize ef_22 : upd jl (jc).toNat (zI 0) = f_22 at hP hD
        refine lv_aload_n hx hb dX4_cut_65 rfl (lv_at hl 2 rfl) ?_
        refine lv_dup hx hb dX4_cut_66 rfl ?_
        refine va_get (D := D) (ci := 4) (v := .int (zI jc)) (C := RX4) (T := TX4) (N := 10) hx hb hts (fun _ h9 => List.mem_cons_of_mem _ (List.mem_append_left _ (List.mem_append_right _ h9))) hown hK hP 0 rfl rfl 5 (by decide) (hts (.fieldLink RX4 51 "FontRuns$Setting" "count" "I") mw_X4_cut_0) (fun _ h9 => h9) rfl dX4_cut_67 ?_
        refine lv_iconst (v := zI 1) hx hb dX4_cut_70 rfl ?_
        refine kz_iadd hx hb dX4_cut_71 ?_
        refine va_put (D := D) (ci := 4) (v := .int (zI (jc + 1))) (ty := .int) (C := RX4) (T := TX4) (N := 10) hx hb hts (fun _ h9 => List.mem_cons_of_mem _ (List.mem_append_left _ (List.mem_append_right _ h9))) tyX4 tyX4_ok nmX4 hown hK hP hD hS 0 rfl rfl 5 (by decide) (hts (.fieldLink RX4 51 "FontRuns$Setting" "count" "I") mw_X4_cut_0) (fun _ h9 => h9) rfl (by decide +kernel) rfl rfl (Nat.le_of_ble_eq_true rfl) dX4_cut_72 (fun H locs hP hD hS => ?_)
        have hP : va_P D vwCl [(h0, .inr (4, [.ref g1, .ref g2, .ref g3, .ref g4, .ref g5, .int (zI (jc + 1)), .int (zI bo), .int (zI ru), .ref g6, .ref g7])), (g1, .inl (cg1, 24, .inl f_20)), (g2, .inl (cg2, 24, .inl f_21)), (g6, .inl (cg6, 24, .inl f_22)), (wr, .inr (7, [.ref w1, .int (zI wn)])), (w1, .inl (cw1, 24, .inl fw))] H := hP
        have hD : va_D A [(h0, .inr (4, [.ref g1, .ref g2, .ref g3, .ref g4, .ref g5, .int (zI (jc + 1)), .int (zI bo), .int (zI ru), .ref g6, .ref g7])), (g1, .inl (cg1, 24, .inl f_20)), (g2, .inl (cg2, 24, .inl f_21)), (g6, .inl (cg6, 24, .inl f_22)), (wr, .inr (7, [.ref w1, .int (zI wn)])), (w1, .inl (cw1, 24, .inl fw))] := hD
        refine lv_aload_n hx hb dX4_cut_75 rfl (lv_at hl 2 rfl) ?_
        refine va_get (D := D) (ci := 4) (v := .ref g2) (C := RX4) (T := TX4) (N := 10) hx hb hts (fun _ h9 => List.mem_cons_of_mem _ (List.mem_append_left _ (List.mem_append_right _ h9))) hown hK hP 0 rfl rfl 1 (by decide) (hts (.fieldLink RX4 15 "FontRuns$Setting" "length" "[I") mw_X4_cut_4) (fun _ h9 => h9) rfl dX4_cut_76 ?_
        refine lv_aload_n hx hb dX4_cut_79 rfl (lv_at hl 2 rfl) ?_
        refine va_get (D := D) (ci := 4) (v := .int (zI (jc + 1))) (C := RX4) (T := TX4) (N := 10) hx hb hts (fun _ h9 => List.mem_cons_of_mem _ (List.mem_append_left _ (List.mem_append_right _ h9))) hown hK hP 0 rfl rfl 5 (by decide) (hts (.fieldLink RX4 51 "FontRuns$Setting" "count" "I") mw_X4_cut_0) (fun _ h9 => h9) rfl dX4_cut_80 ?_
        refine lv_iconst (v := zI 1) hx hb dX4_cut_83 rfl ?_
        refine kz_isub hx hb dX4_cut_84 ?_
        refine lv_dup2_11 hx hb dX4_cut_85 rfl rfl ?_
        refine kz_iald hx hb hK hP 2 1 rfl rfl (by omega) dX4_cut_86 (fun z_23 rz_23 ez_23 => ?_)
        refine lv_iconst (v := zI 1) hx hb dX4_cut_87 rfl ?_
        refine kz_iadd hx hb dX4_cut_88 ?_
        refine kz_iast hx hb hK hP hD hS 2 1 rfl rfl (by omega) dX4_cut_89 (fun H locs hP hD hS => ?_)
        have hP : va_P D vwCl [(h0, .inr (4, [.ref g1, .ref g2, .ref g3, .ref g4, .ref g5, .int (zI (jc + 1)), .int (zI bo), .int (zI ru), .ref g6, .ref g7])), (g1, .inl (cg1, 24, .inl f_20)), (g2, .inl (cg2, 24, .inl (upd f_21 ((jc + 1) - 1).toNat (zI (z_23 + 1))))), (g6, .inl (cg6, 24, .inl f_22)), (wr, .inr (7, [.ref w1, .int (zI wn)])), (w1, .inl (cw1, 24, .inl fw))] H := hP
        have hD : va_D A [(h0, .inr (4, [.ref g1, .ref g2, .ref g3, .ref g4, .ref g5, .int (zI (jc + 1)), .int (zI bo), .int (zI ru), .ref g6, .ref g7])), (g1, .inl (cg1, 24, .inl f_20)), (g2, .inl (cg2, 24, .inl (upd f_21 ((jc + 1) - 1).toNat (zI (z_23 + 1))))), (g6, .inl (cg6, 24, .inl f_22)), (wr, .inr (7, [.ref w1, .int (zI wn)])), (w1, .inl (cw1, 24, .inl fw))] := hD
        generalize ef_24 : upd f_21 ((jc + 1) - 1).toNat (zI (z_23 + 1)) = f_24 at hP hD
        refine lv_aload_n hx hb dX4_cut_90 rfl (lv_at hl 2 rfl) ?_
        refine va_get (D := D) (ci := 4) (v := .ref g6) (C := RX4) (T := TX4) (N := 10) hx hb hts (fun _ h9 => List.mem_cons_of_mem _ (List.mem_append_left _ (List.mem_append_right _ h9))) hown hK hP 0 rfl rfl 8 (by decide) (hts (.fieldLink RX4 27 "FontRuns$Setting" "letters" "[I") mw_X4_cut_5) (fun _ h9 => h9) rfl dX4_cut_91 ?_
        refine lv_aload_n hx hb dX4_cut_94 rfl (lv_at hl 2 rfl) ?_
        refine va_get (D := D) (ci := 4) (v := .int (zI (jc + 1))) (C := RX4) (T := TX4) (N := 10) hx hb hts (fun _ h9 => List.mem_cons_of_mem _ (List.mem_append_left _ (List.mem_append_right _ h9))) hown hK hP 0 rfl rfl 5 (by decide) (hts (.fieldLink RX4 51 "FontRuns$Setting" "count" "I") mw_X4_cut_0) (fun _ h9 => h9) rfl dX4_cut_95 ?_
        refine lv_iconst (v := zI 1) hx hb dX4_cut_98 rfl ?_
        refine kz_isub hx hb dX4_cut_99 ?_
        refine lv_dup2_11 hx hb dX4_cut_100 rfl rfl ?_
        refine kz_iald hx hb hK hP 3 2 rfl rfl (by omega) dX4_cut_101 (fun z_25 rz_25 ez_25 => ?_)
        refine lv_iconst (v := zI 1) hx hb dX4_cut_102 rfl ?_
        refine lv_iload_n hx hb dX4_cut_103 rfl (lv_at hl 0 rfl) ?_
        refine lv_ishl hx hb dX4_cut_104 ?_
        refine kz_any (fun z_26 rz_26 ez_26 => ?_)
        refine lv_ior hx hb dX4_cut_105 ?_
        refine kz_any (fun z_27 rz_27 ez_27 => ?_)
        refine kz_iast hx hb hK hP hD hS 3 2 rfl rfl (by omega) dX4_cut_106 (fun H locs hP hD hS => ?_)
        have hP : va_P D vwCl [(h0, .inr (4, [.ref g1, .ref g2, .ref g3, .ref g4, .ref g5, .int (zI (jc + 1)), .int (zI bo), .int (zI ru), .ref g6, .ref g7])), (g1, .inl (cg1, 24, .inl f_20)), (g2, .inl (cg2, 24, .inl f_24)), (g6, .inl (cg6, 24, .inl (upd f_22 ((jc + 1) - 1).toNat (zI z_27)))), (wr, .inr (7, [.ref w1, .int (zI wn)])), (w1, .inl (cw1, 24, .inl fw))] H := hP
        have hD : va_D A [(h0, .inr (4, [.ref g1, .ref g2, .ref g3, .ref g4, .ref g5, .int (zI (jc + 1)), .int (zI bo), .int (zI ru), .ref g6, .ref g7])), (g1, .inl (cg1, 24, .inl f_20)), (g2, .inl (cg2, 24, .inl f_24)), (g6, .inl (cg6, 24, .inl (upd f_22 ((jc + 1) - 1).toNat (zI z_27)))), (wr, .inr (7, [.ref w1, .int (zI wn)])), (w1, .inl (cw1, 24, .inl fw))] := hD
        generalize ef_28 : upd f_22 ((jc + 1) - 1).toNat (zI z_27) = f_28 at hP hD
        refine lv_iinc (v := (zI (jk + 1))) (lv' := [(2, .int (zI (jk + 1))), (3, .int (zI z_2)), (0, .ref h0), (1, .ref wr)]) hx hb dX4_cut_107 hl (k := 1) rfl (kz_inc _ 1) (by decide) rfl (fun ls hl => ?_)
        refine lv_goto (tgt := 7) hx hb dX4_cut_110 (by decide) ?_
        exact ih7 _ (by omega) _ _ _ ⟨(jk + 1), (jc + 1), f_20, f_24, f_28, rfl, (by omega), (by omega), (by omega), hP, hD, hS, lv_sub hl [0, 2, 3] rfl⟩
theorem dX4_findFitting_0 : decode cX4_findFitting 0 = .ok (.aload_n 0, 1) := by decide +kernel
theorem dX4_findFitting_1 : decode cX4_findFitting 1 = .ok (.iconst 0, 1) := by decide +kernel
theorem dX4_findFitting_2 : decode cX4_findFitting 2 = .ok (.putfield 80, 3) := by decide +kernel
theorem dX4_findFitting_5 : decode cX4_findFitting 5 = .ok (.iconst 0, 1) := by decide +kernel
theorem dX4_findFitting_6 : decode cX4_findFitting 6 = .ok (.istore_n 3, 1) := by decide +kernel
theorem dX4_findFitting_7 : decode cX4_findFitting 7 = .ok (.iload_n 3, 1) := by decide +kernel
theorem dX4_findFitting_8 : decode cX4_findFitting 8 = .ok (.aload_n 0, 1) := by decide +kernel
theorem dX4_findFitting_9 : decode cX4_findFitting 9 = .ok (.getfield 51, 3) := by decide +kernel
theorem dX4_findFitting_12 : decode cX4_findFitting 12 = .ok (.if_icmp .ge 46, 3) := by decide +kernel
theorem dX4_findFitting_15 : decode cX4_findFitting 15 = .ok (.aload_n 0, 1) := by decide +kernel
theorem dX4_findFitting_16 : decode cX4_findFitting 16 = .ok (.getfield 18, 3) := by decide +kernel
theorem dX4_findFitting_19 : decode cX4_findFitting 19 = .ok (.iload_n 3, 1) := by decide +kernel
theorem dX4_findFitting_20 : decode cX4_findFitting 20 = .ok (.aload_n 1, 1) := by decide +kernel
theorem dX4_findFitting_21 : decode cX4_findFitting 21 = .ok (.aload_n 0, 1) := by decide +kernel
theorem dX4_findFitting_22 : decode cX4_findFitting 22 = .ok (.getfield 27, 3) := by decide +kernel
theorem dX4_findFitting_25 : decode cX4_findFitting 25 = .ok (.iload_n 3, 1) := by decide +kernel
theorem dX4_findFitting_26 : decode cX4_findFitting 26 = .ok (.iaload, 1) := by decide +kernel
theorem dX4_findFitting_27 : decode cX4_findFitting 27 = .ok (.invokevirtual 83, 3) := by decide +kernel
theorem dX4_findFitting_30 : decode cX4_findFitting 30 = .ok (.iload_n 2, 1) := by decide +kernel
theorem dX4_findFitting_31 : decode cX4_findFitting 31 = .ok (.iand, 1) := by decide +kernel
theorem dX4_findFitting_32 : decode cX4_findFitting 32 = .ok (.iastore, 1) := by decide +kernel
theorem dX4_findFitting_33 : decode cX4_findFitting 33 = .ok (.aload_n 0, 1) := by decide +kernel
theorem dX4_findFitting_34 : decode cX4_findFitting 34 = .ok (.getfield 18, 3) := by decide +kernel
theorem dX4_findFitting_37 : decode cX4_findFitting 37 = .ok (.iload_n 3, 1) := by decide +kernel
theorem dX4_findFitting_38 : decode cX4_findFitting 38 = .ok (.iaload, 1) := by decide +kernel
theorem dX4_findFitting_39 : decode cX4_findFitting 39 = .ok (.ifCond .ne 13, 3) := by decide +kernel
theorem dX4_findFitting_42 : decode cX4_findFitting 42 = .ok (.aload_n 0, 1) := by decide +kernel
theorem dX4_findFitting_43 : decode cX4_findFitting 43 = .ok (.dup, 1) := by decide +kernel
theorem dX4_findFitting_44 : decode cX4_findFitting 44 = .ok (.getfield 80, 3) := by decide +kernel
theorem dX4_findFitting_47 : decode cX4_findFitting 47 = .ok (.iconst 1, 1) := by decide +kernel
theorem dX4_findFitting_48 : decode cX4_findFitting 48 = .ok (.iadd, 1) := by decide +kernel
theorem dX4_findFitting_49 : decode cX4_findFitting 49 = .ok (.putfield 80, 3) := by decide +kernel
theorem dX4_findFitting_52 : decode cX4_findFitting 52 = .ok (.iinc 3 1, 3) := by decide +kernel
theorem dX4_findFitting_55 : decode cX4_findFitting 55 = .ok (.goto (-48), 3) := by decide +kernel
theorem dX4_findFitting_58 : decode cX4_findFitting 58 = .ok (.return_, 1) := by decide +kernel
set_option maxRecDepth 20000 in
theorem ggX4_findFitting_X0_fitting : GoodIn wsX4_findFitting wsX0_fitting := goodIn_4 _ (List.forall_mem_cons.mpr ⟨List.mem_cons_of_mem _ (List.mem_append_left _ (List.mem_append_left _ (List.mem_of_getElem? (i := 8) rfl))), List.forall_mem_append.mpr ⟨List.forall_mem_cons.mpr ⟨List.mem_cons_of_mem _ (List.mem_append_left _ (List.mem_append_left _ (List.mem_of_getElem? (i := 9) rfl))), List.forall_mem_cons.mpr ⟨List.mem_cons_of_mem _ (List.mem_append_left _ (List.mem_append_left _ (List.mem_of_getElem? (i := 10) rfl))), fun _ h9 => absurd h9 List.not_mem_nil⟩⟩, fun w h9 => List.mem_cons_of_mem _ (List.mem_append_right _ (h9))⟩⟩) (by decide +kernel)
set_option maxRecDepth 20000 in
theorem gX4_findFitting_X0_fitting : GoodIn wsX4_findFitting (wsV RX4 83 RX0 yX0_fitting wsX0_fitting) := goodIn_app (goodIn_4 _ (List.forall_mem_cons.mpr ⟨List.mem_cons_of_mem _ (List.mem_append_left _ (List.mem_append_left _ (List.mem_of_getElem? (i := 4) rfl))), List.forall_mem_cons.mpr ⟨List.mem_cons_of_mem _ (List.mem_append_left _ (List.mem_append_left _ (List.mem_of_getElem? (i := 5) rfl))), List.forall_mem_cons.mpr ⟨List.mem_cons_of_mem _ (List.mem_append_left _ (List.mem_append_left _ (List.mem_of_getElem? (i := 6) rfl))), List.forall_mem_cons.mpr ⟨List.mem_cons_of_mem _ (List.mem_append_left _ (List.mem_append_left _ (List.mem_of_getElem? (i := 7) rfl))), fun _ h9 => absurd h9 List.not_mem_nil⟩⟩⟩⟩) (by decide +kernel)) ggX4_findFitting_X0_fitting
set_option maxRecDepth 20000 in
theorem mw_X4_findFitting_0 : (.fieldLink RX4 80 "FontRuns$Setting" "boxes" "I" : Cond) ∈ wsX4_findFitting := List.mem_cons_of_mem _ (List.mem_append_left _ (List.mem_append_left _ (List.mem_of_getElem? (i := 0) rfl)))
set_option maxRecDepth 20000 in
theorem mw_X4_findFitting_1 : (.fieldLink RX4 51 "FontRuns$Setting" "count" "I" : Cond) ∈ wsX4_findFitting := List.mem_cons_of_mem _ (List.mem_append_left _ (List.mem_append_left _ (List.mem_of_getElem? (i := 1) rfl)))
set_option maxRecDepth 20000 in
theorem mw_X4_findFitting_2 : (.fieldLink RX4 18 "FontRuns$Setting" "fitting" "[I" : Cond) ∈ wsX4_findFitting := List.mem_cons_of_mem _ (List.mem_append_left _ (List.mem_append_left _ (List.mem_of_getElem? (i := 2) rfl)))
set_option maxRecDepth 20000 in
theorem mw_X4_findFitting_3 : (.fieldLink RX4 27 "FontRuns$Setting" "letters" "[I" : Cond) ∈ wsX4_findFitting := List.mem_cons_of_mem _ (List.mem_append_left _ (List.mem_append_left _ (List.mem_of_getElem? (i := 3) rfl)))
theorem ax_X4_findFitting_0 {e0 e1 e2 e3 e4 : Nat × va_E} : ([0, 1, 2, 3, 4] : List Nat).map (fun i => ([e0, e1, e2, e3, e4] : va_W)[i]?) = ([e0, e1, e2, e3, e4] : va_W).map some := rfl
theorem ax_X4_findFitting_1 {e0 e1 e2 e3 e4 : Nat × va_E} : ([3, 4] : List Nat).map (fun i => ([e0, e1, e2, e3, e4] : va_W)[i]?) = ([e3, e4] : va_W).map some := rfl
set_option maxHeartbeats 4000000 in
set_option maxRecDepth 100000 in
theorem c_X4_findFitting (l : Launch) (D : va_G) (sz : Nat) (fr : Nat) (al : Int) (h0 : Nat) (g1 : Nat) (g2 : Nat) (g3 : Nat) (g4 : Nat) (g5 : Nat) (cn : Int) (bo : Int) (ru : Int) (g6 : Nat) (g7 : Nat) (cg3 : ClassId) (f3 : Nat → Int32) (cg6 : ClassId) (f6 : Nat → Int32) (k1 : Nat) (k2 : Nat) (k3 : Nat) (n : Int) (ck3 : ClassId) (fh : Nat → Int32) (q0 : rg al) (q1 : 0 ≤ cn ∧ cn ≤ 24) (q2 : 0 ≤ n ∧ n ≤ 4) : Met l yX4_findFitting wsX4_findFitting ({ frames := 1, cells := 0, slots := 0, locals := 23 }) (kPre [.ref h0, .ref fr, .int (zI al)] D [(h0, .inr (4, [.ref g1, .ref g2, .ref g3, .ref g4, .ref g5, .int (zI cn), .int (zI bo), .int (zI ru), .ref g6, .ref g7])), (g3, .inl (cg3, 24, .inl f3)), (g6, .inl (cg6, 24, .inl f6)), (fr, .inr (0, [.ref k1, .ref k2, .ref k3, .int (zI n)])), (k3, .inl (ck3, 4, .inl fh))] [(cg3, .int), (cg6, .int), (ck3, .int)] sz) (kQV (fun t => ∃ (ub : Int) (v3 : Nat → Int32), (0 ≤ ub ∧ ub ≤ 24) ∧ va_P D vwCl [(h0, .inr (4, [.ref g1, .ref g2, .ref g3, .ref g4, .ref g5, .int (zI cn), .int (zI ub), .int (zI ru), .ref g6, .ref g7])), (g3, .inl (cg3, 24, .inl v3)), (g6, .inl (cg6, 24, .inl f6)), (fr, .inr (0, [.ref k1, .ref k2, .ref k3, .int (zI n)])), (k3, .inl (ck3, 4, .inl fh))] t.heap ∧ va_D (va_A [(h0, .inr (4, [.ref g1, .ref g2, .ref g3, .ref g4, .ref g5, .int (zI cn), .int (zI bo), .int (zI ru), .ref g6, .ref g7])), (g3, .inl (cg3, 24, .inl f3)), (g6, .inl (cg6, 24, .inl f6)), (fr, .inr (0, [.ref k1, .ref k2, .ref k3, .int (zI n)])), (k3, .inl (ck3, 4, .inl fh))] sz) [(h0, .inr (4, [.ref g1, .ref g2, .ref g3, .ref g4, .ref g5, .int (zI cn), .int (zI ub), .int (zI ru), .ref g6, .ref g7])), (g3, .inl (cg3, 24, .inl v3)), (g6, .inl (cg6, 24, .inl f6)), (fr, .inr (0, [.ref k1, .ref k2, .ref k3, .int (zI n)])), (k3, .inl (ck3, 4, .inl fh))]) (va_A [(h0, .inr (4, [.ref g1, .ref g2, .ref g3, .ref g4, .ref g5, .int (zI cn), .int (zI bo), .int (zI ru), .ref g6, .ref g7])), (g3, .inl (cg3, 24, .inl f3)), (g6, .inl (cg6, 24, .inl f6)), (fr, .inr (0, [.ref k1, .ref k2, .ref k3, .int (zI n)])), (k3, .inl (ck3, 4, .inl fh))] sz)) 0 0 (va_A [(h0, .inr (4, [.ref g1, .ref g2, .ref g3, .ref g4, .ref g5, .int (zI cn), .int (zI bo), .int (zI ru), .ref g6, .ref g7])), (g3, .inl (cg3, 24, .inl f3)), (g6, .inl (cg6, 24, .inl f6)), (fr, .inr (0, [.ref k1, .ref k2, .ref k3, .int (zI n)])), (k3, .inl (ck3, 4, .inl fh))] sz) := by
  refine Met.ofW (cc := cX4_findFitting) (maxL := 4) (ret := none) (by decide) rfl ?_
  intro p e s m args below meth c s₁ B hml hv
  obtain ⟨rfl, hsz, hP, hK, hD0, hN⟩ := hv
  have hx := B.exec
  have hb := B.bytes
  have hr := B.returns
  have hts := atoms_spec (ws := wsX4_findFitting) B.pre
  have hown : s.vm.findClass RX4 = some m.cls := findClass_of_methodNamed B.named
  have hlocks := B.notSynchronized
  subst hsz
  have hD := hD0.self (sz := s.heap.size)
  generalize hAe : va_A [(h0, .inr (4, [.ref g1, .ref g2, .ref g3, .ref g4, .ref g5, .int (zI cn), .int (zI bo), .int (zI ru), .ref g6, .ref g7])), (g3, .inl (cg3, 24, .inl f3)), (g6, .inl (cg6, 24, .inl f6)), (fr, .inr (0, [.ref k1, .ref k2, .ref k3, .int (zI n)])), (k3, .inl (ck3, 4, .inl fh))] s.heap.size = A at hD ⊢
  have hA : ∀ q : Nat, s.heap.size ≤ q → A q := fun q h => by rw [← hAe]; exact Or.inr h
  have hS : va_S A s.heap s.heap [] := va_S.rf
  have hP : va_P D vwCl [(h0, .inr (4, [.ref g1, .ref g2, .ref g3, .ref g4, .ref g5, .int (zI cn), .int (zI bo), .int (zI ru), .ref g6, .ref g7])), (g3, .inl (cg3, 24, .inl f3)), (g6, .inl (cg6, 24, .inl f6)), (fr, .inr (0, [.ref k1, .ref k2, .ref k3, .int (zI n)])), (k3, .inl (ck3, 4, .inl fh))] s.heap := hP
  have hl := lv_entry ([.ref h0, .ref fr, .int (zI al)]) (n := 4) (Nat.le_of_ble_eq_true rfl)
  rw [lg_entry_eq]
  generalize (lg_sl ([.ref h0, .ref fr, .int (zI al)]) ++ List.replicate (4 - (lg_sl ([.ref h0, .ref fr, .int (zI al)])).length) Slot.unset).toArray = ls at hl ⊢
  have hl : lv_has ls 4 [(0, .ref h0), (1, .ref fr), (2, .int (zI al))] := hl
  refine lv_aload_n hx hb dX4_findFitting_0 rfl (lv_at hl 0 rfl) ?_
  refine lv_iconst (v := zI 0) hx hb dX4_findFitting_1 rfl ?_
  refine va_put (D := D) (ci := 4) (v := .int (zI 0)) (ty := .int) (C := RX4) (T := TX4) (N := 10) hx hb hts (fun _ h9 => List.mem_cons_of_mem _ (List.mem_append_left _ (List.mem_append_right _ h9))) tyX4 tyX4_ok nmX4 hown hK hP hD hS 0 rfl rfl 6 (by decide) (hts (.fieldLink RX4 80 "FontRuns$Setting" "boxes" "I") mw_X4_findFitting_0) (fun _ h9 => h9) rfl (by decide +kernel) rfl rfl (Nat.le_of_ble_eq_true rfl) dX4_findFitting_2 (fun H locs hP hD hS => ?_)
  have hP : va_P D vwCl [(h0, .inr (4, [.ref g1, .ref g2, .ref g3, .ref g4, .ref g5, .int (zI cn), .int (zI 0), .int (zI ru), .ref g6, .ref g7])), (g3, .inl (cg3, 24, .inl f3)), (g6, .inl (cg6, 24, .inl f6)), (fr, .inr (0, [.ref k1, .ref k2, .ref k3, .int (zI n)])), (k3, .inl (ck3, 4, .inl fh))] H := hP
  have hD : va_D A [(h0, .inr (4, [.ref g1, .ref g2, .ref g3, .ref g4, .ref g5, .int (zI cn), .int (zI 0), .int (zI ru), .ref g6, .ref g7])), (g3, .inl (cg3, 24, .inl f3)), (g6, .inl (cg6, 24, .inl f6)), (fr, .inr (0, [.ref k1, .ref k2, .ref k3, .int (zI n)])), (k3, .inl (ck3, 4, .inl fh))] := hD
  refine lv_iconst (v := zI 0) hx hb dX4_findFitting_5 rfl ?_
  refine lv_istore_n (lv' := [(3, .int (zI 0)), (0, .ref h0), (1, .ref fr), (2, .int (zI al))]) hx hb dX4_findFitting_6 rfl hl (by decide) rfl (fun ls hl => ?_)
  refine k_loopM (I := fun n9 H locs ls => ∃ (jk : Int) (jc : Int) (ja : Nat → Int32), n9 = (cn - jk).toNat ∧ (0 ≤ jk ∧ jk ≤ cn) ∧ (0 ≤ jc ∧ jc ≤ jk) ∧ va_P D vwCl [(h0, .inr (4, [.ref g1, .ref g2, .ref g3, .ref g4, .ref g5, .int (zI cn), .int (zI jc), .int (zI ru), .ref g6, .ref g7])), (g3, .inl (cg3, 24, .inl ja)), (g6, .inl (cg6, 24, .inl f6)), (fr, .inr (0, [.ref k1, .ref k2, .ref k3, .int (zI n)])), (k3, .inl (ck3, 4, .inl fh))] H ∧ va_D A [(h0, .inr (4, [.ref g1, .ref g2, .ref g3, .ref g4, .ref g5, .int (zI cn), .int (zI jc), .int (zI ru), .ref g6, .ref g7])), (g3, .inl (cg3, 24, .inl ja)), (g6, .inl (cg6, 24, .inl f6)), (fr, .inr (0, [.ref k1, .ref k2, .ref k3, .int (zI n)])), (k3, .inl (ck3, 4, .inl fh))] ∧ va_S A s.heap H locs ∧ lv_has ls 4 [(3, .int (zI jk)), (0, .ref h0), (1, .ref fr), (2, .int (zI al))]) ?_ _ ⟨0, 0, f3, rfl, (by omega), (by omega), hP, hD, hS, hl⟩
  intro n7 ih7 H locs ls hI
  obtain ⟨jk, jc, ja, en7, v_70, v_71, hP, hD, hS, hl⟩ := hI
  refine lv_iload_n hx hb dX4_findFitting_7 rfl (lv_at hl 0 rfl) ?_
  refine lv_aload_n hx hb dX4_findFitting_8 rfl (lv_at hl 1 rfl) ?_
  refine va_get (D := D) (ci := 4) (v := .int (zI cn)) (C := RX4) (T := TX4) (N := 10) hx hb hts (fun _ h9 => List.mem_cons_of_mem _ (List.mem_append_left _ (List.mem_append_right _ h9))) hown hK hP 0 rfl rfl 5 (by decide) (hts (.fieldLink RX4 51 "FontRuns$Setting" "count" "I") mw_X4_findFitting_1) (fun _ h9 => h9) rfl dX4_findFitting_9 ?_
  refine kz_icmp_ge (tgt := 58) hx hb dX4_findFitting_12 (by decide) (by omega) (by omega) (fun c_1 => ?_) (fun c_1 => ?_)
  · have hP9 := hP.sub (ws' := [(h0, .inr (4, [.ref g1, .ref g2, .ref g3, .ref g4, .ref g5, .int (zI cn), .int (zI jc), .int (zI ru), .ref g6, .ref g7])), (g3, .inl (cg3, 24, .inl ja)), (g6, .inl (cg6, 24, .inl f6)), (fr, .inr (0, [.ref k1, .ref k2, .ref k3, .int (zI n)])), (k3, .inl (ck3, 4, .inl fh))]) [0, 1, 2, 3, 4] rfl
    have hD9 := hD.sub (ws' := [(h0, .inr (4, [.ref g1, .ref g2, .ref g3, .ref g4, .ref g5, .int (zI cn), .int (zI jc), .int (zI ru), .ref g6, .ref g7])), (g3, .inl (cg3, 24, .inl ja)), (g6, .inl (cg6, 24, .inl f6)), (fr, .inr (0, [.ref k1, .ref k2, .ref k3, .int (zI n)])), (k3, .inl (ck3, 4, .inl fh))]) [0, 1, 2, 3, 4] (by decide +kernel) rfl
    exact W.vret hx hb hr (fun t ht hW => kQV_of ⟨jc, ja, (by omega), by rw [ht]; exact hP9, hD9⟩ (hS.F ht)) hS.2.2 dX4_findFitting_58
  · refine lv_aload_n hx hb dX4_findFitting_15 rfl (lv_at hl 1 rfl) ?_
    refine va_get (D := D) (ci := 4) (v := .ref g3) (C := RX4) (T := TX4) (N := 10) hx hb hts (fun _ h9 => List.mem_cons_of_mem _ (List.mem_append_left _ (List.mem_append_right _ h9))) hown hK hP 0 rfl rfl 2 (by decide) (hts (.fieldLink RX4 18 "FontRuns$Setting" "fitting" "[I") mw_X4_findFitting_2) (fun _ h9 => h9) rfl dX4_findFitting_16 ?_
    refine lv_iload_n hx hb dX4_findFitting_19 rfl (lv_at hl 0 rfl) ?_
    refine lv_aload_n hx hb dX4_findFitting_20 rfl (lv_at hl 2 rfl) ?_
    refine lv_aload_n hx hb dX4_findFitting_21 rfl (lv_at hl 1 rfl) ?_
    refine va_get (D := D) (ci := 4) (v := .ref g6) (C := RX4) (T := TX4) (N := 10) hx hb hts (fun _ h9 => List.mem_cons_of_mem _ (List.mem_append_left _ (List.mem_append_right _ h9))) hown hK hP 0 rfl rfl 8 (by decide) (hts (.fieldLink RX4 27 "FontRuns$Setting" "letters" "[I") mw_X4_findFitting_3) (fun _ h9 => h9) rfl dX4_findFitting_22 ?_
    refine lv_iload_n hx hb dX4_findFitting_25 rfl (lv_at hl 0 rfl) ?_
    refine kz_iald hx hb hK hP 2 1 rfl rfl (by omega) dX4_findFitting_26 (fun z_2 rz_2 ez_2 => ?_)
    refine k_callP (va_runV (As := [.int (zI z_2)]) (rest := [.int (zI jk), .ref g3]) ⟨hx, hb, hml, hown, hts⟩ (c_X0_fitting l D H.size (le := z_2) (h0 := fr) (k1 := k1) (k2 := k2) (k3 := k3) (n := n) (ck3 := ck3) (fh := fh) (by omega) q2) (cwV 1 hts gX4_findFitting_X0_fitting rfl rfl rfl (by decide +kernel) ⟨Nat.le_of_ble_eq_true rfl, Nat.le_of_ble_eq_true rfl⟩) (kPreV hP (kD0 hD) hK hN [3, 4] [2] ax_X4_findFitting_1 rfl (by decide +kernel) 3 0 rfl rfl) rfl rfl hl.1 rfl (lv_room (Nat.le_of_ble_eq_true rfl)) dX4_findFitting_27 ⟨Nat.le_of_ble_eq_true rfl, Nat.le_of_ble_eq_true rfl⟩) (fun z_3 rz_3 h_4 => ?_)
    refine lv_iload_n hx hb dX4_findFitting_30 rfl (lv_at hl 3 rfl) ?_
    refine lv_iand hx hb dX4_findFitting_31 ?_
    refine kz_any (fun z_5 rz_5 ez_5 => ?_)
    refine kz_iast hx hb hK hP hD hS 1 0 rfl rfl (by omega) dX4_findFitting_32 (fun H locs hP hD hS => ?_)
    have hP : va_P D vwCl [(h0, .inr (4, [.ref g1, .ref g2, .ref g3, .ref g4, .ref g5, .int (zI cn), .int (zI jc), .int (zI ru), .ref g6, .ref g7])), (g3, .inl (cg3, 24, .inl (upd ja (jk).toNat (zI z_5)))), (g6, .inl (cg6, 24, .inl f6)), (fr, .inr (0, [.ref k1, .ref k2, .ref k3, .int (zI n)])), (k3, .inl (ck3, 4, .inl fh))] H := hP
    have hD : va_D A [(h0, .inr (4, [.ref g1, .ref g2, .ref g3, .ref g4, .ref g5, .int (zI cn), .int (zI jc), .int (zI ru), .ref g6, .ref g7])), (g3, .inl (cg3, 24, .inl (upd ja (jk).toNat (zI z_5)))), (g6, .inl (cg6, 24, .inl f6)), (fr, .inr (0, [.ref k1, .ref k2, .ref k3, .int (zI n)])), (k3, .inl (ck3, 4, .inl fh))] := hD
    generalize ef_6 : upd ja (jk).toNat (zI z_5) = f_6 at hP hD
    refine lv_aload_n hx hb dX4_findFitting_33 rfl (lv_at hl 1 rfl) ?_
    refine va_get (D := D) (ci := 4) (v := .ref g3) (C := RX4) (T := TX4) (N := 10) hx hb hts (fun _ h9 => List.mem_cons_of_mem _ (List.mem_append_left _ (List.mem_append_right _ h9))) hown hK hP 0 rfl rfl 2 (by decide) (hts (.fieldLink RX4 18 "FontRuns$Setting" "fitting" "[I") mw_X4_findFitting_2) (fun _ h9 => h9) rfl dX4_findFitting_34 ?_
    refine lv_iload_n hx hb dX4_findFitting_37 rfl (lv_at hl 0 rfl) ?_
    refine kz_iald hx hb hK hP 1 0 rfl rfl (by omega) dX4_findFitting_38 (fun z_7 rz_7 ez_7 => ?_)
    refine kz_if_ne (tgt := 52) hx hb dX4_findFitting_39 (by decide) (by omega) (fun c_8 => ?_) (fun c_8 => ?_)
    · refine lv_iinc (v := (zI (jk + 1))) (lv' := [(3, .int (zI (jk + 1))), (0, .ref h0), (1, .ref fr), (2, .int (zI al))]) hx hb dX4_findFitting_52 hl (k := 0) rfl (kz_inc _ 1) (by decide) rfl (fun ls hl => ?_)
      refine lv_goto (tgt := 7) hx hb dX4_findFitting_55 (by decide) ?_
      exact ih7 _ (by omega) _ _ _ ⟨(jk + 1), jc, f_6, rfl, (by omega), (by omega), hP, hD, hS, lv_sub hl [0, 1, 2, 3] rfl⟩
    · refine lv_aload_n hx hb dX4_findFitting_42 rfl (lv_at hl 1 rfl) ?_
      refine lv_dup hx hb dX4_findFitting_43 rfl ?_
      refine va_get (D := D) (ci := 4) (v := .int (zI jc)) (C := RX4) (T := TX4) (N := 10) hx hb hts (fun _ h9 => List.mem_cons_of_mem _ (List.mem_append_left _ (List.mem_append_right _ h9))) hown hK hP 0 rfl rfl 6 (by decide) (hts (.fieldLink RX4 80 "FontRuns$Setting" "boxes" "I") mw_X4_findFitting_0) (fun _ h9 => h9) rfl dX4_findFitting_44 ?_
      refine lv_iconst (v := zI 1) hx hb dX4_findFitting_47 rfl ?_
      refine kz_iadd hx hb dX4_findFitting_48 ?_
      refine va_put (D := D) (ci := 4) (v := .int (zI (jc + 1))) (ty := .int) (C := RX4) (T := TX4) (N := 10) hx hb hts (fun _ h9 => List.mem_cons_of_mem _ (List.mem_append_left _ (List.mem_append_right _ h9))) tyX4 tyX4_ok nmX4 hown hK hP hD hS 0 rfl rfl 6 (by decide) (hts (.fieldLink RX4 80 "FontRuns$Setting" "boxes" "I") mw_X4_findFitting_0) (fun _ h9 => h9) rfl (by decide +kernel) rfl rfl (Nat.le_of_ble_eq_true rfl) dX4_findFitting_49 (fun H locs hP hD hS => ?_)
      have hP : va_P D vwCl [(h0, .inr (4, [.ref g1, .ref g2, .ref g3, .ref g4, .ref g5, .int (zI cn), .int (zI (jc + 1)), .int (zI ru), .ref g6, .ref g7])), (g3, .inl (cg3, 24, .inl f_6)), (g6, .inl (cg6, 24, .inl f6)), (fr, .inr (0, [.ref k1, .ref k2, .ref k3, .int (zI n)])), (k3, .inl (ck3, 4, .inl fh))] H := hP
      have hD : va_D A [(h0, .inr (4, [.ref g1, .ref g2, .ref g3, .ref g4, .ref g5, .int (zI cn), .int (zI (jc + 1)), .int (zI ru), .ref g6, .ref g7])), (g3, .inl (cg3, 24, .inl f_6)), (g6, .inl (cg6, 24, .inl f6)), (fr, .inr (0, [.ref k1, .ref k2, .ref k3, .int (zI n)])), (k3, .inl (ck3, 4, .inl fh))] := hD
      refine lv_iinc (v := (zI (jk + 1))) (lv' := [(3, .int (zI (jk + 1))), (0, .ref h0), (1, .ref fr), (2, .int (zI al))]) hx hb dX4_findFitting_52 hl (k := 0) rfl (kz_inc _ 1) (by decide) rfl (fun ls hl => ?_)
      refine lv_goto (tgt := 7) hx hb dX4_findFitting_55 (by decide) ?_
      exact ih7 _ (by omega) _ _ _ ⟨(jk + 1), (jc + 1), f_6, rfl, (by omega), (by omega), hP, hD, hS, lv_sub hl [0, 1, 2, 3] rfl⟩
/-! the rows of arrays of arrays: one pool of 56 rows of four -/
def kRows (r : Nat → Nat) (gp : Nat → Nat → Int32) (cy : ClassId) : va_W := (List.range 56).map (fun i => (r i, .inl (cy, 4, .inl (gp i))))
def kOut (fo : Nat → Option Nat) (r : Nat → Nat) (o n : Nat) : Prop := ∀ i, i < n → fo i = some (r (o + i))
theorem kRows_at (X : va_W) (r : Nat → Nat) (gp : Nat → Nat → Int32) (cy : ClassId) {j : Nat} (hj : j < 56) : (X ++ kRows r gp cy)[X.length + j]? = some (r j, .inl (cy, 4, .inl (gp j))) := by
  rw [List.getElem?_append_right (by omega)]
  simp [kRows, hj]
theorem kRows_set (X : va_W) (r : Nat → Nat) (gp : Nat → Nat → Int32) (cy : ClassId) {j : Nat} (g : Nat → Int32) (hj : j < 56) : (X ++ kRows r gp cy).set (X.length + j) (r j, .inl (cy, 4, .inl g)) = X ++ kRows r (va_up gp j g) cy := by
  rw [List.set_append_right _ _ (by omega)]
  congr 1
  apply List.ext_getElem?
  intro i
  rw [List.getElem?_set]
  by_cases h : i < 56
  · by_cases e : X.length + j - X.length = i
    · have e2 : j = i := by omega
      subst e2
      simp [kRows, hj, va_up_self]
    · have e2 : i ≠ j := by omega
      simp [kRows, h, va_up_ne _ _ e2, show ¬ j = i from fun q => e2 q.symm]
  · have e2 : ¬ X.length + j - X.length = i := by omega
    simp [kRows, h, show ¬ j = i by omega]
section
variable {p : Program} {l : Launch} {e : Env} {R : Room} {s : State} {m : MethodId} {args : Array Value} {below : List Frame} {meth : Method} {c : Code} {H : Heap} {locs : List Loc} {cells slots : Nat} {Q : State → Prop} {cc : ByteArray} {pc : Nat} {ls : Array Slot} {rest : List Value} {D : va_G} {cl : List vw_C} {A : Nat → Prop} {a : Nat} {tys : List (ClassId × FieldType)} {ws : va_W} {H0 : Heap}
theorem kz_aald (hexec : p.tables.exec = Jvm.exec) (hb : c.code = cc) (hK : va_K D cl tys s) (hP : va_P D cl ws H) (q0 t0 : Nat) {cA : ClassId} {n : Nat} {f : Nat → Option Nat} (ha : ws[q0]? = some (a, .inl (cA, n, .inr (.inr (.inr (.inr f)))))) (ht : tys[t0]? = some (cA, .array .int)) {i : Int} (hi : 0 ≤ i ∧ i < n ∧ i < 2147483648) (hdg : decode cc pc = .ok (.aaload, 1)) {y : Nat} (hy : f i.toNat = some y) (kk : W p l e R s m args below meth c H locs cells slots Q (F0 m (pc + 1) ls (.ref y :: rest))) : W p l e R s m args below meth c H locs cells slots Q (F0 m pc ls (.int (zI i) :: .ref a :: rest)) := by
  have hin : vp_in (zI i) n := zI_in hi
  have hlt : (zI i).toNatClampNeg < n := Nat.not_le.mp fun q => hin (Or.inr q)
  refine W.aald (v := va_rf (f (zI i).toNatClampNeg)) (ty := .array .int) hexec hb (hP q0 _ ha) ((hK.2 t0 _ ht).1 n (fun j => va_rf (f j))) rfl (fun q => by cases q) (by show ¬ (zI i < 0 ∨ (arrV _ _ _).slots.size ≤ _); rw [arrV_size]; exact hin) (by show (arrV _ _ _).slots[_]? = _; rw [arrV_read _ _ hlt]) rfl rfl hdg ?_
  rw [zI_cl (by omega), hy]
  exact kk
theorem kz_aldq (hexec : p.tables.exec = Jvm.exec) (hb : c.code = cc) (hK : va_K D cl tys s) (hP : va_P D cl ws H) (q0 t0 : Nat) {cA : ClassId} {C : String} {n : Nat} {f : Nat → Option Nat} (ha : ws[q0]? = some (a, .inl (cA, n, .inr (.inr (.inr (.inr f)))))) (ht : tys[t0]? = some (cA, .object C)) {i : Int} (hi : 0 ≤ i ∧ i < n ∧ i < 2147483648) (hdg : decode cc pc = .ok (.aaload, 1)) {y : Nat} (hy : f i.toNat = some y) (kk : W p l e R s m args below meth c H locs cells slots Q (F0 m (pc + 1) ls (.ref y :: rest))) : W p l e R s m args below meth c H locs cells slots Q (F0 m pc ls (.int (zI i) :: .ref a :: rest)) := by
  refine va_aldq hexec hb hK hP q0 t0 ha ht (zI_in hi) hdg ?_
  rw [zI_cl (by omega), hy]
  exact kk
theorem kz_copy (hexec : p.tables.exec = Jvm.exec) (hb : c.code = cc) (hml : c.maxLocals = ls.size) {own : String} {index : Nat} (hown : s.vm.findClass own = some m.cls) (hlink : (Cond.methodLink own index arraycopyName).before args s = true) (hnat : (Cond.native arraycopyName).before args s = true) (hstat : (Cond.static arraycopyName).before args s = true) (hini : (Cond.initialized "java/lang/System").before args s = true) (hK : va_K D cl tys s) (hP : va_P D cl ws H) (hD : va_D A ws) (hS : va_S A H0 H locs) (q0 q1 t0 t1 : Nat) {a0 : Nat} {c0 c1 : ClassId} {n0 n1 : Nat} {f g : Nat → Int32} (ha0 : ws[q0]? = some (a0, .inl (c0, n0, .inl f))) (ha1 : ws[q1]? = some (a, .inl (c1, n1, .inl g))) (ht0 : tys[t0]? = some (c0, .int)) (ht1 : tys[t1]? = some (c1, .int)) {i j k : Int} (h1 : 0 ≤ i ∧ 0 ≤ j ∧ 0 ≤ k ∧ i + k ≤ n0 ∧ j + k ≤ n1 ∧ i < 2147483648 ∧ j < 2147483648 ∧ k < 2147483648) (hframes : 1 ≤ R.frames) (hlocals : (rest.map fun v => v.category).sum + (nativeFrameWords "java/lang/System" "arraycopy" 5 + 11) ≤ R.locals) (hdg : decode cc pc = .ok (.invokestatic index, 3)) (kk : ∀ (H1 : Heap) (locs1 : List Loc), va_P D cl (ws.set q1 (a, .inl (c1, n1, .inl (va_cpy f g i.toNat j.toNat k.toNat)))) H1 → va_D A (ws.set q1 (a, .inl (c1, n1, .inl (va_cpy f g i.toNat j.toNat k.toNat)))) → va_S A H0 H1 locs1 → W p l e R s m args below meth c H1 locs1 cells slots Q (F0 m (pc + 3) ls rest)) : W p l e R s m args below meth c H locs cells slots Q (F0 m pc ls (.int (zI k) :: .int (zI j) :: .ref a :: .int (zI i) :: .ref a0 :: rest)) := by
  have e0 : (0 : Int32) = zI 0 := rfl
  refine va_copyi hexec hb hml hown hlink hnat hstat hini hK hP hD hS q0 q1 t0 t1 ha0 ha1 ht0 ht1 rfl (by rw [e0, zI_lt (by omega) (by omega)]; omega) (by rw [e0, zI_lt (by omega) (by omega)]; omega) (by rw [e0, zI_lt (by omega) (by omega)]; omega) (by rw [zI_cl (by omega), zI_cl (by omega)]; omega) (by rw [zI_cl (by omega), zI_cl (by omega)]; omega) (fun _ _ => rfl) hframes hlocals hdg ?_
  rw [zI_cl (i := i) (by omega), zI_cl (i := j) (by omega), zI_cl (i := k) (by omega)]
  exact kk
theorem kz_idiv2 (hexec : p.tables.exec = Jvm.exec) (hb : c.code = cc) {x : Int} (hdg : decode cc pc = .ok (.idiv, 1)) (hx : 0 ≤ x ∧ x < 2147483648) (k : W p l e R s m args below meth c H locs cells slots Q (F0 m (pc + 1) ls (.int (zI (x / 2)) :: rest))) : W p l e R s m args below meth c H locs cells slots Q (F0 m pc ls (.int (zI 2) :: .int (zI x) :: rest)) := by
  refine lv_idiv hexec hb hdg (by decide) ?_
  have e : zI x / zI 2 = zI (x / 2) := by
    obtain ⟨n, rfl⟩ := Int.eq_ofNat_of_zero_le hx.1
    exact pk_div (a := n) (d := 2) (by omega) (by omega) (by omega)
  rw [e]
  exact k
theorem kz_rowld {X : va_W} {r : Nat → Nat} {gp : Nat → Nat → Int32} {cy : ClassId} (hexec : p.tables.exec = Jvm.exec) (hb : c.code = cc) (hK : va_K D cl tys s) (hP : va_P D cl (X ++ kRows r gp cy) H) (t0 : Nat) (ht : tys[t0]? = some (cy, .int)) {j : Nat} (hj : j < 56) {i : Int} (hi : 0 ≤ i ∧ i < 4) (hdg : decode cc pc = .ok (.iaload, 1)) (kk : ∀ z : Int, rg z → gp j i.toNat = zI z → W p l e R s m args below meth c H locs cells slots Q (F0 m (pc + 1) ls (.int (zI z) :: rest))) : W p l e R s m args below meth c H locs cells slots Q (F0 m pc ls (.int (zI i) :: .ref (r j) :: rest)) := kz_iald hexec hb hK hP (X.length + j) t0 (kRows_at X r gp cy hj) ht (by omega) hdg kk
theorem kz_rowst {X : va_W} {r : Nat → Nat} {gp : Nat → Nat → Int32} {cy : ClassId} (hexec : p.tables.exec = Jvm.exec) (hb : c.code = cc) (hK : va_K D cl tys s) (hP : va_P D cl (X ++ kRows r gp cy) H) (hD : va_D A (X ++ kRows r gp cy)) (hS : va_S A H0 H locs) (t0 : Nat) (ht : tys[t0]? = some (cy, .int)) {j : Nat} (hj : j < 56) {i : Int} {x : Int32} (hi : 0 ≤ i ∧ i < 4) (hdg : decode cc pc = .ok (.iastore, 1)) (kk : ∀ (H1 : Heap) (locs1 : List Loc), va_P D cl (X ++ kRows r (va_up gp j (upd (gp j) i.toNat x)) cy) H1 → va_D A (X ++ kRows r (va_up gp j (upd (gp j) i.toNat x)) cy) → va_S A H0 H1 locs1 → W p l e R s m args below meth c H1 locs1 cells slots Q (F0 m (pc + 1) ls rest)) : W p l e R s m args below meth c H locs cells slots Q (F0 m pc ls (.int x :: .int (zI i) :: .ref (r j) :: rest)) := by
  refine kz_iast hexec hb hK hP hD hS (X.length + j) t0 (kRows_at X r gp cy hj) ht (by omega) hdg (fun H1 locs1 h1 h2 h3 => ?_)
  rw [kRows_set X r gp cy _ hj] at h1 h2
  exact kk H1 locs1 h1 h2 h3
end
theorem kPre_atP {s : State} {H : Heap} {D : va_G} {X cx pl : va_W} {tys t0 : List (ClassId × FieldType)} {av : List Value} (hP : va_P D vwCl (X ++ pl) H) (hD : va_D (fun _ => True) (X ++ pl)) (hK : va_K D vwCl tys s) (hN : kN s) (is ts : List Nat) (hs : is.map (fun i => X[i]?) = cx.map some) (ht : ts.filterMap (fun i => tys[i]?) = t0) (hn : va_nd is = true) (U : State) (hU : U.heap = H) (hW : s.WarmedH U.vm) : kPre av D (cx ++ pl) t0 H.size av.toArray U :=
  ⟨rfl, by rw [hU], by rw [hU]; exact hP.part is hs, va_K.moved hW.alike (hK.sub ts ht), hD.part is hn hs, kN_warm hW hN⟩
theorem kPreSP {s : State} {H : Heap} {D : va_G} {X cx pl : va_W} {tys t0 : List (ClassId × FieldType)} {As : List Value} (hP : va_P D vwCl (X ++ pl) H) (hD : va_D (fun _ => True) (X ++ pl)) (hK : va_K D vwCl tys s) (hN : kN s) (is ts : List Nat) (hs : is.map (fun i => X[i]?) = cx.map some) (ht : ts.filterMap (fun i => tys[i]?) = t0) (hn : va_nd is = true) : PreS s H (kPre As D (cx ++ pl) t0 H.size) As := ⟨kPre_blind, fun U hU hW => kPre_atP hP hD hK hN is ts hs ht hn U hU hW⟩
theorem kPreVP {s : State} {H : Heap} {D : va_G} {X cx pl : va_W} {tys t0 : List (ClassId × FieldType)} {As : List Value} {b : Nat} {C : String} {T : u_T} {N : Nat} {fs : List Value} (hP : va_P D vwCl (X ++ pl) H) (hD : va_D (fun _ => True) (X ++ pl)) (hK : va_K D vwCl tys s) (hN : kN s) (is ts : List Nat) (hs : is.map (fun i => X[i]?) = cx.map some) (ht : ts.filterMap (fun i => tys[i]?) = t0) (hn : va_nd is = true) (q0 ci : Nat) (he : (X ++ pl)[q0]? = some (b, .inr (ci, fs))) (hc : vwCl[ci]? = some (C, T, N)) : PreV s H C b (kPre (.ref b :: As) D (cx ++ pl) t0 H.size) As := ⟨kPre_blind, va_recv hK hP hc he, fun U hU hW => kPre_atP hP hD hK hN is ts hs ht hn U hU hW⟩
