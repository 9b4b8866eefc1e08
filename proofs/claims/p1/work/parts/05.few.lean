def sp_fonts (k n : Int32) : Int32 := if (0 ≤ k ∧ k ≤ 3) then (if (0 ≤ n ∧ n ≤ 2) then (-11) else (-2)) else (-1)
def sp_write (k n z : Int32) : Int32 := if (0 ≤ k ∧ k ≤ 3) then (if (0 ≤ n ∧ n ≤ 2) then (if (0 ≤ z ∧ z ≤ 24) then (-11) else (-2)) else (-2)) else (-1)
def sp_day (k n z w : Int32) : Int32 := if (0 ≤ k ∧ k ≤ 3) then (if (0 ≤ n ∧ n ≤ 2) then (if (0 ≤ z ∧ z ≤ 20) then (if (0 ≤ w ∧ w ≤ 4) ∨ (10 ≤ w ∧ w ≤ 13) then (-11) else (-2)) else (-2)) else (-2)) else (-1)
def sp_zero (n : Int32) : Int32 := if (0 ≤ n ∧ n ≤ 0) then 0 else (-2)
def sp_latest (k : Int32) : Int32 := if (0 ≤ k ∧ k ≤ 4) then (-9) else (-2)
def sp_best (k : Int32) : Int32 := if (0 ≤ k ∧ k ≤ 3) then (-3) else (-2)
def sp_enough (k : Int32) : Int32 := if (0 ≤ k ∧ k ≤ 1) then (-3) else (-2)
def sp_sheet (k n z : Int32) : Int32 := if (0 ≤ k ∧ k ≤ 3) then (if (0 ≤ n ∧ n ≤ 2) then (if z ≤ 60 then (if 0 ≤ z then 1 else (-14)) else (-2)) else (-2)) else (-1)
def sp_lose (k : Int32) : Int32 := if (0 ≤ k ∧ k ≤ 3) then 0 else (-1)
def sp_put (k : Int32) : Int32 := if (0 ≤ k ∧ k ≤ 3) then (-11) else (-1)
def sp_copy (k o : Int32) : Int32 := if (0 ≤ k ∧ k ≤ 3) then (if (0 ≤ o ∧ o ≤ 3) then (-11) else (-1)) else (-1)
def sp_many (k : Int32) : Int32 := if (k = 0 ∨ k = 1 ∨ k = 2 ∨ k = 3) then 0 else (-2)
theorem dX8_faultOfLane_0 : decode cX8_faultOfLane 0 = .ok (.aload_n 0, 1) := by decide +kernel
theorem dX8_faultOfLane_1 : decode cX8_faultOfLane 1 = .ok (.getfield 288, 3) := by decide +kernel
theorem dX8_faultOfLane_4 : decode cX8_faultOfLane 4 = .ok (.ifCond .ne 5, 3) := by decide +kernel
theorem dX8_faultOfLane_7 : decode cX8_faultOfLane 7 = .ok (.iconst 1, 1) := by decide +kernel
theorem dX8_faultOfLane_8 : decode cX8_faultOfLane 8 = .ok (.ireturn, 1) := by decide +kernel
set_option maxHeartbeats 4000000 in
set_option maxRecDepth 100000 in
theorem c_X8_faultOfLane (l : Launch) (D : va_G) (sz : Nat) (ro : Nat) (la : Int32) (e0 : Nat) (ln : Int32) (sz0 : Int32) : Met l yX8_faultOfLane wsX8_faultOfLane ({ frames := 0, cells := 0, slots := 0, locals := 0 }) (kPre [.ref ro, .int la] D [(ro, .inr (5, [.ref e0, .int 0, .int ln, .int sz0]))] [] sz) (QcRead 1) 0 0 (fun _ => False) := by
  refine Met.ofW (cc := cX8_faultOfLane) (maxL := 2) (ret := (some .int)) (by decide) rfl ?_
  intro p e s m args below meth c s₁ B hml hv
  obtain ⟨rfl, hsz, hP, hK, hD0, hN⟩ := hv
  have hx := B.exec
  have hb := B.bytes
  have hr := B.returns
  have hts := atoms_spec (ws := wsX8_faultOfLane) B.pre
  have hown : s.vm.findClass RX8 = some m.cls := findClass_of_methodNamed B.named
  have hlocks := B.notSynchronized
  subst hsz
  have hD := hD0
  have hP : va_P D vwCl [(ro, .inr (5, [.ref e0, .int 0, .int ln, .int sz0]))] s.heap := hP
  have hl := lv_entry ([.ref ro, .int la]) (n := 2) (Nat.le_of_ble_eq_true rfl)
  rw [lg_entry_eq]
  generalize (lg_sl ([.ref ro, .int la]) ++ List.replicate (2 - (lg_sl ([.ref ro, .int la])).length) Slot.unset).toArray = ls at hl ⊢
  have hl : lv_has ls 2 [(0, .ref ro), (1, .int la)] := hl
  refine lv_aload_n hx hb dX8_faultOfLane_0 rfl (lv_at hl 0 rfl) ?_
  refine va_get (D := D) (ci := 5) (v := .int 0) (C := RX5) (T := TX5) (N := 4) hx hb hts (fun _ h9 => List.mem_cons_of_mem _ (List.mem_append_right _ h9)) hown hK hP 0 rfl rfl 1 (by decide) (hts (.fieldLink RX8 288 "FontRuns$Sheet" "isThere" "Z") (by decide +kernel)) (fun _ h9 => h9) rfl dX8_faultOfLane_1 ?_
  refine lv_if_ne (tgt := 9) hx hb dX8_faultOfLane_4 (by decide) (fun c9 => absurd (by decide) c9) (fun _ => ?_)
  refine lv_iconst (v := 1) hx hb dX8_faultOfLane_7 (by decide) ?_
  exact W.iret (v := 1) hx hb hr (fun t ht hW => kRd rfl ht) (fun _ h9 => by cases h9) dX8_faultOfLane_8
theorem dX8_faultOfCells_0 : decode cX8_faultOfCells 0 = .ok (.aload_n 0, 1) := by decide +kernel
theorem dX8_faultOfCells_1 : decode cX8_faultOfCells 1 = .ok (.iload_n 1, 1) := by decide +kernel
theorem dX8_faultOfCells_2 : decode cX8_faultOfCells 2 = .ok (.invokestatic 87, 3) := by decide +kernel
theorem dX8_faultOfCells_5 : decode cX8_faultOfCells 5 = .ok (.istore 4, 2) := by decide +kernel
theorem dX8_faultOfCells_7 : decode cX8_faultOfCells 7 = .ok (.iload 4, 2) := by decide +kernel
theorem dX8_faultOfCells_9 : decode cX8_faultOfCells 9 = .ok (.ifCond .eq 6, 3) := by decide +kernel
theorem dX8_faultOfCells_12 : decode cX8_faultOfCells 12 = .ok (.iload 4, 2) := by decide +kernel
theorem dX8_faultOfCells_14 : decode cX8_faultOfCells 14 = .ok (.ireturn, 1) := by decide +kernel
set_option maxRecDepth 20000 in
theorem ggX8_faultOfCells_X8_faultOfLane : GoodIn wsX8_faultOfCells wsX8_faultOfLane := goodIn_r _ [4, 5, 6, 16, 17, 18, 19] (by decide +kernel) (by decide +kernel)
set_option maxRecDepth 20000 in
theorem gX8_faultOfCells_X8_faultOfLane : GoodIn wsX8_faultOfCells (va_wsS RX8 87 yX8_faultOfLane wsX8_faultOfLane) := goodIn_app (goodIn_of _ (by decide +kernel)) ggX8_faultOfCells_X8_faultOfLane
set_option maxHeartbeats 4000000 in
set_option maxRecDepth 100000 in
theorem c_X8_faultOfCells (l : Launch) (D : va_G) (sz : Nat) (ro : Nat) (la : Int32) (i : Int32) (n : Int32) (e0 : Nat) (ln : Int32) (sz0 : Int32) : Met l yX8_faultOfCells wsX8_faultOfCells ({ frames := 1, cells := 0, slots := 0, locals := 21 }) (kPre [.ref ro, .int la, .int i, .int n] D [(ro, .inr (5, [.ref e0, .int 0, .int ln, .int sz0]))] [] sz) (QcRead 1) 0 0 (fun _ => False) := by
  refine Met.ofW (cc := cX8_faultOfCells) (maxL := 5) (ret := (some .int)) (by decide) rfl ?_
  intro p e s m args below meth c s₁ B hml hv
  obtain ⟨rfl, hsz, hP, hK, hD0, hN⟩ := hv
  have hx := B.exec
  have hb := B.bytes
  have hr := B.returns
  have hts := atoms_spec (ws := wsX8_faultOfCells) B.pre
  have hown : s.vm.findClass RX8 = some m.cls := findClass_of_methodNamed B.named
  have hlocks := B.notSynchronized
  subst hsz
  have hD := hD0
  have hP : va_P D vwCl [(ro, .inr (5, [.ref e0, .int 0, .int ln, .int sz0]))] s.heap := hP
  have hl := lv_entry ([.ref ro, .int la, .int i, .int n]) (n := 5) (Nat.le_of_ble_eq_true rfl)
  rw [lg_entry_eq]
  generalize (lg_sl ([.ref ro, .int la, .int i, .int n]) ++ List.replicate (5 - (lg_sl ([.ref ro, .int la, .int i, .int n])).length) Slot.unset).toArray = ls at hl ⊢
  have hl : lv_has ls 5 [(0, .ref ro), (1, .int la), (2, .int i), (3, .int n)] := hl
  refine lv_aload_n hx hb dX8_faultOfCells_0 rfl (lv_at hl 0 rfl) ?_
  refine lv_iload_n hx hb dX8_faultOfCells_1 rfl (lv_at hl 1 rfl) ?_
  refine k_callR (va_runS (As := [.ref ro, .int la]) (rest := []) ⟨hx, hb, hml, hown, hts⟩ (c_X8_faultOfLane l D s.heap.size (ro := ro) (la := la) (e0 := e0) (ln := ln) (sz0 := sz0)) (va_cwS 2 hts gX8_faultOfCells_X8_faultOfLane rfl rfl rfl (by decide +kernel) ⟨Nat.le_of_ble_eq_true rfl, Nat.le_of_ble_eq_true rfl⟩) (kPreS hP (kD0 hD) hK hN [0] [] rfl rfl (by decide)) rfl rfl hl.1 rfl (lv_room (Nat.le_of_ble_eq_true rfl)) dX8_faultOfCells_2 ⟨Nat.le_of_ble_eq_true rfl, Nat.le_of_ble_eq_true rfl⟩) ?_
  refine lv_istore (lv' := [(4, .int 1), (0, .ref ro), (1, .int la), (2, .int i), (3, .int n)]) hx hb dX8_faultOfCells_5 hl (by decide) rfl (fun ls hl => ?_)
  refine lv_iload hx hb dX8_faultOfCells_7 (lv_at hl 0 rfl) ?_
  refine lv_if_eq (tgt := 15) hx hb dX8_faultOfCells_9 (by decide) (fun c9 => absurd c9 (by decide)) (fun _ => ?_)
  refine lv_iload hx hb dX8_faultOfCells_12 (lv_at hl 0 rfl) ?_
  exact W.iret (v := 1) hx hb hr (fun t ht hW => kRd rfl ht) (fun _ h9 => by cases h9) dX8_faultOfCells_14
theorem dX8_failWith_0 : decode cX8_failWith 0 = .ok (.aload_n 0, 1) := by decide +kernel
theorem dX8_failWith_1 : decode cX8_failWith 1 = .ok (.iload_n 1, 1) := by decide +kernel
theorem dX8_failWith_2 : decode cX8_failWith 2 = .ok (.putfield 76, 3) := by decide +kernel
theorem dX8_failWith_5 : decode cX8_failWith 5 = .ok (.bipush (-10), 2) := by decide +kernel
theorem dX8_failWith_7 : decode cX8_failWith 7 = .ok (.iload_n 1, 1) := by decide +kernel
theorem dX8_failWith_8 : decode cX8_failWith 8 = .ok (.isub, 1) := by decide +kernel
theorem dX8_failWith_9 : decode cX8_failWith 9 = .ok (.ireturn, 1) := by decide +kernel
set_option maxHeartbeats 4000000 in
set_option maxRecDepth 100000 in
theorem c_X8_failWith (l : Launch) (D : va_G) (sz : Nat) (f : Int32) (h0 : Nat) (sh : Nat) (rd : Nat) (fr : Nat) (wr : Nat) (pf : Nat) (rc : Nat) (se : Nat) (rs : Nat) (sw : Nat) (sp : Nat) (ss : Nat) (ew : Int32) (wc : Int64) (tr : Int32) (lf : Int32) : Met l yX8_failWith wsX8_failWith ({ frames := 0, cells := 0, slots := 0, locals := 0 }) (kPre [.ref h0, .int f] D [(h0, .inr (8, [.ref sh, .ref rd, .ref fr, .ref wr, .ref pf, .ref rc, .ref se, .ref rs, .ref sw, .ref sp, .ref ss, .int ew, .long wc, .int tr, .int lf]))] [] sz) (kQi ((-10) - f) (va_A [(h0, .inr (8, [.ref sh, .ref rd, .ref fr, .ref wr, .ref pf, .ref rc, .ref se, .ref rs, .ref sw, .ref sp, .ref ss, .int ew, .long wc, .int tr, .int lf]))] sz)) 0 0 (va_A [(h0, .inr (8, [.ref sh, .ref rd, .ref fr, .ref wr, .ref pf, .ref rc, .ref se, .ref rs, .ref sw, .ref sp, .ref ss, .int ew, .long wc, .int tr, .int lf]))] sz) := by
  refine Met.ofW (cc := cX8_failWith) (maxL := 2) (ret := (some .int)) (by decide) rfl ?_
  intro p e s m args below meth c s₁ B hml hv
  obtain ⟨rfl, hsz, hP, hK, hD0, hN⟩ := hv
  have hx := B.exec
  have hb := B.bytes
  have hr := B.returns
  have hts := atoms_spec (ws := wsX8_failWith) B.pre
  have hown : s.vm.findClass RX8 = some m.cls := findClass_of_methodNamed B.named
  have hlocks := B.notSynchronized
  subst hsz
  have hD := hD0.self (sz := s.heap.size)
  generalize hAe : va_A [(h0, .inr (8, [.ref sh, .ref rd, .ref fr, .ref wr, .ref pf, .ref rc, .ref se, .ref rs, .ref sw, .ref sp, .ref ss, .int ew, .long wc, .int tr, .int lf]))] s.heap.size = A at hD ⊢
  have hA : ∀ q : Nat, s.heap.size ≤ q → A q := fun q h => by rw [← hAe]; exact Or.inr h
  have hS : va_S A s.heap s.heap [] := va_S.rf
  have hP : va_P D vwCl [(h0, .inr (8, [.ref sh, .ref rd, .ref fr, .ref wr, .ref pf, .ref rc, .ref se, .ref rs, .ref sw, .ref sp, .ref ss, .int ew, .long wc, .int tr, .int lf]))] s.heap := hP
  have hl := lv_entry ([.ref h0, .int f]) (n := 2) (Nat.le_of_ble_eq_true rfl)
  rw [lg_entry_eq]
  generalize (lg_sl ([.ref h0, .int f]) ++ List.replicate (2 - (lg_sl ([.ref h0, .int f])).length) Slot.unset).toArray = ls at hl ⊢
  have hl : lv_has ls 2 [(0, .ref h0), (1, .int f)] := hl
  refine lv_aload_n hx hb dX8_failWith_0 rfl (lv_at hl 0 rfl) ?_
  refine lv_iload_n hx hb dX8_failWith_1 rfl (lv_at hl 1 rfl) ?_
  refine va_put (D := D) (ci := 8) (v := .int f) (ty := .int) (C := RX8) (T := TX8) (N := 15) hx hb hts (fun _ h9 => List.mem_cons_of_mem _ (List.mem_append_right _ h9)) tyX8 tyX8_ok nmX8 hown hK hP hD hS 0 rfl rfl 14 (by decide) (hts (.fieldLink RX8 76 "FontRuns" "latestFault" "I") (by decide +kernel)) (fun _ h9 => h9) rfl (by decide +kernel) rfl rfl (Nat.le_of_ble_eq_true rfl) dX8_failWith_2 (fun H locs hP hD hS => ?_)
  have hP : va_P D vwCl [(h0, .inr (8, [.ref sh, .ref rd, .ref fr, .ref wr, .ref pf, .ref rc, .ref se, .ref rs, .ref sw, .ref sp, .ref ss, .int ew, .long wc, .int tr, .int f]))] H := hP
  have hD : va_D A [(h0, .inr (8, [.ref sh, .ref rd, .ref fr, .ref wr, .ref pf, .ref rc, .ref se, .ref rs, .ref sw, .ref sp, .ref ss, .int ew, .long wc, .int tr, .int f]))] := hD
  refine lv_bipush (v := (-10)) hx hb dX8_failWith_5 (by decide) ?_
  refine lv_iload_n hx hb dX8_failWith_7 rfl (lv_at hl 1 rfl) ?_
  refine lv_isub hx hb dX8_failWith_8 ?_
  exact W.iret (v := ((-10) - f)) hx hb hr (fun t ht hW => kQi_of rfl (hS.F ht)) hS.2.2 dX8_failWith_9
theorem kmany {k : Int32} (h : k.toInt < 0 ∨ 3 < k.toInt) : (-2 : Int32) = sp_many k := by
  have h0 : ¬ (k = 0 ∨ k = 1 ∨ k = 2 ∨ k = 3) := by
    rintro (rfl | rfl | rfl | rfl) <;> revert h <;> decide
  exact (if_neg h0).symm
