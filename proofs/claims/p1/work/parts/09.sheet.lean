theorem dX5_begin_0 : decode cX5_begin 0 = .ok (.iconst 0, 1) := by decide +kernel
theorem dX5_begin_1 : decode cX5_begin 1 = .ok (.istore_n 3, 1) := by decide +kernel
theorem dX5_begin_2 : decode cX5_begin 2 = .ok (.iload_n 3, 1) := by decide +kernel
theorem dX5_begin_3 : decode cX5_begin 3 = .ok (.bipush 60, 2) := by decide +kernel
theorem dX5_begin_5 : decode cX5_begin 5 = .ok (.if_icmp .ge 16, 3) := by decide +kernel
theorem dX5_begin_8 : decode cX5_begin 8 = .ok (.aload_n 0, 1) := by decide +kernel
theorem dX5_begin_9 : decode cX5_begin 9 = .ok (.getfield 9, 3) := by decide +kernel
theorem dX5_begin_12 : decode cX5_begin 12 = .ok (.iload_n 3, 1) := by decide +kernel
theorem dX5_begin_13 : decode cX5_begin 13 = .ok (.iconst 0, 1) := by decide +kernel
theorem dX5_begin_14 : decode cX5_begin 14 = .ok (.iastore, 1) := by decide +kernel
theorem dX5_begin_15 : decode cX5_begin 15 = .ok (.iinc 3 1, 3) := by decide +kernel
theorem dX5_begin_18 : decode cX5_begin 18 = .ok (.goto (-16), 3) := by decide +kernel
theorem dX5_begin_21 : decode cX5_begin 21 = .ok (.aload_n 0, 1) := by decide +kernel
theorem dX5_begin_22 : decode cX5_begin 22 = .ok (.iconst 1, 1) := by decide +kernel
theorem dX5_begin_23 : decode cX5_begin 23 = .ok (.putfield 15, 3) := by decide +kernel
theorem dX5_begin_26 : decode cX5_begin 26 = .ok (.aload_n 0, 1) := by decide +kernel
theorem dX5_begin_27 : decode cX5_begin 27 = .ok (.iload_n 1, 1) := by decide +kernel
theorem dX5_begin_28 : decode cX5_begin 28 = .ok (.putfield 19, 3) := by decide +kernel
theorem dX5_begin_31 : decode cX5_begin 31 = .ok (.aload_n 0, 1) := by decide +kernel
theorem dX5_begin_32 : decode cX5_begin 32 = .ok (.iload_n 2, 1) := by decide +kernel
theorem dX5_begin_33 : decode cX5_begin 33 = .ok (.putfield 23, 3) := by decide +kernel
theorem dX5_begin_36 : decode cX5_begin 36 = .ok (.return_, 1) := by decide +kernel
set_option maxHeartbeats 4000000 in
set_option maxRecDepth 100000 in
theorem c_X5_begin (l : Launch) (D : va_G) (sz : Nat) (la : Int32) (n : Int32) (h0 : Nat) (e0 : Nat) (th : Int32) (ln : Int32) (sz0 : Int32) (ce : ClassId) (f0 : Nat → Int32) : Met l yX5_begin wsX5_begin ({ frames := 0, cells := 0, slots := 0, locals := 0 }) (kPre [.ref h0, .int la, .int n] D [(h0, .inr (5, [.ref e0, .int th, .int ln, .int sz0])), (e0, .inl (ce, 60, .inl f0))] [(ce, .int)] sz) (kQvW D [] (va_A [(h0, .inr (5, [.ref e0, .int th, .int ln, .int sz0])), (e0, .inl (ce, 60, .inl f0))] sz)) 0 0 (va_A [(h0, .inr (5, [.ref e0, .int th, .int ln, .int sz0])), (e0, .inl (ce, 60, .inl f0))] sz) := by
  refine Met.ofW (cc := cX5_begin) (maxL := 4) (ret := none) (by decide) rfl ?_
  intro p e s m args below meth c s₁ B hml hv
  obtain ⟨rfl, hsz, hP, hK, hD0, hN⟩ := hv
  have hx := B.exec
  have hb := B.bytes
  have hr := B.returns
  have hts := atoms_spec (ws := wsX5_begin) B.pre
  have hown : s.vm.findClass RX5 = some m.cls := findClass_of_methodNamed B.named
  have hlocks := B.notSynchronized
  subst hsz
  have hD := hD0.self (sz := s.heap.size)
  generalize hAe : va_A [(h0, .inr (5, [.ref e0, .int th, .int ln, .int sz0])), (e0, .inl (ce, 60, .inl f0))] s.heap.size = A at hD ⊢
  have hA : ∀ q : Nat, s.heap.size ≤ q → A q := fun q h => by rw [← hAe]; exact Or.inr h
  have hS : va_S A s.heap s.heap [] := va_S.rf
  have hP : va_P D vwCl [(h0, .inr (5, [.ref e0, .int th, .int ln, .int sz0])), (e0, .inl (ce, 60, .inl f0))] s.heap := hP
  have hl := lv_entry ([.ref h0, .int la, .int n]) (n := 4) (Nat.le_of_ble_eq_true rfl)
  rw [lg_entry_eq]
  generalize (lg_sl ([.ref h0, .int la, .int n]) ++ List.replicate (4 - (lg_sl ([.ref h0, .int la, .int n])).length) Slot.unset).toArray = ls at hl ⊢
  have hl : lv_has ls 4 [(0, .ref h0), (1, .int la), (2, .int n)] := hl
  refine lv_iconst (v := 0) hx hb dX5_begin_0 (by decide) ?_
  refine lv_istore_n (lv' := [(3, .int 0), (0, .ref h0), (1, .int la), (2, .int n)]) hx hb dX5_begin_1 rfl hl (by decide) rfl (fun ls hl => ?_)
  refine k_loop (I := fun j H locs ls => ∃ f9 : Nat → Int32, va_P D vwCl [(h0, .inr (5, [.ref e0, .int th, .int ln, .int sz0])), (e0, .inl (ce, 60, .inl f9))] H ∧ va_D A [(h0, .inr (5, [.ref e0, .int th, .int ln, .int sz0])), (e0, .inl (ce, 60, .inl f9))] ∧ va_S A s.heap H locs ∧ lv_has ls 4 [(3, .int (nI j)), (0, .ref h0), (1, .int la), (2, .int n)]) 60 ?_ 0 (by decide) ⟨_, hP, hD, hS, by rw [nI_0]; exact hl⟩
  intro j hj ih H locs ls hI
  obtain ⟨f9, hP, hD, hS, hl⟩ := hI
  refine lv_iload_n hx hb dX5_begin_2 rfl (lv_at hl 0 rfl) ?_
  refine lv_bipush (v := 60) hx hb dX5_begin_3 (by decide) ?_
  refine lv_icmp_ge (tgt := 21) hx hb dX5_begin_5 (by decide) (fun c_1 => ?_) (fun c_1 => ?_)
  · refine lv_aload_n hx hb dX5_begin_21 rfl (lv_at hl 1 rfl) ?_
    refine lv_iconst (v := 1) hx hb dX5_begin_22 (by decide) ?_
    refine va_put (D := D) (ci := 5) (v := .int 1) (ty := .boolean) (C := RX5) (T := TX5) (N := 4) hx hb hts (fun _ h9 => List.mem_cons_of_mem _ (List.mem_append_right _ h9)) tyX5 tyX5_ok nmX5 hown hK hP hD hS 0 rfl rfl 1 (by decide) (hts (.fieldLink RX5 15 "FontRuns$Sheet" "isThere" "Z") (by decide +kernel)) (fun _ h9 => h9) rfl (by decide +kernel) rfl rfl (Nat.le_of_ble_eq_true rfl) dX5_begin_23 (fun H locs hP hD hS => ?_)
    have hP : va_P D vwCl [(h0, .inr (5, [.ref e0, .int 1, .int ln, .int sz0])), (e0, .inl (ce, 60, .inl f9))] H := hP
    have hD : va_D A [(h0, .inr (5, [.ref e0, .int 1, .int ln, .int sz0])), (e0, .inl (ce, 60, .inl f9))] := hD
    refine lv_aload_n hx hb dX5_begin_26 rfl (lv_at hl 1 rfl) ?_
    refine lv_iload_n hx hb dX5_begin_27 rfl (lv_at hl 2 rfl) ?_
    refine va_put (D := D) (ci := 5) (v := .int la) (ty := .int) (C := RX5) (T := TX5) (N := 4) hx hb hts (fun _ h9 => List.mem_cons_of_mem _ (List.mem_append_right _ h9)) tyX5 tyX5_ok nmX5 hown hK hP hD hS 0 rfl rfl 2 (by decide) (hts (.fieldLink RX5 19 "FontRuns$Sheet" "lane" "I") (by decide +kernel)) (fun _ h9 => h9) rfl (by decide +kernel) rfl rfl (Nat.le_of_ble_eq_true rfl) dX5_begin_28 (fun H locs hP hD hS => ?_)
    have hP : va_P D vwCl [(h0, .inr (5, [.ref e0, .int 1, .int la, .int sz0])), (e0, .inl (ce, 60, .inl f9))] H := hP
    have hD : va_D A [(h0, .inr (5, [.ref e0, .int 1, .int la, .int sz0])), (e0, .inl (ce, 60, .inl f9))] := hD
    refine lv_aload_n hx hb dX5_begin_31 rfl (lv_at hl 1 rfl) ?_
    refine lv_iload_n hx hb dX5_begin_32 rfl (lv_at hl 3 rfl) ?_
    refine va_put (D := D) (ci := 5) (v := .int n) (ty := .int) (C := RX5) (T := TX5) (N := 4) hx hb hts (fun _ h9 => List.mem_cons_of_mem _ (List.mem_append_right _ h9)) tyX5 tyX5_ok nmX5 hown hK hP hD hS 0 rfl rfl 3 (by decide) (hts (.fieldLink RX5 23 "FontRuns$Sheet" "size" "I") (by decide +kernel)) (fun _ h9 => h9) rfl (by decide +kernel) rfl rfl (Nat.le_of_ble_eq_true rfl) dX5_begin_33 (fun H locs hP hD hS => ?_)
    have hP : va_P D vwCl [(h0, .inr (5, [.ref e0, .int 1, .int la, .int n])), (e0, .inl (ce, 60, .inl f9))] H := hP
    have hD : va_D A [(h0, .inr (5, [.ref e0, .int 1, .int la, .int n])), (e0, .inl (ce, 60, .inl f9))] := hD
    have hP9 := hP.sub (ws' := []) [] rfl
    have hD9 := hD.sub (ws' := []) [] (by decide) rfl
    exact W.vret hx hb hr (fun t ht hW => kQvW_of (by rw [ht]; exact hP9) hD9 (hS.F ht)) hS.2.2 dX5_begin_36
  · refine lv_aload_n hx hb dX5_begin_8 rfl (lv_at hl 1 rfl) ?_
    refine va_get (D := D) (ci := 5) (v := .ref e0) (C := RX5) (T := TX5) (N := 4) hx hb hts (fun _ h9 => List.mem_cons_of_mem _ (List.mem_append_right _ h9)) hown hK hP 0 rfl rfl 0 (by decide) (hts (.fieldLink RX5 9 "FontRuns$Sheet" "cells" "[I") (by decide +kernel)) (fun _ h9 => h9) rfl dX5_begin_9 ?_
    refine lv_iload_n hx hb dX5_begin_12 rfl (lv_at hl 0 rfl) ?_
    refine lv_iconst (v := 0) hx hb dX5_begin_13 (by decide) ?_
    refine va_iast hx hb hK hP hD hS 1 0 rfl rfl (k60in c_1 hj) dX5_begin_14 (fun H locs hP hD hS => ?_)
    have hP : va_P D vwCl [(h0, .inr (5, [.ref e0, .int th, .int ln, .int sz0])), (e0, .inl (ce, 60, .inl (upd (f9) ((nI j)).toNatClampNeg 0)))] H := hP
    have hD : va_D A [(h0, .inr (5, [.ref e0, .int th, .int ln, .int sz0])), (e0, .inl (ce, 60, .inl (upd (f9) ((nI j)).toNatClampNeg 0)))] := hD
    generalize upd (f9) ((nI j)).toNatClampNeg 0 = f_2 at hP hD
    obtain ⟨x_3, ex_3⟩ : ∃ y : Int32, y = (nI j) + 1 := ⟨_, rfl⟩
    refine lv_iinc (v := x_3) (lv' := [(3, .int x_3), (0, .ref h0), (1, .int la), (2, .int n)]) hx hb dX5_begin_15 hl (k := 0) rfl (by rw [ex_3]; rfl) (by decide) rfl (fun ls hl => ?_)
    refine lv_goto (tgt := 2) hx hb dX5_begin_18 (by decide) ?_
    exact ih _ _ _ (klt60 c_1 hj) ⟨_, hP, hD, hS, by rw [← nI_1, ← ex_3]; exact lv_sub hl [0, 1, 2, 3] rfl⟩
theorem dX8_sheet_0 : decode cX8_sheet 0 = .ok (.aload_n 0, 1) := by decide +kernel
theorem dX8_sheet_1 : decode cX8_sheet 1 = .ok (.iconst 0, 1) := by decide +kernel
theorem dX8_sheet_2 : decode cX8_sheet 2 = .ok (.putfield 76, 3) := by decide +kernel
theorem dX8_sheet_5 : decode cX8_sheet 5 = .ok (.iload_n 1, 1) := by decide +kernel
theorem dX8_sheet_6 : decode cX8_sheet 6 = .ok (.invokestatic 80, 3) := by decide +kernel
theorem dX8_sheet_9 : decode cX8_sheet 9 = .ok (.ifCond .ne 5, 3) := by decide +kernel
theorem dX8_sheet_12 : decode cX8_sheet 12 = .ok (.iconst (-1), 1) := by decide +kernel
theorem dX8_sheet_13 : decode cX8_sheet 13 = .ok (.ireturn, 1) := by decide +kernel
theorem dX8_sheet_14 : decode cX8_sheet 14 = .ok (.iload_n 2, 1) := by decide +kernel
theorem dX8_sheet_15 : decode cX8_sheet 15 = .ok (.invokestatic 84, 3) := by decide +kernel
theorem dX8_sheet_18 : decode cX8_sheet 18 = .ok (.ifCond .eq 9, 3) := by decide +kernel
theorem dX8_sheet_21 : decode cX8_sheet 21 = .ok (.iload_n 3, 1) := by decide +kernel
theorem dX8_sheet_22 : decode cX8_sheet 22 = .ok (.bipush 60, 2) := by decide +kernel
theorem dX8_sheet_24 : decode cX8_sheet 24 = .ok (.if_icmp .le 6, 3) := by decide +kernel
theorem dX8_sheet_27 : decode cX8_sheet 27 = .ok (.bipush (-2), 2) := by decide +kernel
theorem dX8_sheet_29 : decode cX8_sheet 29 = .ok (.ireturn, 1) := by decide +kernel
theorem dX8_sheet_30 : decode cX8_sheet 30 = .ok (.iload_n 3, 1) := by decide +kernel
theorem dX8_sheet_31 : decode cX8_sheet 31 = .ok (.ifCond .ge 9, 3) := by decide +kernel
theorem dX8_sheet_34 : decode cX8_sheet 34 = .ok (.aload_n 0, 1) := by decide +kernel
theorem dX8_sheet_35 : decode cX8_sheet 35 = .ok (.iconst 4, 1) := by decide +kernel
theorem dX8_sheet_36 : decode cX8_sheet 36 = .ok (.invokevirtual 95, 3) := by decide +kernel
theorem dX8_sheet_39 : decode cX8_sheet 39 = .ok (.ireturn, 1) := by decide +kernel
theorem dX8_sheet_40 : decode cX8_sheet 40 = .ok (.aload_n 0, 1) := by decide +kernel
theorem dX8_sheet_41 : decode cX8_sheet 41 = .ok (.getfield 13, 3) := by decide +kernel
theorem dX8_sheet_44 : decode cX8_sheet 44 = .ok (.iload_n 1, 1) := by decide +kernel
theorem dX8_sheet_45 : decode cX8_sheet 45 = .ok (.aaload, 1) := by decide +kernel
theorem dX8_sheet_46 : decode cX8_sheet 46 = .ok (.iload_n 2, 1) := by decide +kernel
theorem dX8_sheet_47 : decode cX8_sheet 47 = .ok (.iload_n 3, 1) := by decide +kernel
theorem dX8_sheet_48 : decode cX8_sheet 48 = .ok (.invokevirtual 285, 3) := by decide +kernel
theorem dX8_sheet_51 : decode cX8_sheet 51 = .ok (.iconst 1, 1) := by decide +kernel
theorem dX8_sheet_52 : decode cX8_sheet 52 = .ok (.ireturn, 1) := by decide +kernel
set_option maxRecDepth 20000 in
theorem ggX8_sheet_X5_begin : GoodIn wsX8_sheet wsX5_begin := goodIn_r _ [21, 22, 23, 24, 25, 41, 42, 43, 44] (by decide +kernel) (by decide +kernel)
set_option maxRecDepth 20000 in
theorem gX8_sheet_X5_begin : GoodIn wsX8_sheet (wsV RX8 285 RX5 yX5_begin wsX5_begin) := goodIn_app (goodIn_of _ (by decide +kernel)) ggX8_sheet_X5_begin
set_option maxRecDepth 20000 in
theorem ggX8_sheet_X8_failWith : GoodIn wsX8_sheet wsX8_failWith := goodIn_r _ [16, 1, 26, 27, 28, 29, 30, 31, 32, 33, 34, 35, 36, 37, 38, 39, 40] (by decide +kernel) (by decide +kernel)
set_option maxRecDepth 20000 in
theorem gX8_sheet_X8_failWith : GoodIn wsX8_sheet (wsV RX8 95 RX8 yX8_failWith wsX8_failWith) := goodIn_app (goodIn_of _ (by decide +kernel)) ggX8_sheet_X8_failWith
set_option maxRecDepth 20000 in
theorem ggX8_sheet_X8_isLane : GoodIn wsX8_sheet wsX8_isLane := goodIn_r _ [12, 7, 8, 5, 9] (by decide +kernel) (by decide +kernel)
set_option maxRecDepth 20000 in
theorem gX8_sheet_X8_isLane : GoodIn wsX8_sheet (va_wsS RX8 84 yX8_isLane wsX8_isLane) := goodIn_app (goodIn_of _ (by decide +kernel)) ggX8_sheet_X8_isLane
set_option maxRecDepth 20000 in
theorem ggX8_sheet_X8_isSheet : GoodIn wsX8_sheet wsX8_isSheet := goodIn_r _ [6, 7, 8, 5, 9] (by decide +kernel) (by decide +kernel)
set_option maxRecDepth 20000 in
theorem gX8_sheet_X8_isSheet : GoodIn wsX8_sheet (va_wsS RX8 80 yX8_isSheet wsX8_isSheet) := goodIn_app (goodIn_of _ (by decide +kernel)) ggX8_sheet_X8_isSheet
set_option maxHeartbeats 4000000 in
set_option maxRecDepth 100000 in
theorem c_X8_sheet (l : Launch) (D : va_G) (sz : Nat) (k : Int32) (n : Int32) (z : Int32) (h0 : Nat) (sh : Nat) (rd : Nat) (fr : Nat) (wr : Nat) (pf : Nat) (rc : Nat) (se : Nat) (rs : Nat) (sw : Nat) (sp : Nat) (ss : Nat) (ew : Int32) (wc : Int64) (tr : Int32) (lf : Int32) (cS : ClassId) (s0 : Nat) (s1 : Nat) (s2 : Nat) (s3 : Nat) (e0 : Nat) (e1 : Nat) (e2 : Nat) (e3 : Nat) (ce0 : ClassId) (fe0 : Nat → Int32) (ce1 : ClassId) (fe1 : Nat → Int32) (ce2 : ClassId) (fe2 : Nat → Int32) (ce3 : ClassId) (fe3 : Nat → Int32) : Met l yX8_sheet wsX8_sheet ({ frames := 2, cells := 0, slots := 0, locals := 42 }) (kPre [.ref h0, .int k, .int n, .int z] D [(h0, .inr (8, [.ref sh, .ref rd, .ref fr, .ref wr, .ref pf, .ref rc, .ref se, .ref rs, .ref sw, .ref sp, .ref ss, .int ew, .long wc, .int tr, .int lf])), (sh, .inl (cS, 4, .inr (.inr (.inr (.inr (va_up (va_up (va_up (va_up (fun _ => none) 0 (some s0)) 1 (some s1)) 2 (some s2)) 3 (some s3))))))), (s0, .inr (5, [.ref e0, .int 0, .int 0, .int 0])), (s1, .inr (5, [.ref e1, .int 0, .int 0, .int 0])), (s2, .inr (5, [.ref e2, .int 0, .int 0, .int 0])), (s3, .inr (5, [.ref e3, .int 0, .int 0, .int 0])), (e0, .inl (ce0, 60, .inl fe0)), (e1, .inl (ce1, 60, .inl fe1)), (e2, .inl (ce2, 60, .inl fe2)), (e3, .inl (ce3, 60, .inl fe3))] [(cS, .object RX5), (ce0, .int), (ce1, .int), (ce2, .int), (ce3, .int)] sz) (kQi (sp_sheet k n z) (va_A [(h0, .inr (8, [.ref sh, .ref rd, .ref fr, .ref wr, .ref pf, .ref rc, .ref se, .ref rs, .ref sw, .ref sp, .ref ss, .int ew, .long wc, .int tr, .int lf])), (sh, .inl (cS, 4, .inr (.inr (.inr (.inr (va_up (va_up (va_up (va_up (fun _ => none) 0 (some s0)) 1 (some s1)) 2 (some s2)) 3 (some s3))))))), (s0, .inr (5, [.ref e0, .int 0, .int 0, .int 0])), (s1, .inr (5, [.ref e1, .int 0, .int 0, .int 0])), (s2, .inr (5, [.ref e2, .int 0, .int 0, .int 0])), (s3, .inr (5, [.ref e3, .int 0, .int 0, .int 0])), (e0, .inl (ce0, 60, .inl fe0)), (e1, .inl (ce1, 60, .inl fe1)), (e2, .inl (ce2, 60, .inl fe2)), (e3, .inl (ce3, 60, .inl fe3))] sz)) 0 0 (va_A [(h0, .inr (8, [.ref sh, .ref rd, .ref fr, .ref wr, .ref pf, .ref rc, .ref se, .ref rs, .ref sw, .ref sp, .ref ss, .int ew, .long wc, .int tr, .int lf])), (sh, .inl (cS, 4, .inr (.inr (.inr (.inr (va_up (va_up (va_up (va_up (fun _ => none) 0 (some s0)) 1 (some s1)) 2 (some s2)) 3 (some s3))))))), (s0, .inr (5, [.ref e0, .int 0, .int 0, .int 0])), (s1, .inr (5, [.ref e1, .int 0, .int 0, .int 0])), (s2, .inr (5, [.ref e2, .int 0, .int 0, .int 0])), (s3, .inr (5, [.ref e3, .int 0, .int 0, .int 0])), (e0, .inl (ce0, 60, .inl fe0)), (e1, .inl (ce1, 60, .inl fe1)), (e2, .inl (ce2, 60, .inl fe2)), (e3, .inl (ce3, 60, .inl fe3))] sz) := by
  refine Met.ofW (cc := cX8_sheet) (maxL := 4) (ret := (some .int)) (by decide) rfl ?_
  intro p e s m args below meth c s₁ B hml hv
  obtain ⟨rfl, hsz, hP, hK, hD0, hN⟩ := hv
  have hx := B.exec
  have hb := B.bytes
  have hr := B.returns
  have hts := atoms_spec (ws := wsX8_sheet) B.pre
  have hown : s.vm.findClass RX8 = some m.cls := findClass_of_methodNamed B.named
  have hlocks := B.notSynchronized
  subst hsz
  have hD := hD0.self (sz := s.heap.size)
  generalize hAe : va_A [(h0, .inr (8, [.ref sh, .ref rd, .ref fr, .ref wr, .ref pf, .ref rc, .ref se, .ref rs, .ref sw, .ref sp, .ref ss, .int ew, .long wc, .int tr, .int lf])), (sh, .inl (cS, 4, .inr (.inr (.inr (.inr (va_up (va_up (va_up (va_up (fun _ => none) 0 (some s0)) 1 (some s1)) 2 (some s2)) 3 (some s3))))))), (s0, .inr (5, [.ref e0, .int 0, .int 0, .int 0])), (s1, .inr (5, [.ref e1, .int 0, .int 0, .int 0])), (s2, .inr (5, [.ref e2, .int 0, .int 0, .int 0])), (s3, .inr (5, [.ref e3, .int 0, .int 0, .int 0])), (e0, .inl (ce0, 60, .inl fe0)), (e1, .inl (ce1, 60, .inl fe1)), (e2, .inl (ce2, 60, .inl fe2)), (e3, .inl (ce3, 60, .inl fe3))] s.heap.size = A at hD ⊢
  have hA : ∀ q : Nat, s.heap.size ≤ q → A q := fun q h => by rw [← hAe]; exact Or.inr h
  have hS : va_S A s.heap s.heap [] := va_S.rf
  have hP : va_P D vwCl [(h0, .inr (8, [.ref sh, .ref rd, .ref fr, .ref wr, .ref pf, .ref rc, .ref se, .ref rs, .ref sw, .ref sp, .ref ss, .int ew, .long wc, .int tr, .int lf])), (sh, .inl (cS, 4, .inr (.inr (.inr (.inr (va_up (va_up (va_up (va_up (fun _ => none) 0 (some s0)) 1 (some s1)) 2 (some s2)) 3 (some s3))))))), (s0, .inr (5, [.ref e0, .int 0, .int 0, .int 0])), (s1, .inr (5, [.ref e1, .int 0, .int 0, .int 0])), (s2, .inr (5, [.ref e2, .int 0, .int 0, .int 0])), (s3, .inr (5, [.ref e3, .int 0, .int 0, .int 0])), (e0, .inl (ce0, 60, .inl fe0)), (e1, .inl (ce1, 60, .inl fe1)), (e2, .inl (ce2, 60, .inl fe2)), (e3, .inl (ce3, 60, .inl fe3))] s.heap := hP
  have hl := lv_entry ([.ref h0, .int k, .int n, .int z]) (n := 4) (Nat.le_of_ble_eq_true rfl)
  rw [lg_entry_eq]
  generalize (lg_sl ([.ref h0, .int k, .int n, .int z]) ++ List.replicate (4 - (lg_sl ([.ref h0, .int k, .int n, .int z])).length) Slot.unset).toArray = ls at hl ⊢
  have hl : lv_has ls 4 [(0, .ref h0), (1, .int k), (2, .int n), (3, .int z)] := hl
  refine lv_aload_n hx hb dX8_sheet_0 rfl (lv_at hl 0 rfl) ?_
  refine lv_iconst (v := 0) hx hb dX8_sheet_1 (by decide) ?_
  refine va_put (D := D) (ci := 8) (v := .int 0) (ty := .int) (C := RX8) (T := TX8) (N := 15) hx hb hts (fun _ h9 => List.mem_cons_of_mem _ (List.mem_append_left _ (List.mem_append_right _ h9))) tyX8 tyX8_ok nmX8 hown hK hP hD hS 0 rfl rfl 14 (by decide) (hts (.fieldLink RX8 76 "FontRuns" "latestFault" "I") (by decide +kernel)) (fun _ h9 => h9) rfl (by decide +kernel) rfl rfl (Nat.le_of_ble_eq_true rfl) dX8_sheet_2 (fun H locs hP hD hS => ?_)
  have hP : va_P D vwCl [(h0, .inr (8, [.ref sh, .ref rd, .ref fr, .ref wr, .ref pf, .ref rc, .ref se, .ref rs, .ref sw, .ref sp, .ref ss, .int ew, .long wc, .int tr, .int 0])), (sh, .inl (cS, 4, .inr (.inr (.inr (.inr (va_up (va_up (va_up (va_up (fun _ => none) 0 (some s0)) 1 (some s1)) 2 (some s2)) 3 (some s3))))))), (s0, .inr (5, [.ref e0, .int 0, .int 0, .int 0])), (s1, .inr (5, [.ref e1, .int 0, .int 0, .int 0])), (s2, .inr (5, [.ref e2, .int 0, .int 0, .int 0])), (s3, .inr (5, [.ref e3, .int 0, .int 0, .int 0])), (e0, .inl (ce0, 60, .inl fe0)), (e1, .inl (ce1, 60, .inl fe1)), (e2, .inl (ce2, 60, .inl fe2)), (e3, .inl (ce3, 60, .inl fe3))] H := hP
  have hD : va_D A [(h0, .inr (8, [.ref sh, .ref rd, .ref fr, .ref wr, .ref pf, .ref rc, .ref se, .ref rs, .ref sw, .ref sp, .ref ss, .int ew, .long wc, .int tr, .int 0])), (sh, .inl (cS, 4, .inr (.inr (.inr (.inr (va_up (va_up (va_up (va_up (fun _ => none) 0 (some s0)) 1 (some s1)) 2 (some s2)) 3 (some s3))))))), (s0, .inr (5, [.ref e0, .int 0, .int 0, .int 0])), (s1, .inr (5, [.ref e1, .int 0, .int 0, .int 0])), (s2, .inr (5, [.ref e2, .int 0, .int 0, .int 0])), (s3, .inr (5, [.ref e3, .int 0, .int 0, .int 0])), (e0, .inl (ce0, 60, .inl fe0)), (e1, .inl (ce1, 60, .inl fe1)), (e2, .inl (ce2, 60, .inl fe2)), (e3, .inl (ce3, 60, .inl fe3))] := hD
  refine lv_iload_n hx hb dX8_sheet_5 rfl (lv_at hl 1 rfl) ?_
  refine k_callR (va_runS (As := [.int k]) (rest := []) ⟨hx, hb, hml, hown, hts⟩ (c_X8_isSheet l D H.size (k := k)) (va_cwS 1 hts gX8_sheet_X8_isSheet rfl rfl rfl (by decide +kernel) ⟨Nat.le_of_ble_eq_true rfl, Nat.le_of_ble_eq_true rfl⟩) (kPreS hP (kD0 hD) hK hN [] [] rfl rfl (by decide)) rfl rfl hl.1 rfl (lv_room (Nat.le_of_ble_eq_true rfl)) dX8_sheet_6 ⟨Nat.le_of_ble_eq_true rfl, Nat.le_of_ble_eq_true rfl⟩) ?_
  refine lv_if_ne (tgt := 14) hx hb dX8_sheet_9 (by decide) (fun c_1 => ?_) (fun c_1 => ?_)
  · have k_2 : (0 ≤ k ∧ k ≤ 3) := b01t c_1
    refine lv_iload_n hx hb dX8_sheet_14 rfl (lv_at hl 2 rfl) ?_
    refine k_callR (va_runS (As := [.int n]) (rest := []) ⟨hx, hb, hml, hown, hts⟩ (c_X8_isLane l D H.size (k := n)) (va_cwS 1 hts gX8_sheet_X8_isLane rfl rfl rfl (by decide +kernel) ⟨Nat.le_of_ble_eq_true rfl, Nat.le_of_ble_eq_true rfl⟩) (kPreS hP (kD0 hD) hK hN [] [] rfl rfl (by decide)) rfl rfl hl.1 rfl (lv_room (Nat.le_of_ble_eq_true rfl)) dX8_sheet_15 ⟨Nat.le_of_ble_eq_true rfl, Nat.le_of_ble_eq_true rfl⟩) ?_
    refine lv_if_eq (tgt := 27) hx hb dX8_sheet_18 (by decide) (fun c_3 => ?_) (fun c_3 => ?_)
    · have k_4 : ¬ ((0 ≤ n ∧ n ≤ 2)) := b01f c_3
      refine lv_bipush (v := (-2)) hx hb dX8_sheet_27 (by decide) ?_
      exact W.iret (v := (-2)) hx hb hr (fun t ht hW => kQi_of (by simp only [sp_sheet, if_pos k_2, if_neg k_4]) (hS.F ht)) hS.2.2 dX8_sheet_29
    · have k_5 : (0 ≤ n ∧ n ≤ 2) := b01t c_3
      refine lv_iload_n hx hb dX8_sheet_21 rfl (lv_at hl 3 rfl) ?_
      refine lv_bipush (v := 60) hx hb dX8_sheet_22 (by decide) ?_
      refine lv_icmp_le (tgt := 30) hx hb dX8_sheet_24 (by decide) (fun c_6 => ?_) (fun c_6 => ?_)
      · refine lv_iload_n hx hb dX8_sheet_30 rfl (lv_at hl 3 rfl) ?_
        refine lv_if_ge (tgt := 40) hx hb dX8_sheet_31 (by decide) (fun c_7 => ?_) (fun c_7 => ?_)
        · refine lv_aload_n hx hb dX8_sheet_40 rfl (lv_at hl 0 rfl) ?_
          refine va_get (D := D) (ci := 8) (v := .ref sh) (C := RX8) (T := TX8) (N := 15) hx hb hts (fun _ h9 => List.mem_cons_of_mem _ (List.mem_append_left _ (List.mem_append_right _ h9))) hown hK hP 0 rfl rfl 0 (by decide) (hts (.fieldLink RX8 13 "FontRuns" "sheets" "[LFontRuns$Sheet;") (by decide +kernel)) (fun _ h9 => h9) rfl dX8_sheet_41 ?_
          refine lv_iload_n hx hb dX8_sheet_44 rfl (lv_at hl 1 rfl) ?_
          refine va_aldq hx hb hK hP 1 0 rfl rfl (k4in k_2) dX8_sheet_45 ?_
          rcases (k4 k_2) with e9 | e9 | e9 | e9
          · subst e9
            refine kn_v (.ref s0) rfl ?_
            refine lv_iload_n hx hb dX8_sheet_46 rfl (lv_at hl 2 rfl) ?_
            refine lv_iload_n hx hb dX8_sheet_47 rfl (lv_at hl 3 rfl) ?_
            have hFc := va_free (wc := [(s0, .inr (5, [.ref e0, .int 0, .int 0, .int 0])), (e0, .inl (ce0, 60, .inl fe0))]) hD hS hA [2, 6] rfl
            refine va_callv (va_runV (As := [.int n, .int z]) (rest := []) ⟨hx, hb, hml, hown, hts⟩ (c_X5_begin l D H.size (la := n) (n := z) (h0 := s0) (e0 := e0) (th := 0) (ln := 0) (sz0 := 0) (ce := ce0) (f0 := fe0)) (cwV 2 hts gX8_sheet_X5_begin rfl rfl rfl (by decide +kernel) ⟨Nat.le_of_ble_eq_true rfl, Nat.le_of_ble_eq_true rfl⟩) (kPreV hP (kD0 hD) hK hN [2, 6] [1] rfl rfl (by decide) 2 5 rfl rfl) rfl rfl hl.1 rfl (lv_room (Nat.le_of_ble_eq_true rfl)) dX8_sheet_48 ⟨Nat.le_of_ble_eq_true rfl, Nat.le_of_ble_eq_true rfl⟩) hS (fun q _ h => hFc q h) hFc (fun  u t H1 locs ht hvm hw hB hz1 hk1 hS => ?_)
            obtain ⟨hP1, hD1⟩ := hB
            rw [ht] at hP1
            obtain ⟨hP, hD⟩ := va_join (wr := [(h0, .inr (8, [.ref sh, .ref rd, .ref fr, .ref wr, .ref pf, .ref rc, .ref se, .ref rs, .ref sw, .ref sp, .ref ss, .int ew, .long wc, .int tr, .int 0])), (sh, .inl (cS, 4, .inr (.inr (.inr (.inr (va_up (va_up (va_up (va_up (fun _ => none) 0 (some s0)) 1 (some s1)) 2 (some s2)) 3 (some s3))))))), (s1, .inr (5, [.ref e1, .int 0, .int 0, .int 0])), (s2, .inr (5, [.ref e2, .int 0, .int 0, .int 0])), (s3, .inr (5, [.ref e3, .int 0, .int 0, .int 0])), (e1, .inl (ce1, 60, .inl fe1)), (e2, .inl (ce2, 60, .inl fe2)), (e3, .inl (ce3, 60, .inl fe3))]) (w1 := []) hP hD [2, 6] [0, 1, 3, 4, 5, 7, 8, 9] rfl rfl (by decide) (by decide) hk1 hFc hP1 hD1
            generalize H1 = H at hP hS ⊢
            have hP : va_P D vwCl [(h0, .inr (8, [.ref sh, .ref rd, .ref fr, .ref wr, .ref pf, .ref rc, .ref se, .ref rs, .ref sw, .ref sp, .ref ss, .int ew, .long wc, .int tr, .int 0])), (sh, .inl (cS, 4, .inr (.inr (.inr (.inr (va_up (va_up (va_up (va_up (fun _ => none) 0 (some s0)) 1 (some s1)) 2 (some s2)) 3 (some s3))))))), (s1, .inr (5, [.ref e1, .int 0, .int 0, .int 0])), (s2, .inr (5, [.ref e2, .int 0, .int 0, .int 0])), (s3, .inr (5, [.ref e3, .int 0, .int 0, .int 0])), (e1, .inl (ce1, 60, .inl fe1)), (e2, .inl (ce2, 60, .inl fe2)), (e3, .inl (ce3, 60, .inl fe3))] H := hP
            have hD : va_D A [(h0, .inr (8, [.ref sh, .ref rd, .ref fr, .ref wr, .ref pf, .ref rc, .ref se, .ref rs, .ref sw, .ref sp, .ref ss, .int ew, .long wc, .int tr, .int 0])), (sh, .inl (cS, 4, .inr (.inr (.inr (.inr (va_up (va_up (va_up (va_up (fun _ => none) 0 (some s0)) 1 (some s1)) 2 (some s2)) 3 (some s3))))))), (s1, .inr (5, [.ref e1, .int 0, .int 0, .int 0])), (s2, .inr (5, [.ref e2, .int 0, .int 0, .int 0])), (s3, .inr (5, [.ref e3, .int 0, .int 0, .int 0])), (e1, .inl (ce1, 60, .inl fe1)), (e2, .inl (ce2, 60, .inl fe2)), (e3, .inl (ce3, 60, .inl fe3))] := hD
            refine lv_iconst (v := 1) hx hb dX8_sheet_51 (by decide) ?_
            exact W.iret (v := 1) hx hb hr (fun t ht hW => kQi_of (by simp only [sp_sheet, if_pos k_2, if_pos k_5, if_pos c_6, if_pos c_7]) (hS.F ht)) hS.2.2 dX8_sheet_52
          · subst e9
            refine kn_v (.ref s1) rfl ?_
            refine lv_iload_n hx hb dX8_sheet_46 rfl (lv_at hl 2 rfl) ?_
            refine lv_iload_n hx hb dX8_sheet_47 rfl (lv_at hl 3 rfl) ?_
            have hFc := va_free (wc := [(s1, .inr (5, [.ref e1, .int 0, .int 0, .int 0])), (e1, .inl (ce1, 60, .inl fe1))]) hD hS hA [3, 7] rfl
            refine va_callv (va_runV (As := [.int n, .int z]) (rest := []) ⟨hx, hb, hml, hown, hts⟩ (c_X5_begin l D H.size (la := n) (n := z) (h0 := s1) (e0 := e1) (th := 0) (ln := 0) (sz0 := 0) (ce := ce1) (f0 := fe1)) (cwV 2 hts gX8_sheet_X5_begin rfl rfl rfl (by decide +kernel) ⟨Nat.le_of_ble_eq_true rfl, Nat.le_of_ble_eq_true rfl⟩) (kPreV hP (kD0 hD) hK hN [3, 7] [2] rfl rfl (by decide) 3 5 rfl rfl) rfl rfl hl.1 rfl (lv_room (Nat.le_of_ble_eq_true rfl)) dX8_sheet_48 ⟨Nat.le_of_ble_eq_true rfl, Nat.le_of_ble_eq_true rfl⟩) hS (fun q _ h => hFc q h) hFc (fun  u t H1 locs ht hvm hw hB hz1 hk1 hS => ?_)
            obtain ⟨hP1, hD1⟩ := hB
            rw [ht] at hP1
            obtain ⟨hP, hD⟩ := va_join (wr := [(h0, .inr (8, [.ref sh, .ref rd, .ref fr, .ref wr, .ref pf, .ref rc, .ref se, .ref rs, .ref sw, .ref sp, .ref ss, .int ew, .long wc, .int tr, .int 0])), (sh, .inl (cS, 4, .inr (.inr (.inr (.inr (va_up (va_up (va_up (va_up (fun _ => none) 0 (some s0)) 1 (some s1)) 2 (some s2)) 3 (some s3))))))), (s0, .inr (5, [.ref e0, .int 0, .int 0, .int 0])), (s2, .inr (5, [.ref e2, .int 0, .int 0, .int 0])), (s3, .inr (5, [.ref e3, .int 0, .int 0, .int 0])), (e0, .inl (ce0, 60, .inl fe0)), (e2, .inl (ce2, 60, .inl fe2)), (e3, .inl (ce3, 60, .inl fe3))]) (w1 := []) hP hD [3, 7] [0, 1, 2, 4, 5, 6, 8, 9] rfl rfl (by decide) (by decide) hk1 hFc hP1 hD1
            generalize H1 = H at hP hS ⊢
            have hP : va_P D vwCl [(h0, .inr (8, [.ref sh, .ref rd, .ref fr, .ref wr, .ref pf, .ref rc, .ref se, .ref rs, .ref sw, .ref sp, .ref ss, .int ew, .long wc, .int tr, .int 0])), (sh, .inl (cS, 4, .inr (.inr (.inr (.inr (va_up (va_up (va_up (va_up (fun _ => none) 0 (some s0)) 1 (some s1)) 2 (some s2)) 3 (some s3))))))), (s0, .inr (5, [.ref e0, .int 0, .int 0, .int 0])), (s2, .inr (5, [.ref e2, .int 0, .int 0, .int 0])), (s3, .inr (5, [.ref e3, .int 0, .int 0, .int 0])), (e0, .inl (ce0, 60, .inl fe0)), (e2, .inl (ce2, 60, .inl fe2)), (e3, .inl (ce3, 60, .inl fe3))] H := hP
            have hD : va_D A [(h0, .inr (8, [.ref sh, .ref rd, .ref fr, .ref wr, .ref pf, .ref rc, .ref se, .ref rs, .ref sw, .ref sp, .ref ss, .int ew, .long wc, .int tr, .int 0])), (sh, .inl (cS, 4, .inr (.inr (.inr (.inr (va_up (va_up (va_up (va_up (fun _ => none) 0 (some s0)) 1 (some s1)) 2 (some s2)) 3 (some s3))))))), (s0, .inr (5, [.ref e0, .int 0, .int 0, .int 0])), (s2, .inr (5, [.ref e2, .int 0, .int 0, .int 0])), (s3, .inr (5, [.ref e3, .int 0, .int 0, .int 0])), (e0, .inl (ce0, 60, .inl fe0)), (e2, .inl (ce2, 60, .inl fe2)), (e3, .inl (ce3, 60, .inl fe3))] := hD
            refine lv_iconst (v := 1) hx hb dX8_sheet_51 (by decide) ?_
            exact W.iret (v := 1) hx hb hr (fun t ht hW => kQi_of (by simp only [sp_sheet, if_pos k_2, if_pos k_5, if_pos c_6, if_pos c_7]) (hS.F ht)) hS.2.2 dX8_sheet_52
          · subst e9
            refine kn_v (.ref s2) rfl ?_
            refine lv_iload_n hx hb dX8_sheet_46 rfl (lv_at hl 2 rfl) ?_
            refine lv_iload_n hx hb dX8_sheet_47 rfl (lv_at hl 3 rfl) ?_
            have hFc := va_free (wc := [(s2, .inr (5, [.ref e2, .int 0, .int 0, .int 0])), (e2, .inl (ce2, 60, .inl fe2))]) hD hS hA [4, 8] rfl
            refine va_callv (va_runV (As := [.int n, .int z]) (rest := []) ⟨hx, hb, hml, hown, hts⟩ (c_X5_begin l D H.size (la := n) (n := z) (h0 := s2) (e0 := e2) (th := 0) (ln := 0) (sz0 := 0) (ce := ce2) (f0 := fe2)) (cwV 2 hts gX8_sheet_X5_begin rfl rfl rfl (by decide +kernel) ⟨Nat.le_of_ble_eq_true rfl, Nat.le_of_ble_eq_true rfl⟩) (kPreV hP (kD0 hD) hK hN [4, 8] [3] rfl rfl (by decide) 4 5 rfl rfl) rfl rfl hl.1 rfl (lv_room (Nat.le_of_ble_eq_true rfl)) dX8_sheet_48 ⟨Nat.le_of_ble_eq_true rfl, Nat.le_of_ble_eq_true rfl⟩) hS (fun q _ h => hFc q h) hFc (fun  u t H1 locs ht hvm hw hB hz1 hk1 hS => ?_)
            obtain ⟨hP1, hD1⟩ := hB
            rw [ht] at hP1
            obtain ⟨hP, hD⟩ := va_join (wr := [(h0, .inr (8, [.ref sh, .ref rd, .ref fr, .ref wr, .ref pf, .ref rc, .ref se, .ref rs, .ref sw, .ref sp, .ref ss, .int ew, .long wc, .int tr, .int 0])), (sh, .inl (cS, 4, .inr (.inr (.inr (.inr (va_up (va_up (va_up (va_up (fun _ => none) 0 (some s0)) 1 (some s1)) 2 (some s2)) 3 (some s3))))))), (s0, .inr (5, [.ref e0, .int 0, .int 0, .int 0])), (s1, .inr (5, [.ref e1, .int 0, .int 0, .int 0])), (s3, .inr (5, [.ref e3, .int 0, .int 0, .int 0])), (e0, .inl (ce0, 60, .inl fe0)), (e1, .inl (ce1, 60, .inl fe1)), (e3, .inl (ce3, 60, .inl fe3))]) (w1 := []) hP hD [4, 8] [0, 1, 2, 3, 5, 6, 7, 9] rfl rfl (by decide) (by decide) hk1 hFc hP1 hD1
            generalize H1 = H at hP hS ⊢
            have hP : va_P D vwCl [(h0, .inr (8, [.ref sh, .ref rd, .ref fr, .ref wr, .ref pf, .ref rc, .ref se, .ref rs, .ref sw, .ref sp, .ref ss, .int ew, .long wc, .int tr, .int 0])), (sh, .inl (cS, 4, .inr (.inr (.inr (.inr (va_up (va_up (va_up (va_up (fun _ => none) 0 (some s0)) 1 (some s1)) 2 (some s2)) 3 (some s3))))))), (s0, .inr (5, [.ref e0, .int 0, .int 0, .int 0])), (s1, .inr (5, [.ref e1, .int 0, .int 0, .int 0])), (s3, .inr (5, [.ref e3, .int 0, .int 0, .int 0])), (e0, .inl (ce0, 60, .inl fe0)), (e1, .inl (ce1, 60, .inl fe1)), (e3, .inl (ce3, 60, .inl fe3))] H := hP
            have hD : va_D A [(h0, .inr (8, [.ref sh, .ref rd, .ref fr, .ref wr, .ref pf, .ref rc, .ref se, .ref rs, .ref sw, .ref sp, .ref ss, .int ew, .long wc, .int tr, .int 0])), (sh, .inl (cS, 4, .inr (.inr (.inr (.inr (va_up (va_up (va_up (va_up (fun _ => none) 0 (some s0)) 1 (some s1)) 2 (some s2)) 3 (some s3))))))), (s0, .inr (5, [.ref e0, .int 0, .int 0, .int 0])), (s1, .inr (5, [.ref e1, .int 0, .int 0, .int 0])), (s3, .inr (5, [.ref e3, .int 0, .int 0, .int 0])), (e0, .inl (ce0, 60, .inl fe0)), (e1, .inl (ce1, 60, .inl fe1)), (e3, .inl (ce3, 60, .inl fe3))] := hD
            refine lv_iconst (v := 1) hx hb dX8_sheet_51 (by decide) ?_
            exact W.iret (v := 1) hx hb hr (fun t ht hW => kQi_of (by simp only [sp_sheet, if_pos k_2, if_pos k_5, if_pos c_6, if_pos c_7]) (hS.F ht)) hS.2.2 dX8_sheet_52
          · subst e9
            refine kn_v (.ref s3) rfl ?_
            refine lv_iload_n hx hb dX8_sheet_46 rfl (lv_at hl 2 rfl) ?_
            refine lv_iload_n hx hb dX8_sheet_47 rfl (lv_at hl 3 rfl) ?_
            have hFc := va_free (wc := [(s3, .inr (5, [.ref e3, .int 0, .int 0, .int 0])), (e3, .inl (ce3, 60, .inl fe3))]) hD hS hA [5, 9] rfl
            refine va_callv (va_runV (As := [.int n, .int z]) (rest := []) ⟨hx, hb, hml, hown, hts⟩ (c_X5_begin l D H.size (la := n) (n := z) (h0 := s3) (e0 := e3) (th := 0) (ln := 0) (sz0 := 0) (ce := ce3) (f0 := fe3)) (cwV 2 hts gX8_sheet_X5_begin rfl rfl rfl (by decide +kernel) ⟨Nat.le_of_ble_eq_true rfl, Nat.le_of_ble_eq_true rfl⟩) (kPreV hP (kD0 hD) hK hN [5, 9] [4] rfl rfl (by decide) 5 5 rfl rfl) rfl rfl hl.1 rfl (lv_room (Nat.le_of_ble_eq_true rfl)) dX8_sheet_48 ⟨Nat.le_of_ble_eq_true rfl, Nat.le_of_ble_eq_true rfl⟩) hS (fun q _ h => hFc q h) hFc (fun  u t H1 locs ht hvm hw hB hz1 hk1 hS => ?_)
            obtain ⟨hP1, hD1⟩ := hB
            rw [ht] at hP1
            obtain ⟨hP, hD⟩ := va_join (wr := [(h0, .inr (8, [.ref sh, .ref rd, .ref fr, .ref wr, .ref pf, .ref rc, .ref se, .ref rs, .ref sw, .ref sp, .ref ss, .int ew, .long wc, .int tr, .int 0])), (sh, .inl (cS, 4, .inr (.inr (.inr (.inr (va_up (va_up (va_up (va_up (fun _ => none) 0 (some s0)) 1 (some s1)) 2 (some s2)) 3 (some s3))))))), (s0, .inr (5, [.ref e0, .int 0, .int 0, .int 0])), (s1, .inr (5, [.ref e1, .int 0, .int 0, .int 0])), (s2, .inr (5, [.ref e2, .int 0, .int 0, .int 0])), (e0, .inl (ce0, 60, .inl fe0)), (e1, .inl (ce1, 60, .inl fe1)), (e2, .inl (ce2, 60, .inl fe2))]) (w1 := []) hP hD [5, 9] [0, 1, 2, 3, 4, 6, 7, 8] rfl rfl (by decide) (by decide) hk1 hFc hP1 hD1
            generalize H1 = H at hP hS ⊢
            have hP : va_P D vwCl [(h0, .inr (8, [.ref sh, .ref rd, .ref fr, .ref wr, .ref pf, .ref rc, .ref se, .ref rs, .ref sw, .ref sp, .ref ss, .int ew, .long wc, .int tr, .int 0])), (sh, .inl (cS, 4, .inr (.inr (.inr (.inr (va_up (va_up (va_up (va_up (fun _ => none) 0 (some s0)) 1 (some s1)) 2 (some s2)) 3 (some s3))))))), (s0, .inr (5, [.ref e0, .int 0, .int 0, .int 0])), (s1, .inr (5, [.ref e1, .int 0, .int 0, .int 0])), (s2, .inr (5, [.ref e2, .int 0, .int 0, .int 0])), (e0, .inl (ce0, 60, .inl fe0)), (e1, .inl (ce1, 60, .inl fe1)), (e2, .inl (ce2, 60, .inl fe2))] H := hP
            have hD : va_D A [(h0, .inr (8, [.ref sh, .ref rd, .ref fr, .ref wr, .ref pf, .ref rc, .ref se, .ref rs, .ref sw, .ref sp, .ref ss, .int ew, .long wc, .int tr, .int 0])), (sh, .inl (cS, 4, .inr (.inr (.inr (.inr (va_up (va_up (va_up (va_up (fun _ => none) 0 (some s0)) 1 (some s1)) 2 (some s2)) 3 (some s3))))))), (s0, .inr (5, [.ref e0, .int 0, .int 0, .int 0])), (s1, .inr (5, [.ref e1, .int 0, .int 0, .int 0])), (s2, .inr (5, [.ref e2, .int 0, .int 0, .int 0])), (e0, .inl (ce0, 60, .inl fe0)), (e1, .inl (ce1, 60, .inl fe1)), (e2, .inl (ce2, 60, .inl fe2))] := hD
            refine lv_iconst (v := 1) hx hb dX8_sheet_51 (by decide) ?_
            exact W.iret (v := 1) hx hb hr (fun t ht hW => kQi_of (by simp only [sp_sheet, if_pos k_2, if_pos k_5, if_pos c_6, if_pos c_7]) (hS.F ht)) hS.2.2 dX8_sheet_52
        · refine lv_aload_n hx hb dX8_sheet_34 rfl (lv_at hl 0 rfl) ?_
          refine lv_iconst (v := 4) hx hb dX8_sheet_35 (by decide) ?_
          have hFc := va_free (wc := [(h0, .inr (8, [.ref sh, .ref rd, .ref fr, .ref wr, .ref pf, .ref rc, .ref se, .ref rs, .ref sw, .ref sp, .ref ss, .int ew, .long wc, .int tr, .int 0]))]) hD hS hA [0] rfl
          refine va_calli (va_runV (As := [.int 4]) (rest := []) ⟨hx, hb, hml, hown, hts⟩ (c_X8_failWith l D H.size (f := 4) (h0 := h0) (sh := sh) (rd := rd) (fr := fr) (wr := wr) (pf := pf) (rc := rc) (se := se) (rs := rs) (sw := sw) (sp := sp) (ss := ss) (ew := ew) (wc := wc) (tr := tr) (lf := 0)) (cwV 1 hts gX8_sheet_X8_failWith rfl rfl rfl (by decide +kernel) ⟨Nat.le_of_ble_eq_true rfl, Nat.le_of_ble_eq_true rfl⟩) (kPreV hP (kD0 hD) hK hN [0] [] rfl rfl (by decide) 0 8 rfl rfl) rfl rfl hl.1 rfl (lv_room (Nat.le_of_ble_eq_true rfl)) dX8_sheet_36 ⟨Nat.le_of_ble_eq_true rfl, Nat.le_of_ble_eq_true rfl⟩) hS (fun q _ h => hFc q h) hFc (fun r_8 u t H1 locs ht hvm hw hB hz1 hk1 hS => ?_)
          obtain ⟨hP, hD⟩ := va_join (wr := [(sh, .inl (cS, 4, .inr (.inr (.inr (.inr (va_up (va_up (va_up (va_up (fun _ => none) 0 (some s0)) 1 (some s1)) 2 (some s2)) 3 (some s3))))))), (s0, .inr (5, [.ref e0, .int 0, .int 0, .int 0])), (s1, .inr (5, [.ref e1, .int 0, .int 0, .int 0])), (s2, .inr (5, [.ref e2, .int 0, .int 0, .int 0])), (s3, .inr (5, [.ref e3, .int 0, .int 0, .int 0])), (e0, .inl (ce0, 60, .inl fe0)), (e1, .inl (ce1, 60, .inl fe1)), (e2, .inl (ce2, 60, .inl fe2)), (e3, .inl (ce3, 60, .inl fe3))]) (w1 := []) hP hD [0] [1, 2, 3, 4, 5, 6, 7, 8, 9] rfl rfl (by decide) (by decide) hk1 hFc kP0 kDn
          generalize H1 = H at hP hS ⊢
          have hP : va_P D vwCl [(sh, .inl (cS, 4, .inr (.inr (.inr (.inr (va_up (va_up (va_up (va_up (fun _ => none) 0 (some s0)) 1 (some s1)) 2 (some s2)) 3 (some s3))))))), (s0, .inr (5, [.ref e0, .int 0, .int 0, .int 0])), (s1, .inr (5, [.ref e1, .int 0, .int 0, .int 0])), (s2, .inr (5, [.ref e2, .int 0, .int 0, .int 0])), (s3, .inr (5, [.ref e3, .int 0, .int 0, .int 0])), (e0, .inl (ce0, 60, .inl fe0)), (e1, .inl (ce1, 60, .inl fe1)), (e2, .inl (ce2, 60, .inl fe2)), (e3, .inl (ce3, 60, .inl fe3))] H := hP
          have hD : va_D A [(sh, .inl (cS, 4, .inr (.inr (.inr (.inr (va_up (va_up (va_up (va_up (fun _ => none) 0 (some s0)) 1 (some s1)) 2 (some s2)) 3 (some s3))))))), (s0, .inr (5, [.ref e0, .int 0, .int 0, .int 0])), (s1, .inr (5, [.ref e1, .int 0, .int 0, .int 0])), (s2, .inr (5, [.ref e2, .int 0, .int 0, .int 0])), (s3, .inr (5, [.ref e3, .int 0, .int 0, .int 0])), (e0, .inl (ce0, 60, .inl fe0)), (e1, .inl (ce1, 60, .inl fe1)), (e2, .inl (ce2, 60, .inl fe2)), (e3, .inl (ce3, 60, .inl fe3))] := hD
          refine kn_i ((-10) - 4) hw ?_
          refine kn_i (-14) (by decide) ?_
          exact W.iret (v := (-14)) hx hb hr (fun t ht hW => kQi_of (by simp only [sp_sheet, if_pos k_2, if_pos k_5, if_pos c_6, if_neg c_7]) (hS.F ht)) hS.2.2 dX8_sheet_39
      · refine lv_bipush (v := (-2)) hx hb dX8_sheet_27 (by decide) ?_
        exact W.iret (v := (-2)) hx hb hr (fun t ht hW => kQi_of (by simp only [sp_sheet, if_pos k_2, if_pos k_5, if_neg c_6]) (hS.F ht)) hS.2.2 dX8_sheet_29
  · have k_9 : ¬ ((0 ≤ k ∧ k ≤ 3)) := b01f c_1
    refine lv_iconst (v := (-1)) hx hb dX8_sheet_12 (by decide) ?_
    exact W.iret (v := (-1)) hx hb hr (fun t ht hW => kQi_of (by simp only [sp_sheet, if_neg k_9]) (hS.F ht)) hS.2.2 dX8_sheet_13
