set_option maxRecDepth 20000 in
theorem mw_X0_takeFrom_w_0 : (.fieldLink RX0 21 "FontRuns$FontRow" "count" "I" : Cond) ∈ wsX0_takeFrom := List.mem_cons_of_mem _ (List.mem_append_left _ (List.mem_of_getElem? (i := 0) rfl))
set_option maxRecDepth 20000 in
theorem mw_X0_takeFrom_w_1 : (.fieldLink RX0 9 "FontRuns$FontRow" "kind" "[I" : Cond) ∈ wsX0_takeFrom := List.mem_cons_of_mem _ (List.mem_append_left _ (List.mem_of_getElem? (i := 1) rfl))
set_option maxRecDepth 20000 in
theorem mw_X0_takeFrom_w_2 : (.fieldLink RX0 15 "FontRuns$FontRow" "breadth" "[I" : Cond) ∈ wsX0_takeFrom := List.mem_cons_of_mem _ (List.mem_append_left _ (List.mem_of_getElem? (i := 2) rfl))
set_option maxRecDepth 20000 in
theorem mw_X0_takeFrom_w_3 : (.fieldLink RX0 18 "FontRuns$FontRow" "has" "[I" : Cond) ∈ wsX0_takeFrom := List.mem_cons_of_mem _ (List.mem_append_left _ (List.mem_of_getElem? (i := 3) rfl))
theorem ax_X0_takeFrom_w_0 {e0 e1 e2 e3 e4 e5 e6 e7 : Nat × va_E} : ([0, 1, 2, 3, 4, 5, 6, 7] : List Nat).map (fun i => ([e0, e1, e2, e3, e4, e5, e6, e7] : va_W)[i]?) = ([e0, e1, e2, e3, e4, e5, e6, e7] : va_W).map some := rfl
set_option maxHeartbeats 4000000 in
set_option maxRecDepth 100000 in
theorem c_X0_takeFrom_w (l : Launch) (D : va_G) (sz : Nat) (h1 : Nat) (h0 : Nat) (k1 : Nat) (k2 : Nat) (k3 : Nat) (n : Int) (ck1 : ClassId) (fk : Nat → Int32) (ck2 : ClassId) (fb : Nat → Int32) (ck3 : ClassId) (fh : Nat → Int32) (m1 : Nat) (m2 : Nat) (m3 : Nat) (n2 : Int) (cm1 : ClassId) (gk : Nat → Int32) (cm2 : ClassId) (gb : Nat → Int32) (cm3 : ClassId) (gh : Nat → Int32) (q0 : 0 ≤ n2 ∧ n2 ≤ 4) : Met l yX0_takeFrom wsX0_takeFrom ({ frames := 0, cells := 0, slots := 0, locals := 0 }) (kPre [.ref h0, .ref h1] D [(h0, .inr (0, [.ref k1, .ref k2, .ref k3, .int (zI n)])), (k1, .inl (ck1, 4, .inl fk)), (k2, .inl (ck2, 4, .inl fb)), (k3, .inl (ck3, 4, .inl fh)), (h1, .inr (0, [.ref m1, .ref m2, .ref m3, .int (zI n2)])), (m1, .inl (cm1, 4, .inl gk)), (m2, .inl (cm2, 4, .inl gb)), (m3, .inl (cm3, 4, .inl gh))] [(ck1, .int), (ck2, .int), (ck3, .int), (cm1, .int), (cm2, .int), (cm3, .int)] sz) (kQV (fun t => ∃ (un : Int) (uk : Nat → Int32) (ub : Nat → Int32) (uh : Nat → Int32), (un = n2) ∧ (kEq uk gk 4) ∧ (kEq ub gb 4) ∧ (kEq uh gh 4) ∧ va_P D vwCl [(h0, .inr (0, [.ref k1, .ref k2, .ref k3, .int (zI un)])), (k1, .inl (ck1, 4, .inl uk)), (k2, .inl (ck2, 4, .inl ub)), (k3, .inl (ck3, 4, .inl uh)), (h1, .inr (0, [.ref m1, .ref m2, .ref m3, .int (zI n2)])), (m1, .inl (cm1, 4, .inl gk)), (m2, .inl (cm2, 4, .inl gb)), (m3, .inl (cm3, 4, .inl gh))] t.heap ∧ va_D (va_A [(h0, .inr (0, [.ref k1, .ref k2, .ref k3, .int (zI n)])), (k1, .inl (ck1, 4, .inl fk)), (k2, .inl (ck2, 4, .inl fb)), (k3, .inl (ck3, 4, .inl fh)), (h1, .inr (0, [.ref m1, .ref m2, .ref m3, .int (zI n2)])), (m1, .inl (cm1, 4, .inl gk)), (m2, .inl (cm2, 4, .inl gb)), (m3, .inl (cm3, 4, .inl gh))] sz) [(h0, .inr (0, [.ref k1, .ref k2, .ref k3, .int (zI un)])), (k1, .inl (ck1, 4, .inl uk)), (k2, .inl (ck2, 4, .inl ub)), (k3, .inl (ck3, 4, .inl uh)), (h1, .inr (0, [.ref m1, .ref m2, .ref m3, .int (zI n2)])), (m1, .inl (cm1, 4, .inl gk)), (m2, .inl (cm2, 4, .inl gb)), (m3, .inl (cm3, 4, .inl gh))]) (va_A [(h0, .inr (0, [.ref k1, .ref k2, .ref k3, .int (zI n)])), (k1, .inl (ck1, 4, .inl fk)), (k2, .inl (ck2, 4, .inl fb)), (k3, .inl (ck3, 4, .inl fh)), (h1, .inr (0, [.ref m1, .ref m2, .ref m3, .int (zI n2)])), (m1, .inl (cm1, 4, .inl gk)), (m2, .inl (cm2, 4, .inl gb)), (m3, .inl (cm3, 4, .inl gh))] sz)) 0 0 (va_A [(h0, .inr (0, [.ref k1, .ref k2, .ref k3, .int (zI n)])), (k1, .inl (ck1, 4, .inl fk)), (k2, .inl (ck2, 4, .inl fb)), (k3, .inl (ck3, 4, .inl fh)), (h1, .inr (0, [.ref m1, .ref m2, .ref m3, .int (zI n2)])), (m1, .inl (cm1, 4, .inl gk)), (m2, .inl (cm2, 4, .inl gb)), (m3, .inl (cm3, 4, .inl gh))] sz) := by
  refine Met.ofW (cc := cX0_takeFrom) (maxL := 3) (ret := none) (by decide) rfl ?_
  intro p e s m args below meth c s₁ B hml hv
  obtain ⟨rfl, hsz, hP, hK, hD0, hN⟩ := hv
  have hx := B.exec
  have hb := B.bytes
  have hr := B.returns
  have hts := atoms_spec (ws := wsX0_takeFrom) B.pre
  have hown : s.vm.findClass RX0 = some m.cls := findClass_of_methodNamed B.named
  have hlocks := B.notSynchronized
  subst hsz
  have hD := hD0.self (sz := s.heap.size)
  generalize hAe : va_A [(h0, .inr (0, [.ref k1, .ref k2, .ref k3, .int (zI n)])), (k1, .inl (ck1, 4, .inl fk)), (k2, .inl (ck2, 4, .inl fb)), (k3, .inl (ck3, 4, .inl fh)), (h1, .inr (0, [.ref m1, .ref m2, .ref m3, .int (zI n2)])), (m1, .inl (cm1, 4, .inl gk)), (m2, .inl (cm2, 4, .inl gb)), (m3, .inl (cm3, 4, .inl gh))] s.heap.size = A at hD ⊢
  have hA : ∀ q : Nat, s.heap.size ≤ q → A q := fun q h => by rw [← hAe]; exact Or.inr h
  have hS : va_S A s.heap s.heap [] := va_S.rf
  have hP : va_P D vwCl [(h0, .inr (0, [.ref k1, .ref k2, .ref k3, .int (zI n)])), (k1, .inl (ck1, 4, .inl fk)), (k2, .inl (ck2, 4, .inl fb)), (k3, .inl (ck3, 4, .inl fh)), (h1, .inr (0, [.ref m1, .ref m2, .ref m3, .int (zI n2)])), (m1, .inl (cm1, 4, .inl gk)), (m2, .inl (cm2, 4, .inl gb)), (m3, .inl (cm3, 4, .inl gh))] s.heap := hP
  have hl := lv_entry ([.ref h0, .ref h1]) (n := 3) (Nat.le_of_ble_eq_true rfl)
  rw [lg_entry_eq]
  generalize (lg_sl ([.ref h0, .ref h1]) ++ List.replicate (3 - (lg_sl ([.ref h0, .ref h1])).length) Slot.unset).toArray = ls at hl ⊢
  have hl : lv_has ls 3 [(0, .ref h0), (1, .ref h1)] := hl
  refine lv_aload_n hx hb dX0_takeFrom_0 rfl (lv_at hl 0 rfl) ?_
  refine lv_aload_n hx hb dX0_takeFrom_1 rfl (lv_at hl 1 rfl) ?_
  refine va_get (D := D) (ci := 0) (v := .int (zI n2)) (C := RX0) (T := TX0) (N := 4) hx hb hts (fun _ h9 => List.mem_cons_of_mem _ (List.mem_append_right _ h9)) hown hK hP 4 rfl rfl 3 (by decide) (hts (.fieldLink RX0 21 "FontRuns$FontRow" "count" "I") mw_X0_takeFrom_w_0) (fun _ h9 => h9) rfl dX0_takeFrom_2 ?_
  refine va_put (D := D) (ci := 0) (v := .int (zI n2)) (ty := .int) (C := RX0) (T := TX0) (N := 4) hx hb hts (fun _ h9 => List.mem_cons_of_mem _ (List.mem_append_right _ h9)) tyX0 tyX0_ok nmX0 hown hK hP hD hS 0 rfl rfl 3 (by decide) (hts (.fieldLink RX0 21 "FontRuns$FontRow" "count" "I") mw_X0_takeFrom_w_0) (fun _ h9 => h9) rfl (by decide +kernel) rfl rfl (Nat.le_of_ble_eq_true rfl) dX0_takeFrom_5 (fun H locs hP hD hS => ?_)
  have hP : va_P D vwCl [(h0, .inr (0, [.ref k1, .ref k2, .ref k3, .int (zI n2)])), (k1, .inl (ck1, 4, .inl fk)), (k2, .inl (ck2, 4, .inl fb)), (k3, .inl (ck3, 4, .inl fh)), (h1, .inr (0, [.ref m1, .ref m2, .ref m3, .int (zI n2)])), (m1, .inl (cm1, 4, .inl gk)), (m2, .inl (cm2, 4, .inl gb)), (m3, .inl (cm3, 4, .inl gh))] H := hP
  have hD : va_D A [(h0, .inr (0, [.ref k1, .ref k2, .ref k3, .int (zI n2)])), (k1, .inl (ck1, 4, .inl fk)), (k2, .inl (ck2, 4, .inl fb)), (k3, .inl (ck3, 4, .inl fh)), (h1, .inr (0, [.ref m1, .ref m2, .ref m3, .int (zI n2)])), (m1, .inl (cm1, 4, .inl gk)), (m2, .inl (cm2, 4, .inl gb)), (m3, .inl (cm3, 4, .inl gh))] := hD
  refine lv_iconst (v := zI 0) hx hb dX0_takeFrom_8 rfl ?_
  refine lv_istore_n (lv' := [(2, .int (zI 0)), (0, .ref h0), (1, .ref h1)]) hx hb dX0_takeFrom_9 rfl hl (by decide) rfl (fun ls hl => ?_)
  refine k_loopM (I := fun n9 H locs ls => ∃ (jk : Int) (ja : Nat → Int32) (jb : Nat → Int32) (jc : Nat → Int32), n9 = (4 - jk).toNat ∧ (0 ≤ jk ∧ jk ≤ 4) ∧ (kEq ja gk jk) ∧ (kEq jb gb jk) ∧ (kEq jc gh jk) ∧ va_P D vwCl [(h0, .inr (0, [.ref k1, .ref k2, .ref k3, .int (zI n2)])), (k1, .inl (ck1, 4, .inl ja)), (k2, .inl (ck2, 4, .inl jb)), (k3, .inl (ck3, 4, .inl jc)), (h1, .inr (0, [.ref m1, .ref m2, .ref m3, .int (zI n2)])), (m1, .inl (cm1, 4, .inl gk)), (m2, .inl (cm2, 4, .inl gb)), (m3, .inl (cm3, 4, .inl gh))] H ∧ va_D A [(h0, .inr (0, [.ref k1, .ref k2, .ref k3, .int (zI n2)])), (k1, .inl (ck1, 4, .inl ja)), (k2, .inl (ck2, 4, .inl jb)), (k3, .inl (ck3, 4, .inl jc)), (h1, .inr (0, [.ref m1, .ref m2, .ref m3, .int (zI n2)])), (m1, .inl (cm1, 4, .inl gk)), (m2, .inl (cm2, 4, .inl gb)), (m3, .inl (cm3, 4, .inl gh))] ∧ va_S A s.heap H locs ∧ lv_has ls 3 [(2, .int (zI jk)), (0, .ref h0), (1, .ref h1)]) ?_ _ ⟨0, fk, fb, fh, rfl, (by omega), kEq_0, kEq_0, kEq_0, hP, hD, hS, hl⟩
  intro n10 ih10 H locs ls hI
  obtain ⟨jk, ja, jb, jc, en10, v_100, v_101, v_102, v_103, hP, hD, hS, hl⟩ := hI
  refine lv_iload_n hx hb dX0_takeFrom_10 rfl (lv_at hl 0 rfl) ?_
  refine lv_iconst (v := zI 4) hx hb dX0_takeFrom_11 rfl ?_
  refine kz_icmp_ge (tgt := 57) hx hb dX0_takeFrom_12 (by decide) (by omega) (by omega) (fun c_1 => ?_) (fun c_1 => ?_)
  · have hP9 := hP.sub (ws' := [(h0, .inr (0, [.ref k1, .ref k2, .ref k3, .int (zI n2)])), (k1, .inl (ck1, 4, .inl ja)), (k2, .inl (ck2, 4, .inl jb)), (k3, .inl (ck3, 4, .inl jc)), (h1, .inr (0, [.ref m1, .ref m2, .ref m3, .int (zI n2)])), (m1, .inl (cm1, 4, .inl gk)), (m2, .inl (cm2, 4, .inl gb)), (m3, .inl (cm3, 4, .inl gh))]) [0, 1, 2, 3, 4, 5, 6, 7] rfl
    have hD9 := hD.sub (ws' := [(h0, .inr (0, [.ref k1, .ref k2, .ref k3, .int (zI n2)])), (k1, .inl (ck1, 4, .inl ja)), (k2, .inl (ck2, 4, .inl jb)), (k3, .inl (ck3, 4, .inl jc)), (h1, .inr (0, [.ref m1, .ref m2, .ref m3, .int (zI n2)])), (m1, .inl (cm1, 4, .inl gk)), (m2, .inl (cm2, 4, .inl gb)), (m3, .inl (cm3, 4, .inl gh))]) [0, 1, 2, 3, 4, 5, 6, 7] (by decide +kernel) rfl
    exact W.vret hx hb hr (fun t ht hW => kQV_of ⟨n2, ja, jb, jc, (by omega), (kEq_le v_101 (by omega)), (kEq_le v_102 (by omega)), (kEq_le v_103 (by omega)), by rw [ht]; exact hP9, hD9⟩ (hS.F ht)) hS.2.2 dX0_takeFrom_57
  · refine lv_aload_n hx hb dX0_takeFrom_15 rfl (lv_at hl 1 rfl) ?_
    refine va_get (D := D) (ci := 0) (v := .ref k1) (C := RX0) (T := TX0) (N := 4) hx hb hts (fun _ h9 => List.mem_cons_of_mem _ (List.mem_append_right _ h9)) hown hK hP 0 rfl rfl 0 (by decide) (hts (.fieldLink RX0 9 "FontRuns$FontRow" "kind" "[I") mw_X0_takeFrom_w_1) (fun _ h9 => h9) rfl dX0_takeFrom_16 ?_
    refine lv_iload_n hx hb dX0_takeFrom_19 rfl (lv_at hl 0 rfl) ?_
    refine lv_aload_n hx hb dX0_takeFrom_20 rfl (lv_at hl 2 rfl) ?_
    refine va_get (D := D) (ci := 0) (v := .ref m1) (C := RX0) (T := TX0) (N := 4) hx hb hts (fun _ h9 => List.mem_cons_of_mem _ (List.mem_append_right _ h9)) hown hK hP 4 rfl rfl 0 (by decide) (hts (.fieldLink RX0 9 "FontRuns$FontRow" "kind" "[I") mw_X0_takeFrom_w_1) (fun _ h9 => h9) rfl dX0_takeFrom_21 ?_
    refine lv_iload_n hx hb dX0_takeFrom_24 rfl (lv_at hl 0 rfl) ?_
    refine kz_iald hx hb hK hP 5 3 rfl rfl (by omega) dX0_takeFrom_25 (fun z_2 rz_2 ez_2 => ?_)
    refine kz_iast hx hb hK hP hD hS 1 0 rfl rfl (by omega) dX0_takeFrom_26 (fun H locs hP hD hS => ?_)
    have hP : va_P D vwCl [(h0, .inr (0, [.ref k1, .ref k2, .ref k3, .int (zI n2)])), (k1, .inl (ck1, 4, .inl (upd ja (jk).toNat (zI z_2)))), (k2, .inl (ck2, 4, .inl jb)), (k3, .inl (ck3, 4, .inl jc)), (h1, .inr (0, [.ref m1, .ref m2, .ref m3, .int (zI n2)])), (m1, .inl (cm1, 4, .inl gk)), (m2, .inl (cm2, 4, .inl gb)), (m3, .inl (cm3, 4, .inl gh))] H := hP
    have hD : va_D A [(h0, .inr (0, [.ref k1, .ref k2, .ref k3, .int (zI n2)])), (k1, .inl (ck1, 4, .inl (upd ja (jk).toNat (zI z_2)))), (k2, .inl (ck2, 4, .inl jb)), (k3, .inl (ck3, 4, .inl jc)), (h1, .inr (0, [.ref m1, .ref m2, .ref m3, .int (zI n2)])), (m1, .inl (cm1, 4, .inl gk)), (m2, .inl (cm2, 4, .inl gb)), (m3, .inl (cm3, 4, .inl gh))] := hD
    generalize ef_3 : upd ja (jk).toNat (zI z_2) = f_3 at hP hD
    refine lv_aload_n hx hb dX0_takeFrom_27 rfl (lv_at hl 1 rfl) ?_
    refine va_get (D := D) (ci := 0) (v := .ref k2) (C := RX0) (T := TX0) (N := 4) hx hb hts (fun _ h9 => List.mem_cons_of_mem _ (List.mem_append_right _ h9)) hown hK hP 0 rfl rfl 1 (by decide) (hts (.fieldLink RX0 15 "FontRuns$FontRow" "breadth" "[I") mw_X0_takeFrom_w_2) (fun _ h9 => h9) rfl dX0_takeFrom_28 ?_
    refine lv_iload_n hx hb dX0_takeFrom_31 rfl (lv_at hl 0 rfl) ?_
    refine lv_aload_n hx hb dX0_takeFrom_32 rfl (lv_at hl 2 rfl) ?_
    refine va_get (D := D) (ci := 0) (v := .ref m2) (C := RX0) (T := TX0) (N := 4) hx hb hts (fun _ h9 => List.mem_cons_of_mem _ (List.mem_append_right _ h9)) hown hK hP 4 rfl rfl 1 (by decide) (hts (.fieldLink RX0 15 "FontRuns$FontRow" "breadth" "[I") mw_X0_takeFrom_w_2) (fun _ h9 => h9) rfl dX0_takeFrom_33 ?_
    refine lv_iload_n hx hb dX0_takeFrom_36 rfl (lv_at hl 0 rfl) ?_
    refine kz_iald hx hb hK hP 6 4 rfl rfl (by omega) dX0_takeFrom_37 (fun z_4 rz_4 ez_4 => ?_)
    refine kz_iast hx hb hK hP hD hS 2 1 rfl rfl (by omega) dX0_takeFrom_38 (fun H locs hP hD hS => ?_)
    have hP : va_P D vwCl [(h0, .inr (0, [.ref k1, .ref k2, .ref k3, .int (zI n2)])), (k1, .inl (ck1, 4, .inl f_3)), (k2, .inl (ck2, 4, .inl (upd jb (jk).toNat (zI z_4)))), (k3, .inl (ck3, 4, .inl jc)), (h1, .inr (0, [.ref m1, .ref m2, .ref m3, .int (zI n2)])), (m1, .inl (cm1, 4, .inl gk)), (m2, .inl (cm2, 4, .inl gb)), (m3, .inl (cm3, 4, .inl gh))] H := hP
    have hD : va_D A [(h0, .inr (0, [.ref k1, .ref k2, .ref k3, .int (zI n2)])), (k1, .inl (ck1, 4, .inl f_3)), (k2, .inl (ck2, 4, .inl (upd jb (jk).toNat (zI z_4)))), (k3, .inl (ck3, 4, .inl jc)), (h1, .inr (0, [.ref m1, .ref m2, .ref m3, .int (zI n2)])), (m1, .inl (cm1, 4, .inl gk)), (m2, .inl (cm2, 4, .inl gb)), (m3, .inl (cm3, 4, .inl gh))] := hD
    generalize ef_5 : upd jb (jk).toNat (zI z_4) = f_5 at hP hD
    refine lv_aload_n hx hb dX0_takeFrom_39 rfl (lv_at hl 1 rfl) ?_
    refine va_get (D := D) (ci := 0) (v := .ref k3) (C := RX0) (T := TX0) (N := 4) hx hb hts (fun _ h9 => List.mem_cons_of_mem _ (List.mem_append_right _ h9)) hown hK hP 0 rfl rfl 2 (by decide) (hts (.fieldLink RX0 18 "FontRuns$FontRow" "has" "[I") mw_X0_takeFrom_w_3) (fun _ h9 => h9) rfl dX0_takeFrom_40 ?_
    refine lv_iload_n hx hb dX0_takeFrom_43 rfl (lv_at hl 0 rfl) ?_
    refine lv_aload_n hx hb dX0_takeFrom_44 rfl (lv_at hl 2 rfl) ?_
    refine va_get (D := D) (ci := 0) (v := .ref m3) (C := RX0) (T := TX0) (N := 4) hx hb hts (fun _ h9 => List.mem_cons_of_mem _ (List.mem_append_right _ h9)) hown hK hP 4 rfl rfl 2 (by decide) (hts (.fieldLink RX0 18 "FontRuns$FontRow" "has" "[I") mw_X0_takeFrom_w_3) (fun _ h9 => h9) rfl dX0_takeFrom_45 ?_
    refine lv_iload_n hx hb dX0_takeFrom_48 rfl (lv_at hl 0 rfl) ?_
    refine kz_iald hx hb hK hP 7 5 rfl rfl (by omega) dX0_takeFrom_49 (fun z_6 rz_6 ez_6 => ?_)
    refine kz_iast hx hb hK hP hD hS 3 2 rfl rfl (by omega) dX0_takeFrom_50 (fun H locs hP hD hS => ?_)
    have hP : va_P D vwCl [(h0, .inr (0, [.ref k1, .ref k2, .ref k3, .int (zI n2)])), (k1, .inl (ck1, 4, .inl f_3)), (k2, .inl (ck2, 4, .inl f_5)), (k3, .inl (ck3, 4, .inl (upd jc (jk).toNat (zI z_6)))), (h1, .inr (0, [.ref m1, .ref m2, .ref m3, .int (zI n2)])), (m1, .inl (cm1, 4, .inl gk)), (m2, .inl (cm2, 4, .inl gb)), (m3, .inl (cm3, 4, .inl gh))] H := hP
    have hD : va_D A [(h0, .inr (0, [.ref k1, .ref k2, .ref k3, .int (zI n2)])), (k1, .inl (ck1, 4, .inl f_3)), (k2, .inl (ck2, 4, .inl f_5)), (k3, .inl (ck3, 4, .inl (upd jc (jk).toNat (zI z_6)))), (h1, .inr (0, [.ref m1, .ref m2, .ref m3, .int (zI n2)])), (m1, .inl (cm1, 4, .inl gk)), (m2, .inl (cm2, 4, .inl gb)), (m3, .inl (cm3, 4, .inl gh))] := hD
    generalize ef_7 : upd jc (jk).toNat (zI z_6) = f_7 at hP hD
    refine lv_iinc (v := (zI (jk + 1))) (lv' := [(2, .int (zI (jk + 1))), (0, .ref h0), (1, .ref h1)]) hx hb dX0_takeFrom_51 hl (k := 0) rfl (kz_inc _ 1) (by decide) rfl (fun ls hl => ?_)
    refine lv_goto (tgt := 10) hx hb dX0_takeFrom_54 (by decide) ?_
    exact ih10 _ (by omega) _ _ _ ⟨(jk + 1), f_3, f_5, f_7, rfl, (by omega), (kEq_s v_101 (by omega) ez_2 ef_3), (kEq_s v_102 (by omega) ez_4 ef_5), (kEq_s v_103 (by omega) ez_6 ef_7), hP, hD, hS, lv_sub hl [0, 1, 2] rfl⟩
set_option maxRecDepth 20000 in
theorem mw_X1_begin_w_0 : (.methodLink RX1 15 Lib.Math.min.name : Cond) ∈ wsX1_begin := List.mem_cons_of_mem _ (List.mem_append_left _ (List.mem_of_getElem? (i := 0) rfl))
set_option maxRecDepth 20000 in
theorem mw_X1_begin_w_1 : (.static Lib.Math.min.name : Cond) ∈ wsX1_begin := List.mem_cons_of_mem _ (List.mem_append_left _ (List.mem_of_getElem? (i := 1) rfl))
set_option maxRecDepth 20000 in
theorem mw_X1_begin_w_2 : (.initialized "java/lang/Math" : Cond) ∈ wsX1_begin := List.mem_cons_of_mem _ (List.mem_append_left _ (List.mem_of_getElem? (i := 2) rfl))
set_option maxRecDepth 20000 in
theorem mw_X1_begin_w_3 : (.code Lib.Math.min.name Lib.Math.min.code 2 (some .int) : Cond) ∈ wsX1_begin := List.mem_cons_of_mem _ (List.mem_append_left _ (List.mem_of_getElem? (i := 3) rfl))
set_option maxRecDepth 20000 in
theorem mw_X1_begin_w_4 : (.fieldLink RX1 21 "FontRuns$Preference" "count" "I" : Cond) ∈ wsX1_begin := List.mem_cons_of_mem _ (List.mem_append_left _ (List.mem_of_getElem? (i := 4) rfl))
set_option maxRecDepth 20000 in
theorem mw_X1_begin_w_5 : (.fieldLink RX1 9 "FontRuns$Preference" "row" "[I" : Cond) ∈ wsX1_begin := List.mem_cons_of_mem _ (List.mem_append_left _ (List.mem_of_getElem? (i := 5) rfl))
theorem ax_X1_begin_w_0 {e0 e1 : Nat × va_E} : ([0, 1] : List Nat).map (fun i => ([e0, e1] : va_W)[i]?) = ([e0, e1] : va_W).map some := rfl
set_option maxHeartbeats 4000000 in
set_option maxRecDepth 100000 in
theorem c_X1_begin_w (l : Launch) (D : va_G) (sz : Nat) (k : Int) (h0 : Nat) (r1 : Nat) (n : Int) (cr1 : ClassId) (fr : Nat → Int32) (q0 : 0 ≤ k ∧ k ≤ 4) (q1 : kPr fr) : Met l yX1_begin wsX1_begin ({ frames := 1, cells := 0, slots := 0, locals := 21 }) (kPre [.ref h0, .int (zI k)] D [(h0, .inr (1, [.ref r1, .int (zI n)])), (r1, .inl (cr1, 4, .inl fr))] [(cr1, .int)] sz) (kQV (fun t => ∃ (un : Int) (uf : Nat → Int32), (0 ≤ un ∧ un ≤ 4) ∧ (kPr uf) ∧ (un = k) ∧ (kId uf k) ∧ va_P D vwCl [(h0, .inr (1, [.ref r1, .int (zI un)])), (r1, .inl (cr1, 4, .inl uf))] t.heap ∧ va_D (va_A [(h0, .inr (1, [.ref r1, .int (zI n)])), (r1, .inl (cr1, 4, .inl fr))] sz) [(h0, .inr (1, [.ref r1, .int (zI un)])), (r1, .inl (cr1, 4, .inl uf))]) (va_A [(h0, .inr (1, [.ref r1, .int (zI n)])), (r1, .inl (cr1, 4, .inl fr))] sz)) 0 0 (va_A [(h0, .inr (1, [.ref r1, .int (zI n)])), (r1, .inl (cr1, 4, .inl fr))] sz) := by
  refine Met.ofW (cc := cX1_begin) (maxL := 3) (ret := none) (by decide) rfl ?_
  intro p e s m args below meth c s₁ B hml hv
  obtain ⟨rfl, hsz, hP, hK, hD0, hN⟩ := hv
  have hx := B.exec
  have hb := B.bytes
  have hr := B.returns
  have hts := atoms_spec (ws := wsX1_begin) B.pre
  have hown : s.vm.findClass RX1 = some m.cls := findClass_of_methodNamed B.named
  have hlocks := B.notSynchronized
  subst hsz
  have hD := hD0.self (sz := s.heap.size)
  generalize hAe : va_A [(h0, .inr (1, [.ref r1, .int (zI n)])), (r1, .inl (cr1, 4, .inl fr))] s.heap.size = A at hD ⊢
  have hA : ∀ q : Nat, s.heap.size ≤ q → A q := fun q h => by rw [← hAe]; exact Or.inr h
  have hS : va_S A s.heap s.heap [] := va_S.rf
  have hP : va_P D vwCl [(h0, .inr (1, [.ref r1, .int (zI n)])), (r1, .inl (cr1, 4, .inl fr))] s.heap := hP
  have hl := lv_entry ([.ref h0, .int (zI k)]) (n := 3) (Nat.le_of_ble_eq_true rfl)
  rw [lg_entry_eq]
  generalize (lg_sl ([.ref h0, .int (zI k)]) ++ List.replicate (3 - (lg_sl ([.ref h0, .int (zI k)])).length) Slot.unset).toArray = ls at hl ⊢
  have hl : lv_has ls 3 [(0, .ref h0), (1, .int (zI k))] := hl
  refine lv_aload_n hx hb dX1_begin_0 rfl (lv_at hl 0 rfl) ?_
  refine lv_iload_n hx hb dX1_begin_1 rfl (lv_at hl 1 rfl) ?_
  refine lv_iconst (v := zI 4) hx hb dX1_begin_2 rfl ?_
  refine kz_min hx hb (by rw [hml]; exact hl.1.symm) hown (hts (.methodLink RX1 15 Lib.Math.min.name) mw_X1_begin_w_0) (hts (.static Lib.Math.min.name) mw_X1_begin_w_1) (hts (.initialized "java/lang/Math") mw_X1_begin_w_2) (hts (.code Lib.Math.min.name Lib.Math.min.code 2 (some .int)) mw_X1_begin_w_3) (Nat.le_of_ble_eq_true rfl) (Nat.le_of_ble_eq_true rfl) (Nat.le_of_ble_eq_true rfl) (Nat.le_of_ble_eq_true rfl) (by omega) (by omega) dX1_begin_3 (fun z_1 rz_1 ez_1 => ?_)
  refine va_put (D := D) (ci := 1) (v := .int (zI z_1)) (ty := .int) (C := RX1) (T := TX1) (N := 2) hx hb hts (fun _ h9 => List.mem_cons_of_mem _ (List.mem_append_right _ h9)) tyX1 tyX1_ok nmX1 hown hK hP hD hS 0 rfl rfl 1 (by decide) (hts (.fieldLink RX1 21 "FontRuns$Preference" "count" "I") mw_X1_begin_w_4) (fun _ h9 => h9) rfl (by decide +kernel) rfl rfl (Nat.le_of_ble_eq_true rfl) dX1_begin_6 (fun H locs hP hD hS => ?_)
  have hP : va_P D vwCl [(h0, .inr (1, [.ref r1, .int (zI z_1)])), (r1, .inl (cr1, 4, .inl fr))] H := hP
  have hD : va_D A [(h0, .inr (1, [.ref r1, .int (zI z_1)])), (r1, .inl (cr1, 4, .inl fr))] := hD
  refine lv_iconst (v := zI 0) hx hb dX1_begin_9 rfl ?_
  refine lv_istore_n (lv' := [(2, .int (zI 0)), (0, .ref h0), (1, .int (zI k))]) hx hb dX1_begin_10 rfl hl (by decide) rfl (fun ls hl => ?_)
  refine k_loopM (I := fun n9 H locs ls => ∃ (jk : Int) (ja : Nat → Int32), n9 = (4 - jk).toNat ∧ (0 ≤ jk ∧ jk ≤ 4) ∧ (kPr ja) ∧ (kId ja jk) ∧ va_P D vwCl [(h0, .inr (1, [.ref r1, .int (zI z_1)])), (r1, .inl (cr1, 4, .inl ja))] H ∧ va_D A [(h0, .inr (1, [.ref r1, .int (zI z_1)])), (r1, .inl (cr1, 4, .inl ja))] ∧ va_S A s.heap H locs ∧ lv_has ls 3 [(2, .int (zI jk)), (0, .ref h0), (1, .int (zI k))]) ?_ _ ⟨0, fr, rfl, (by omega), q1, kId_0, hP, hD, hS, hl⟩
  intro n11 ih11 H locs ls hI
  obtain ⟨jk, ja, en11, v_110, v_111, v_112, hP, hD, hS, hl⟩ := hI
  refine lv_iload_n hx hb dX1_begin_11 rfl (lv_at hl 0 rfl) ?_
  refine lv_aload_n hx hb dX1_begin_12 rfl (lv_at hl 1 rfl) ?_
  refine va_get (D := D) (ci := 1) (v := .int (zI z_1)) (C := RX1) (T := TX1) (N := 2) hx hb hts (fun _ h9 => List.mem_cons_of_mem _ (List.mem_append_right _ h9)) hown hK hP 0 rfl rfl 1 (by decide) (hts (.fieldLink RX1 21 "FontRuns$Preference" "count" "I") mw_X1_begin_w_4) (fun _ h9 => h9) rfl dX1_begin_13 ?_
  refine kz_icmp_ge (tgt := 32) hx hb dX1_begin_16 (by decide) (by omega) (by omega) (fun c_2 => ?_) (fun c_2 => ?_)
  · have hP9 := hP.sub (ws' := [(h0, .inr (1, [.ref r1, .int (zI z_1)])), (r1, .inl (cr1, 4, .inl ja))]) [0, 1] rfl
    have hD9 := hD.sub (ws' := [(h0, .inr (1, [.ref r1, .int (zI z_1)])), (r1, .inl (cr1, 4, .inl ja))]) [0, 1] (by decide +kernel) rfl
    exact W.vret hx hb hr (fun t ht hW => kQV_of ⟨z_1, ja, (by omega), v_111, (by omega), (kId_le v_112 (by omega)), by rw [ht]; exact hP9, hD9⟩ (hS.F ht)) hS.2.2 dX1_begin_32
  · refine lv_aload_n hx hb dX1_begin_19 rfl (lv_at hl 1 rfl) ?_
    refine va_get (D := D) (ci := 1) (v := .ref r1) (C := RX1) (T := TX1) (N := 2) hx hb hts (fun _ h9 => List.mem_cons_of_mem _ (List.mem_append_right _ h9)) hown hK hP 0 rfl rfl 0 (by decide) (hts (.fieldLink RX1 9 "FontRuns$Preference" "row" "[I") mw_X1_begin_w_5) (fun _ h9 => h9) rfl dX1_begin_20 ?_
    refine lv_iload_n hx hb dX1_begin_23 rfl (lv_at hl 0 rfl) ?_
    refine lv_iload_n hx hb dX1_begin_24 rfl (lv_at hl 0 rfl) ?_
    refine kz_iast hx hb hK hP hD hS 1 0 rfl rfl (by omega) dX1_begin_25 (fun H locs hP hD hS => ?_)
    have hP : va_P D vwCl [(h0, .inr (1, [.ref r1, .int (zI z_1)])), (r1, .inl (cr1, 4, .inl (upd ja (jk).toNat (zI jk))))] H := hP
    have hD : va_D A [(h0, .inr (1, [.ref r1, .int (zI z_1)])), (r1, .inl (cr1, 4, .inl (upd ja (jk).toNat (zI jk))))] := hD
    have k_4 : kPr (upd ja (jk).toNat (zI jk)) := kPr_upd v_111 (by omega) (by omega)
    generalize ef_3 : upd ja (jk).toNat (zI jk) = f_3 at hP hD k_4
    refine lv_iinc (v := (zI (jk + 1))) (lv' := [(2, .int (zI (jk + 1))), (0, .ref h0), (1, .int (zI k))]) hx hb dX1_begin_26 hl (k := 0) rfl (kz_inc _ 1) (by decide) rfl (fun ls hl => ?_)
    refine lv_goto (tgt := 11) hx hb dX1_begin_29 (by decide) ?_
    exact ih11 _ (by omega) _ _ _ ⟨(jk + 1), f_3, rfl, (by omega), k_4, (kId_s v_112 (by omega) ef_3), hP, hD, hS, lv_sub hl [0, 1, 2] rfl⟩
set_option maxRecDepth 20000 in
theorem mw_X1_placeOf_w_0 : (.fieldLink RX1 21 "FontRuns$Preference" "count" "I" : Cond) ∈ wsX1_placeOf := List.mem_cons_of_mem _ (List.mem_append_left _ (List.mem_of_getElem? (i := 0) rfl))
set_option maxRecDepth 20000 in
theorem mw_X1_placeOf_w_1 : (.fieldLink RX1 9 "FontRuns$Preference" "row" "[I" : Cond) ∈ wsX1_placeOf := List.mem_cons_of_mem _ (List.mem_append_left _ (List.mem_of_getElem? (i := 1) rfl))
set_option maxHeartbeats 4000000 in
set_option maxRecDepth 100000 in
theorem c_X1_placeOf_w (l : Launch) (D : va_G) (sz : Nat) (f : Int) (h0 : Nat) (r1 : Nat) (n : Int) (cr1 : ClassId) (fr : Nat → Int32) (q0 : rg f) (q1 : 0 ≤ n ∧ n ≤ 4) (q2 : kPr fr) : Met l yX1_placeOf wsX1_placeOf ({ frames := 0, cells := 0, slots := 0, locals := 0 }) (kPre [.ref h0, .int (zI f)] D [(h0, .inr (1, [.ref r1, .int (zI n)])), (r1, .inl (cr1, 4, .inl fr))] [(cr1, .int)] sz) (QcP (fun rz => (rz = -9 ∨ (0 ≤ rz ∧ rz ≤ n - 1 ∧ 0 ≤ f ∧ f ≤ 3)) ∧ kPl fr n f rz)) 0 0 (fun _ => False) := by
  refine Met.ofW (cc := cX1_placeOf) (maxL := 3) (ret := (some .int)) (by decide) rfl ?_
  intro p e s m args below meth c s₁ B hml hv
  obtain ⟨rfl, hsz, hP, hK, hD0, hN⟩ := hv
  have hx := B.exec
  have hb := B.bytes
  have hr := B.returns
  have hts := atoms_spec (ws := wsX1_placeOf) B.pre
  have hown : s.vm.findClass RX1 = some m.cls := findClass_of_methodNamed B.named
  have hlocks := B.notSynchronized
  subst hsz
  have hD := hD0
  have hP : va_P D vwCl [(h0, .inr (1, [.ref r1, .int (zI n)])), (r1, .inl (cr1, 4, .inl fr))] s.heap := hP
  have hl := lv_entry ([.ref h0, .int (zI f)]) (n := 3) (Nat.le_of_ble_eq_true rfl)
  rw [lg_entry_eq]
  generalize (lg_sl ([.ref h0, .int (zI f)]) ++ List.replicate (3 - (lg_sl ([.ref h0, .int (zI f)])).length) Slot.unset).toArray = ls at hl ⊢
  have hl : lv_has ls 3 [(0, .ref h0), (1, .int (zI f))] := hl
  refine lv_iconst (v := zI 0) hx hb dX1_placeOf_0 rfl ?_
  refine lv_istore_n (lv' := [(2, .int (zI 0)), (0, .ref h0), (1, .int (zI f))]) hx hb dX1_placeOf_1 rfl hl (by decide) rfl (fun ls hl => ?_)
  refine k_loopM (I := fun n9 H locs ls => ∃ (jk : Int), n9 = (n - jk).toNat ∧ (0 ≤ jk ∧ jk ≤ n) ∧ (kNo fr f jk) ∧ H = s.heap ∧ locs = [] ∧ lv_has ls 3 [(2, .int (zI jk)), (0, .ref h0), (1, .int (zI f))]) ?_ _ ⟨0, rfl, (by omega), kNo_0, rfl, rfl, hl⟩
  intro n2 ih2 H locs ls hI
  obtain ⟨jk, en2, v_20, v_21, eH, eL, hl⟩ := hI
  subst eH
  subst eL
  refine lv_iload_n hx hb dX1_placeOf_2 rfl (lv_at hl 0 rfl) ?_
  refine lv_aload_n hx hb dX1_placeOf_3 rfl (lv_at hl 1 rfl) ?_
  refine va_get (D := D) (ci := 1) (v := .int (zI n)) (C := RX1) (T := TX1) (N := 2) hx hb hts (fun _ h9 => List.mem_cons_of_mem _ (List.mem_append_right _ h9)) hown hK hP 0 rfl rfl 1 (by decide) (hts (.fieldLink RX1 21 "FontRuns$Preference" "count" "I") mw_X1_placeOf_w_0) (fun _ h9 => h9) rfl dX1_placeOf_4 ?_
  refine kz_icmp_ge (tgt := 28) hx hb dX1_placeOf_7 (by decide) (by omega) (by omega) (fun c_1 => ?_) (fun c_1 => ?_)
  · refine lv_bipush (v := zI (-9)) hx hb dX1_placeOf_28 (by decide) ?_
    exact W.iret (v := (zI (-9))) hx hb hr (fun t ht hW => QcP_of (by omega) ⟨by omega, kPl_1 v_21 (by omega) rfl⟩ ht) (fun _ h9 => by cases h9) dX1_placeOf_30
  · refine lv_aload_n hx hb dX1_placeOf_10 rfl (lv_at hl 1 rfl) ?_
    refine va_get (D := D) (ci := 1) (v := .ref r1) (C := RX1) (T := TX1) (N := 2) hx hb hts (fun _ h9 => List.mem_cons_of_mem _ (List.mem_append_right _ h9)) hown hK hP 0 rfl rfl 0 (by decide) (hts (.fieldLink RX1 9 "FontRuns$Preference" "row" "[I") mw_X1_placeOf_w_1) (fun _ h9 => h9) rfl dX1_placeOf_11 ?_
    refine lv_iload_n hx hb dX1_placeOf_14 rfl (lv_at hl 0 rfl) ?_
    refine kz_iald hx hb hK hP 1 0 rfl rfl (by omega) dX1_placeOf_15 (fun z_2 rz_2 ez_2 => ?_)
    have bz_2 := kPr_at q2 (by omega) rz_2 ez_2
    refine lv_iload_n hx hb dX1_placeOf_16 rfl (lv_at hl 2 rfl) ?_
    refine kz_icmp_ne (tgt := 22) hx hb dX1_placeOf_17 (by decide) (by omega) (by omega) (fun c_3 => ?_) (fun c_3 => ?_)
    · refine lv_iinc (v := (zI (jk + 1))) (lv' := [(2, .int (zI (jk + 1))), (0, .ref h0), (1, .int (zI f))]) hx hb dX1_placeOf_22 hl (k := 0) rfl (kz_inc _ 1) (by decide) rfl (fun ls hl => ?_)
      refine lv_goto (tgt := 2) hx hb dX1_placeOf_25 (by decide) ?_
      exact ih2 _ (by omega) _ _ _ ⟨(jk + 1), rfl, (by omega), (kNo_s v_21 (by omega) rz_2 (by omega) ez_2 (by omega)), rfl, rfl, lv_sub hl [0, 1, 2] rfl⟩
    · refine lv_iload_n hx hb dX1_placeOf_20 rfl (lv_at hl 0 rfl) ?_
      exact W.iret (v := (zI jk)) hx hb hr (fun t ht hW => QcP_of (by omega) ⟨by omega, kPl_2 v_21 (by omega) ez_2 (by omega)⟩ ht) (fun _ h9 => by cases h9) dX1_placeOf_21
set_option maxRecDepth 20000 in
theorem mw_X1_lead_w_0 : (.fieldLink RX1 9 "FontRuns$Preference" "row" "[I" : Cond) ∈ wsX1_lead := List.mem_cons_of_mem _ (List.mem_append_left _ (List.mem_of_getElem? (i := 0) rfl))
theorem ax_X1_lead_w_0 {e0 e1 : Nat × va_E} : ([0, 1] : List Nat).map (fun i => ([e0, e1] : va_W)[i]?) = ([e0, e1] : va_W).map some := rfl
set_option maxHeartbeats 4000000 in
set_option maxRecDepth 100000 in
theorem c_X1_lead_w (l : Launch) (D : va_G) (sz : Nat) (f : Int) (h0 : Nat) (r1 : Nat) (n : Int) (cr1 : ClassId) (fr : Nat → Int32) (q0 : rg f) (q1 : 0 ≤ n ∧ n ≤ 4) (q2 : kPr fr) : Met l yX1_lead wsX1_lead ({ frames := 1, cells := 0, slots := 0, locals := 22 }) (kPre [.ref h0, .int (zI f)] D [(h0, .inr (1, [.ref r1, .int (zI n)])), (r1, .inl (cr1, 4, .inl fr))] [(cr1, .int)] sz) (kQS (fun rz t => ∃ (uf : Nat → Int32), (kPr uf) ∧ (rz = 0 ∨ rz = 1) ∧ (kLd fr n f uf rz) ∧ va_P D vwCl [(h0, .inr (1, [.ref r1, .int (zI n)])), (r1, .inl (cr1, 4, .inl uf))] t.heap ∧ va_D (va_A [(h0, .inr (1, [.ref r1, .int (zI n)])), (r1, .inl (cr1, 4, .inl fr))] sz) [(h0, .inr (1, [.ref r1, .int (zI n)])), (r1, .inl (cr1, 4, .inl uf))]) (va_A [(h0, .inr (1, [.ref r1, .int (zI n)])), (r1, .inl (cr1, 4, .inl fr))] sz)) 0 0 (va_A [(h0, .inr (1, [.ref r1, .int (zI n)])), (r1, .inl (cr1, 4, .inl fr))] sz) := by
  refine Met.ofW (cc := cX1_lead) (maxL := 4) (ret := (some .boolean)) (by decide) rfl ?_
  intro p e s m args below meth c s₁ B hml hv
  obtain ⟨rfl, hsz, hP, hK, hD0, hN⟩ := hv
  have hx := B.exec
  have hb := B.bytes
  have hr := B.returns
  have hts := atoms_spec (ws := wsX1_lead) B.pre
  have hown : s.vm.findClass RX1 = some m.cls := findClass_of_methodNamed B.named
  have hlocks := B.notSynchronized
  subst hsz
  have hD := hD0.self (sz := s.heap.size)
  generalize hAe : va_A [(h0, .inr (1, [.ref r1, .int (zI n)])), (r1, .inl (cr1, 4, .inl fr))] s.heap.size = A at hD ⊢
  have hA : ∀ q : Nat, s.heap.size ≤ q → A q := fun q h => by rw [← hAe]; exact Or.inr h
  have hS : va_S A s.heap s.heap [] := va_S.rf
  have hP : va_P D vwCl [(h0, .inr (1, [.ref r1, .int (zI n)])), (r1, .inl (cr1, 4, .inl fr))] s.heap := hP
  have hl := lv_entry ([.ref h0, .int (zI f)]) (n := 4) (Nat.le_of_ble_eq_true rfl)
  rw [lg_entry_eq]
  generalize (lg_sl ([.ref h0, .int (zI f)]) ++ List.replicate (4 - (lg_sl ([.ref h0, .int (zI f)])).length) Slot.unset).toArray = ls at hl ⊢
  have hl : lv_has ls 4 [(0, .ref h0), (1, .int (zI f))] := hl
  refine lv_aload_n hx hb dX1_lead_0 rfl (lv_at hl 0 rfl) ?_
  refine lv_iload_n hx hb dX1_lead_1 rfl (lv_at hl 1 rfl) ?_
  refine k_callP (va_runV (As := [.int (zI f)]) (rest := []) ⟨hx, hb, hml, hown, hts⟩ (c_X1_placeOf_w l D s.heap.size (f := f) (h0 := h0) (r1 := r1) (n := n) (cr1 := cr1) (fr := fr) q0 q1 q2) (cwV 1 hts gX1_lead_X1_placeOf rfl rfl rfl (by decide +kernel) ⟨Nat.le_of_ble_eq_true rfl, Nat.le_of_ble_eq_true rfl⟩) (kPreV hP (kD0 hD) hK hN [0, 1] [0] ax_X1_lead_w_0 rfl (by decide +kernel) 0 1 rfl rfl) rfl rfl hl.1 rfl (lv_room (Nat.le_of_ble_eq_true rfl)) dX1_lead_2 ⟨Nat.le_of_ble_eq_true rfl, Nat.le_of_ble_eq_true rfl⟩) (fun z_1 rz_1 h_2 => ?_)
  refine lv_istore_n (lv' := [(2, .int (zI z_1)), (0, .ref h0), (1, .int (zI f))]) hx hb dX1_lead_5 rfl hl (by decide) rfl (fun ls hl => ?_)
  refine lv_iload_n hx hb dX1_lead_6 rfl (lv_at hl 0 rfl) ?_
  refine lv_bipush (v := zI (-9)) hx hb dX1_lead_7 (by decide) ?_
  refine kz_icmp_ne (tgt := 14) hx hb dX1_lead_9 (by decide) (by omega) (by omega) (fun c_3 => ?_) (fun c_3 => ?_)
  · refine lv_iload_n hx hb dX1_lead_14 rfl (lv_at hl 0 rfl) ?_
    refine lv_istore_n (lv' := [(3, .int (zI z_1)), (2, .int (zI z_1)), (0, .ref h0), (1, .int (zI f))]) hx hb dX1_lead_15 rfl hl (by decide) rfl (fun ls hl => ?_)
    refine k_loopM (I := fun n9 H locs ls => ∃ (jk : Int) (ja : Nat → Int32), n9 = (jk).toNat ∧ (0 ≤ jk ∧ jk ≤ z_1) ∧ (kPr ja) ∧ (ja = kMv fr z_1 jk) ∧ va_P D vwCl [(h0, .inr (1, [.ref r1, .int (zI n)])), (r1, .inl (cr1, 4, .inl ja))] H ∧ va_D A [(h0, .inr (1, [.ref r1, .int (zI n)])), (r1, .inl (cr1, 4, .inl ja))] ∧ va_S A s.heap H locs ∧ lv_has ls 4 [(3, .int (zI jk)), (2, .int (zI z_1)), (0, .ref h0), (1, .int (zI f))]) ?_ _ ⟨z_1, fr, rfl, (by omega), q2, (kMv_0 _ _).symm, hP, hD, hS, hl⟩
    intro n16 ih16 H locs ls hI
    obtain ⟨jk, ja, en16, v_160, v_161, v_162, hP, hD, hS, hl⟩ := hI
    refine lv_iload_n hx hb dX1_lead_16 rfl (lv_at hl 0 rfl) ?_
    refine kz_if_le (tgt := 40) hx hb dX1_lead_17 (by decide) (by omega) (fun c_4 => ?_) (fun c_4 => ?_)
    · refine lv_aload_n hx hb dX1_lead_40 rfl (lv_at hl 2 rfl) ?_
      refine va_get (D := D) (ci := 1) (v := .ref r1) (C := RX1) (T := TX1) (N := 2) hx hb hts (fun _ h9 => List.mem_cons_of_mem _ (List.mem_append_right _ h9)) hown hK hP 0 rfl rfl 0 (by decide) (hts (.fieldLink RX1 9 "FontRuns$Preference" "row" "[I") mw_X1_lead_w_0) (fun _ h9 => h9) rfl dX1_lead_41 ?_
      refine lv_iconst (v := zI 0) hx hb dX1_lead_44 rfl ?_
      refine lv_iload_n hx hb dX1_lead_45 rfl (lv_at hl 3 rfl) ?_
      refine kz_iast hx hb hK hP hD hS 1 0 rfl rfl (by omega) dX1_lead_46 (fun H locs hP hD hS => ?_)
      have hP : va_P D vwCl [(h0, .inr (1, [.ref r1, .int (zI n)])), (r1, .inl (cr1, 4, .inl (upd ja (0 : Int).toNat (zI f))))] H := hP
      have hD : va_D A [(h0, .inr (1, [.ref r1, .int (zI n)])), (r1, .inl (cr1, 4, .inl (upd ja (0 : Int).toNat (zI f))))] := hD
      have k_6 : kPr (upd ja (0 : Int).toNat (zI f)) := kPr_upd v_161 (by omega) (by omega)
      generalize ef_5 : upd ja (0 : Int).toNat (zI f) = f_5 at hP hD k_6
      refine lv_iconst (v := zI 1) hx hb dX1_lead_47 rfl ?_
      have hP9 := hP.sub (ws' := [(h0, .inr (1, [.ref r1, .int (zI n)])), (r1, .inl (cr1, 4, .inl f_5))]) [0, 1] rfl
      have hD9 := hD.sub (ws' := [(h0, .inr (1, [.ref r1, .int (zI n)])), (r1, .inl (cr1, 4, .inl f_5))]) [0, 1] (by decide +kernel) rfl
      exact W.zret (v := (zI 1)) hx hb hr rfl (fun t ht hW => kQS_of (by omega) ⟨f_5, k_6, (by omega), (kLd_2 h_2.2 (by omega) (by omega) v_162 (by omega) ef_5), by rw [ht]; exact hP9, hD9⟩ (hS.F ht)) hS.2.2 dX1_lead_48
    · refine lv_aload_n hx hb dX1_lead_20 rfl (lv_at hl 2 rfl) ?_
      refine va_get (D := D) (ci := 1) (v := .ref r1) (C := RX1) (T := TX1) (N := 2) hx hb hts (fun _ h9 => List.mem_cons_of_mem _ (List.mem_append_right _ h9)) hown hK hP 0 rfl rfl 0 (by decide) (hts (.fieldLink RX1 9 "FontRuns$Preference" "row" "[I") mw_X1_lead_w_0) (fun _ h9 => h9) rfl dX1_lead_21 ?_
      refine lv_iload_n hx hb dX1_lead_24 rfl (lv_at hl 0 rfl) ?_
      refine lv_aload_n hx hb dX1_lead_25 rfl (lv_at hl 2 rfl) ?_
      refine va_get (D := D) (ci := 1) (v := .ref r1) (C := RX1) (T := TX1) (N := 2) hx hb hts (fun _ h9 => List.mem_cons_of_mem _ (List.mem_append_right _ h9)) hown hK hP 0 rfl rfl 0 (by decide) (hts (.fieldLink RX1 9 "FontRuns$Preference" "row" "[I") mw_X1_lead_w_0) (fun _ h9 => h9) rfl dX1_lead_26 ?_
      refine lv_iload_n hx hb dX1_lead_29 rfl (lv_at hl 0 rfl) ?_
      refine lv_iconst (v := zI 1) hx hb dX1_lead_30 rfl ?_
      refine kz_isub hx hb dX1_lead_31 ?_
      refine kz_iald hx hb hK hP 1 0 rfl rfl (by omega) dX1_lead_32 (fun z_7 rz_7 ez_7 => ?_)
      have bz_7 := kPr_at v_161 (by omega) rz_7 ez_7
      refine kz_iast hx hb hK hP hD hS 1 0 rfl rfl (by omega) dX1_lead_33 (fun H locs hP hD hS => ?_)
      have hP : va_P D vwCl [(h0, .inr (1, [.ref r1, .int (zI n)])), (r1, .inl (cr1, 4, .inl (upd ja (jk).toNat (zI z_7))))] H := hP
      have hD : va_D A [(h0, .inr (1, [.ref r1, .int (zI n)])), (r1, .inl (cr1, 4, .inl (upd ja (jk).toNat (zI z_7))))] := hD
      have k_9 : kPr (upd ja (jk).toNat (zI z_7)) := kPr_upd v_161 (by omega) (by omega)
      generalize ef_8 : upd ja (jk).toNat (zI z_7) = f_8 at hP hD k_9
      refine lv_iinc (v := (zI (jk - 1))) (lv' := [(3, .int (zI (jk - 1))), (2, .int (zI z_1)), (0, .ref h0), (1, .int (zI f))]) hx hb dX1_lead_34 hl (k := 0) rfl (kz_dec _ 1) (by decide) rfl (fun ls hl => ?_)
      refine lv_goto (tgt := 16) hx hb dX1_lead_37 (by decide) ?_
      exact ih16 _ (by omega) _ _ _ ⟨(jk - 1), f_8, rfl, (by omega), k_9, (by rw [← ef_8, v_162]; exact kMv_1 fr (by omega) (by rw [← v_162]; exact ez_7)), hP, hD, hS, lv_sub hl [0, 1, 2, 3] rfl⟩
  · refine lv_iconst (v := zI 0) hx hb dX1_lead_12 rfl ?_
    have hP9 := hP.sub (ws' := [(h0, .inr (1, [.ref r1, .int (zI n)])), (r1, .inl (cr1, 4, .inl fr))]) [0, 1] rfl
    have hD9 := hD.sub (ws' := [(h0, .inr (1, [.ref r1, .int (zI n)])), (r1, .inl (cr1, 4, .inl fr))]) [0, 1] (by decide +kernel) rfl
    exact W.zret (v := (zI 0)) hx hb hr rfl (fun t ht hW => kQS_of (by omega) ⟨fr, q2, (by omega), (kLd_1 h_2.2 (by omega) (by omega)), by rw [ht]; exact hP9, hD9⟩ (hS.F ht)) hS.2.2 dX1_lead_13
theorem dX3_keep_0 : decode cX3_keep 0 = .ok (.iconst 4, 1) := by decide +kernel
theorem dX3_keep_1 : decode cX3_keep 1 = .ok (.istore_n 2, 1) := by decide +kernel
theorem dX3_keep_2 : decode cX3_keep 2 = .ok (.iload_n 2, 1) := by decide +kernel
theorem dX3_keep_3 : decode cX3_keep 3 = .ok (.ifCond .le 23, 3) := by decide +kernel
theorem dX3_keep_6 : decode cX3_keep 6 = .ok (.aload_n 0, 1) := by decide +kernel
theorem dX3_keep_7 : decode cX3_keep 7 = .ok (.getfield 9, 3) := by decide +kernel
theorem dX3_keep_10 : decode cX3_keep 10 = .ok (.iload_n 2, 1) := by decide +kernel
theorem dX3_keep_11 : decode cX3_keep 11 = .ok (.aload_n 0, 1) := by decide +kernel
theorem dX3_keep_12 : decode cX3_keep 12 = .ok (.getfield 9, 3) := by decide +kernel
theorem dX3_keep_15 : decode cX3_keep 15 = .ok (.iload_n 2, 1) := by decide +kernel
theorem dX3_keep_16 : decode cX3_keep 16 = .ok (.iconst 1, 1) := by decide +kernel
theorem dX3_keep_17 : decode cX3_keep 17 = .ok (.isub, 1) := by decide +kernel
theorem dX3_keep_18 : decode cX3_keep 18 = .ok (.iaload, 1) := by decide +kernel
theorem dX3_keep_19 : decode cX3_keep 19 = .ok (.iastore, 1) := by decide +kernel
theorem dX3_keep_20 : decode cX3_keep 20 = .ok (.iinc 2 (-1), 3) := by decide +kernel
theorem dX3_keep_23 : decode cX3_keep 23 = .ok (.goto (-21), 3) := by decide +kernel
theorem dX3_keep_26 : decode cX3_keep 26 = .ok (.aload_n 0, 1) := by decide +kernel
theorem dX3_keep_27 : decode cX3_keep 27 = .ok (.getfield 9, 3) := by decide +kernel
theorem dX3_keep_30 : decode cX3_keep 30 = .ok (.iconst 0, 1) := by decide +kernel
theorem dX3_keep_31 : decode cX3_keep 31 = .ok (.iload_n 1, 1) := by decide +kernel
theorem dX3_keep_32 : decode cX3_keep 32 = .ok (.iastore, 1) := by decide +kernel
theorem dX3_keep_33 : decode cX3_keep 33 = .ok (.aload_n 0, 1) := by decide +kernel
theorem dX3_keep_34 : decode cX3_keep 34 = .ok (.aload_n 0, 1) := by decide +kernel
theorem dX3_keep_35 : decode cX3_keep 35 = .ok (.getfield 15, 3) := by decide +kernel
theorem dX3_keep_38 : decode cX3_keep 38 = .ok (.iconst 1, 1) := by decide +kernel
theorem dX3_keep_39 : decode cX3_keep 39 = .ok (.iadd, 1) := by decide +kernel
theorem dX3_keep_40 : decode cX3_keep 40 = .ok (.iconst 5, 1) := by decide +kernel
theorem dX3_keep_41 : decode cX3_keep 41 = .ok (.invokestatic 19, 3) := by decide +kernel
theorem dX3_keep_44 : decode cX3_keep 44 = .ok (.putfield 15, 3) := by decide +kernel
theorem dX3_keep_47 : decode cX3_keep 47 = .ok (.return_, 1) := by decide +kernel
set_option maxRecDepth 20000 in
theorem mw_X3_keep_w_0 : (.fieldLink RX3 9 "FontRuns$Recent" "row" "[I" : Cond) ∈ wsX3_keep := List.mem_cons_of_mem _ (List.mem_append_left _ (List.mem_of_getElem? (i := 0) rfl))
set_option maxRecDepth 20000 in
theorem mw_X3_keep_w_1 : (.fieldLink RX3 15 "FontRuns$Recent" "count" "I" : Cond) ∈ wsX3_keep := List.mem_cons_of_mem _ (List.mem_append_left _ (List.mem_of_getElem? (i := 1) rfl))
set_option maxRecDepth 20000 in
theorem mw_X3_keep_w_2 : (.methodLink RX3 19 Lib.Math.min.name : Cond) ∈ wsX3_keep := List.mem_cons_of_mem _ (List.mem_append_left _ (List.mem_of_getElem? (i := 2) rfl))
set_option maxRecDepth 20000 in
theorem mw_X3_keep_w_3 : (.static Lib.Math.min.name : Cond) ∈ wsX3_keep := List.mem_cons_of_mem _ (List.mem_append_left _ (List.mem_of_getElem? (i := 3) rfl))
set_option maxRecDepth 20000 in
theorem mw_X3_keep_w_4 : (.initialized "java/lang/Math" : Cond) ∈ wsX3_keep := List.mem_cons_of_mem _ (List.mem_append_left _ (List.mem_of_getElem? (i := 4) rfl))
set_option maxRecDepth 20000 in
theorem mw_X3_keep_w_5 : (.code Lib.Math.min.name Lib.Math.min.code 2 (some .int) : Cond) ∈ wsX3_keep := List.mem_cons_of_mem _ (List.mem_append_left _ (List.mem_of_getElem? (i := 5) rfl))
theorem ax_X3_keep_w_0 {e0 e1 : Nat × va_E} : ([0, 1] : List Nat).map (fun i => ([e0, e1] : va_W)[i]?) = ([e0, e1] : va_W).map some := rfl
set_option maxHeartbeats 4000000 in
set_option maxRecDepth 100000 in
theorem c_X3_keep_w (l : Launch) (D : va_G) (sz : Nat) (f : Int) (h0 : Nat) (r1 : Nat) (n : Int) (cr1 : ClassId) (fr : Nat → Int32) (q0 : rg f) (q1 : 0 ≤ n ∧ n ≤ 5) : Met l yX3_keep wsX3_keep ({ frames := 1, cells := 0, slots := 0, locals := 21 }) (kPre [.ref h0, .int (zI f)] D [(h0, .inr (3, [.ref r1, .int (zI n)])), (r1, .inl (cr1, 5, .inl fr))] [(cr1, .int)] sz) (kQV (fun t => ∃ (un : Int) (uf : Nat → Int32), (0 ≤ un ∧ un ≤ 5) ∧ ((n ≤ 4 ∧ un = n + 1) ∨ (n = 5 ∧ un = 5)) ∧ (uf = upd (kMv fr 4 0) 0 (zI f)) ∧ va_P D vwCl [(h0, .inr (3, [.ref r1, .int (zI un)])), (r1, .inl (cr1, 5, .inl uf))] t.heap ∧ va_D (va_A [(h0, .inr (3, [.ref r1, .int (zI n)])), (r1, .inl (cr1, 5, .inl fr))] sz) [(h0, .inr (3, [.ref r1, .int (zI un)])), (r1, .inl (cr1, 5, .inl uf))]) (va_A [(h0, .inr (3, [.ref r1, .int (zI n)])), (r1, .inl (cr1, 5, .inl fr))] sz)) 0 0 (va_A [(h0, .inr (3, [.ref r1, .int (zI n)])), (r1, .inl (cr1, 5, .inl fr))] sz) := by
  refine Met.ofW (cc := cX3_keep) (maxL := 3) (ret := none) (by decide) rfl ?_
  intro p e s m args below meth c s₁ B hml hv
  obtain ⟨rfl, hsz, hP, hK, hD0, hN⟩ := hv
  have hx := B.exec
  have hb := B.bytes
  have hr := B.returns
  have hts := atoms_spec (ws := wsX3_keep) B.pre
  have hown : s.vm.findClass RX3 = some m.cls := findClass_of_methodNamed B.named
  have hlocks := B.notSynchronized
  subst hsz
  have hD := hD0.self (sz := s.heap.size)
  generalize hAe : va_A [(h0, .inr (3, [.ref r1, .int (zI n)])), (r1, .inl (cr1, 5, .inl fr))] s.heap.size = A at hD ⊢
  have hA : ∀ q : Nat, s.heap.size ≤ q → A q := fun q h => by rw [← hAe]; exact Or.inr h
  have hS : va_S A s.heap s.heap [] := va_S.rf
  have hP : va_P D vwCl [(h0, .inr (3, [.ref r1, .int (zI n)])), (r1, .inl (cr1, 5, .inl fr))] s.heap := hP
  have hl := lv_entry ([.ref h0, .int (zI f)]) (n := 3) (Nat.le_of_ble_eq_true rfl)
  rw [lg_entry_eq]
  generalize (lg_sl ([.ref h0, .int (zI f)]) ++ List.replicate (3 - (lg_sl ([.ref h0, .int (zI f)])).length) Slot.unset).toArray = ls at hl ⊢
  have hl : lv_has ls 3 [(0, .ref h0), (1, .int (zI f))] := hl
  refine lv_iconst (v := zI 4) hx hb dX3_keep_0 rfl ?_
  refine lv_istore_n (lv' := [(2, .int (zI 4)), (0, .ref h0), (1, .int (zI f))]) hx hb dX3_keep_1 rfl hl (by decide) rfl (fun ls hl => ?_)
  refine k_loopM (I := fun n9 H locs ls => ∃ (jk : Int) (ja : Nat → Int32), n9 = (jk).toNat ∧ (0 ≤ jk ∧ jk ≤ 4) ∧ (ja = kMv fr 4 jk) ∧ va_P D vwCl [(h0, .inr (3, [.ref r1, .int (zI n)])), (r1, .inl (cr1, 5, .inl ja))] H ∧ va_D A [(h0, .inr (3, [.ref r1, .int (zI n)])), (r1, .inl (cr1, 5, .inl ja))] ∧ va_S A s.heap H locs ∧ lv_has ls 3 [(2, .int (zI jk)), (0, .ref h0), (1, .int (zI f))]) ?_ _ ⟨4, fr, rfl, (by omega), (kMv_0 _ _).symm, hP, hD, hS, hl⟩
  intro n2 ih2 H locs ls hI
  obtain ⟨jk, ja, en2, v_20, v_21, hP, hD, hS, hl⟩ := hI
  refine lv_iload_n hx hb dX3_keep_2 rfl (lv_at hl 0 rfl) ?_
  refine kz_if_le (tgt := 26) hx hb dX3_keep_3 (by decide) (by omega) (fun c_1 => ?_) (fun c_1 => ?_)
  · refine lv_aload_n hx hb dX3_keep_26 rfl (lv_at hl 1 rfl) ?_
    refine va_get (D := D) (ci := 3) (v := .ref r1) (C := RX3) (T := TX3) (N := 2) hx hb hts (fun _ h9 => List.mem_cons_of_mem _ (List.mem_append_right _ h9)) hown hK hP 0 rfl rfl 0 (by decide) (hts (.fieldLink RX3 9 "FontRuns$Recent" "row" "[I") mw_X3_keep_w_0) (fun _ h9 => h9) rfl dX3_keep_27 ?_
    refine lv_iconst (v := zI 0) hx hb dX3_keep_30 rfl ?_
    refine lv_iload_n hx hb dX3_keep_31 rfl (lv_at hl 2 rfl) ?_
    refine kz_iast hx hb hK hP hD hS 1 0 rfl rfl (by omega) dX3_keep_32 (fun H locs hP hD hS => ?_)
    have hP : va_P D vwCl [(h0, .inr (3, [.ref r1, .int (zI n)])), (r1, .inl (cr1, 5, .inl (upd ja (0 : Int).toNat (zI f))))] H := hP
    have hD : va_D A [(h0, .inr (3, [.ref r1, .int (zI n)])), (r1, .inl (cr1, 5, .inl (upd ja (0 : Int).toNat (zI f))))] := hD
    generalize ef_2 : upd ja (0 : Int).toNat (zI f) = f_2 at hP hD
    refine lv_aload_n hx hb dX3_keep_33 rfl (lv_at hl 1 rfl) ?_
    refine lv_aload_n hx hb dX3_keep_34 rfl (lv_at hl 1 rfl) ?_
    refine va_get (D := D) (ci := 3) (v := .int (zI n)) (C := RX3) (T := TX3) (N := 2) hx hb hts (fun _ h9 => List.mem_cons_of_mem _ (List.mem_append_right _ h9)) hown hK hP 0 rfl rfl 1 (by decide) (hts (.fieldLink RX3 15 "FontRuns$Recent" "count" "I") mw_X3_keep_w_1) (fun _ h9 => h9) rfl dX3_keep_35 ?_
    refine lv_iconst (v := zI 1) hx hb dX3_keep_38 rfl ?_
    refine kz_iadd hx hb dX3_keep_39 ?_
    refine lv_iconst (v := zI 5) hx hb dX3_keep_40 rfl ?_
    refine kz_min hx hb (by rw [hml]; exact hl.1.symm) hown (hts (.methodLink RX3 19 Lib.Math.min.name) mw_X3_keep_w_2) (hts (.static Lib.Math.min.name) mw_X3_keep_w_3) (hts (.initialized "java/lang/Math") mw_X3_keep_w_4) (hts (.code Lib.Math.min.name Lib.Math.min.code 2 (some .int)) mw_X3_keep_w_5) (Nat.le_of_ble_eq_true rfl) (Nat.le_of_ble_eq_true rfl) (Nat.le_of_ble_eq_true rfl) (Nat.le_of_ble_eq_true rfl) (by omega) (by omega) dX3_keep_41 (fun z_3 rz_3 ez_3 => ?_)
    refine va_put (D := D) (ci := 3) (v := .int (zI z_3)) (ty := .int) (C := RX3) (T := TX3) (N := 2) hx hb hts (fun _ h9 => List.mem_cons_of_mem _ (List.mem_append_right _ h9)) tyX3 tyX3_ok nmX3 hown hK hP hD hS 0 rfl rfl 1 (by decide) (hts (.fieldLink RX3 15 "FontRuns$Recent" "count" "I") mw_X3_keep_w_1) (fun _ h9 => h9) rfl (by decide +kernel) rfl rfl (Nat.le_of_ble_eq_true rfl) dX3_keep_44 (fun H locs hP hD hS => ?_)
    have hP : va_P D vwCl [(h0, .inr (3, [.ref r1, .int (zI z_3)])), (r1, .inl (cr1, 5, .inl f_2))] H := hP
    have hD : va_D A [(h0, .inr (3, [.ref r1, .int (zI z_3)])), (r1, .inl (cr1, 5, .inl f_2))] := hD
    have hP9 := hP.sub (ws' := [(h0, .inr (3, [.ref r1, .int (zI z_3)])), (r1, .inl (cr1, 5, .inl f_2))]) [0, 1] rfl
    have hD9 := hD.sub (ws' := [(h0, .inr (3, [.ref r1, .int (zI z_3)])), (r1, .inl (cr1, 5, .inl f_2))]) [0, 1] (by decide +kernel) rfl
    exact W.vret hx hb hr (fun t ht hW => kQV_of ⟨z_3, f_2, (by omega), (by omega), (kMvE ef_2 v_21 (by omega)), by rw [ht]; exact hP9, hD9⟩ (hS.F ht)) hS.2.2 dX3_keep_47
  · refine lv_aload_n hx hb dX3_keep_6 rfl (lv_at hl 1 rfl) ?_
    refine va_get (D := D) (ci := 3) (v := .ref r1) (C := RX3) (T := TX3) (N := 2) hx hb hts (fun _ h9 => List.mem_cons_of_mem _ (List.mem_append_right _ h9)) hown hK hP 0 rfl rfl 0 (by decide) (hts (.fieldLink RX3 9 "FontRuns$Recent" "row" "[I") mw_X3_keep_w_0) (fun _ h9 => h9) rfl dX3_keep_7 ?_
    refine lv_iload_n hx hb dX3_keep_10 rfl (lv_at hl 0 rfl) ?_
    refine lv_aload_n hx hb dX3_keep_11 rfl (lv_at hl 1 rfl) ?_
    refine va_get (D := D) (ci := 3) (v := .ref r1) (C := RX3) (T := TX3) (N := 2) hx hb hts (fun _ h9 => List.mem_cons_of_mem _ (List.mem_append_right _ h9)) hown hK hP 0 rfl rfl 0 (by decide) (hts (.fieldLink RX3 9 "FontRuns$Recent" "row" "[I") mw_X3_keep_w_0) (fun _ h9 => h9) rfl dX3_keep_12 ?_
    refine lv_iload_n hx hb dX3_keep_15 rfl (lv_at hl 0 rfl) ?_
    refine lv_iconst (v := zI 1) hx hb dX3_keep_16 rfl ?_
    refine kz_isub hx hb dX3_keep_17 ?_
    refine kz_iald hx hb hK hP 1 0 rfl rfl (by omega) dX3_keep_18 (fun z_4 rz_4 ez_4 => ?_)
    refine kz_iast hx hb hK hP hD hS 1 0 rfl rfl (by omega) dX3_keep_19 (fun H locs hP hD hS => ?_)
    have hP : va_P D vwCl [(h0, .inr (3, [.ref r1, .int (zI n)])), (r1, .inl (cr1, 5, .inl (upd ja (jk).toNat (zI z_4))))] H := hP
    have hD : va_D A [(h0, .inr (3, [.ref r1, .int (zI n)])), (r1, .inl (cr1, 5, .inl (upd ja (jk).toNat (zI z_4))))] := hD
    generalize ef_5 : upd ja (jk).toNat (zI z_4) = f_5 at hP hD
    refine lv_iinc (v := (zI (jk - 1))) (lv' := [(2, .int (zI (jk - 1))), (0, .ref h0), (1, .int (zI f))]) hx hb dX3_keep_20 hl (k := 0) rfl (kz_dec _ 1) (by decide) rfl (fun ls hl => ?_)
    refine lv_goto (tgt := 2) hx hb dX3_keep_23 (by decide) ?_
    exact ih2 _ (by omega) _ _ _ ⟨(jk - 1), f_5, rfl, (by omega), (by rw [← ef_5, v_21]; exact kMv_1 fr (by omega) (by rw [← v_21]; exact ez_4)), hP, hD, hS, lv_sub hl [0, 1, 2] rfl⟩
set_option maxRecDepth 20000 in
theorem mw_X7_add_w_0 : (.fieldLink RX7 15 "FontRuns$Writing" "count" "I" : Cond) ∈ wsX7_add := List.mem_cons_of_mem _ (List.mem_append_left _ (List.mem_of_getElem? (i := 0) rfl))
set_option maxRecDepth 20000 in
theorem mw_X7_add_w_1 : (.initialized RX8 : Cond) ∈ wsX7_add := List.mem_cons_of_mem _ (List.mem_append_left _ (List.mem_of_getElem? (i := 3) rfl))
set_option maxRecDepth 20000 in
theorem mw_X7_add_w_2 : (.static yX8_isWithin : Cond) ∈ wsX7_add := List.mem_cons_of_mem _ (List.mem_append_left _ (List.mem_of_getElem? (i := 2) rfl))
set_option maxRecDepth 20000 in
theorem mw_X7_add_w_3 : (.fieldLink RX7 9 "FontRuns$Writing" "row" "[I" : Cond) ∈ wsX7_add := List.mem_cons_of_mem _ (List.mem_append_left _ (List.mem_of_getElem? (i := 1) rfl))
theorem ax_X7_add_w_0 {e0 e1 : Nat × va_E} : ([] : List Nat).map (fun i => ([e0, e1] : va_W)[i]?) = ([] : va_W).map some := rfl
theorem ax_X7_add_w_1 {e0 e1 : Nat × va_E} : ([0, 1] : List Nat).map (fun i => ([e0, e1] : va_W)[i]?) = ([e0, e1] : va_W).map some := rfl
set_option maxHeartbeats 4000000 in
set_option maxRecDepth 100000 in
theorem c_X7_add_w (l : Launch) (D : va_G) (sz : Nat) (x : Int) (h0 : Nat) (r1 : Nat) (n : Int) (cr1 : ClassId) (fr : Nat → Int32) (q0 : rg x) (q1 : 0 ≤ n ∧ n ≤ 24) : Met l yX7_add wsX7_add ({ frames := 1, cells := 0, slots := 0, locals := 22 }) (kPre [.ref h0, .int (zI x)] D [(h0, .inr (7, [.ref r1, .int (zI n)])), (r1, .inl (cr1, 24, .inl fr))] [(cr1, .int)] sz) (kQS (fun rz t => ∃ (un : Int) (uf : Nat → Int32), (0 ≤ un ∧ un ≤ 24) ∧ (rz = 0 ∨ rz = 1) ∧ ((n < 24 ∧ rz = 1 ∧ un = n + 1 ∧ uf = upd fr n.toNat (zI x)) ∨ (24 ≤ n ∧ rz = 0 ∧ un = n ∧ uf = fr)) ∧ va_P D vwCl [(h0, .inr (7, [.ref r1, .int (zI un)])), (r1, .inl (cr1, 24, .inl uf))] t.heap ∧ va_D (va_A [(h0, .inr (7, [.ref r1, .int (zI n)])), (r1, .inl (cr1, 24, .inl fr))] sz) [(h0, .inr (7, [.ref r1, .int (zI un)])), (r1, .inl (cr1, 24, .inl uf))]) (va_A [(h0, .inr (7, [.ref r1, .int (zI n)])), (r1, .inl (cr1, 24, .inl fr))] sz)) 0 0 (va_A [(h0, .inr (7, [.ref r1, .int (zI n)])), (r1, .inl (cr1, 24, .inl fr))] sz) := by
  refine Met.ofW (cc := cX7_add) (maxL := 2) (ret := (some .boolean)) (by decide) rfl ?_
  intro p e s m args below meth c s₁ B hml hv
  obtain ⟨rfl, hsz, hP, hK, hD0, hN⟩ := hv
  have hx := B.exec
  have hb := B.bytes
  have hr := B.returns
  have hts := atoms_spec (ws := wsX7_add) B.pre
  have hown : s.vm.findClass RX7 = some m.cls := findClass_of_methodNamed B.named
  have hlocks := B.notSynchronized
  subst hsz
  have hD := hD0.self (sz := s.heap.size)
  generalize hAe : va_A [(h0, .inr (7, [.ref r1, .int (zI n)])), (r1, .inl (cr1, 24, .inl fr))] s.heap.size = A at hD ⊢
  have hA : ∀ q : Nat, s.heap.size ≤ q → A q := fun q h => by rw [← hAe]; exact Or.inr h
  have hS : va_S A s.heap s.heap [] := va_S.rf
  have hP : va_P D vwCl [(h0, .inr (7, [.ref r1, .int (zI n)])), (r1, .inl (cr1, 24, .inl fr))] s.heap := hP
  have hl := lv_entry ([.ref h0, .int (zI x)]) (n := 2) (Nat.le_of_ble_eq_true rfl)
  rw [lg_entry_eq]
  generalize (lg_sl ([.ref h0, .int (zI x)]) ++ List.replicate (2 - (lg_sl ([.ref h0, .int (zI x)])).length) Slot.unset).toArray = ls at hl ⊢
  have hl : lv_has ls 2 [(0, .ref h0), (1, .int (zI x))] := hl
  refine lv_aload_n hx hb dX7_add_0 rfl (lv_at hl 0 rfl) ?_
  refine va_get (D := D) (ci := 7) (v := .int (zI n)) (C := RX7) (T := TX7) (N := 2) hx hb hts (fun _ h9 => List.mem_cons_of_mem _ (List.mem_append_right _ h9)) hown hK hP 0 rfl rfl 1 (by decide) (hts (.fieldLink RX7 15 "FontRuns$Writing" "count" "I") mw_X7_add_w_0) (fun _ h9 => h9) rfl dX7_add_1 ?_
  refine lv_iconst (v := zI 0) hx hb dX7_add_4 rfl ?_
  refine lv_bipush (v := zI 23) hx hb dX7_add_5 (by decide) ?_
  refine k_callR (va_runSN (As := [.int (zI n), .int (zI 0), .int (zI 23)]) (rest := []) ⟨hx, hb, hml, hown, hts⟩ (c_X8_isWithin l D s.heap.size (v := n) (a := 0) (b := 23) (by omega) (by omega) (by omega)) (⟨va_cnB 3 hts gX7_add_X8_isWithin_n19 rfl rfl rfl (hN.1 (RX7, 19, yX8_isWithin) (by decide +kernel)) (hts (.initialized RX8) mw_X7_add_w_1) (by decide +kernel) ⟨Nat.le_of_ble_eq_true rfl, Nat.le_of_ble_eq_true rfl⟩, (hts (.static yX8_isWithin) mw_X7_add_w_2), trivial⟩) (kPreS hP (kD0 hD) hK hN [] [] ax_X7_add_w_0 rfl (by decide +kernel)) rfl rfl hl.1 rfl (lv_room (Nat.le_of_ble_eq_true rfl)) dX7_add_7 ⟨Nat.le_of_ble_eq_true rfl, Nat.le_of_ble_eq_true rfl⟩) ?_
  refine lv_if_ne (tgt := 15) hx hb dX7_add_10 (by decide) (fun c_1 => ?_) (fun c_1 => ?_)
  · have c_1 : 0 ≤ n ∧ n ≤ 23 := b01t c_1
    refine lv_aload_n hx hb dX7_add_15 rfl (lv_at hl 0 rfl) ?_
    refine va_get (D := D) (ci := 7) (v := .ref r1) (C := RX7) (T := TX7) (N := 2) hx hb hts (fun _ h9 => List.mem_cons_of_mem _ (List.mem_append_right _ h9)) hown hK hP 0 rfl rfl 0 (by decide) (hts (.fieldLink RX7 9 "FontRuns$Writing" "row" "[I") mw_X7_add_w_3) (fun _ h9 => h9) rfl dX7_add_16 ?_
    refine lv_aload_n hx hb dX7_add_19 rfl (lv_at hl 0 rfl) ?_
    refine va_get (D := D) (ci := 7) (v := .int (zI n)) (C := RX7) (T := TX7) (N := 2) hx hb hts (fun _ h9 => List.mem_cons_of_mem _ (List.mem_append_right _ h9)) hown hK hP 0 rfl rfl 1 (by decide) (hts (.fieldLink RX7 15 "FontRuns$Writing" "count" "I") mw_X7_add_w_0) (fun _ h9 => h9) rfl dX7_add_20 ?_
    refine lv_iload_n hx hb dX7_add_23 rfl (lv_at hl 1 rfl) ?_
    refine kz_iast hx hb hK hP hD hS 1 0 rfl rfl (by omega) dX7_add_24 (fun H locs hP hD hS => ?_)
    have hP : va_P D vwCl [(h0, .inr (7, [.ref r1, .int (zI n)])), (r1, .inl (cr1, 24, .inl (upd fr (n).toNat (zI x))))] H := hP
    have hD : va_D A [(h0, .inr (7, [.ref r1, .int (zI n)])), (r1, .inl (cr1, 24, .inl (upd fr (n).toNat (zI x))))] := hD
    generalize ef_2 : upd fr (n).toNat (zI x) = f_2 at hP hD
    refine lv_aload_n hx hb dX7_add_25 rfl (lv_at hl 0 rfl) ?_
    refine lv_dup hx hb dX7_add_26 rfl ?_
    refine va_get (D := D) (ci := 7) (v := .int (zI n)) (C := RX7) (T := TX7) (N := 2) hx hb hts (fun _ h9 => List.mem_cons_of_mem _ (List.mem_append_right _ h9)) hown hK hP 0 rfl rfl 1 (by decide) (hts (.fieldLink RX7 15 "FontRuns$Writing" "count" "I") mw_X7_add_w_0) (fun _ h9 => h9) rfl dX7_add_27 ?_
    refine lv_iconst (v := zI 1) hx hb dX7_add_30 rfl ?_
    refine kz_iadd hx hb dX7_add_31 ?_
    refine va_put (D := D) (ci := 7) (v := .int (zI (n + 1))) (ty := .int) (C := RX7) (T := TX7) (N := 2) hx hb hts (fun _ h9 => List.mem_cons_of_mem _ (List.mem_append_right _ h9)) tyX7 tyX7_ok nmX7 hown hK hP hD hS 0 rfl rfl 1 (by decide) (hts (.fieldLink RX7 15 "FontRuns$Writing" "count" "I") mw_X7_add_w_0) (fun _ h9 => h9) rfl (by decide +kernel) rfl rfl (Nat.le_of_ble_eq_true rfl) dX7_add_32 (fun H locs hP hD hS => ?_)
    have hP : va_P D vwCl [(h0, .inr (7, [.ref r1, .int (zI (n + 1))])), (r1, .inl (cr1, 24, .inl f_2))] H := hP
    have hD : va_D A [(h0, .inr (7, [.ref r1, .int (zI (n + 1))])), (r1, .inl (cr1, 24, .inl f_2))] := hD
    refine lv_iconst (v := zI 1) hx hb dX7_add_35 rfl ?_
    have hP9 := hP.sub (ws' := [(h0, .inr (7, [.ref r1, .int (zI (n + 1))])), (r1, .inl (cr1, 24, .inl f_2))]) [0, 1] rfl
    have hD9 := hD.sub (ws' := [(h0, .inr (7, [.ref r1, .int (zI (n + 1))])), (r1, .inl (cr1, 24, .inl f_2))]) [0, 1] (by decide +kernel) rfl
    exact W.zret (v := (zI 1)) hx hb hr rfl (fun t ht hW => kQS_of (by omega) ⟨(n + 1), f_2, (by omega), (by omega), (Or.inl ⟨by omega, by omega, by omega, by first | exact ef_2.symm | rfl⟩), by rw [ht]; exact hP9, hD9⟩ (hS.F ht)) hS.2.2 dX7_add_36
  · have c_1 : ¬ (0 ≤ n ∧ n ≤ 23) := b01f c_1
    refine lv_iconst (v := zI 0) hx hb dX7_add_13 rfl ?_
    have hP9 := hP.sub (ws' := [(h0, .inr (7, [.ref r1, .int (zI n)])), (r1, .inl (cr1, 24, .inl fr))]) [0, 1] rfl
    have hD9 := hD.sub (ws' := [(h0, .inr (7, [.ref r1, .int (zI n)])), (r1, .inl (cr1, 24, .inl fr))]) [0, 1] (by decide +kernel) rfl
    exact W.zret (v := (zI 0)) hx hb hr rfl (fun t ht hW => kQS_of (by omega) ⟨n, fr, q1, (by omega), (Or.inr ⟨by omega, by omega, by omega, rfl⟩), by rw [ht]; exact hP9, hD9⟩ (hS.F ht)) hS.2.2 dX7_add_14
set_option maxRecDepth 20000 in
theorem mw_X7_drop_w_0 : (.fieldLink RX7 15 "FontRuns$Writing" "count" "I" : Cond) ∈ wsX7_drop := List.mem_cons_of_mem _ (List.mem_append_left _ (List.mem_of_getElem? (i := 0) rfl))
set_option maxRecDepth 20000 in
theorem mw_X7_drop_w_1 : (.initialized RX8 : Cond) ∈ wsX7_drop := List.mem_cons_of_mem _ (List.mem_append_left _ (List.mem_of_getElem? (i := 2) rfl))
set_option maxRecDepth 20000 in
theorem mw_X7_drop_w_2 : (.static yX8_isWithin : Cond) ∈ wsX7_drop := List.mem_cons_of_mem _ (List.mem_append_left _ (List.mem_of_getElem? (i := 1) rfl))
theorem ax_X7_drop_w_0 {e0 : Nat × va_E} : ([] : List Nat).map (fun i => ([e0] : va_W)[i]?) = ([] : va_W).map some := rfl
theorem ax_X7_drop_w_1 {e0 : Nat × va_E} : ([0] : List Nat).map (fun i => ([e0] : va_W)[i]?) = ([e0] : va_W).map some := rfl
set_option maxHeartbeats 4000000 in
set_option maxRecDepth 100000 in
theorem c_X7_drop_w (l : Launch) (D : va_G) (sz : Nat) (x : Int) (h0 : Nat) (r1 : Nat) (n : Int) (q0 : rg x) (q1 : 0 ≤ n ∧ n ≤ 24) : Met l yX7_drop wsX7_drop ({ frames := 1, cells := 0, slots := 0, locals := 22 }) (kPre [.ref h0, .int (zI x)] D [(h0, .inr (7, [.ref r1, .int (zI n)]))] [] sz) (kQS (fun rz t => ∃ (un : Int), (0 ≤ un ∧ un ≤ 24) ∧ (rz = 0 ∨ rz = 1) ∧ ((0 ≤ x ∧ x ≤ n ∧ rz = 1 ∧ un = n - x) ∨ (¬ (0 ≤ x ∧ x ≤ n) ∧ rz = 0 ∧ un = n)) ∧ va_P D vwCl [(h0, .inr (7, [.ref r1, .int (zI un)]))] t.heap ∧ va_D (va_A [(h0, .inr (7, [.ref r1, .int (zI n)]))] sz) [(h0, .inr (7, [.ref r1, .int (zI un)]))]) (va_A [(h0, .inr (7, [.ref r1, .int (zI n)]))] sz)) 0 0 (va_A [(h0, .inr (7, [.ref r1, .int (zI n)]))] sz) := by
  refine Met.ofW (cc := cX7_drop) (maxL := 2) (ret := (some .boolean)) (by decide) rfl ?_
  intro p e s m args below meth c s₁ B hml hv
  obtain ⟨rfl, hsz, hP, hK, hD0, hN⟩ := hv
  have hx := B.exec
  have hb := B.bytes
  have hr := B.returns
  have hts := atoms_spec (ws := wsX7_drop) B.pre
  have hown : s.vm.findClass RX7 = some m.cls := findClass_of_methodNamed B.named
  have hlocks := B.notSynchronized
  subst hsz
  have hD := hD0.self (sz := s.heap.size)
  generalize hAe : va_A [(h0, .inr (7, [.ref r1, .int (zI n)]))] s.heap.size = A at hD ⊢
  have hA : ∀ q : Nat, s.heap.size ≤ q → A q := fun q h => by rw [← hAe]; exact Or.inr h
  have hS : va_S A s.heap s.heap [] := va_S.rf
  have hP : va_P D vwCl [(h0, .inr (7, [.ref r1, .int (zI n)]))] s.heap := hP
  have hl := lv_entry ([.ref h0, .int (zI x)]) (n := 2) (Nat.le_of_ble_eq_true rfl)
  rw [lg_entry_eq]
  generalize (lg_sl ([.ref h0, .int (zI x)]) ++ List.replicate (2 - (lg_sl ([.ref h0, .int (zI x)])).length) Slot.unset).toArray = ls at hl ⊢
  have hl : lv_has ls 2 [(0, .ref h0), (1, .int (zI x))] := hl
  refine lv_iload_n hx hb dX7_drop_0 rfl (lv_at hl 1 rfl) ?_
  refine lv_iconst (v := zI 0) hx hb dX7_drop_1 rfl ?_
  refine lv_aload_n hx hb dX7_drop_2 rfl (lv_at hl 0 rfl) ?_
  refine va_get (D := D) (ci := 7) (v := .int (zI n)) (C := RX7) (T := TX7) (N := 2) hx hb hts (fun _ h9 => List.mem_cons_of_mem _ (List.mem_append_right _ h9)) hown hK hP 0 rfl rfl 1 (by decide) (hts (.fieldLink RX7 15 "FontRuns$Writing" "count" "I") mw_X7_drop_w_0) (fun _ h9 => h9) rfl dX7_drop_3 ?_
  refine k_callR (va_runSN (As := [.int (zI x), .int (zI 0), .int (zI n)]) (rest := []) ⟨hx, hb, hml, hown, hts⟩ (c_X8_isWithin l D s.heap.size (v := x) (a := 0) (b := n) q0 (by omega) (by omega)) (⟨va_cnB 3 hts gX7_drop_X8_isWithin_n19 rfl rfl rfl (hN.1 (RX7, 19, yX8_isWithin) (by decide +kernel)) (hts (.initialized RX8) mw_X7_drop_w_1) (by decide +kernel) ⟨Nat.le_of_ble_eq_true rfl, Nat.le_of_ble_eq_true rfl⟩, (hts (.static yX8_isWithin) mw_X7_drop_w_2), trivial⟩) (kPreS hP (kD0 hD) hK hN [] [] ax_X7_drop_w_0 rfl (by decide +kernel)) rfl rfl hl.1 rfl (lv_room (Nat.le_of_ble_eq_true rfl)) dX7_drop_6 ⟨Nat.le_of_ble_eq_true rfl, Nat.le_of_ble_eq_true rfl⟩) ?_
  refine lv_if_ne (tgt := 14) hx hb dX7_drop_9 (by decide) (fun c_1 => ?_) (fun c_1 => ?_)
  · have c_1 : 0 ≤ x ∧ x ≤ n := b01t c_1
    refine lv_aload_n hx hb dX7_drop_14 rfl (lv_at hl 0 rfl) ?_
    refine lv_dup hx hb dX7_drop_15 rfl ?_
    refine va_get (D := D) (ci := 7) (v := .int (zI n)) (C := RX7) (T := TX7) (N := 2) hx hb hts (fun _ h9 => List.mem_cons_of_mem _ (List.mem_append_right _ h9)) hown hK hP 0 rfl rfl 1 (by decide) (hts (.fieldLink RX7 15 "FontRuns$Writing" "count" "I") mw_X7_drop_w_0) (fun _ h9 => h9) rfl dX7_drop_16 ?_
    refine lv_iload_n hx hb dX7_drop_19 rfl (lv_at hl 1 rfl) ?_
    refine kz_isub hx hb dX7_drop_20 ?_
    refine va_put (D := D) (ci := 7) (v := .int (zI (n - x))) (ty := .int) (C := RX7) (T := TX7) (N := 2) hx hb hts (fun _ h9 => List.mem_cons_of_mem _ (List.mem_append_right _ h9)) tyX7 tyX7_ok nmX7 hown hK hP hD hS 0 rfl rfl 1 (by decide) (hts (.fieldLink RX7 15 "FontRuns$Writing" "count" "I") mw_X7_drop_w_0) (fun _ h9 => h9) rfl (by decide +kernel) rfl rfl (Nat.le_of_ble_eq_true rfl) dX7_drop_21 (fun H locs hP hD hS => ?_)
    have hP : va_P D vwCl [(h0, .inr (7, [.ref r1, .int (zI (n - x))]))] H := hP
    have hD : va_D A [(h0, .inr (7, [.ref r1, .int (zI (n - x))]))] := hD
    refine lv_iconst (v := zI 1) hx hb dX7_drop_24 rfl ?_
    have hP9 := hP.sub (ws' := [(h0, .inr (7, [.ref r1, .int (zI (n - x))]))]) [0] rfl
    have hD9 := hD.sub (ws' := [(h0, .inr (7, [.ref r1, .int (zI (n - x))]))]) [0] (by decide +kernel) rfl
    exact W.zret (v := (zI 1)) hx hb hr rfl (fun t ht hW => kQS_of (by omega) ⟨(n - x), (by omega), (by omega), (by omega), by rw [ht]; exact hP9, hD9⟩ (hS.F ht)) hS.2.2 dX7_drop_25
  · have c_1 : ¬ (0 ≤ x ∧ x ≤ n) := b01f c_1
    refine lv_iconst (v := zI 0) hx hb dX7_drop_12 rfl ?_
    have hP9 := hP.sub (ws' := [(h0, .inr (7, [.ref r1, .int (zI n)]))]) [0] rfl
    have hD9 := hD.sub (ws' := [(h0, .inr (7, [.ref r1, .int (zI n)]))]) [0] (by decide +kernel) rfl
    exact W.zret (v := (zI 0)) hx hb hr rfl (fun t ht hW => kQS_of (by omega) ⟨n, q1, (by omega), (by omega), by rw [ht]; exact hP9, hD9⟩ (hS.F ht)) hS.2.2 dX7_drop_13
set_option maxHeartbeats 4000000 in
set_option maxRecDepth 100000 in
theorem c_X8_stepOf_w (l : Launch) (D : va_G) (sz : Nat) (k : Int) (b : Int) (q0 : rg k) (q1 : rg b) : Met l yX8_stepOf wsX8_stepOf ({ frames := 0, cells := 0, slots := 0, locals := 0 }) (kPre [.int (zI k), .int (zI b)] D [] [] sz) (QcP (fun rz => zI rz = kStX (zI k) (zI b))) 0 0 (fun _ => False) := by
  refine Met.ofW (cc := cX8_stepOf) (maxL := 2) (ret := (some .int)) (by decide) rfl ?_
  intro p e s m args below meth c s₁ B hml hv
  obtain ⟨rfl, hsz, hP, hK, hD0, hN⟩ := hv
  have hx := B.exec
  have hb := B.bytes
  have hr := B.returns
  have hts := atoms_spec (ws := wsX8_stepOf) B.pre
  have hown : s.vm.findClass RX8 = some m.cls := findClass_of_methodNamed B.named
  have hlocks := B.notSynchronized
  subst hsz
  have hD := hD0
  have hP : va_P D vwCl [] s.heap := hP
  have hl := lv_entry ([.int (zI k), .int (zI b)]) (n := 2) (Nat.le_of_ble_eq_true rfl)
  rw [lg_entry_eq]
  generalize (lg_sl ([.int (zI k), .int (zI b)]) ++ List.replicate (2 - (lg_sl ([.int (zI k), .int (zI b)])).length) Slot.unset).toArray = ls at hl ⊢
  have hl : lv_has ls 2 [(0, .int (zI k)), (1, .int (zI b))] := hl
  refine lv_iload_n hx hb dX8_stepOf_0 rfl (lv_at hl 0 rfl) ?_
  rcases (show k = 1 ∨ k = 2 ∨ (¬ k = 1 ∧ ¬ k = 2) from by omega) with c_1 | c_1 | c_1
  · refine kz_look (tgt := 32) (off := 31) hx hb dX8_stepOf_1 (by decide) (by omega) (by show Op.lookupswitch.offset [(1, 31), (2, 27)] 35 k = 31; rw [Op.lookupswitch.offset_cons, Op.lookupswitch.offset_cons, Op.lookupswitch.offset_nil]; (repeat' split) <;> omega) (by decide) ?_
    refine lv_iload_n hx hb dX8_stepOf_32 rfl (lv_at hl 1 rfl) ?_
    refine lv_iconst (v := zI 1) hx hb dX8_stepOf_33 rfl ?_
    refine kz_iadd hx hb dX8_stepOf_34 ?_
    refine kz_any (fun z_2 rz_2 ez_2 => ?_)
    exact W.iret (v := (zI z_2)) hx hb hr (fun t ht hW => QcP_of (by omega) (by first | exact kStX_2 (by omega) ez_2 | exact kStX_1 (by omega) ez_2 | exact kStX_0 (by omega) (by omega) ez_2) ht) (fun _ h9 => by cases h9) dX8_stepOf_35
  · refine kz_look (tgt := 28) (off := 27) hx hb dX8_stepOf_1 (by decide) (by omega) (by show Op.lookupswitch.offset [(1, 31), (2, 27)] 35 k = 27; rw [Op.lookupswitch.offset_cons, Op.lookupswitch.offset_cons, Op.lookupswitch.offset_nil]; (repeat' split) <;> omega) (by decide) ?_
    refine lv_iconst (v := zI 2) hx hb dX8_stepOf_28 rfl ?_
    refine lv_iload_n hx hb dX8_stepOf_29 rfl (lv_at hl 1 rfl) ?_
    refine kz_imul hx hb dX8_stepOf_30 ?_
    refine kz_any (fun z_3 rz_3 ez_3 => ?_)
    exact W.iret (v := (zI z_3)) hx hb hr (fun t ht hW => QcP_of (by omega) (by first | exact kStX_2 (by omega) ez_3 | exact kStX_1 (by omega) ez_3 | exact kStX_0 (by omega) (by omega) ez_3) ht) (fun _ h9 => by cases h9) dX8_stepOf_31
  · refine kz_look (tgt := 36) (off := 35) hx hb dX8_stepOf_1 (by decide) (by omega) (by show Op.lookupswitch.offset [(1, 31), (2, 27)] 35 k = 35; rw [Op.lookupswitch.offset_cons, Op.lookupswitch.offset_cons, Op.lookupswitch.offset_nil]; (repeat' split) <;> omega) (by decide) ?_
    refine lv_iload_n hx hb dX8_stepOf_36 rfl (lv_at hl 1 rfl) ?_
    refine kz_any (fun z_4 rz_4 ez_4 => ?_)
    exact W.iret (v := (zI z_4)) hx hb hr (fun t ht hW => QcP_of (by omega) (by first | exact kStX_2 (by omega) ez_4 | exact kStX_1 (by omega) ez_4 | exact kStX_0 (by omega) (by omega) ez_4) ht) (fun _ h9 => by cases h9) dX8_stepOf_37
set_option maxRecDepth 20000 in
theorem mw_X0_step_w_0 : (.fieldLink RX0 9 "FontRuns$FontRow" "kind" "[I" : Cond) ∈ wsX0_step := List.mem_cons_of_mem _ (List.mem_append_left _ (List.mem_of_getElem? (i := 0) rfl))
set_option maxRecDepth 20000 in
theorem mw_X0_step_w_1 : (.fieldLink RX0 15 "FontRuns$FontRow" "breadth" "[I" : Cond) ∈ wsX0_step := List.mem_cons_of_mem _ (List.mem_append_left _ (List.mem_of_getElem? (i := 1) rfl))
set_option maxRecDepth 20000 in
theorem mw_X0_step_w_2 : (.initialized RX8 : Cond) ∈ wsX0_step := List.mem_cons_of_mem _ (List.mem_append_left _ (List.mem_of_getElem? (i := 9) rfl))
set_option maxRecDepth 20000 in
theorem mw_X0_step_w_3 : (.static yX8_stepOf : Cond) ∈ wsX0_step := List.mem_cons_of_mem _ (List.mem_append_left _ (List.mem_of_getElem? (i := 11) rfl))
theorem ax_X0_step_w_0 {e0 e1 e2 : Nat × va_E} : ([0] : List Nat).map (fun i => ([e0, e1, e2] : va_W)[i]?) = ([e0] : va_W).map some := rfl
theorem ax_X0_step_w_1 {e0 e1 e2 : Nat × va_E} : ([] : List Nat).map (fun i => ([e0, e1, e2] : va_W)[i]?) = ([] : va_W).map some := rfl
set_option maxHeartbeats 4000000 in
set_option maxRecDepth 100000 in
theorem c_X0_step_w (l : Launch) (D : va_G) (sz : Nat) (f : Int) (h0 : Nat) (k1 : Nat) (k2 : Nat) (k3 : Nat) (n : Int) (ck1 : ClassId) (fk : Nat → Int32) (ck2 : ClassId) (fb : Nat → Int32) (q0 : rg f) (q1 : 0 ≤ n ∧ n ≤ 4) : Met l yX0_step wsX0_step ({ frames := 2, cells := 0, slots := 0, locals := 43 }) (kPre [.ref h0, .int (zI f)] D [(h0, .inr (0, [.ref k1, .ref k2, .ref k3, .int (zI n)])), (k1, .inl (ck1, 4, .inl fk)), (k2, .inl (ck2, 4, .inl fb))] [(ck1, .int), (ck2, .int)] sz) (QcP (fun rz => (0 ≤ f ∧ f ≤ n - 1) → zI rz = kStX (fk f.toNat) (fb f.toNat))) 0 0 (fun _ => False) := by
  refine Met.ofW (cc := cX0_step) (maxL := 2) (ret := (some .int)) (by decide) rfl ?_
  intro p e s m args below meth c s₁ B hml hv
  obtain ⟨rfl, hsz, hP, hK, hD0, hN⟩ := hv
  have hx := B.exec
  have hb := B.bytes
  have hr := B.returns
  have hts := atoms_spec (ws := wsX0_step) B.pre
  have hown : s.vm.findClass RX0 = some m.cls := findClass_of_methodNamed B.named
  have hlocks := B.notSynchronized
  subst hsz
  have hD := hD0
  have hP : va_P D vwCl [(h0, .inr (0, [.ref k1, .ref k2, .ref k3, .int (zI n)])), (k1, .inl (ck1, 4, .inl fk)), (k2, .inl (ck2, 4, .inl fb))] s.heap := hP
  have hl := lv_entry ([.ref h0, .int (zI f)]) (n := 2) (Nat.le_of_ble_eq_true rfl)
  rw [lg_entry_eq]
  generalize (lg_sl ([.ref h0, .int (zI f)]) ++ List.replicate (2 - (lg_sl ([.ref h0, .int (zI f)])).length) Slot.unset).toArray = ls at hl ⊢
  have hl : lv_has ls 2 [(0, .ref h0), (1, .int (zI f))] := hl
  refine lv_aload_n hx hb dX0_step_0 rfl (lv_at hl 0 rfl) ?_
  refine lv_iload_n hx hb dX0_step_1 rfl (lv_at hl 1 rfl) ?_
  refine k_callR (va_runV (As := [.int (zI f)]) (rest := []) ⟨hx, hb, hml, hown, hts⟩ (c_X0_isFont l D s.heap.size (f := f) (h0 := h0) (k1 := k1) (k2 := k2) (k3 := k3) (n := n) q0 q1) (cwV 1 hts gX0_step_X0_isFont rfl rfl rfl (by decide +kernel) ⟨Nat.le_of_ble_eq_true rfl, Nat.le_of_ble_eq_true rfl⟩) (kPreV hP (kD0 hD) hK hN [0] [] ax_X0_step_w_0 rfl (by decide +kernel) 0 0 rfl rfl) rfl rfl hl.1 rfl (lv_room (Nat.le_of_ble_eq_true rfl)) dX0_step_2 ⟨Nat.le_of_ble_eq_true rfl, Nat.le_of_ble_eq_true rfl⟩) ?_
  refine lv_if_eq (tgt := 26) hx hb dX0_step_5 (by decide) (fun c_1 => ?_) (fun c_1 => ?_)
  · have c_1 : ¬ (0 ≤ f ∧ f ≤ n - 1) := b01f c_1
    refine lv_iconst (v := zI 0) hx hb dX0_step_26 rfl ?_
    exact W.iret (v := (zI 0)) hx hb hr (fun t ht hW => QcP_of (by omega) (fun q9 => absurd q9 (by omega)) ht) (fun _ h9 => by cases h9) dX0_step_27
  · have c_1 : 0 ≤ f ∧ f ≤ n - 1 := b01t c_1
    refine lv_aload_n hx hb dX0_step_8 rfl (lv_at hl 0 rfl) ?_
    refine va_get (D := D) (ci := 0) (v := .ref k1) (C := RX0) (T := TX0) (N := 4) hx hb hts (fun _ h9 => List.mem_cons_of_mem _ (List.mem_append_right _ h9)) hown hK hP 0 rfl rfl 0 (by decide) (hts (.fieldLink RX0 9 "FontRuns$FontRow" "kind" "[I") mw_X0_step_w_0) (fun _ h9 => h9) rfl dX0_step_9 ?_
    refine lv_iload_n hx hb dX0_step_12 rfl (lv_at hl 1 rfl) ?_
    refine kz_iald hx hb hK hP 1 0 rfl rfl (by omega) dX0_step_13 (fun z_2 rz_2 ez_2 => ?_)
    refine lv_aload_n hx hb dX0_step_14 rfl (lv_at hl 0 rfl) ?_
    refine va_get (D := D) (ci := 0) (v := .ref k2) (C := RX0) (T := TX0) (N := 4) hx hb hts (fun _ h9 => List.mem_cons_of_mem _ (List.mem_append_right _ h9)) hown hK hP 0 rfl rfl 1 (by decide) (hts (.fieldLink RX0 15 "FontRuns$FontRow" "breadth" "[I") mw_X0_step_w_1) (fun _ h9 => h9) rfl dX0_step_15 ?_
    refine lv_iload_n hx hb dX0_step_18 rfl (lv_at hl 1 rfl) ?_
    refine kz_iald hx hb hK hP 2 1 rfl rfl (by omega) dX0_step_19 (fun z_3 rz_3 ez_3 => ?_)
    refine k_callP (va_runSN (As := [.int (zI z_2), .int (zI z_3)]) (rest := []) ⟨hx, hb, hml, hown, hts⟩ (c_X8_stepOf_w l D s.heap.size (k := z_2) (b := z_3) (by omega) (by omega)) (⟨va_cnB 2 hts gX0_step_X8_stepOf_n33 rfl rfl rfl (hN.1 (RX0, 33, yX8_stepOf) (by decide +kernel)) (hts (.initialized RX8) mw_X0_step_w_2) (by decide +kernel) ⟨Nat.le_of_ble_eq_true rfl, Nat.le_of_ble_eq_true rfl⟩, (hts (.static yX8_stepOf) mw_X0_step_w_3), trivial⟩) (kPreS hP (kD0 hD) hK hN [] [] ax_X0_step_w_1 rfl (by decide +kernel)) rfl rfl hl.1 rfl (lv_room (Nat.le_of_ble_eq_true rfl)) dX0_step_20 ⟨Nat.le_of_ble_eq_true rfl, Nat.le_of_ble_eq_true rfl⟩) (fun z_4 rz_4 h_5 => ?_)
    refine lv_goto (tgt := 27) hx hb dX0_step_23 (by decide) ?_
    exact W.iret (v := (zI z_4)) hx hb hr (fun t ht hW => QcP_of (by omega) (fun _ => by rw [ez_2, ez_3]; exact h_5) ht) (fun _ h9 => by cases h9) dX0_step_27
