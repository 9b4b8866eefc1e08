set_option maxRecDepth 20000 in
theorem mw_J6_bitCount_0f7a4_w_0 : (.constant RJ6 265 (1431655765) : Cond) ∈ wsJ6_bitCount_0f7a4 := List.mem_cons_of_mem _ (List.mem_of_getElem? (i := 0) rfl)
set_option maxRecDepth 20000 in
theorem mw_J6_bitCount_0f7a4_w_1 : (.constant RJ6 266 (858993459) : Cond) ∈ wsJ6_bitCount_0f7a4 := List.mem_cons_of_mem _ (List.mem_of_getElem? (i := 1) rfl)
set_option maxRecDepth 20000 in
theorem mw_J6_bitCount_0f7a4_w_2 : (.constant RJ6 267 (252645135) : Cond) ∈ wsJ6_bitCount_0f7a4 := List.mem_cons_of_mem _ (List.mem_of_getElem? (i := 2) rfl)
set_option maxHeartbeats 4000000 in
set_option maxRecDepth 100000 in
theorem c_J6_bitCount_0f7a4_w (l : Launch) (D : va_G) (sz : Nat) (x : Int) (q0 : rg x) : Met l yJ6_bitCount_0f7a4 wsJ6_bitCount_0f7a4 ({ frames := 0, cells := 0, slots := 0, locals := 0 }) (kPre [.int (zI x)] D [] [] sz) (QcRead (kBc (zI x))) 0 0 (fun _ => False) := by
  refine Met.ofW (cc := cJ6_bitCount_0f7a4) (maxL := 1) (ret := (some .int)) (by decide) rfl ?_
  intro p e s m args below meth c s₁ B hml hv
  obtain ⟨rfl, hsz, hP, hK, hD0, hN⟩ := hv
  have hx := B.exec
  have hb := B.bytes
  have hr := B.returns
  have hts := atoms_spec (ws := wsJ6_bitCount_0f7a4) B.pre
  have hown : s.vm.findClass RJ6 = some m.cls := findClass_of_methodNamed B.named
  have hlocks := B.notSynchronized
  subst hsz
  have hD := hD0
  have hP : va_P D vwCl [] s.heap := hP
  have hl := lv_entry ([.int (zI x)]) (n := 1) (Nat.le_of_ble_eq_true rfl)
  rw [lg_entry_eq]
  generalize (lg_sl ([.int (zI x)]) ++ List.replicate (1 - (lg_sl ([.int (zI x)])).length) Slot.unset).toArray = ls at hl ⊢
  have hl : lv_has ls 1 [(0, .int (zI x))] := hl
  refine lv_iload_n hx hb dJ6_bitCount_0f7a4_0 rfl (lv_at hl 0 rfl) ?_
  refine lv_iload_n hx hb dJ6_bitCount_0f7a4_1 rfl (lv_at hl 0 rfl) ?_
  refine lv_iconst (v := zI 1) hx hb dJ6_bitCount_0f7a4_2 rfl ?_
  refine lv_iushr hx hb dJ6_bitCount_0f7a4_3 rfl ?_
  refine kz_any (fun z_1 rz_1 ez_1 => ?_)
  refine lv_ldcw (v := zI 1431655765) hx hb hown (show (Cond.constant RJ6 265 (zI 1431655765)).before _ s = true from (hts (.constant RJ6 265 (1431655765)) mw_J6_bitCount_0f7a4_w_0)) dJ6_bitCount_0f7a4_4 ?_
  refine lv_iand hx hb dJ6_bitCount_0f7a4_7 ?_
  refine kz_any (fun z_2 rz_2 ez_2 => ?_)
  refine kz_isub hx hb dJ6_bitCount_0f7a4_8 ?_
  refine kz_any (fun z_3 rz_3 ez_3 => ?_)
  refine lv_istore_n (lv' := [(0, .int (zI z_3))]) hx hb dJ6_bitCount_0f7a4_9 rfl hl (by decide) rfl (fun ls hl => ?_)
  refine lv_iload_n hx hb dJ6_bitCount_0f7a4_10 rfl (lv_at hl 0 rfl) ?_
  refine lv_ldcw (v := zI 858993459) hx hb hown (show (Cond.constant RJ6 266 (zI 858993459)).before _ s = true from (hts (.constant RJ6 266 (858993459)) mw_J6_bitCount_0f7a4_w_1)) dJ6_bitCount_0f7a4_11 ?_
  refine lv_iand hx hb dJ6_bitCount_0f7a4_14 ?_
  refine kz_any (fun z_4 rz_4 ez_4 => ?_)
  refine lv_iload_n hx hb dJ6_bitCount_0f7a4_15 rfl (lv_at hl 0 rfl) ?_
  refine lv_iconst (v := zI 2) hx hb dJ6_bitCount_0f7a4_16 rfl ?_
  refine lv_iushr hx hb dJ6_bitCount_0f7a4_17 rfl ?_
  refine kz_any (fun z_5 rz_5 ez_5 => ?_)
  refine lv_ldcw (v := zI 858993459) hx hb hown (show (Cond.constant RJ6 266 (zI 858993459)).before _ s = true from (hts (.constant RJ6 266 (858993459)) mw_J6_bitCount_0f7a4_w_1)) dJ6_bitCount_0f7a4_18 ?_
  refine lv_iand hx hb dJ6_bitCount_0f7a4_21 ?_
  refine kz_any (fun z_6 rz_6 ez_6 => ?_)
  refine kz_iadd hx hb dJ6_bitCount_0f7a4_22 ?_
  refine kz_any (fun z_7 rz_7 ez_7 => ?_)
  refine lv_istore_n (lv' := [(0, .int (zI z_7))]) hx hb dJ6_bitCount_0f7a4_23 rfl hl (by decide) rfl (fun ls hl => ?_)
  refine lv_iload_n hx hb dJ6_bitCount_0f7a4_24 rfl (lv_at hl 0 rfl) ?_
  refine lv_iload_n hx hb dJ6_bitCount_0f7a4_25 rfl (lv_at hl 0 rfl) ?_
  refine lv_iconst (v := zI 4) hx hb dJ6_bitCount_0f7a4_26 rfl ?_
  refine lv_iushr hx hb dJ6_bitCount_0f7a4_27 rfl ?_
  refine kz_any (fun z_8 rz_8 ez_8 => ?_)
  refine kz_iadd hx hb dJ6_bitCount_0f7a4_28 ?_
  refine lv_ldcw (v := zI 252645135) hx hb hown (show (Cond.constant RJ6 267 (zI 252645135)).before _ s = true from (hts (.constant RJ6 267 (252645135)) mw_J6_bitCount_0f7a4_w_2)) dJ6_bitCount_0f7a4_29 ?_
  refine lv_iand hx hb dJ6_bitCount_0f7a4_32 ?_
  refine kz_any (fun z_9 rz_9 ez_9 => ?_)
  refine kz_any (fun z_10 rz_10 ez_10 => ?_)
  refine lv_istore_n (lv' := [(0, .int (zI z_10))]) hx hb dJ6_bitCount_0f7a4_33 rfl hl (by decide) rfl (fun ls hl => ?_)
  refine lv_iload_n hx hb dJ6_bitCount_0f7a4_34 rfl (lv_at hl 0 rfl) ?_
  refine lv_iload_n hx hb dJ6_bitCount_0f7a4_35 rfl (lv_at hl 0 rfl) ?_
  refine lv_bipush (v := zI 8) hx hb dJ6_bitCount_0f7a4_36 (by decide) ?_
  refine lv_iushr hx hb dJ6_bitCount_0f7a4_38 rfl ?_
  refine kz_any (fun z_11 rz_11 ez_11 => ?_)
  refine kz_iadd hx hb dJ6_bitCount_0f7a4_39 ?_
  refine kz_any (fun z_12 rz_12 ez_12 => ?_)
  refine lv_istore_n (lv' := [(0, .int (zI z_12))]) hx hb dJ6_bitCount_0f7a4_40 rfl hl (by decide) rfl (fun ls hl => ?_)
  refine lv_iload_n hx hb dJ6_bitCount_0f7a4_41 rfl (lv_at hl 0 rfl) ?_
  refine lv_iload_n hx hb dJ6_bitCount_0f7a4_42 rfl (lv_at hl 0 rfl) ?_
  refine lv_bipush (v := zI 16) hx hb dJ6_bitCount_0f7a4_43 (by decide) ?_
  refine lv_iushr hx hb dJ6_bitCount_0f7a4_45 rfl ?_
  refine kz_any (fun z_13 rz_13 ez_13 => ?_)
  refine kz_iadd hx hb dJ6_bitCount_0f7a4_46 ?_
  refine kz_any (fun z_14 rz_14 ez_14 => ?_)
  refine lv_istore_n (lv' := [(0, .int (zI z_14))]) hx hb dJ6_bitCount_0f7a4_47 rfl hl (by decide) rfl (fun ls hl => ?_)
  refine lv_iload_n hx hb dJ6_bitCount_0f7a4_48 rfl (lv_at hl 0 rfl) ?_
  refine lv_bipush (v := zI 63) hx hb dJ6_bitCount_0f7a4_49 (by decide) ?_
  refine lv_iand hx hb dJ6_bitCount_0f7a4_51 ?_
  refine kz_any (fun z_15 rz_15 ez_15 => ?_)
  exact W.iret (v := (zI z_15)) hx hb hr (fun t ht hW => kRd (by have Ez_1 := ez_1.symm; have Ez_2 := ez_2.symm; have Ez_3 : zI z_3 = zI x - zI z_2 := (by rw [← ez_3, zI_sub]); have Ez_4 := ez_4.symm; have Ez_5 := ez_5.symm; have Ez_6 := ez_6.symm; have Ez_7 : zI z_7 = zI z_4 + zI z_6 := (by rw [← ez_7, zI_add]); have Ez_8 := ez_8.symm; have Ez_9 : zI z_9 = (zI z_7 + zI z_8) &&& (zI 252645135) := (by rw [zI_add]; exact ez_9.symm); have Ez_10 := ez_10.symm; have Ez_11 := ez_11.symm; have Ez_12 : zI z_12 = zI z_10 + zI z_11 := (by rw [← ez_12, zI_add]); have Ez_13 := ez_13.symm; have Ez_14 : zI z_14 = zI z_12 + zI z_13 := (by rw [← ez_14, zI_add]); have Ez_15 := ez_15.symm; rw [Ez_15, Ez_14, Ez_13, Ez_12, Ez_11, Ez_10, Ez_9, Ez_8, Ez_7, Ez_6, Ez_5, Ez_4, Ez_3, Ez_2, Ez_1]; rfl) ht) (fun _ h9 => by cases h9) dJ6_bitCount_0f7a4_52
set_option maxHeartbeats 4000000 in
set_option maxRecDepth 100000 in
theorem c_X9_size_w (l : Launch) (D : va_G) (sz : Nat) (x : Int) (q0 : rg x) : Met l yX9_size wsX9_size ({ frames := 0, cells := 0, slots := 0, locals := 0 }) (kPre [.int (zI x)] D [] [] sz) (QcP (fun rz => (0 ≤ x ∧ x < 65536) → rz = kPop x)) 0 0 (fun _ => False) := by
  refine Met.ofW (cc := cX9_size) (maxL := 3) (ret := (some .int)) (by decide) rfl ?_
  intro p e s m args below meth c s₁ B hml hv
  obtain ⟨rfl, hsz, hP, hK, hD0, hN⟩ := hv
  have hx := B.exec
  have hb := B.bytes
  have hr := B.returns
  have hts := atoms_spec (ws := wsX9_size) B.pre
  have hown : s.vm.findClass RX9 = some m.cls := findClass_of_methodNamed B.named
  have hlocks := B.notSynchronized
  subst hsz
  have hD := hD0
  have hP : va_P D vwCl [] s.heap := hP
  have hl := lv_entry ([.int (zI x)]) (n := 3) (Nat.le_of_ble_eq_true rfl)
  rw [lg_entry_eq]
  generalize (lg_sl ([.int (zI x)]) ++ List.replicate (3 - (lg_sl ([.int (zI x)])).length) Slot.unset).toArray = ls at hl ⊢
  have hl : lv_has ls 3 [(0, .int (zI x))] := hl
  refine lv_iconst (v := zI 0) hx hb dX9_size_0 rfl ?_
  refine lv_istore_n (lv' := [(1, .int (zI 0)), (0, .int (zI x))]) hx hb dX9_size_1 rfl hl (by decide) rfl (fun ls hl => ?_)
  refine lv_iload_n hx hb dX9_size_2 rfl (lv_at hl 1 rfl) ?_
  refine lv_istore_n (lv' := [(2, .int (zI x)), (1, .int (zI 0)), (0, .int (zI x))]) hx hb dX9_size_3 rfl hl (by decide) rfl (fun ls hl => ?_)
  refine k_loopM (I := fun n9 H locs ls => ∃ (js : Int) (jl : Int), n9 = (jl).toNat ∧ (rg js) ∧ (rg jl) ∧ (kSz x js jl) ∧ H = s.heap ∧ locs = [] ∧ lv_has ls 3 [(2, .int (zI jl)), (1, .int (zI js)), (0, .int (zI x))]) ?_ _ ⟨0, x, rfl, (by omega), q0, kSz_0, rfl, rfl, hl⟩
  intro n4 ih4 H locs ls hI
  obtain ⟨js, jl, en4, v_40, v_41, v_42, eH, eL, hl⟩ := hI
  subst eH
  subst eL
  refine lv_iload_n hx hb dX9_size_4 rfl (lv_at hl 0 rfl) ?_
  refine kz_if_le (tgt := 21) hx hb dX9_size_5 (by decide) (by omega) (fun c_1 => ?_) (fun c_1 => ?_)
  · refine lv_iload_n hx hb dX9_size_21 rfl (lv_at hl 1 rfl) ?_
    exact W.iret (v := (zI js)) hx hb hr (fun t ht hW => QcP_of (by omega) (kSz_e v_42 (by omega)) ht) (fun _ h9 => by cases h9) dX9_size_22
  · refine lv_iload_n hx hb dX9_size_8 rfl (lv_at hl 1 rfl) ?_
    refine lv_iload_n hx hb dX9_size_9 rfl (lv_at hl 0 rfl) ?_
    refine lv_iconst (v := zI 1) hx hb dX9_size_10 rfl ?_
    refine lv_iand hx hb dX9_size_11 ?_
    refine kz_any (fun z_2 rz_2 ez_2 => ?_)
    refine kz_iadd hx hb dX9_size_12 ?_
    refine kz_any (fun z_3 rz_3 ez_3 => ?_)
    refine lv_istore_n (lv' := [(1, .int (zI z_3)), (2, .int (zI jl)), (0, .int (zI x))]) hx hb dX9_size_13 rfl hl (by decide) rfl (fun ls hl => ?_)
    refine lv_iload_n hx hb dX9_size_14 rfl (lv_at hl 1 rfl) ?_
    refine lv_iconst (v := zI 1) hx hb dX9_size_15 rfl ?_
    refine lv_ishr hx hb dX9_size_16 ?_
    refine kz_any (fun z_4 rz_4 ez_4 => ?_)
    have bz_4 := kshr1 (by omega) rz_4 ez_4
    refine lv_istore_n (lv' := [(2, .int (zI z_4)), (1, .int (zI z_3)), (0, .int (zI x))]) hx hb dX9_size_17 rfl hl (by decide) rfl (fun ls hl => ?_)
    refine lv_goto (tgt := 4) hx hb dX9_size_18 (by decide) ?_
    exact ih4 _ (by omega) _ _ _ ⟨z_3, z_4, rfl, (by omega), (by omega), (kSz_s v_42 (by omega) rz_2 ez_2 rz_3 ez_3 bz_4), rfl, rfl, lv_sub hl [0, 1, 2] rfl⟩
theorem dX6_takesHead_0 : decode cX6_takesHead 0 = .ok (.aload_n 0, 1) := kqo_2a kbl_X6_takesHead (pc := 0) rfl
theorem dX6_takesHead_1 : decode cX6_takesHead 1 = .ok (.iconst 1, 1) := kqo_04 kbl_X6_takesHead (pc := 1) rfl
theorem dX6_takesHead_2 : decode cX6_takesHead 2 = .ok (.putfield 22, 3) := kqo_b5 (x1 := 0) (x2 := 22) kbl_X6_takesHead (pc := 2) rfl rfl
theorem dX6_takesHead_5 : decode cX6_takesHead 5 = .ok (.iload_n 1, 1) := kqo_1b kbl_X6_takesHead (pc := 5) rfl
theorem dX6_takesHead_6 : decode cX6_takesHead 6 = .ok (.bipush 102, 2) := kqo_10 (x1 := 102) kbl_X6_takesHead (pc := 6) rfl rfl
theorem dX6_takesHead_8 : decode cX6_takesHead 8 = .ok (.if_icmp .ne 7, 3) := kqo_a0 (x1 := 0) (x2 := 7) kbl_X6_takesHead (pc := 8) rfl rfl
theorem dX6_takesHead_11 : decode cX6_takesHead 11 = .ok (.iconst 1, 1) := kqo_04 kbl_X6_takesHead (pc := 11) rfl
theorem dX6_takesHead_12 : decode cX6_takesHead 12 = .ok (.goto 4, 3) := kqo_a7 (x1 := 0) (x2 := 4) kbl_X6_takesHead (pc := 12) rfl rfl
theorem dX6_takesHead_15 : decode cX6_takesHead 15 = .ok (.iconst 0, 1) := kqo_03 kbl_X6_takesHead (pc := 15) rfl
theorem dX6_takesHead_16 : decode cX6_takesHead 16 = .ok (.ireturn, 1) := kqo_ac kbl_X6_takesHead (pc := 16) rfl
set_option maxRecDepth 20000 in
theorem mw_X6_takesHead_w_0 : (.fieldLink RX6 22 "FontRuns$TextReader" "due" "I" : Cond) ∈ wsX6_takesHead := List.mem_cons_of_mem _ (List.mem_append_left _ (List.mem_of_getElem? (i := 0) rfl))
theorem ax_X6_takesHead_w_0 {e0 : Nat × va_E} : ([0] : List Nat).map (fun i => ([e0] : va_W)[i]?) = ([e0] : va_W).map some := rfl
set_option maxHeartbeats 4000000 in
set_option maxRecDepth 100000 in
theorem c_X6_takesHead_w (l : Launch) (D : va_G) (sz : Nat) (x : Int) (h0 : Nat) (td : Nat) (du : Int) (q0 : rg x) : Met l yX6_takesHead wsX6_takesHead ({ frames := 0, cells := 0, slots := 0, locals := 0 }) (kPre [.ref h0, .int (zI x)] D [(h0, .inr (6, [.ref td, .int (zI du)]))] [] sz) (kQS (fun rz t => ∃ (ud : Int), (ud = 1 ∧ ((rz = 1 ∧ x = 102) ∨ (rz = 0 ∧ ¬ x = 102))) ∧ va_P D vwCl [(h0, .inr (6, [.ref td, .int (zI ud)]))] t.heap ∧ va_D (va_A [(h0, .inr (6, [.ref td, .int (zI du)]))] sz) [(h0, .inr (6, [.ref td, .int (zI ud)]))]) (va_A [(h0, .inr (6, [.ref td, .int (zI du)]))] sz)) 0 0 (va_A [(h0, .inr (6, [.ref td, .int (zI du)]))] sz) := by
  refine Met.ofW (cc := cX6_takesHead) (maxL := 2) (ret := (some .boolean)) (by decide) rfl ?_
  intro p e s m args below meth c s₁ B hml hv
  obtain ⟨rfl, hsz, hP, hK, hD0, hN⟩ := hv
  have hx := B.exec
  have hb := B.bytes
  have hr := B.returns
  have hts := atoms_spec (ws := wsX6_takesHead) B.pre
  have hown : s.vm.findClass RX6 = some m.cls := findClass_of_methodNamed B.named
  have hlocks := B.notSynchronized
  subst hsz
  have hD := hD0.self (sz := s.heap.size)
  generalize hAe : va_A [(h0, .inr (6, [.ref td, .int (zI du)]))] s.heap.size = A at hD ⊢
  have hA : ∀ q : Nat, s.heap.size ≤ q → A q := fun q h => by rw [← hAe]; exact Or.inr h
  have hS : va_S A s.heap s.heap [] := va_S.rf
  have hP : va_P D vwCl [(h0, .inr (6, [.ref td, .int (zI du)]))] s.heap := hP
  have hl := lv_entry ([.ref h0, .int (zI x)]) (n := 2) (Nat.le_of_ble_eq_true rfl)
  rw [lg_entry_eq]
  generalize (lg_sl ([.ref h0, .int (zI x)]) ++ List.replicate (2 - (lg_sl ([.ref h0, .int (zI x)])).length) Slot.unset).toArray = ls at hl ⊢
  have hl : lv_has ls 2 [(0, .ref h0), (1, .int (zI x))] := hl
  refine lv_aload_n hx hb dX6_takesHead_0 rfl (lv_at hl 0 rfl) ?_
  refine lv_iconst (v := zI 1) hx hb dX6_takesHead_1 rfl ?_
  refine va_put (D := D) (ci := 6) (v := .int (zI 1)) (ty := .int) (C := RX6) (T := TX6) (N := 2) hx hb hts (fun _ h9 => List.mem_cons_of_mem _ (List.mem_append_right _ h9)) tyX6 tyX6_ok nmX6 hown hK hP hD hS 0 rfl rfl 1 (by decide) (hts (.fieldLink RX6 22 "FontRuns$TextReader" "due" "I") mw_X6_takesHead_w_0) (fun _ h9 => h9) rfl (by decide +kernel) rfl rfl (Nat.le_of_ble_eq_true rfl) dX6_takesHead_2 (fun H locs hP hD hS => ?_)
  have hP : va_P D vwCl [(h0, .inr (6, [.ref td, .int (zI 1)]))] H := hP
  have hD : va_D A [(h0, .inr (6, [.ref td, .int (zI 1)]))] := hD
  refine lv_iload_n hx hb dX6_takesHead_5 rfl (lv_at hl 1 rfl) ?_
  refine lv_bipush (v := zI 102) hx hb dX6_takesHead_6 (by decide) ?_
  refine kz_icmp_ne (tgt := 15) hx hb dX6_takesHead_8 (by decide) (by omega) (by omega) (fun c_1 => ?_) (fun c_1 => ?_)
  · refine lv_iconst (v := zI 0) hx hb dX6_takesHead_15 rfl ?_
    have hP9 := hP.sub (ws' := [(h0, .inr (6, [.ref td, .int (zI 1)]))]) [0] rfl
    have hD9 := hD.sub (ws' := [(h0, .inr (6, [.ref td, .int (zI 1)]))]) [0] (by decide +kernel) rfl
    exact W.zret (v := (zI 0)) hx hb hr rfl (fun t ht hW => kQS_of (by omega) ⟨1, (by omega), by rw [ht]; exact hP9, hD9⟩ (hS.F ht)) hS.2.2 dX6_takesHead_16
  · refine lv_iconst (v := zI 1) hx hb dX6_takesHead_11 rfl ?_
    refine lv_goto (tgt := 16) hx hb dX6_takesHead_12 (by decide) ?_
    have hP9 := hP.sub (ws' := [(h0, .inr (6, [.ref td, .int (zI 1)]))]) [0] rfl
    have hD9 := hD.sub (ws' := [(h0, .inr (6, [.ref td, .int (zI 1)]))]) [0] (by decide +kernel) rfl
    exact W.zret (v := (zI 1)) hx hb hr rfl (fun t ht hW => kQS_of (by omega) ⟨1, (by omega), by rw [ht]; exact hP9, hD9⟩ (hS.F ht)) hS.2.2 dX6_takesHead_16
theorem dX6_takesSign_0 : decode cX6_takesSign 0 = .ok (.iload_n 1, 1) := kqo_1b kbl_X6_takesSign (pc := 0) rfl
theorem dX6_takesSign_1 : decode cX6_takesSign 1 = .ok (.bipush 59, 2) := kqo_10 (x1 := 59) kbl_X6_takesSign (pc := 1) rfl rfl
theorem dX6_takesSign_3 : decode cX6_takesSign 3 = .ok (.if_icmp .ne 14, 3) := kqo_a0 (x1 := 0) (x2 := 14) kbl_X6_takesSign (pc := 3) rfl rfl
theorem dX6_takesSign_6 : decode cX6_takesSign 6 = .ok (.aload_n 0, 1) := kqo_2a kbl_X6_takesSign (pc := 6) rfl
theorem dX6_takesSign_7 : decode cX6_takesSign 7 = .ok (.getfield 12, 3) := kqo_b4 (x1 := 0) (x2 := 12) kbl_X6_takesSign (pc := 7) rfl rfl
theorem dX6_takesSign_10 : decode cX6_takesSign 10 = .ok (.getfield 18, 3) := kqo_b4 (x1 := 0) (x2 := 18) kbl_X6_takesSign (pc := 10) rfl rfl
theorem dX6_takesSign_13 : decode cX6_takesSign 13 = .ok (.iconst 4, 1) := kqo_07 kbl_X6_takesSign (pc := 13) rfl
theorem dX6_takesSign_14 : decode cX6_takesSign 14 = .ok (.if_icmp .lt 5, 3) := kqo_a1 (x1 := 0) (x2 := 5) kbl_X6_takesSign (pc := 14) rfl rfl
theorem dX6_takesSign_17 : decode cX6_takesSign 17 = .ok (.iconst 0, 1) := kqo_03 kbl_X6_takesSign (pc := 17) rfl
theorem dX6_takesSign_18 : decode cX6_takesSign 18 = .ok (.ireturn, 1) := kqo_ac kbl_X6_takesSign (pc := 18) rfl
theorem dX6_takesSign_19 : decode cX6_takesSign 19 = .ok (.aload_n 0, 1) := kqo_2a kbl_X6_takesSign (pc := 19) rfl
theorem dX6_takesSign_20 : decode cX6_takesSign 20 = .ok (.getfield 12, 3) := kqo_b4 (x1 := 0) (x2 := 12) kbl_X6_takesSign (pc := 20) rfl rfl
theorem dX6_takesSign_23 : decode cX6_takesSign 23 = .ok (.getfield 51, 3) := kqo_b4 (x1 := 0) (x2 := 51) kbl_X6_takesSign (pc := 23) rfl rfl
theorem dX6_takesSign_26 : decode cX6_takesSign 26 = .ok (.aload_n 0, 1) := kqo_2a kbl_X6_takesSign (pc := 26) rfl
theorem dX6_takesSign_27 : decode cX6_takesSign 27 = .ok (.getfield 12, 3) := kqo_b4 (x1 := 0) (x2 := 12) kbl_X6_takesSign (pc := 27) rfl rfl
theorem dX6_takesSign_30 : decode cX6_takesSign 30 = .ok (.getfield 18, 3) := kqo_b4 (x1 := 0) (x2 := 18) kbl_X6_takesSign (pc := 30) rfl rfl
theorem dX6_takesSign_33 : decode cX6_takesSign 33 = .ok (.iconst 0, 1) := kqo_03 kbl_X6_takesSign (pc := 33) rfl
theorem dX6_takesSign_34 : decode cX6_takesSign 34 = .ok (.iastore, 1) := kqo_4f kbl_X6_takesSign (pc := 34) rfl
theorem dX6_takesSign_35 : decode cX6_takesSign 35 = .ok (.aload_n 0, 1) := kqo_2a kbl_X6_takesSign (pc := 35) rfl
theorem dX6_takesSign_36 : decode cX6_takesSign 36 = .ok (.getfield 12, 3) := kqo_b4 (x1 := 0) (x2 := 12) kbl_X6_takesSign (pc := 36) rfl rfl
theorem dX6_takesSign_39 : decode cX6_takesSign 39 = .ok (.dup, 1) := kqo_59 kbl_X6_takesSign (pc := 39) rfl
theorem dX6_takesSign_40 : decode cX6_takesSign 40 = .ok (.getfield 18, 3) := kqo_b4 (x1 := 0) (x2 := 18) kbl_X6_takesSign (pc := 40) rfl rfl
theorem dX6_takesSign_43 : decode cX6_takesSign 43 = .ok (.iconst 1, 1) := kqo_04 kbl_X6_takesSign (pc := 43) rfl
theorem dX6_takesSign_44 : decode cX6_takesSign 44 = .ok (.iadd, 1) := kqo_60 kbl_X6_takesSign (pc := 44) rfl
theorem dX6_takesSign_45 : decode cX6_takesSign 45 = .ok (.putfield 18, 3) := kqo_b5 (x1 := 0) (x2 := 18) kbl_X6_takesSign (pc := 45) rfl rfl
theorem dX6_takesSign_48 : decode cX6_takesSign 48 = .ok (.aload_n 0, 1) := kqo_2a kbl_X6_takesSign (pc := 48) rfl
theorem dX6_takesSign_49 : decode cX6_takesSign 49 = .ok (.iconst 2, 1) := kqo_05 kbl_X6_takesSign (pc := 49) rfl
theorem dX6_takesSign_50 : decode cX6_takesSign 50 = .ok (.putfield 22, 3) := kqo_b5 (x1 := 0) (x2 := 22) kbl_X6_takesSign (pc := 50) rfl rfl
theorem dX6_takesSign_53 : decode cX6_takesSign 53 = .ok (.iconst 1, 1) := kqo_04 kbl_X6_takesSign (pc := 53) rfl
theorem dX6_takesSign_54 : decode cX6_takesSign 54 = .ok (.ireturn, 1) := kqo_ac kbl_X6_takesSign (pc := 54) rfl
set_option maxRecDepth 20000 in
theorem mw_X6_takesSign_w_0 : (.fieldLink RX6 12 "FontRuns$TextReader" "told" "LFontRuns$FontRow;" : Cond) ∈ wsX6_takesSign := List.mem_cons_of_mem _ (List.mem_append_left _ (List.mem_append_left _ (List.mem_of_getElem? (i := 0) rfl)))
set_option maxRecDepth 20000 in
theorem mw_X6_takesSign_w_1 : (.fieldLink RX6 18 "FontRuns$FontRow" "count" "I" : Cond) ∈ wsX6_takesSign := List.mem_cons_of_mem _ (List.mem_append_left _ (List.mem_append_left _ (List.mem_of_getElem? (i := 1) rfl)))
set_option maxRecDepth 20000 in
theorem mw_X6_takesSign_w_2 : (.fieldLink RX6 51 "FontRuns$FontRow" "has" "[I" : Cond) ∈ wsX6_takesSign := List.mem_cons_of_mem _ (List.mem_append_left _ (List.mem_append_left _ (List.mem_of_getElem? (i := 2) rfl)))
set_option maxRecDepth 20000 in
theorem mw_X6_takesSign_w_3 : (.fieldLink RX6 22 "FontRuns$TextReader" "due" "I" : Cond) ∈ wsX6_takesSign := List.mem_cons_of_mem _ (List.mem_append_left _ (List.mem_append_left _ (List.mem_of_getElem? (i := 3) rfl)))
theorem ax_X6_takesSign_w_0 {e0 e1 e2 : Nat × va_E} : ([0, 1, 2] : List Nat).map (fun i => ([e0, e1, e2] : va_W)[i]?) = ([e0, e1, e2] : va_W).map some := rfl
set_option maxHeartbeats 4000000 in
set_option maxRecDepth 100000 in
theorem c_X6_takesSign_w (l : Launch) (D : va_G) (sz : Nat) (x : Int) (h0 : Nat) (td : Nat) (du : Int) (k1 : Nat) (k2 : Nat) (k3 : Nat) (n : Int) (ck3 : ClassId) (fh : Nat → Int32) (q0 : rg x) (q1 : rg du) (q2 : 0 ≤ n ∧ n ≤ 4) : Met l yX6_takesSign wsX6_takesSign ({ frames := 0, cells := 0, slots := 0, locals := 0 }) (kPre [.ref h0, .int (zI x)] D [(h0, .inr (6, [.ref td, .int (zI du)])), (td, .inr (0, [.ref k1, .ref k2, .ref k3, .int (zI n)])), (k3, .inl (ck3, 4, .inl fh))] [(ck3, .int)] sz) (kQS (fun rz t => ∃ (ud : Int) (un : Int) (uh : Nat → Int32), ((rz = 1 ∧ ud = 2 ∧ un = n + 1 ∧ kSgC n fh x = some uh) ∨ (rz = 0 ∧ kSgC n fh x = none)) ∧ (rg ud) ∧ (0 ≤ un ∧ un ≤ 4) ∧ va_P D vwCl [(h0, .inr (6, [.ref td, .int (zI ud)])), (td, .inr (0, [.ref k1, .ref k2, .ref k3, .int (zI un)])), (k3, .inl (ck3, 4, .inl uh))] t.heap ∧ va_D (va_A [(h0, .inr (6, [.ref td, .int (zI du)])), (td, .inr (0, [.ref k1, .ref k2, .ref k3, .int (zI n)])), (k3, .inl (ck3, 4, .inl fh))] sz) [(h0, .inr (6, [.ref td, .int (zI ud)])), (td, .inr (0, [.ref k1, .ref k2, .ref k3, .int (zI un)])), (k3, .inl (ck3, 4, .inl uh))]) (va_A [(h0, .inr (6, [.ref td, .int (zI du)])), (td, .inr (0, [.ref k1, .ref k2, .ref k3, .int (zI n)])), (k3, .inl (ck3, 4, .inl fh))] sz)) 0 0 (va_A [(h0, .inr (6, [.ref td, .int (zI du)])), (td, .inr (0, [.ref k1, .ref k2, .ref k3, .int (zI n)])), (k3, .inl (ck3, 4, .inl fh))] sz) := by
  refine Met.ofW (cc := cX6_takesSign) (maxL := 2) (ret := (some .boolean)) (by decide) rfl ?_
  intro p e s m args below meth c s₁ B hml hv
  obtain ⟨rfl, hsz, hP, hK, hD0, hN⟩ := hv
  have hx := B.exec
  have hb := B.bytes
  have hr := B.returns
  have hts := atoms_spec (ws := wsX6_takesSign) B.pre
  have hown : s.vm.findClass RX6 = some m.cls := findClass_of_methodNamed B.named
  have hlocks := B.notSynchronized
  subst hsz
  have hD := hD0.self (sz := s.heap.size)
  generalize hAe : va_A [(h0, .inr (6, [.ref td, .int (zI du)])), (td, .inr (0, [.ref k1, .ref k2, .ref k3, .int (zI n)])), (k3, .inl (ck3, 4, .inl fh))] s.heap.size = A at hD ⊢
  have hA : ∀ q : Nat, s.heap.size ≤ q → A q := fun q h => by rw [← hAe]; exact Or.inr h
  have hS : va_S A s.heap s.heap [] := va_S.rf
  have hP : va_P D vwCl [(h0, .inr (6, [.ref td, .int (zI du)])), (td, .inr (0, [.ref k1, .ref k2, .ref k3, .int (zI n)])), (k3, .inl (ck3, 4, .inl fh))] s.heap := hP
  have hl := lv_entry ([.ref h0, .int (zI x)]) (n := 2) (Nat.le_of_ble_eq_true rfl)
  rw [lg_entry_eq]
  generalize (lg_sl ([.ref h0, .int (zI x)]) ++ List.replicate (2 - (lg_sl ([.ref h0, .int (zI x)])).length) Slot.unset).toArray = ls at hl ⊢
  have hl : lv_has ls 2 [(0, .ref h0), (1, .int (zI x))] := hl
  refine lv_iload_n hx hb dX6_takesSign_0 rfl (lv_at hl 1 rfl) ?_
  refine lv_bipush (v := zI 59) hx hb dX6_takesSign_1 (by decide) ?_
  refine kz_icmp_ne (tgt := 17) hx hb dX6_takesSign_3 (by decide) (by omega) (by omega) (fun c_1 => ?_) (fun c_1 => ?_)
  · refine lv_iconst (v := zI 0) hx hb dX6_takesSign_17 rfl ?_
    have hP9 := hP.sub (ws' := [(h0, .inr (6, [.ref td, .int (zI du)])), (td, .inr (0, [.ref k1, .ref k2, .ref k3, .int (zI n)])), (k3, .inl (ck3, 4, .inl fh))]) [0, 1, 2] rfl
    have hD9 := hD.sub (ws' := [(h0, .inr (6, [.ref td, .int (zI du)])), (td, .inr (0, [.ref k1, .ref k2, .ref k3, .int (zI n)])), (k3, .inl (ck3, 4, .inl fh))]) [0, 1, 2] (by decide +kernel) rfl
    exact W.zret (v := (zI 0)) hx hb hr rfl (fun t ht hW => kQS_of (by omega) ⟨du, n, fh, (Or.inr ⟨by omega, kSgC_n (by omega)⟩), q1, q2, by rw [ht]; exact hP9, hD9⟩ (hS.F ht)) hS.2.2 dX6_takesSign_18
  · refine lv_aload_n hx hb dX6_takesSign_6 rfl (lv_at hl 0 rfl) ?_
    refine va_get (D := D) (ci := 6) (v := .ref td) (C := RX6) (T := TX6) (N := 2) hx hb hts (fun _ h9 => List.mem_cons_of_mem _ (List.mem_append_left _ (List.mem_append_right _ h9))) hown hK hP 0 rfl rfl 0 (by decide) (hts (.fieldLink RX6 12 "FontRuns$TextReader" "told" "LFontRuns$FontRow;") mw_X6_takesSign_w_0) (fun _ h9 => h9) rfl dX6_takesSign_7 ?_
    refine va_get (D := D) (ci := 0) (v := .int (zI n)) (C := RX0) (T := TX0) (N := 4) hx hb hts (fun _ h9 => List.mem_cons_of_mem _ (List.mem_append_right _ h9)) hown hK hP 1 rfl rfl 3 (by decide) (hts (.fieldLink RX6 18 "FontRuns$FontRow" "count" "I") mw_X6_takesSign_w_1) (fun _ h9 => h9) rfl dX6_takesSign_10 ?_
    refine lv_iconst (v := zI 4) hx hb dX6_takesSign_13 rfl ?_
    refine kz_icmp_lt (tgt := 19) hx hb dX6_takesSign_14 (by decide) (by omega) (by omega) (fun c_2 => ?_) (fun c_2 => ?_)
    · refine lv_aload_n hx hb dX6_takesSign_19 rfl (lv_at hl 0 rfl) ?_
      refine va_get (D := D) (ci := 6) (v := .ref td) (C := RX6) (T := TX6) (N := 2) hx hb hts (fun _ h9 => List.mem_cons_of_mem _ (List.mem_append_left _ (List.mem_append_right _ h9))) hown hK hP 0 rfl rfl 0 (by decide) (hts (.fieldLink RX6 12 "FontRuns$TextReader" "told" "LFontRuns$FontRow;") mw_X6_takesSign_w_0) (fun _ h9 => h9) rfl dX6_takesSign_20 ?_
      refine va_get (D := D) (ci := 0) (v := .ref k3) (C := RX0) (T := TX0) (N := 4) hx hb hts (fun _ h9 => List.mem_cons_of_mem _ (List.mem_append_right _ h9)) hown hK hP 1 rfl rfl 2 (by decide) (hts (.fieldLink RX6 51 "FontRuns$FontRow" "has" "[I") mw_X6_takesSign_w_2) (fun _ h9 => h9) rfl dX6_takesSign_23 ?_
      refine lv_aload_n hx hb dX6_takesSign_26 rfl (lv_at hl 0 rfl) ?_
      refine va_get (D := D) (ci := 6) (v := .ref td) (C := RX6) (T := TX6) (N := 2) hx hb hts (fun _ h9 => List.mem_cons_of_mem _ (List.mem_append_left _ (List.mem_append_right _ h9))) hown hK hP 0 rfl rfl 0 (by decide) (hts (.fieldLink RX6 12 "FontRuns$TextReader" "told" "LFontRuns$FontRow;") mw_X6_takesSign_w_0) (fun _ h9 => h9) rfl dX6_takesSign_27 ?_
      refine va_get (D := D) (ci := 0) (v := .int (zI n)) (C := RX0) (T := TX0) (N := 4) hx hb hts (fun _ h9 => List.mem_cons_of_mem _ (List.mem_append_right _ h9)) hown hK hP 1 rfl rfl 3 (by decide) (hts (.fieldLink RX6 18 "FontRuns$FontRow" "count" "I") mw_X6_takesSign_w_1) (fun _ h9 => h9) rfl dX6_takesSign_30 ?_
      refine lv_iconst (v := zI 0) hx hb dX6_takesSign_33 rfl ?_
      refine kz_iast hx hb hK hP hD hS 2 0 rfl rfl (by omega) dX6_takesSign_34 (fun H locs hP hD hS => ?_)
      have hP : va_P D vwCl [(h0, .inr (6, [.ref td, .int (zI du)])), (td, .inr (0, [.ref k1, .ref k2, .ref k3, .int (zI n)])), (k3, .inl (ck3, 4, .inl (upd fh (n).toNat (zI 0))))] H := hP
      have hD : va_D A [(h0, .inr (6, [.ref td, .int (zI du)])), (td, .inr (0, [.ref k1, .ref k2, .ref k3, .int (zI n)])), (k3, .inl (ck3, 4, .inl (upd fh (n).toNat (zI 0))))] := hD
      generalize ef_3 : upd fh (n).toNat (zI 0) = f_3 at hP hD
      refine lv_aload_n hx hb dX6_takesSign_35 rfl (lv_at hl 0 rfl) ?_
      refine va_get (D := D) (ci := 6) (v := .ref td) (C := RX6) (T := TX6) (N := 2) hx hb hts (fun _ h9 => List.mem_cons_of_mem _ (List.mem_append_left _ (List.mem_append_right _ h9))) hown hK hP 0 rfl rfl 0 (by decide) (hts (.fieldLink RX6 12 "FontRuns$TextReader" "told" "LFontRuns$FontRow;") mw_X6_takesSign_w_0) (fun _ h9 => h9) rfl dX6_takesSign_36 ?_
      refine lv_dup hx hb dX6_takesSign_39 rfl ?_
      refine va_get (D := D) (ci := 0) (v := .int (zI n)) (C := RX0) (T := TX0) (N := 4) hx hb hts (fun _ h9 => List.mem_cons_of_mem _ (List.mem_append_right _ h9)) hown hK hP 1 rfl rfl 3 (by decide) (hts (.fieldLink RX6 18 "FontRuns$FontRow" "count" "I") mw_X6_takesSign_w_1) (fun _ h9 => h9) rfl dX6_takesSign_40 ?_
      refine lv_iconst (v := zI 1) hx hb dX6_takesSign_43 rfl ?_
      refine kz_iadd hx hb dX6_takesSign_44 ?_
      refine va_put (D := D) (ci := 0) (v := .int (zI (n + 1))) (ty := .int) (C := RX0) (T := TX0) (N := 4) hx hb hts (fun _ h9 => List.mem_cons_of_mem _ (List.mem_append_right _ h9)) tyX0 tyX0_ok nmX0 hown hK hP hD hS 1 rfl rfl 3 (by decide) (hts (.fieldLink RX6 18 "FontRuns$FontRow" "count" "I") mw_X6_takesSign_w_1) (fun _ h9 => h9) rfl (by decide +kernel) rfl rfl (Nat.le_of_ble_eq_true rfl) dX6_takesSign_45 (fun H locs hP hD hS => ?_)
      have hP : va_P D vwCl [(h0, .inr (6, [.ref td, .int (zI du)])), (td, .inr (0, [.ref k1, .ref k2, .ref k3, .int (zI (n + 1))])), (k3, .inl (ck3, 4, .inl f_3))] H := hP
      have hD : va_D A [(h0, .inr (6, [.ref td, .int (zI du)])), (td, .inr (0, [.ref k1, .ref k2, .ref k3, .int (zI (n + 1))])), (k3, .inl (ck3, 4, .inl f_3))] := hD
      refine lv_aload_n hx hb dX6_takesSign_48 rfl (lv_at hl 0 rfl) ?_
      refine lv_iconst (v := zI 2) hx hb dX6_takesSign_49 rfl ?_
      refine va_put (D := D) (ci := 6) (v := .int (zI 2)) (ty := .int) (C := RX6) (T := TX6) (N := 2) hx hb hts (fun _ h9 => List.mem_cons_of_mem _ (List.mem_append_left _ (List.mem_append_right _ h9))) tyX6 tyX6_ok nmX6 hown hK hP hD hS 0 rfl rfl 1 (by decide) (hts (.fieldLink RX6 22 "FontRuns$TextReader" "due" "I") mw_X6_takesSign_w_3) (fun _ h9 => h9) rfl (by decide +kernel) rfl rfl (Nat.le_of_ble_eq_true rfl) dX6_takesSign_50 (fun H locs hP hD hS => ?_)
      have hP : va_P D vwCl [(h0, .inr (6, [.ref td, .int (zI 2)])), (td, .inr (0, [.ref k1, .ref k2, .ref k3, .int (zI (n + 1))])), (k3, .inl (ck3, 4, .inl f_3))] H := hP
      have hD : va_D A [(h0, .inr (6, [.ref td, .int (zI 2)])), (td, .inr (0, [.ref k1, .ref k2, .ref k3, .int (zI (n + 1))])), (k3, .inl (ck3, 4, .inl f_3))] := hD
      refine lv_iconst (v := zI 1) hx hb dX6_takesSign_53 rfl ?_
      have hP9 := hP.sub (ws' := [(h0, .inr (6, [.ref td, .int (zI 2)])), (td, .inr (0, [.ref k1, .ref k2, .ref k3, .int (zI (n + 1))])), (k3, .inl (ck3, 4, .inl f_3))]) [0, 1, 2] rfl
      have hD9 := hD.sub (ws' := [(h0, .inr (6, [.ref td, .int (zI 2)])), (td, .inr (0, [.ref k1, .ref k2, .ref k3, .int (zI (n + 1))])), (k3, .inl (ck3, 4, .inl f_3))]) [0, 1, 2] (by decide +kernel) rfl
      exact W.zret (v := (zI 1)) hx hb hr rfl (fun t ht hW => kQS_of (by omega) ⟨2, (n + 1), f_3, (Or.inl ⟨by omega, by omega, by omega, by rw [kSgC_y (by omega), ef_3]⟩), (by omega), (by omega), by rw [ht]; exact hP9, hD9⟩ (hS.F ht)) hS.2.2 dX6_takesSign_54
    · refine lv_iconst (v := zI 0) hx hb dX6_takesSign_17 rfl ?_
      have hP9 := hP.sub (ws' := [(h0, .inr (6, [.ref td, .int (zI du)])), (td, .inr (0, [.ref k1, .ref k2, .ref k3, .int (zI n)])), (k3, .inl (ck3, 4, .inl fh))]) [0, 1, 2] rfl
      have hD9 := hD.sub (ws' := [(h0, .inr (6, [.ref td, .int (zI du)])), (td, .inr (0, [.ref k1, .ref k2, .ref k3, .int (zI n)])), (k3, .inl (ck3, 4, .inl fh))]) [0, 1, 2] (by decide +kernel) rfl
      exact W.zret (v := (zI 0)) hx hb hr rfl (fun t ht hW => kQS_of (by omega) ⟨du, n, fh, (Or.inr ⟨by omega, kSgC_n (by omega)⟩), q1, q2, by rw [ht]; exact hP9, hD9⟩ (hS.F ht)) hS.2.2 dX6_takesSign_18
theorem dX6_takesKind_0 : decode cX6_takesKind 0 = .ok (.aload_n 0, 1) := kqo_2a kbl_X6_takesKind (pc := 0) rfl
theorem dX6_takesKind_1 : decode cX6_takesKind 1 = .ok (.getfield 12, 3) := kqo_b4 (x1 := 0) (x2 := 12) kbl_X6_takesKind (pc := 1) rfl rfl
theorem dX6_takesKind_4 : decode cX6_takesKind 4 = .ok (.iload_n 2, 1) := kqo_1c kbl_X6_takesKind (pc := 4) rfl
theorem dX6_takesKind_5 : decode cX6_takesKind 5 = .ok (.invokevirtual 55, 3) := kqo_b6 (x1 := 0) (x2 := 55) kbl_X6_takesKind (pc := 5) rfl rfl
theorem dX6_takesKind_8 : decode cX6_takesKind 8 = .ok (.ifCond .eq 14, 3) := kqo_99 (x1 := 0) (x2 := 14) kbl_X6_takesKind (pc := 8) rfl rfl
theorem dX6_takesKind_11 : decode cX6_takesKind 11 = .ok (.iload_n 1, 1) := kqo_1b kbl_X6_takesKind (pc := 11) rfl
theorem dX6_takesKind_12 : decode cX6_takesKind 12 = .ok (.bipush 65, 2) := kqo_10 (x1 := 65) kbl_X6_takesKind (pc := 12) rfl rfl
theorem dX6_takesKind_14 : decode cX6_takesKind 14 = .ok (.bipush 67, 2) := kqo_10 (x1 := 67) kbl_X6_takesKind (pc := 14) rfl rfl
theorem dX6_takesKind_16 : decode cX6_takesKind 16 = .ok (.invokestatic 58, 3) := kqo_b8 (x1 := 0) (x2 := 58) kbl_X6_takesKind (pc := 16) rfl rfl
theorem dX6_takesKind_19 : decode cX6_takesKind 19 = .ok (.ifCond .ne 5, 3) := kqo_9a (x1 := 0) (x2 := 5) kbl_X6_takesKind (pc := 19) rfl rfl
theorem dX6_takesKind_22 : decode cX6_takesKind 22 = .ok (.iconst 0, 1) := kqo_03 kbl_X6_takesKind (pc := 22) rfl
theorem dX6_takesKind_23 : decode cX6_takesKind 23 = .ok (.ireturn, 1) := kqo_ac kbl_X6_takesKind (pc := 23) rfl
theorem dX6_takesKind_24 : decode cX6_takesKind 24 = .ok (.aload_n 0, 1) := kqo_2a kbl_X6_takesKind (pc := 24) rfl
theorem dX6_takesKind_25 : decode cX6_takesKind 25 = .ok (.getfield 12, 3) := kqo_b4 (x1 := 0) (x2 := 12) kbl_X6_takesKind (pc := 25) rfl rfl
theorem dX6_takesKind_28 : decode cX6_takesKind 28 = .ok (.getfield 62, 3) := kqo_b4 (x1 := 0) (x2 := 62) kbl_X6_takesKind (pc := 28) rfl rfl
theorem dX6_takesKind_31 : decode cX6_takesKind 31 = .ok (.iload_n 2, 1) := kqo_1c kbl_X6_takesKind (pc := 31) rfl
theorem dX6_takesKind_32 : decode cX6_takesKind 32 = .ok (.iload_n 1, 1) := kqo_1b kbl_X6_takesKind (pc := 32) rfl
theorem dX6_takesKind_33 : decode cX6_takesKind 33 = .ok (.bipush 65, 2) := kqo_10 (x1 := 65) kbl_X6_takesKind (pc := 33) rfl rfl
theorem dX6_takesKind_35 : decode cX6_takesKind 35 = .ok (.isub, 1) := kqo_64 kbl_X6_takesKind (pc := 35) rfl
theorem dX6_takesKind_36 : decode cX6_takesKind 36 = .ok (.iastore, 1) := kqo_4f kbl_X6_takesKind (pc := 36) rfl
theorem dX6_takesKind_37 : decode cX6_takesKind 37 = .ok (.aload_n 0, 1) := kqo_2a kbl_X6_takesKind (pc := 37) rfl
theorem dX6_takesKind_38 : decode cX6_takesKind 38 = .ok (.iconst 3, 1) := kqo_06 kbl_X6_takesKind (pc := 38) rfl
theorem dX6_takesKind_39 : decode cX6_takesKind 39 = .ok (.putfield 22, 3) := kqo_b5 (x1 := 0) (x2 := 22) kbl_X6_takesKind (pc := 39) rfl rfl
theorem dX6_takesKind_42 : decode cX6_takesKind 42 = .ok (.iconst 1, 1) := kqo_04 kbl_X6_takesKind (pc := 42) rfl
theorem dX6_takesKind_43 : decode cX6_takesKind 43 = .ok (.ireturn, 1) := kqo_ac kbl_X6_takesKind (pc := 43) rfl
set_option maxRecDepth 20000 in
theorem ggX6_takesKind_X0_isFont : GoodIn wsX6_takesKind wsX0_isFont := goodIn_4 _ (List.forall_mem_cons.mpr ⟨List.mem_cons_of_mem _ (List.mem_append_left _ (List.mem_append_left _ (List.mem_of_getElem? (i := 7) rfl))), List.forall_mem_append.mpr ⟨List.forall_mem_cons.mpr ⟨List.mem_cons_of_mem _ (List.mem_append_left _ (List.mem_append_left _ (List.mem_of_getElem? (i := 8) rfl))), List.forall_mem_cons.mpr ⟨List.mem_cons_of_mem _ (List.mem_append_left _ (List.mem_append_left _ (List.mem_of_getElem? (i := 9) rfl))), List.forall_mem_cons.mpr ⟨List.mem_cons_of_mem _ (List.mem_append_left _ (List.mem_append_left _ (List.mem_of_getElem? (i := 10) rfl))), List.forall_mem_cons.mpr ⟨List.mem_cons_of_mem _ (List.mem_append_left _ (List.mem_append_left _ (List.mem_of_getElem? (i := 11) rfl))), fun _ h9 => absurd h9 List.not_mem_nil⟩⟩⟩⟩, fun w h9 => List.mem_cons_of_mem _ (List.mem_append_right _ (h9))⟩⟩) (by decide +kernel)
set_option maxRecDepth 20000 in
theorem gX6_takesKind_X0_isFont : GoodIn wsX6_takesKind (wsV RX6 55 RX0 yX0_isFont wsX0_isFont) := goodIn_app (goodIn_4 _ (List.forall_mem_cons.mpr ⟨List.mem_cons_of_mem _ (List.mem_append_left _ (List.mem_append_left _ (List.mem_of_getElem? (i := 3) rfl))), List.forall_mem_cons.mpr ⟨List.mem_cons_of_mem _ (List.mem_append_left _ (List.mem_append_left _ (List.mem_of_getElem? (i := 4) rfl))), List.forall_mem_cons.mpr ⟨List.mem_cons_of_mem _ (List.mem_append_left _ (List.mem_append_left _ (List.mem_of_getElem? (i := 5) rfl))), List.forall_mem_cons.mpr ⟨List.mem_cons_of_mem _ (List.mem_append_left _ (List.mem_append_left _ (List.mem_of_getElem? (i := 6) rfl))), fun _ h9 => absurd h9 List.not_mem_nil⟩⟩⟩⟩) (by decide +kernel)) ggX6_takesKind_X0_isFont
set_option maxRecDepth 20000 in
theorem ggX6_takesKind_X8_isWithin : GoodIn wsX6_takesKind wsX8_isWithin := goodIn_4 _ (List.forall_mem_cons.mpr ⟨List.mem_cons_of_mem _ (List.mem_append_left _ (List.mem_append_left _ (List.mem_of_getElem? (i := 11) rfl))), fun _ h9 => absurd h9 List.not_mem_nil⟩) (by decide +kernel)
set_option maxRecDepth 20000 in
theorem gX6_takesKind_X8_isWithin_n58 : GoodIn wsX6_takesKind (wsX8_isWithin) := ggX6_takesKind_X8_isWithin
set_option maxRecDepth 20000 in
theorem mw_X6_takesKind_w_0 : (.fieldLink RX6 12 "FontRuns$TextReader" "told" "LFontRuns$FontRow;" : Cond) ∈ wsX6_takesKind := List.mem_cons_of_mem _ (List.mem_append_left _ (List.mem_append_left _ (List.mem_of_getElem? (i := 0) rfl)))
set_option maxRecDepth 20000 in
theorem mw_X6_takesKind_w_1 : (.initialized RX8 : Cond) ∈ wsX6_takesKind := List.mem_cons_of_mem _ (List.mem_append_left _ (List.mem_append_left _ (List.mem_of_getElem? (i := 10) rfl)))
set_option maxRecDepth 20000 in
theorem mw_X6_takesKind_w_2 : (.static yX8_isWithin : Cond) ∈ wsX6_takesKind := List.mem_cons_of_mem _ (List.mem_append_left _ (List.mem_append_left _ (List.mem_of_getElem? (i := 9) rfl)))
set_option maxRecDepth 20000 in
theorem mw_X6_takesKind_w_3 : (.fieldLink RX6 62 "FontRuns$FontRow" "kind" "[I" : Cond) ∈ wsX6_takesKind := List.mem_cons_of_mem _ (List.mem_append_left _ (List.mem_append_left _ (List.mem_of_getElem? (i := 1) rfl)))
set_option maxRecDepth 20000 in
theorem mw_X6_takesKind_w_4 : (.fieldLink RX6 22 "FontRuns$TextReader" "due" "I" : Cond) ∈ wsX6_takesKind := List.mem_cons_of_mem _ (List.mem_append_left _ (List.mem_append_left _ (List.mem_of_getElem? (i := 2) rfl)))
theorem ax_X6_takesKind_w_0 {e0 e1 e2 : Nat × va_E} : ([1] : List Nat).map (fun i => ([e0, e1, e2] : va_W)[i]?) = ([e1] : va_W).map some := rfl
theorem ax_X6_takesKind_w_1 {e0 e1 e2 : Nat × va_E} : ([0, 1, 2] : List Nat).map (fun i => ([e0, e1, e2] : va_W)[i]?) = ([e0, e1, e2] : va_W).map some := rfl
theorem ax_X6_takesKind_w_2 {e0 e1 e2 : Nat × va_E} : ([] : List Nat).map (fun i => ([e0, e1, e2] : va_W)[i]?) = ([] : va_W).map some := rfl
set_option maxHeartbeats 4000000 in
set_option maxRecDepth 100000 in
theorem c_X6_takesKind_w (l : Launch) (D : va_G) (sz : Nat) (x : Int) (f : Int) (h0 : Nat) (td : Nat) (du : Int) (k1 : Nat) (k2 : Nat) (k3 : Nat) (n : Int) (ck1 : ClassId) (fk : Nat → Int32) (q0 : rg x) (q1 : rg f) (q2 : rg du) (q3 : 0 ≤ n ∧ n ≤ 4) (q4 : f = n - 1) : Met l yX6_takesKind wsX6_takesKind ({ frames := 2, cells := 0, slots := 0, locals := 43 }) (kPre [.ref h0, .int (zI x), .int (zI f)] D [(h0, .inr (6, [.ref td, .int (zI du)])), (td, .inr (0, [.ref k1, .ref k2, .ref k3, .int (zI n)])), (k1, .inl (ck1, 4, .inl fk))] [(ck1, .int)] sz) (kQS (fun rz t => ∃ (ud : Int) (uk : Nat → Int32), ((rz = 1 ∧ ud = 3 ∧ (1 ≤ n ∧ 65 ≤ x ∧ x ≤ 67) ∧ uk = upd fk (n - 1).toNat (zI (x - 65))) ∨ (rz = 0 ∧ ¬ (1 ≤ n ∧ 65 ≤ x ∧ x ≤ 67))) ∧ (rg ud) ∧ va_P D vwCl [(h0, .inr (6, [.ref td, .int (zI ud)])), (td, .inr (0, [.ref k1, .ref k2, .ref k3, .int (zI n)])), (k1, .inl (ck1, 4, .inl uk))] t.heap ∧ va_D (va_A [(h0, .inr (6, [.ref td, .int (zI du)])), (td, .inr (0, [.ref k1, .ref k2, .ref k3, .int (zI n)])), (k1, .inl (ck1, 4, .inl fk))] sz) [(h0, .inr (6, [.ref td, .int (zI ud)])), (td, .inr (0, [.ref k1, .ref k2, .ref k3, .int (zI n)])), (k1, .inl (ck1, 4, .inl uk))]) (va_A [(h0, .inr (6, [.ref td, .int (zI du)])), (td, .inr (0, [.ref k1, .ref k2, .ref k3, .int (zI n)])), (k1, .inl (ck1, 4, .inl fk))] sz)) 0 0 (va_A [(h0, .inr (6, [.ref td, .int (zI du)])), (td, .inr (0, [.ref k1, .ref k2, .ref k3, .int (zI n)])), (k1, .inl (ck1, 4, .inl fk))] sz) := by
  refine Met.ofW (cc := cX6_takesKind) (maxL := 3) (ret := (some .boolean)) (by decide) rfl ?_
  intro p e s m args below meth c s₁ B hml hv
  obtain ⟨rfl, hsz, hP, hK, hD0, hN⟩ := hv
  have hx := B.exec
  have hb := B.bytes
  have hr := B.returns
  have hts := atoms_spec (ws := wsX6_takesKind) B.pre
  have hown : s.vm.findClass RX6 = some m.cls := findClass_of_methodNamed B.named
  have hlocks := B.notSynchronized
  subst hsz
  have hD := hD0.self (sz := s.heap.size)
  generalize hAe : va_A [(h0, .inr (6, [.ref td, .int (zI du)])), (td, .inr (0, [.ref k1, .ref k2, .ref k3, .int (zI n)])), (k1, .inl (ck1, 4, .inl fk))] s.heap.size = A at hD ⊢
  have hA : ∀ q : Nat, s.heap.size ≤ q → A q := fun q h => by rw [← hAe]; exact Or.inr h
  have hS : va_S A s.heap s.heap [] := va_S.rf
  have hP : va_P D vwCl [(h0, .inr (6, [.ref td, .int (zI du)])), (td, .inr (0, [.ref k1, .ref k2, .ref k3, .int (zI n)])), (k1, .inl (ck1, 4, .inl fk))] s.heap := hP
  have hl := lv_entry ([.ref h0, .int (zI x), .int (zI f)]) (n := 3) (Nat.le_of_ble_eq_true rfl)
  rw [lg_entry_eq]
  generalize (lg_sl ([.ref h0, .int (zI x), .int (zI f)]) ++ List.replicate (3 - (lg_sl ([.ref h0, .int (zI x), .int (zI f)])).length) Slot.unset).toArray = ls at hl ⊢
  have hl : lv_has ls 3 [(0, .ref h0), (1, .int (zI x)), (2, .int (zI f))] := hl
  refine lv_aload_n hx hb dX6_takesKind_0 rfl (lv_at hl 0 rfl) ?_
  refine va_get (D := D) (ci := 6) (v := .ref td) (C := RX6) (T := TX6) (N := 2) hx hb hts (fun _ h9 => List.mem_cons_of_mem _ (List.mem_append_left _ (List.mem_append_right _ h9))) hown hK hP 0 rfl rfl 0 (by decide) (hts (.fieldLink RX6 12 "FontRuns$TextReader" "told" "LFontRuns$FontRow;") mw_X6_takesKind_w_0) (fun _ h9 => h9) rfl dX6_takesKind_1 ?_
  refine lv_iload_n hx hb dX6_takesKind_4 rfl (lv_at hl 2 rfl) ?_
  refine k_callR (va_runV (As := [.int (zI f)]) (rest := []) ⟨hx, hb, hml, hown, hts⟩ (c_X0_isFont l D s.heap.size (f := f) (h0 := td) (k1 := k1) (k2 := k2) (k3 := k3) (n := n) q1 q3) (cwV 1 hts gX6_takesKind_X0_isFont rfl rfl rfl (by decide +kernel) ⟨Nat.le_of_ble_eq_true rfl, Nat.le_of_ble_eq_true rfl⟩) (kPreV hP (kD0 hD) hK hN [1] [] ax_X6_takesKind_w_0 rfl (by decide +kernel) 1 0 rfl rfl) rfl rfl hl.1 rfl (lv_room (Nat.le_of_ble_eq_true rfl)) dX6_takesKind_5 ⟨Nat.le_of_ble_eq_true rfl, Nat.le_of_ble_eq_true rfl⟩) ?_
  refine lv_if_eq (tgt := 22) hx hb dX6_takesKind_8 (by decide) (fun c_1 => ?_) (fun c_1 => ?_)
  · have c_1 : ¬ (0 ≤ f ∧ f ≤ n - 1) := b01f c_1
    refine lv_iconst (v := zI 0) hx hb dX6_takesKind_22 rfl ?_
    have hP9 := hP.sub (ws' := [(h0, .inr (6, [.ref td, .int (zI du)])), (td, .inr (0, [.ref k1, .ref k2, .ref k3, .int (zI n)])), (k1, .inl (ck1, 4, .inl fk))]) [0, 1, 2] rfl
    have hD9 := hD.sub (ws' := [(h0, .inr (6, [.ref td, .int (zI du)])), (td, .inr (0, [.ref k1, .ref k2, .ref k3, .int (zI n)])), (k1, .inl (ck1, 4, .inl fk))]) [0, 1, 2] (by decide +kernel) rfl
    exact W.zret (v := (zI 0)) hx hb hr rfl (fun t ht hW => kQS_of (by omega) ⟨du, fk, (Or.inr ⟨by omega, by omega⟩), q2, by rw [ht]; exact hP9, hD9⟩ (hS.F ht)) hS.2.2 dX6_takesKind_23
  · have c_1 : 0 ≤ f ∧ f ≤ n - 1 := b01t c_1
    refine lv_iload_n hx hb dX6_takesKind_11 rfl (lv_at hl 1 rfl) ?_
    refine lv_bipush (v := zI 65) hx hb dX6_takesKind_12 (by decide) ?_
    refine lv_bipush (v := zI 67) hx hb dX6_takesKind_14 (by decide) ?_
    refine k_callR (va_runSN (As := [.int (zI x), .int (zI 65), .int (zI 67)]) (rest := []) ⟨hx, hb, hml, hown, hts⟩ (c_X8_isWithin l D s.heap.size (v := x) (a := 65) (b := 67) q0 (by omega) (by omega)) (⟨va_cnB 3 hts gX6_takesKind_X8_isWithin_n58 rfl rfl rfl (hN.1 (RX6, 58, yX8_isWithin) (by decide +kernel)) (hts (.initialized RX8) mw_X6_takesKind_w_1) (by decide +kernel) ⟨Nat.le_of_ble_eq_true rfl, Nat.le_of_ble_eq_true rfl⟩, (hts (.static yX8_isWithin) mw_X6_takesKind_w_2), trivial⟩) (kPreS hP (kD0 hD) hK hN [] [] ax_X6_takesKind_w_2 rfl (by decide +kernel)) rfl rfl hl.1 rfl (lv_room (Nat.le_of_ble_eq_true rfl)) dX6_takesKind_16 ⟨Nat.le_of_ble_eq_true rfl, Nat.le_of_ble_eq_true rfl⟩) ?_
    refine lv_if_ne (tgt := 24) hx hb dX6_takesKind_19 (by decide) (fun c_2 => ?_) (fun c_2 => ?_)
    · have c_2 : 65 ≤ x ∧ x ≤ 67 := b01t c_2
      refine lv_aload_n hx hb dX6_takesKind_24 rfl (lv_at hl 0 rfl) ?_
      refine va_get (D := D) (ci := 6) (v := .ref td) (C := RX6) (T := TX6) (N := 2) hx hb hts (fun _ h9 => List.mem_cons_of_mem _ (List.mem_append_left _ (List.mem_append_right _ h9))) hown hK hP 0 rfl rfl 0 (by decide) (hts (.fieldLink RX6 12 "FontRuns$TextReader" "told" "LFontRuns$FontRow;") mw_X6_takesKind_w_0) (fun _ h9 => h9) rfl dX6_takesKind_25 ?_
      refine va_get (D := D) (ci := 0) (v := .ref k1) (C := RX0) (T := TX0) (N := 4) hx hb hts (fun _ h9 => List.mem_cons_of_mem _ (List.mem_append_right _ h9)) hown hK hP 1 rfl rfl 0 (by decide) (hts (.fieldLink RX6 62 "FontRuns$FontRow" "kind" "[I") mw_X6_takesKind_w_3) (fun _ h9 => h9) rfl dX6_takesKind_28 ?_
      refine lv_iload_n hx hb dX6_takesKind_31 rfl (lv_at hl 2 rfl) ?_
      refine lv_iload_n hx hb dX6_takesKind_32 rfl (lv_at hl 1 rfl) ?_
      refine lv_bipush (v := zI 65) hx hb dX6_takesKind_33 (by decide) ?_
      refine kz_isub hx hb dX6_takesKind_35 ?_
      refine kz_iast hx hb hK hP hD hS 2 0 rfl rfl (by omega) dX6_takesKind_36 (fun H locs hP hD hS => ?_)
      have hP : va_P D vwCl [(h0, .inr (6, [.ref td, .int (zI du)])), (td, .inr (0, [.ref k1, .ref k2, .ref k3, .int (zI n)])), (k1, .inl (ck1, 4, .inl (upd fk (f).toNat (zI (x - 65)))))] H := hP
      have hD : va_D A [(h0, .inr (6, [.ref td, .int (zI du)])), (td, .inr (0, [.ref k1, .ref k2, .ref k3, .int (zI n)])), (k1, .inl (ck1, 4, .inl (upd fk (f).toNat (zI (x - 65)))))] := hD
      generalize ef_3 : upd fk (f).toNat (zI (x - 65)) = f_3 at hP hD
      refine lv_aload_n hx hb dX6_takesKind_37 rfl (lv_at hl 0 rfl) ?_
      refine lv_iconst (v := zI 3) hx hb dX6_takesKind_38 rfl ?_
      refine va_put (D := D) (ci := 6) (v := .int (zI 3)) (ty := .int) (C := RX6) (T := TX6) (N := 2) hx hb hts (fun _ h9 => List.mem_cons_of_mem _ (List.mem_append_left _ (List.mem_append_right _ h9))) tyX6 tyX6_ok nmX6 hown hK hP hD hS 0 rfl rfl 1 (by decide) (hts (.fieldLink RX6 22 "FontRuns$TextReader" "due" "I") mw_X6_takesKind_w_4) (fun _ h9 => h9) rfl (by decide +kernel) rfl rfl (Nat.le_of_ble_eq_true rfl) dX6_takesKind_39 (fun H locs hP hD hS => ?_)
      have hP : va_P D vwCl [(h0, .inr (6, [.ref td, .int (zI 3)])), (td, .inr (0, [.ref k1, .ref k2, .ref k3, .int (zI n)])), (k1, .inl (ck1, 4, .inl f_3))] H := hP
      have hD : va_D A [(h0, .inr (6, [.ref td, .int (zI 3)])), (td, .inr (0, [.ref k1, .ref k2, .ref k3, .int (zI n)])), (k1, .inl (ck1, 4, .inl f_3))] := hD
      refine lv_iconst (v := zI 1) hx hb dX6_takesKind_42 rfl ?_
      have hP9 := hP.sub (ws' := [(h0, .inr (6, [.ref td, .int (zI 3)])), (td, .inr (0, [.ref k1, .ref k2, .ref k3, .int (zI n)])), (k1, .inl (ck1, 4, .inl f_3))]) [0, 1, 2] rfl
      have hD9 := hD.sub (ws' := [(h0, .inr (6, [.ref td, .int (zI 3)])), (td, .inr (0, [.ref k1, .ref k2, .ref k3, .int (zI n)])), (k1, .inl (ck1, 4, .inl f_3))]) [0, 1, 2] (by decide +kernel) rfl
      exact W.zret (v := (zI 1)) hx hb hr rfl (fun t ht hW => kQS_of (by omega) ⟨3, f_3, (Or.inl ⟨by omega, by omega, by omega, by rw [← ef_3, show f = n - 1 by omega]⟩), (by omega), by rw [ht]; exact hP9, hD9⟩ (hS.F ht)) hS.2.2 dX6_takesKind_43
    · have c_2 : ¬ (65 ≤ x ∧ x ≤ 67) := b01f c_2
      refine lv_iconst (v := zI 0) hx hb dX6_takesKind_22 rfl ?_
      have hP9 := hP.sub (ws' := [(h0, .inr (6, [.ref td, .int (zI du)])), (td, .inr (0, [.ref k1, .ref k2, .ref k3, .int (zI n)])), (k1, .inl (ck1, 4, .inl fk))]) [0, 1, 2] rfl
      have hD9 := hD.sub (ws' := [(h0, .inr (6, [.ref td, .int (zI du)])), (td, .inr (0, [.ref k1, .ref k2, .ref k3, .int (zI n)])), (k1, .inl (ck1, 4, .inl fk))]) [0, 1, 2] (by decide +kernel) rfl
      exact W.zret (v := (zI 0)) hx hb hr rfl (fun t ht hW => kQS_of (by omega) ⟨du, fk, (Or.inr ⟨by omega, by omega⟩), q2, by rw [ht]; exact hP9, hD9⟩ (hS.F ht)) hS.2.2 dX6_takesKind_23
theorem dX6_takesBreadth_0 : decode cX6_takesBreadth 0 = .ok (.aload_n 0, 1) := kqo_2a kbl_X6_takesBreadth (pc := 0) rfl
theorem dX6_takesBreadth_1 : decode cX6_takesBreadth 1 = .ok (.getfield 12, 3) := kqo_b4 (x1 := 0) (x2 := 12) kbl_X6_takesBreadth (pc := 1) rfl rfl
theorem dX6_takesBreadth_4 : decode cX6_takesBreadth 4 = .ok (.iload_n 2, 1) := kqo_1c kbl_X6_takesBreadth (pc := 4) rfl
theorem dX6_takesBreadth_5 : decode cX6_takesBreadth 5 = .ok (.invokevirtual 55, 3) := kqo_b6 (x1 := 0) (x2 := 55) kbl_X6_takesBreadth (pc := 5) rfl rfl
theorem dX6_takesBreadth_8 : decode cX6_takesBreadth 8 = .ok (.ifCond .eq 14, 3) := kqo_99 (x1 := 0) (x2 := 14) kbl_X6_takesBreadth (pc := 8) rfl rfl
theorem dX6_takesBreadth_11 : decode cX6_takesBreadth 11 = .ok (.iload_n 1, 1) := kqo_1b kbl_X6_takesBreadth (pc := 11) rfl
theorem dX6_takesBreadth_12 : decode cX6_takesBreadth 12 = .ok (.bipush 49, 2) := kqo_10 (x1 := 49) kbl_X6_takesBreadth (pc := 12) rfl rfl
theorem dX6_takesBreadth_14 : decode cX6_takesBreadth 14 = .ok (.bipush 57, 2) := kqo_10 (x1 := 57) kbl_X6_takesBreadth (pc := 14) rfl rfl
theorem dX6_takesBreadth_16 : decode cX6_takesBreadth 16 = .ok (.invokestatic 58, 3) := kqo_b8 (x1 := 0) (x2 := 58) kbl_X6_takesBreadth (pc := 16) rfl rfl
theorem dX6_takesBreadth_19 : decode cX6_takesBreadth 19 = .ok (.ifCond .ne 5, 3) := kqo_9a (x1 := 0) (x2 := 5) kbl_X6_takesBreadth (pc := 19) rfl rfl
theorem dX6_takesBreadth_22 : decode cX6_takesBreadth 22 = .ok (.iconst 0, 1) := kqo_03 kbl_X6_takesBreadth (pc := 22) rfl
theorem dX6_takesBreadth_23 : decode cX6_takesBreadth 23 = .ok (.ireturn, 1) := kqo_ac kbl_X6_takesBreadth (pc := 23) rfl
theorem dX6_takesBreadth_24 : decode cX6_takesBreadth 24 = .ok (.aload_n 0, 1) := kqo_2a kbl_X6_takesBreadth (pc := 24) rfl
theorem dX6_takesBreadth_25 : decode cX6_takesBreadth 25 = .ok (.getfield 12, 3) := kqo_b4 (x1 := 0) (x2 := 12) kbl_X6_takesBreadth (pc := 25) rfl rfl
theorem dX6_takesBreadth_28 : decode cX6_takesBreadth 28 = .ok (.getfield 65, 3) := kqo_b4 (x1 := 0) (x2 := 65) kbl_X6_takesBreadth (pc := 28) rfl rfl
theorem dX6_takesBreadth_31 : decode cX6_takesBreadth 31 = .ok (.iload_n 2, 1) := kqo_1c kbl_X6_takesBreadth (pc := 31) rfl
theorem dX6_takesBreadth_32 : decode cX6_takesBreadth 32 = .ok (.iload_n 1, 1) := kqo_1b kbl_X6_takesBreadth (pc := 32) rfl
theorem dX6_takesBreadth_33 : decode cX6_takesBreadth 33 = .ok (.bipush 48, 2) := kqo_10 (x1 := 48) kbl_X6_takesBreadth (pc := 33) rfl rfl
theorem dX6_takesBreadth_35 : decode cX6_takesBreadth 35 = .ok (.isub, 1) := kqo_64 kbl_X6_takesBreadth (pc := 35) rfl
theorem dX6_takesBreadth_36 : decode cX6_takesBreadth 36 = .ok (.iastore, 1) := kqo_4f kbl_X6_takesBreadth (pc := 36) rfl
theorem dX6_takesBreadth_37 : decode cX6_takesBreadth 37 = .ok (.aload_n 0, 1) := kqo_2a kbl_X6_takesBreadth (pc := 37) rfl
theorem dX6_takesBreadth_38 : decode cX6_takesBreadth 38 = .ok (.iconst 4, 1) := kqo_07 kbl_X6_takesBreadth (pc := 38) rfl
theorem dX6_takesBreadth_39 : decode cX6_takesBreadth 39 = .ok (.putfield 22, 3) := kqo_b5 (x1 := 0) (x2 := 22) kbl_X6_takesBreadth (pc := 39) rfl rfl
theorem dX6_takesBreadth_42 : decode cX6_takesBreadth 42 = .ok (.iconst 1, 1) := kqo_04 kbl_X6_takesBreadth (pc := 42) rfl
theorem dX6_takesBreadth_43 : decode cX6_takesBreadth 43 = .ok (.ireturn, 1) := kqo_ac kbl_X6_takesBreadth (pc := 43) rfl
set_option maxRecDepth 20000 in
theorem ggX6_takesBreadth_X0_isFont : GoodIn wsX6_takesBreadth wsX0_isFont := goodIn_4 _ (List.forall_mem_cons.mpr ⟨List.mem_cons_of_mem _ (List.mem_append_left _ (List.mem_append_left _ (List.mem_of_getElem? (i := 7) rfl))), List.forall_mem_append.mpr ⟨List.forall_mem_cons.mpr ⟨List.mem_cons_of_mem _ (List.mem_append_left _ (List.mem_append_left _ (List.mem_of_getElem? (i := 8) rfl))), List.forall_mem_cons.mpr ⟨List.mem_cons_of_mem _ (List.mem_append_left _ (List.mem_append_left _ (List.mem_of_getElem? (i := 9) rfl))), List.forall_mem_cons.mpr ⟨List.mem_cons_of_mem _ (List.mem_append_left _ (List.mem_append_left _ (List.mem_of_getElem? (i := 10) rfl))), List.forall_mem_cons.mpr ⟨List.mem_cons_of_mem _ (List.mem_append_left _ (List.mem_append_left _ (List.mem_of_getElem? (i := 11) rfl))), fun _ h9 => absurd h9 List.not_mem_nil⟩⟩⟩⟩, fun w h9 => List.mem_cons_of_mem _ (List.mem_append_right _ (h9))⟩⟩) (by decide +kernel)
set_option maxRecDepth 20000 in
theorem gX6_takesBreadth_X0_isFont : GoodIn wsX6_takesBreadth (wsV RX6 55 RX0 yX0_isFont wsX0_isFont) := goodIn_app (goodIn_4 _ (List.forall_mem_cons.mpr ⟨List.mem_cons_of_mem _ (List.mem_append_left _ (List.mem_append_left _ (List.mem_of_getElem? (i := 3) rfl))), List.forall_mem_cons.mpr ⟨List.mem_cons_of_mem _ (List.mem_append_left _ (List.mem_append_left _ (List.mem_of_getElem? (i := 4) rfl))), List.forall_mem_cons.mpr ⟨List.mem_cons_of_mem _ (List.mem_append_left _ (List.mem_append_left _ (List.mem_of_getElem? (i := 5) rfl))), List.forall_mem_cons.mpr ⟨List.mem_cons_of_mem _ (List.mem_append_left _ (List.mem_append_left _ (List.mem_of_getElem? (i := 6) rfl))), fun _ h9 => absurd h9 List.not_mem_nil⟩⟩⟩⟩) (by decide +kernel)) ggX6_takesBreadth_X0_isFont
set_option maxRecDepth 20000 in
theorem ggX6_takesBreadth_X8_isWithin : GoodIn wsX6_takesBreadth wsX8_isWithin := goodIn_4 _ (List.forall_mem_cons.mpr ⟨List.mem_cons_of_mem _ (List.mem_append_left _ (List.mem_append_left _ (List.mem_of_getElem? (i := 11) rfl))), fun _ h9 => absurd h9 List.not_mem_nil⟩) (by decide +kernel)
set_option maxRecDepth 20000 in
theorem gX6_takesBreadth_X8_isWithin_n58 : GoodIn wsX6_takesBreadth (wsX8_isWithin) := ggX6_takesBreadth_X8_isWithin
set_option maxRecDepth 20000 in
theorem mw_X6_takesBreadth_w_0 : (.fieldLink RX6 12 "FontRuns$TextReader" "told" "LFontRuns$FontRow;" : Cond) ∈ wsX6_takesBreadth := List.mem_cons_of_mem _ (List.mem_append_left _ (List.mem_append_left _ (List.mem_of_getElem? (i := 0) rfl)))
set_option maxRecDepth 20000 in
theorem mw_X6_takesBreadth_w_1 : (.initialized RX8 : Cond) ∈ wsX6_takesBreadth := List.mem_cons_of_mem _ (List.mem_append_left _ (List.mem_append_left _ (List.mem_of_getElem? (i := 10) rfl)))
set_option maxRecDepth 20000 in
theorem mw_X6_takesBreadth_w_2 : (.static yX8_isWithin : Cond) ∈ wsX6_takesBreadth := List.mem_cons_of_mem _ (List.mem_append_left _ (List.mem_append_left _ (List.mem_of_getElem? (i := 9) rfl)))
set_option maxRecDepth 20000 in
theorem mw_X6_takesBreadth_w_3 : (.fieldLink RX6 65 "FontRuns$FontRow" "breadth" "[I" : Cond) ∈ wsX6_takesBreadth := List.mem_cons_of_mem _ (List.mem_append_left _ (List.mem_append_left _ (List.mem_of_getElem? (i := 1) rfl)))
set_option maxRecDepth 20000 in
theorem mw_X6_takesBreadth_w_4 : (.fieldLink RX6 22 "FontRuns$TextReader" "due" "I" : Cond) ∈ wsX6_takesBreadth := List.mem_cons_of_mem _ (List.mem_append_left _ (List.mem_append_left _ (List.mem_of_getElem? (i := 2) rfl)))
theorem ax_X6_takesBreadth_w_0 {e0 e1 e2 : Nat × va_E} : ([1] : List Nat).map (fun i => ([e0, e1, e2] : va_W)[i]?) = ([e1] : va_W).map some := rfl
theorem ax_X6_takesBreadth_w_1 {e0 e1 e2 : Nat × va_E} : ([0, 1, 2] : List Nat).map (fun i => ([e0, e1, e2] : va_W)[i]?) = ([e0, e1, e2] : va_W).map some := rfl
theorem ax_X6_takesBreadth_w_2 {e0 e1 e2 : Nat × va_E} : ([] : List Nat).map (fun i => ([e0, e1, e2] : va_W)[i]?) = ([] : va_W).map some := rfl
set_option maxHeartbeats 4000000 in
set_option maxRecDepth 100000 in
theorem c_X6_takesBreadth_w (l : Launch) (D : va_G) (sz : Nat) (x : Int) (f : Int) (h0 : Nat) (td : Nat) (du : Int) (k1 : Nat) (k2 : Nat) (k3 : Nat) (n : Int) (ck2 : ClassId) (fb : Nat → Int32) (q0 : rg x) (q1 : rg f) (q2 : rg du) (q3 : 0 ≤ n ∧ n ≤ 4) (q4 : f = n - 1) : Met l yX6_takesBreadth wsX6_takesBreadth ({ frames := 2, cells := 0, slots := 0, locals := 43 }) (kPre [.ref h0, .int (zI x), .int (zI f)] D [(h0, .inr (6, [.ref td, .int (zI du)])), (td, .inr (0, [.ref k1, .ref k2, .ref k3, .int (zI n)])), (k2, .inl (ck2, 4, .inl fb))] [(ck2, .int)] sz) (kQS (fun rz t => ∃ (ud : Int) (ub : Nat → Int32), ((rz = 1 ∧ ud = 4 ∧ (1 ≤ n ∧ 49 ≤ x ∧ x ≤ 57) ∧ ub = upd fb (n - 1).toNat (zI (x - 48))) ∨ (rz = 0 ∧ ¬ (1 ≤ n ∧ 49 ≤ x ∧ x ≤ 57))) ∧ (rg ud) ∧ va_P D vwCl [(h0, .inr (6, [.ref td, .int (zI ud)])), (td, .inr (0, [.ref k1, .ref k2, .ref k3, .int (zI n)])), (k2, .inl (ck2, 4, .inl ub))] t.heap ∧ va_D (va_A [(h0, .inr (6, [.ref td, .int (zI du)])), (td, .inr (0, [.ref k1, .ref k2, .ref k3, .int (zI n)])), (k2, .inl (ck2, 4, .inl fb))] sz) [(h0, .inr (6, [.ref td, .int (zI ud)])), (td, .inr (0, [.ref k1, .ref k2, .ref k3, .int (zI n)])), (k2, .inl (ck2, 4, .inl ub))]) (va_A [(h0, .inr (6, [.ref td, .int (zI du)])), (td, .inr (0, [.ref k1, .ref k2, .ref k3, .int (zI n)])), (k2, .inl (ck2, 4, .inl fb))] sz)) 0 0 (va_A [(h0, .inr (6, [.ref td, .int (zI du)])), (td, .inr (0, [.ref k1, .ref k2, .ref k3, .int (zI n)])), (k2, .inl (ck2, 4, .inl fb))] sz) := by
  refine Met.ofW (cc := cX6_takesBreadth) (maxL := 3) (ret := (some .boolean)) (by decide) rfl ?_
  intro p e s m args below meth c s₁ B hml hv
  obtain ⟨rfl, hsz, hP, hK, hD0, hN⟩ := hv
  have hx := B.exec
  have hb := B.bytes
  have hr := B.returns
  have hts := atoms_spec (ws := wsX6_takesBreadth) B.pre
  have hown : s.vm.findClass RX6 = some m.cls := findClass_of_methodNamed B.named
  have hlocks := B.notSynchronized
  subst hsz
  have hD := hD0.self (sz := s.heap.size)
  generalize hAe : va_A [(h0, .inr (6, [.ref td, .int (zI du)])), (td, .inr (0, [.ref k1, .ref k2, .ref k3, .int (zI n)])), (k2, .inl (ck2, 4, .inl fb))] s.heap.size = A at hD ⊢
  have hA : ∀ q : Nat, s.heap.size ≤ q → A q := fun q h => by rw [← hAe]; exact Or.inr h
  have hS : va_S A s.heap s.heap [] := va_S.rf
  have hP : va_P D vwCl [(h0, .inr (6, [.ref td, .int (zI du)])), (td, .inr (0, [.ref k1, .ref k2, .ref k3, .int (zI n)])), (k2, .inl (ck2, 4, .inl fb))] s.heap := hP
  have hl := lv_entry ([.ref h0, .int (zI x), .int (zI f)]) (n := 3) (Nat.le_of_ble_eq_true rfl)
  rw [lg_entry_eq]
  generalize (lg_sl ([.ref h0, .int (zI x), .int (zI f)]) ++ List.replicate (3 - (lg_sl ([.ref h0, .int (zI x), .int (zI f)])).length) Slot.unset).toArray = ls at hl ⊢
  have hl : lv_has ls 3 [(0, .ref h0), (1, .int (zI x)), (2, .int (zI f))] := hl
  refine lv_aload_n hx hb dX6_takesBreadth_0 rfl (lv_at hl 0 rfl) ?_
  refine va_get (D := D) (ci := 6) (v := .ref td) (C := RX6) (T := TX6) (N := 2) hx hb hts (fun _ h9 => List.mem_cons_of_mem _ (List.mem_append_left _ (List.mem_append_right _ h9))) hown hK hP 0 rfl rfl 0 (by decide) (hts (.fieldLink RX6 12 "FontRuns$TextReader" "told" "LFontRuns$FontRow;") mw_X6_takesBreadth_w_0) (fun _ h9 => h9) rfl dX6_takesBreadth_1 ?_
  refine lv_iload_n hx hb dX6_takesBreadth_4 rfl (lv_at hl 2 rfl) ?_
  refine k_callR (va_runV (As := [.int (zI f)]) (rest := []) ⟨hx, hb, hml, hown, hts⟩ (c_X0_isFont l D s.heap.size (f := f) (h0 := td) (k1 := k1) (k2 := k2) (k3 := k3) (n := n) q1 q3) (cwV 1 hts gX6_takesBreadth_X0_isFont rfl rfl rfl (by decide +kernel) ⟨Nat.le_of_ble_eq_true rfl, Nat.le_of_ble_eq_true rfl⟩) (kPreV hP (kD0 hD) hK hN [1] [] ax_X6_takesBreadth_w_0 rfl (by decide +kernel) 1 0 rfl rfl) rfl rfl hl.1 rfl (lv_room (Nat.le_of_ble_eq_true rfl)) dX6_takesBreadth_5 ⟨Nat.le_of_ble_eq_true rfl, Nat.le_of_ble_eq_true rfl⟩) ?_
  refine lv_if_eq (tgt := 22) hx hb dX6_takesBreadth_8 (by decide) (fun c_1 => ?_) (fun c_1 => ?_)
  · have c_1 : ¬ (0 ≤ f ∧ f ≤ n - 1) := b01f c_1
    refine lv_iconst (v := zI 0) hx hb dX6_takesBreadth_22 rfl ?_
    have hP9 := hP.sub (ws' := [(h0, .inr (6, [.ref td, .int (zI du)])), (td, .inr (0, [.ref k1, .ref k2, .ref k3, .int (zI n)])), (k2, .inl (ck2, 4, .inl fb))]) [0, 1, 2] rfl
    have hD9 := hD.sub (ws' := [(h0, .inr (6, [.ref td, .int (zI du)])), (td, .inr (0, [.ref k1, .ref k2, .ref k3, .int (zI n)])), (k2, .inl (ck2, 4, .inl fb))]) [0, 1, 2] (by decide +kernel) rfl
    exact W.zret (v := (zI 0)) hx hb hr rfl (fun t ht hW => kQS_of (by omega) ⟨du, fb, (Or.inr ⟨by omega, by omega⟩), q2, by rw [ht]; exact hP9, hD9⟩ (hS.F ht)) hS.2.2 dX6_takesBreadth_23
  · have c_1 : 0 ≤ f ∧ f ≤ n - 1 := b01t c_1
    refine lv_iload_n hx hb dX6_takesBreadth_11 rfl (lv_at hl 1 rfl) ?_
    refine lv_bipush (v := zI 49) hx hb dX6_takesBreadth_12 (by decide) ?_
    refine lv_bipush (v := zI 57) hx hb dX6_takesBreadth_14 (by decide) ?_
    refine k_callR (va_runSN (As := [.int (zI x), .int (zI 49), .int (zI 57)]) (rest := []) ⟨hx, hb, hml, hown, hts⟩ (c_X8_isWithin l D s.heap.size (v := x) (a := 49) (b := 57) q0 (by omega) (by omega)) (⟨va_cnB 3 hts gX6_takesBreadth_X8_isWithin_n58 rfl rfl rfl (hN.1 (RX6, 58, yX8_isWithin) (by decide +kernel)) (hts (.initialized RX8) mw_X6_takesBreadth_w_1) (by decide +kernel) ⟨Nat.le_of_ble_eq_true rfl, Nat.le_of_ble_eq_true rfl⟩, (hts (.static yX8_isWithin) mw_X6_takesBreadth_w_2), trivial⟩) (kPreS hP (kD0 hD) hK hN [] [] ax_X6_takesBreadth_w_2 rfl (by decide +kernel)) rfl rfl hl.1 rfl (lv_room (Nat.le_of_ble_eq_true rfl)) dX6_takesBreadth_16 ⟨Nat.le_of_ble_eq_true rfl, Nat.le_of_ble_eq_true rfl⟩) ?_
    refine lv_if_ne (tgt := 24) hx hb dX6_takesBreadth_19 (by decide) (fun c_2 => ?_) (fun c_2 => ?_)
    · have c_2 : 49 ≤ x ∧ x ≤ 57 := b01t c_2
      refine lv_aload_n hx hb dX6_takesBreadth_24 rfl (lv_at hl 0 rfl) ?_
      refine va_get (D := D) (ci := 6) (v := .ref td) (C := RX6) (T := TX6) (N := 2) hx hb hts (fun _ h9 => List.mem_cons_of_mem _ (List.mem_append_left _ (List.mem_append_right _ h9))) hown hK hP 0 rfl rfl 0 (by decide) (hts (.fieldLink RX6 12 "FontRuns$TextReader" "told" "LFontRuns$FontRow;") mw_X6_takesBreadth_w_0) (fun _ h9 => h9) rfl dX6_takesBreadth_25 ?_
      refine va_get (D := D) (ci := 0) (v := .ref k2) (C := RX0) (T := TX0) (N := 4) hx hb hts (fun _ h9 => List.mem_cons_of_mem _ (List.mem_append_right _ h9)) hown hK hP 1 rfl rfl 1 (by decide) (hts (.fieldLink RX6 65 "FontRuns$FontRow" "breadth" "[I") mw_X6_takesBreadth_w_3) (fun _ h9 => h9) rfl dX6_takesBreadth_28 ?_
      refine lv_iload_n hx hb dX6_takesBreadth_31 rfl (lv_at hl 2 rfl) ?_
      refine lv_iload_n hx hb dX6_takesBreadth_32 rfl (lv_at hl 1 rfl) ?_
      refine lv_bipush (v := zI 48) hx hb dX6_takesBreadth_33 (by decide) ?_
      refine kz_isub hx hb dX6_takesBreadth_35 ?_
      refine kz_iast hx hb hK hP hD hS 2 0 rfl rfl (by omega) dX6_takesBreadth_36 (fun H locs hP hD hS => ?_)
      have hP : va_P D vwCl [(h0, .inr (6, [.ref td, .int (zI du)])), (td, .inr (0, [.ref k1, .ref k2, .ref k3, .int (zI n)])), (k2, .inl (ck2, 4, .inl (upd fb (f).toNat (zI (x - 48)))))] H := hP
      have hD : va_D A [(h0, .inr (6, [.ref td, .int (zI du)])), (td, .inr (0, [.ref k1, .ref k2, .ref k3, .int (zI n)])), (k2, .inl (ck2, 4, .inl (upd fb (f).toNat (zI (x - 48)))))] := hD
      generalize ef_3 : upd fb (f).toNat (zI (x - 48)) = f_3 at hP hD
      refine lv_aload_n hx hb dX6_takesBreadth_37 rfl (lv_at hl 0 rfl) ?_
      refine lv_iconst (v := zI 4) hx hb dX6_takesBreadth_38 rfl ?_
      refine va_put (D := D) (ci := 6) (v := .int (zI 4)) (ty := .int) (C := RX6) (T := TX6) (N := 2) hx hb hts (fun _ h9 => List.mem_cons_of_mem _ (List.mem_append_left _ (List.mem_append_right _ h9))) tyX6 tyX6_ok nmX6 hown hK hP hD hS 0 rfl rfl 1 (by decide) (hts (.fieldLink RX6 22 "FontRuns$TextReader" "due" "I") mw_X6_takesBreadth_w_4) (fun _ h9 => h9) rfl (by decide +kernel) rfl rfl (Nat.le_of_ble_eq_true rfl) dX6_takesBreadth_39 (fun H locs hP hD hS => ?_)
      have hP : va_P D vwCl [(h0, .inr (6, [.ref td, .int (zI 4)])), (td, .inr (0, [.ref k1, .ref k2, .ref k3, .int (zI n)])), (k2, .inl (ck2, 4, .inl f_3))] H := hP
      have hD : va_D A [(h0, .inr (6, [.ref td, .int (zI 4)])), (td, .inr (0, [.ref k1, .ref k2, .ref k3, .int (zI n)])), (k2, .inl (ck2, 4, .inl f_3))] := hD
      refine lv_iconst (v := zI 1) hx hb dX6_takesBreadth_42 rfl ?_
      have hP9 := hP.sub (ws' := [(h0, .inr (6, [.ref td, .int (zI 4)])), (td, .inr (0, [.ref k1, .ref k2, .ref k3, .int (zI n)])), (k2, .inl (ck2, 4, .inl f_3))]) [0, 1, 2] rfl
      have hD9 := hD.sub (ws' := [(h0, .inr (6, [.ref td, .int (zI 4)])), (td, .inr (0, [.ref k1, .ref k2, .ref k3, .int (zI n)])), (k2, .inl (ck2, 4, .inl f_3))]) [0, 1, 2] (by decide +kernel) rfl
      exact W.zret (v := (zI 1)) hx hb hr rfl (fun t ht hW => kQS_of (by omega) ⟨4, f_3, (Or.inl ⟨by omega, by omega, by omega, by rw [← ef_3, show f = n - 1 by omega]⟩), (by omega), by rw [ht]; exact hP9, hD9⟩ (hS.F ht)) hS.2.2 dX6_takesBreadth_43
    · have c_2 : ¬ (49 ≤ x ∧ x ≤ 57) := b01f c_2
      refine lv_iconst (v := zI 0) hx hb dX6_takesBreadth_22 rfl ?_
      have hP9 := hP.sub (ws' := [(h0, .inr (6, [.ref td, .int (zI du)])), (td, .inr (0, [.ref k1, .ref k2, .ref k3, .int (zI n)])), (k2, .inl (ck2, 4, .inl fb))]) [0, 1, 2] rfl
      have hD9 := hD.sub (ws' := [(h0, .inr (6, [.ref td, .int (zI du)])), (td, .inr (0, [.ref k1, .ref k2, .ref k3, .int (zI n)])), (k2, .inl (ck2, 4, .inl fb))]) [0, 1, 2] (by decide +kernel) rfl
      exact W.zret (v := (zI 0)) hx hb hr rfl (fun t ht hW => kQS_of (by omega) ⟨du, fb, (Or.inr ⟨by omega, by omega⟩), q2, by rw [ht]; exact hP9, hD9⟩ (hS.F ht)) hS.2.2 dX6_takesBreadth_23
theorem dX6_takesLetter_0 : decode cX6_takesLetter 0 = .ok (.aload_n 0, 1) := kqo_2a kbl_X6_takesLetter (pc := 0) rfl
theorem dX6_takesLetter_1 : decode cX6_takesLetter 1 = .ok (.getfield 12, 3) := kqo_b4 (x1 := 0) (x2 := 12) kbl_X6_takesLetter (pc := 1) rfl rfl
theorem dX6_takesLetter_4 : decode cX6_takesLetter 4 = .ok (.iload_n 2, 1) := kqo_1c kbl_X6_takesLetter (pc := 4) rfl
theorem dX6_takesLetter_5 : decode cX6_takesLetter 5 = .ok (.invokevirtual 55, 3) := kqo_b6 (x1 := 0) (x2 := 55) kbl_X6_takesLetter (pc := 5) rfl rfl
theorem dX6_takesLetter_8 : decode cX6_takesLetter 8 = .ok (.ifCond .eq 14, 3) := kqo_99 (x1 := 0) (x2 := 14) kbl_X6_takesLetter (pc := 8) rfl rfl
theorem dX6_takesLetter_11 : decode cX6_takesLetter 11 = .ok (.iload_n 1, 1) := kqo_1b kbl_X6_takesLetter (pc := 11) rfl
theorem dX6_takesLetter_12 : decode cX6_takesLetter 12 = .ok (.bipush 97, 2) := kqo_10 (x1 := 97) kbl_X6_takesLetter (pc := 12) rfl rfl
theorem dX6_takesLetter_14 : decode cX6_takesLetter 14 = .ok (.bipush 112, 2) := kqo_10 (x1 := 112) kbl_X6_takesLetter (pc := 14) rfl rfl
theorem dX6_takesLetter_16 : decode cX6_takesLetter 16 = .ok (.invokestatic 58, 3) := kqo_b8 (x1 := 0) (x2 := 58) kbl_X6_takesLetter (pc := 16) rfl rfl
theorem dX6_takesLetter_19 : decode cX6_takesLetter 19 = .ok (.ifCond .ne 5, 3) := kqo_9a (x1 := 0) (x2 := 5) kbl_X6_takesLetter (pc := 19) rfl rfl
theorem dX6_takesLetter_22 : decode cX6_takesLetter 22 = .ok (.iconst 0, 1) := kqo_03 kbl_X6_takesLetter (pc := 22) rfl
theorem dX6_takesLetter_23 : decode cX6_takesLetter 23 = .ok (.ireturn, 1) := kqo_ac kbl_X6_takesLetter (pc := 23) rfl
theorem dX6_takesLetter_24 : decode cX6_takesLetter 24 = .ok (.iconst 1, 1) := kqo_04 kbl_X6_takesLetter (pc := 24) rfl
theorem dX6_takesLetter_25 : decode cX6_takesLetter 25 = .ok (.iload_n 1, 1) := kqo_1b kbl_X6_takesLetter (pc := 25) rfl
theorem dX6_takesLetter_26 : decode cX6_takesLetter 26 = .ok (.bipush 97, 2) := kqo_10 (x1 := 97) kbl_X6_takesLetter (pc := 26) rfl rfl
theorem dX6_takesLetter_28 : decode cX6_takesLetter 28 = .ok (.isub, 1) := kqo_64 kbl_X6_takesLetter (pc := 28) rfl
theorem dX6_takesLetter_29 : decode cX6_takesLetter 29 = .ok (.ishl, 1) := kqo_78 kbl_X6_takesLetter (pc := 29) rfl
theorem dX6_takesLetter_30 : decode cX6_takesLetter 30 = .ok (.istore_n 3, 1) := kqo_3e kbl_X6_takesLetter (pc := 30) rfl
theorem dX6_takesLetter_31 : decode cX6_takesLetter 31 = .ok (.aload_n 0, 1) := kqo_2a kbl_X6_takesLetter (pc := 31) rfl
theorem dX6_takesLetter_32 : decode cX6_takesLetter 32 = .ok (.getfield 12, 3) := kqo_b4 (x1 := 0) (x2 := 12) kbl_X6_takesLetter (pc := 32) rfl rfl
theorem dX6_takesLetter_35 : decode cX6_takesLetter 35 = .ok (.getfield 51, 3) := kqo_b4 (x1 := 0) (x2 := 51) kbl_X6_takesLetter (pc := 35) rfl rfl
theorem dX6_takesLetter_38 : decode cX6_takesLetter 38 = .ok (.iload_n 2, 1) := kqo_1c kbl_X6_takesLetter (pc := 38) rfl
theorem dX6_takesLetter_39 : decode cX6_takesLetter 39 = .ok (.iaload, 1) := kqo_2e kbl_X6_takesLetter (pc := 39) rfl
theorem dX6_takesLetter_40 : decode cX6_takesLetter 40 = .ok (.iload_n 3, 1) := kqo_1d kbl_X6_takesLetter (pc := 40) rfl
theorem dX6_takesLetter_41 : decode cX6_takesLetter 41 = .ok (.iand, 1) := kqo_7e kbl_X6_takesLetter (pc := 41) rfl
theorem dX6_takesLetter_42 : decode cX6_takesLetter 42 = .ok (.ifCond .ne 20, 3) := kqo_9a (x1 := 0) (x2 := 20) kbl_X6_takesLetter (pc := 42) rfl rfl
theorem dX6_takesLetter_45 : decode cX6_takesLetter 45 = .ok (.aload_n 0, 1) := kqo_2a kbl_X6_takesLetter (pc := 45) rfl
theorem dX6_takesLetter_46 : decode cX6_takesLetter 46 = .ok (.getfield 12, 3) := kqo_b4 (x1 := 0) (x2 := 12) kbl_X6_takesLetter (pc := 46) rfl rfl
theorem dX6_takesLetter_49 : decode cX6_takesLetter 49 = .ok (.getfield 51, 3) := kqo_b4 (x1 := 0) (x2 := 51) kbl_X6_takesLetter (pc := 49) rfl rfl
theorem dX6_takesLetter_52 : decode cX6_takesLetter 52 = .ok (.iload_n 2, 1) := kqo_1c kbl_X6_takesLetter (pc := 52) rfl
theorem dX6_takesLetter_53 : decode cX6_takesLetter 53 = .ok (.iaload, 1) := kqo_2e kbl_X6_takesLetter (pc := 53) rfl
theorem dX6_takesLetter_54 : decode cX6_takesLetter 54 = .ok (.invokestatic 68, 3) := kqo_b8 (x1 := 0) (x2 := 68) kbl_X6_takesLetter (pc := 54) rfl rfl
theorem dX6_takesLetter_57 : decode cX6_takesLetter 57 = .ok (.bipush 8, 2) := kqo_10 (x1 := 8) kbl_X6_takesLetter (pc := 57) rfl rfl
theorem dX6_takesLetter_59 : decode cX6_takesLetter 59 = .ok (.if_icmp .lt 5, 3) := kqo_a1 (x1 := 0) (x2 := 5) kbl_X6_takesLetter (pc := 59) rfl rfl
theorem dX6_takesLetter_62 : decode cX6_takesLetter 62 = .ok (.iconst 0, 1) := kqo_03 kbl_X6_takesLetter (pc := 62) rfl
theorem dX6_takesLetter_63 : decode cX6_takesLetter 63 = .ok (.ireturn, 1) := kqo_ac kbl_X6_takesLetter (pc := 63) rfl
theorem dX6_takesLetter_64 : decode cX6_takesLetter 64 = .ok (.aload_n 0, 1) := kqo_2a kbl_X6_takesLetter (pc := 64) rfl
theorem dX6_takesLetter_65 : decode cX6_takesLetter 65 = .ok (.getfield 12, 3) := kqo_b4 (x1 := 0) (x2 := 12) kbl_X6_takesLetter (pc := 65) rfl rfl
theorem dX6_takesLetter_68 : decode cX6_takesLetter 68 = .ok (.getfield 51, 3) := kqo_b4 (x1 := 0) (x2 := 51) kbl_X6_takesLetter (pc := 68) rfl rfl
theorem dX6_takesLetter_71 : decode cX6_takesLetter 71 = .ok (.iload_n 2, 1) := kqo_1c kbl_X6_takesLetter (pc := 71) rfl
theorem dX6_takesLetter_72 : decode cX6_takesLetter 72 = .ok (.dup2, 1) := kqo_5c kbl_X6_takesLetter (pc := 72) rfl
theorem dX6_takesLetter_73 : decode cX6_takesLetter 73 = .ok (.iaload, 1) := kqo_2e kbl_X6_takesLetter (pc := 73) rfl
theorem dX6_takesLetter_74 : decode cX6_takesLetter 74 = .ok (.iload_n 3, 1) := kqo_1d kbl_X6_takesLetter (pc := 74) rfl
theorem dX6_takesLetter_75 : decode cX6_takesLetter 75 = .ok (.ior, 1) := kqo_80 kbl_X6_takesLetter (pc := 75) rfl
theorem dX6_takesLetter_76 : decode cX6_takesLetter 76 = .ok (.iastore, 1) := kqo_4f kbl_X6_takesLetter (pc := 76) rfl
theorem dX6_takesLetter_77 : decode cX6_takesLetter 77 = .ok (.aload_n 0, 1) := kqo_2a kbl_X6_takesLetter (pc := 77) rfl
theorem dX6_takesLetter_78 : decode cX6_takesLetter 78 = .ok (.iconst 5, 1) := kqo_08 kbl_X6_takesLetter (pc := 78) rfl
theorem dX6_takesLetter_79 : decode cX6_takesLetter 79 = .ok (.putfield 22, 3) := kqo_b5 (x1 := 0) (x2 := 22) kbl_X6_takesLetter (pc := 79) rfl rfl
theorem dX6_takesLetter_82 : decode cX6_takesLetter 82 = .ok (.iconst 1, 1) := kqo_04 kbl_X6_takesLetter (pc := 82) rfl
theorem dX6_takesLetter_83 : decode cX6_takesLetter 83 = .ok (.ireturn, 1) := kqo_ac kbl_X6_takesLetter (pc := 83) rfl
set_option maxRecDepth 20000 in
theorem ggX6_takesLetter_J6_bitCount_0f7a4 : GoodIn wsX6_takesLetter wsJ6_bitCount_0f7a4 := goodIn_4 _ (List.forall_mem_cons.mpr ⟨List.mem_cons_of_mem _ (List.mem_append_left _ (List.mem_append_left _ (List.mem_of_getElem? (i := 15) rfl))), List.forall_mem_cons.mpr ⟨List.mem_cons_of_mem _ (List.mem_append_left _ (List.mem_append_left _ (List.mem_of_getElem? (i := 16) rfl))), List.forall_mem_cons.mpr ⟨List.mem_cons_of_mem _ (List.mem_append_left _ (List.mem_append_left _ (List.mem_of_getElem? (i := 17) rfl))), List.forall_mem_cons.mpr ⟨List.mem_cons_of_mem _ (List.mem_append_left _ (List.mem_append_left _ (List.mem_of_getElem? (i := 18) rfl))), fun _ h9 => absurd h9 List.not_mem_nil⟩⟩⟩⟩) (by decide +kernel)
set_option maxRecDepth 20000 in
theorem gX6_takesLetter_J6_bitCount_0f7a4 : GoodIn wsX6_takesLetter (va_wsS RX6 68 yJ6_bitCount_0f7a4 wsJ6_bitCount_0f7a4) := goodIn_app (goodIn_4 _ (List.forall_mem_cons.mpr ⟨List.mem_cons_of_mem _ (List.mem_append_left _ (List.mem_append_left _ (List.mem_of_getElem? (i := 12) rfl))), List.forall_mem_cons.mpr ⟨List.mem_cons_of_mem _ (List.mem_append_left _ (List.mem_append_left _ (List.mem_of_getElem? (i := 13) rfl))), List.forall_mem_cons.mpr ⟨List.mem_cons_of_mem _ (List.mem_append_left _ (List.mem_append_left _ (List.mem_of_getElem? (i := 14) rfl))), fun _ h9 => absurd h9 List.not_mem_nil⟩⟩⟩) (by decide +kernel)) ggX6_takesLetter_J6_bitCount_0f7a4
set_option maxRecDepth 20000 in
theorem ggX6_takesLetter_X0_isFont : GoodIn wsX6_takesLetter wsX0_isFont := goodIn_4 _ (List.forall_mem_cons.mpr ⟨List.mem_cons_of_mem _ (List.mem_append_left _ (List.mem_append_left _ (List.mem_of_getElem? (i := 7) rfl))), List.forall_mem_append.mpr ⟨List.forall_mem_cons.mpr ⟨List.mem_cons_of_mem _ (List.mem_append_left _ (List.mem_append_left _ (List.mem_of_getElem? (i := 8) rfl))), List.forall_mem_cons.mpr ⟨List.mem_cons_of_mem _ (List.mem_append_left _ (List.mem_append_left _ (List.mem_of_getElem? (i := 9) rfl))), List.forall_mem_cons.mpr ⟨List.mem_cons_of_mem _ (List.mem_append_left _ (List.mem_append_left _ (List.mem_of_getElem? (i := 10) rfl))), List.forall_mem_cons.mpr ⟨List.mem_cons_of_mem _ (List.mem_append_left _ (List.mem_append_left _ (List.mem_of_getElem? (i := 11) rfl))), fun _ h9 => absurd h9 List.not_mem_nil⟩⟩⟩⟩, fun w h9 => List.mem_cons_of_mem _ (List.mem_append_right _ (h9))⟩⟩) (by decide +kernel)
set_option maxRecDepth 20000 in
theorem gX6_takesLetter_X0_isFont : GoodIn wsX6_takesLetter (wsV RX6 55 RX0 yX0_isFont wsX0_isFont) := goodIn_app (goodIn_4 _ (List.forall_mem_cons.mpr ⟨List.mem_cons_of_mem _ (List.mem_append_left _ (List.mem_append_left _ (List.mem_of_getElem? (i := 3) rfl))), List.forall_mem_cons.mpr ⟨List.mem_cons_of_mem _ (List.mem_append_left _ (List.mem_append_left _ (List.mem_of_getElem? (i := 4) rfl))), List.forall_mem_cons.mpr ⟨List.mem_cons_of_mem _ (List.mem_append_left _ (List.mem_append_left _ (List.mem_of_getElem? (i := 5) rfl))), List.forall_mem_cons.mpr ⟨List.mem_cons_of_mem _ (List.mem_append_left _ (List.mem_append_left _ (List.mem_of_getElem? (i := 6) rfl))), fun _ h9 => absurd h9 List.not_mem_nil⟩⟩⟩⟩) (by decide +kernel)) ggX6_takesLetter_X0_isFont
set_option maxRecDepth 20000 in
theorem ggX6_takesLetter_X8_isWithin : GoodIn wsX6_takesLetter wsX8_isWithin := goodIn_4 _ (List.forall_mem_cons.mpr ⟨List.mem_cons_of_mem _ (List.mem_append_left _ (List.mem_append_left _ (List.mem_of_getElem? (i := 11) rfl))), fun _ h9 => absurd h9 List.not_mem_nil⟩) (by decide +kernel)
set_option maxRecDepth 20000 in
theorem gX6_takesLetter_X8_isWithin_n58 : GoodIn wsX6_takesLetter (wsX8_isWithin) := ggX6_takesLetter_X8_isWithin
set_option maxRecDepth 20000 in
theorem mw_X6_takesLetter_w_0 : (.fieldLink RX6 12 "FontRuns$TextReader" "told" "LFontRuns$FontRow;" : Cond) ∈ wsX6_takesLetter := List.mem_cons_of_mem _ (List.mem_append_left _ (List.mem_append_left _ (List.mem_of_getElem? (i := 0) rfl)))
set_option maxRecDepth 20000 in
theorem mw_X6_takesLetter_w_1 : (.initialized RX8 : Cond) ∈ wsX6_takesLetter := List.mem_cons_of_mem _ (List.mem_append_left _ (List.mem_append_left _ (List.mem_of_getElem? (i := 10) rfl)))
set_option maxRecDepth 20000 in
theorem mw_X6_takesLetter_w_2 : (.static yX8_isWithin : Cond) ∈ wsX6_takesLetter := List.mem_cons_of_mem _ (List.mem_append_left _ (List.mem_append_left _ (List.mem_of_getElem? (i := 9) rfl)))
set_option maxRecDepth 20000 in
theorem mw_X6_takesLetter_w_3 : (.fieldLink RX6 51 "FontRuns$FontRow" "has" "[I" : Cond) ∈ wsX6_takesLetter := List.mem_cons_of_mem _ (List.mem_append_left _ (List.mem_append_left _ (List.mem_of_getElem? (i := 1) rfl)))
set_option maxRecDepth 20000 in
theorem mw_X6_takesLetter_w_4 : (.fieldLink RX6 22 "FontRuns$TextReader" "due" "I" : Cond) ∈ wsX6_takesLetter := List.mem_cons_of_mem _ (List.mem_append_left _ (List.mem_append_left _ (List.mem_of_getElem? (i := 2) rfl)))
theorem ax_X6_takesLetter_w_0 {e0 e1 e2 : Nat × va_E} : ([1] : List Nat).map (fun i => ([e0, e1, e2] : va_W)[i]?) = ([e1] : va_W).map some := rfl
theorem ax_X6_takesLetter_w_1 {e0 e1 e2 : Nat × va_E} : ([0, 1, 2] : List Nat).map (fun i => ([e0, e1, e2] : va_W)[i]?) = ([e0, e1, e2] : va_W).map some := rfl
theorem ax_X6_takesLetter_w_2 {e0 e1 e2 : Nat × va_E} : ([] : List Nat).map (fun i => ([e0, e1, e2] : va_W)[i]?) = ([] : va_W).map some := rfl
set_option maxHeartbeats 4000000 in
set_option maxRecDepth 100000 in
theorem c_X6_takesLetter_w (l : Launch) (D : va_G) (sz : Nat) (x : Int) (f : Int) (h0 : Nat) (td : Nat) (du : Int) (k1 : Nat) (k2 : Nat) (k3 : Nat) (n : Int) (ck3 : ClassId) (fh : Nat → Int32) (q0 : rg x) (q1 : rg f) (q2 : rg du) (q3 : 0 ≤ n ∧ n ≤ 4) (q4 : f = n - 1) (q5 : kHb fh n) : Met l yX6_takesLetter wsX6_takesLetter ({ frames := 2, cells := 0, slots := 0, locals := 43 }) (kPre [.ref h0, .int (zI x), .int (zI f)] D [(h0, .inr (6, [.ref td, .int (zI du)])), (td, .inr (0, [.ref k1, .ref k2, .ref k3, .int (zI n)])), (k3, .inl (ck3, 4, .inl fh))] [(ck3, .int)] sz) (kQS (fun rz t => ∃ (ud : Int) (uh : Nat → Int32), ((rz = 1 ∧ ud = 5 ∧ kLtC n fh x = some uh) ∨ (rz = 0 ∧ kLtC n fh x = none)) ∧ (rg ud) ∧ va_P D vwCl [(h0, .inr (6, [.ref td, .int (zI ud)])), (td, .inr (0, [.ref k1, .ref k2, .ref k3, .int (zI n)])), (k3, .inl (ck3, 4, .inl uh))] t.heap ∧ va_D (va_A [(h0, .inr (6, [.ref td, .int (zI du)])), (td, .inr (0, [.ref k1, .ref k2, .ref k3, .int (zI n)])), (k3, .inl (ck3, 4, .inl fh))] sz) [(h0, .inr (6, [.ref td, .int (zI ud)])), (td, .inr (0, [.ref k1, .ref k2, .ref k3, .int (zI n)])), (k3, .inl (ck3, 4, .inl uh))]) (va_A [(h0, .inr (6, [.ref td, .int (zI du)])), (td, .inr (0, [.ref k1, .ref k2, .ref k3, .int (zI n)])), (k3, .inl (ck3, 4, .inl fh))] sz)) 0 0 (va_A [(h0, .inr (6, [.ref td, .int (zI du)])), (td, .inr (0, [.ref k1, .ref k2, .ref k3, .int (zI n)])), (k3, .inl (ck3, 4, .inl fh))] sz) := by
  refine Met.ofW (cc := cX6_takesLetter) (maxL := 4) (ret := (some .boolean)) (by decide) rfl ?_
  intro p e s m args below meth c s₁ B hml hv
  obtain ⟨rfl, hsz, hP, hK, hD0, hN⟩ := hv
  have hx := B.exec
  have hb := B.bytes
  have hr := B.returns
  have hts := atoms_spec (ws := wsX6_takesLetter) B.pre
  have hown : s.vm.findClass RX6 = some m.cls := findClass_of_methodNamed B.named
  have hlocks := B.notSynchronized
  subst hsz
  have hD := hD0.self (sz := s.heap.size)
  generalize hAe : va_A [(h0, .inr (6, [.ref td, .int (zI du)])), (td, .inr (0, [.ref k1, .ref k2, .ref k3, .int (zI n)])), (k3, .inl (ck3, 4, .inl fh))] s.heap.size = A at hD ⊢
  have hA : ∀ q : Nat, s.heap.size ≤ q → A q := fun q h => by rw [← hAe]; exact Or.inr h
  have hS : va_S A s.heap s.heap [] := va_S.rf
  have hP : va_P D vwCl [(h0, .inr (6, [.ref td, .int (zI du)])), (td, .inr (0, [.ref k1, .ref k2, .ref k3, .int (zI n)])), (k3, .inl (ck3, 4, .inl fh))] s.heap := hP
  have hl := lv_entry ([.ref h0, .int (zI x), .int (zI f)]) (n := 4) (Nat.le_of_ble_eq_true rfl)
  rw [lg_entry_eq]
  generalize (lg_sl ([.ref h0, .int (zI x), .int (zI f)]) ++ List.replicate (4 - (lg_sl ([.ref h0, .int (zI x), .int (zI f)])).length) Slot.unset).toArray = ls at hl ⊢
  have hl : lv_has ls 4 [(0, .ref h0), (1, .int (zI x)), (2, .int (zI f))] := hl
  refine lv_aload_n hx hb dX6_takesLetter_0 rfl (lv_at hl 0 rfl) ?_
  refine va_get (D := D) (ci := 6) (v := .ref td) (C := RX6) (T := TX6) (N := 2) hx hb hts (fun _ h9 => List.mem_cons_of_mem _ (List.mem_append_left _ (List.mem_append_right _ h9))) hown hK hP 0 rfl rfl 0 (by decide) (hts (.fieldLink RX6 12 "FontRuns$TextReader" "told" "LFontRuns$FontRow;") mw_X6_takesLetter_w_0) (fun _ h9 => h9) rfl dX6_takesLetter_1 ?_
  refine lv_iload_n hx hb dX6_takesLetter_4 rfl (lv_at hl 2 rfl) ?_
  refine k_callR (va_runV (As := [.int (zI f)]) (rest := []) ⟨hx, hb, hml, hown, hts⟩ (c_X0_isFont l D s.heap.size (f := f) (h0 := td) (k1 := k1) (k2 := k2) (k3 := k3) (n := n) q1 q3) (cwV 1 hts gX6_takesLetter_X0_isFont rfl rfl rfl (by decide +kernel) ⟨Nat.le_of_ble_eq_true rfl, Nat.le_of_ble_eq_true rfl⟩) (kPreV hP (kD0 hD) hK hN [1] [] ax_X6_takesLetter_w_0 rfl (by decide +kernel) 1 0 rfl rfl) rfl rfl hl.1 rfl (lv_room (Nat.le_of_ble_eq_true rfl)) dX6_takesLetter_5 ⟨Nat.le_of_ble_eq_true rfl, Nat.le_of_ble_eq_true rfl⟩) ?_
  refine lv_if_eq (tgt := 22) hx hb dX6_takesLetter_8 (by decide) (fun c_1 => ?_) (fun c_1 => ?_)
  · have c_1 : ¬ (0 ≤ f ∧ f ≤ n - 1) := b01f c_1
    refine lv_iconst (v := zI 0) hx hb dX6_takesLetter_22 rfl ?_
    have hP9 := hP.sub (ws' := [(h0, .inr (6, [.ref td, .int (zI du)])), (td, .inr (0, [.ref k1, .ref k2, .ref k3, .int (zI n)])), (k3, .inl (ck3, 4, .inl fh))]) [0, 1, 2] rfl
    have hD9 := hD.sub (ws' := [(h0, .inr (6, [.ref td, .int (zI du)])), (td, .inr (0, [.ref k1, .ref k2, .ref k3, .int (zI n)])), (k3, .inl (ck3, 4, .inl fh))]) [0, 1, 2] (by decide +kernel) rfl
    exact W.zret (v := (zI 0)) hx hb hr rfl (fun t ht hW => kQS_of (by omega) ⟨du, fh, (Or.inr ⟨by omega, kLtC_n (by omega)⟩), q2, by rw [ht]; exact hP9, hD9⟩ (hS.F ht)) hS.2.2 dX6_takesLetter_23
  · have c_1 : 0 ≤ f ∧ f ≤ n - 1 := b01t c_1
    refine lv_iload_n hx hb dX6_takesLetter_11 rfl (lv_at hl 1 rfl) ?_
    refine lv_bipush (v := zI 97) hx hb dX6_takesLetter_12 (by decide) ?_
    refine lv_bipush (v := zI 112) hx hb dX6_takesLetter_14 (by decide) ?_
    refine k_callR (va_runSN (As := [.int (zI x), .int (zI 97), .int (zI 112)]) (rest := []) ⟨hx, hb, hml, hown, hts⟩ (c_X8_isWithin l D s.heap.size (v := x) (a := 97) (b := 112) q0 (by omega) (by omega)) (⟨va_cnB 3 hts gX6_takesLetter_X8_isWithin_n58 rfl rfl rfl (hN.1 (RX6, 58, yX8_isWithin) (by decide +kernel)) (hts (.initialized RX8) mw_X6_takesLetter_w_1) (by decide +kernel) ⟨Nat.le_of_ble_eq_true rfl, Nat.le_of_ble_eq_true rfl⟩, (hts (.static yX8_isWithin) mw_X6_takesLetter_w_2), trivial⟩) (kPreS hP (kD0 hD) hK hN [] [] ax_X6_takesLetter_w_2 rfl (by decide +kernel)) rfl rfl hl.1 rfl (lv_room (Nat.le_of_ble_eq_true rfl)) dX6_takesLetter_16 ⟨Nat.le_of_ble_eq_true rfl, Nat.le_of_ble_eq_true rfl⟩) ?_
    refine lv_if_ne (tgt := 24) hx hb dX6_takesLetter_19 (by decide) (fun c_2 => ?_) (fun c_2 => ?_)
    · have c_2 : 97 ≤ x ∧ x ≤ 112 := b01t c_2
      refine lv_iconst (v := zI 1) hx hb dX6_takesLetter_24 rfl ?_
      refine lv_iload_n hx hb dX6_takesLetter_25 rfl (lv_at hl 1 rfl) ?_
      refine lv_bipush (v := zI 97) hx hb dX6_takesLetter_26 (by decide) ?_
      refine kz_isub hx hb dX6_takesLetter_28 ?_
      refine lv_ishl hx hb dX6_takesLetter_29 ?_
      refine kz_any (fun z_3 rz_3 ez_3 => ?_)
      refine lv_istore_n (lv' := [(3, .int (zI z_3)), (0, .ref h0), (1, .int (zI x)), (2, .int (zI f))]) hx hb dX6_takesLetter_30 rfl hl (by decide) rfl (fun ls hl => ?_)
      refine lv_aload_n hx hb dX6_takesLetter_31 rfl (lv_at hl 1 rfl) ?_
      refine va_get (D := D) (ci := 6) (v := .ref td) (C := RX6) (T := TX6) (N := 2) hx hb hts (fun _ h9 => List.mem_cons_of_mem _ (List.mem_append_left _ (List.mem_append_right _ h9))) hown hK hP 0 rfl rfl 0 (by decide) (hts (.fieldLink RX6 12 "FontRuns$TextReader" "told" "LFontRuns$FontRow;") mw_X6_takesLetter_w_0) (fun _ h9 => h9) rfl dX6_takesLetter_32 ?_
      refine va_get (D := D) (ci := 0) (v := .ref k3) (C := RX0) (T := TX0) (N := 4) hx hb hts (fun _ h9 => List.mem_cons_of_mem _ (List.mem_append_right _ h9)) hown hK hP 1 rfl rfl 2 (by decide) (hts (.fieldLink RX6 51 "FontRuns$FontRow" "has" "[I") mw_X6_takesLetter_w_3) (fun _ h9 => h9) rfl dX6_takesLetter_35 ?_
      refine lv_iload_n hx hb dX6_takesLetter_38 rfl (lv_at hl 3 rfl) ?_
      refine kz_iald hx hb hK hP 2 0 rfl rfl (by omega) dX6_takesLetter_39 (fun z_4 rz_4 ez_4 => ?_)
      refine lv_iload_n hx hb dX6_takesLetter_40 rfl (lv_at hl 0 rfl) ?_
      refine lv_iand hx hb dX6_takesLetter_41 ?_
      refine kz_any (fun z_5 rz_5 ez_5 => ?_)
      refine kz_if_ne (tgt := 62) hx hb dX6_takesLetter_42 (by decide) (by omega) (fun c_6 => ?_) (fun c_6 => ?_)
      · refine lv_iconst (v := zI 0) hx hb dX6_takesLetter_62 rfl ?_
        have hP9 := hP.sub (ws' := [(h0, .inr (6, [.ref td, .int (zI du)])), (td, .inr (0, [.ref k1, .ref k2, .ref k3, .int (zI n)])), (k3, .inl (ck3, 4, .inl fh))]) [0, 1, 2] rfl
        have hD9 := hD.sub (ws' := [(h0, .inr (6, [.ref td, .int (zI du)])), (td, .inr (0, [.ref k1, .ref k2, .ref k3, .int (zI n)])), (k3, .inl (ck3, 4, .inl fh))]) [0, 1, 2] (by decide +kernel) rfl
        exact W.zret (v := (zI 0)) hx hb hr rfl (fun t ht hW => kQS_of (by omega) ⟨du, fh, (Or.inr ⟨by omega, kLtC_b2 (by omega) (by omega) ez_3 ez_4 rz_5 ez_5 (by omega)⟩), q2, by rw [ht]; exact hP9, hD9⟩ (hS.F ht)) hS.2.2 dX6_takesLetter_63
      · refine lv_aload_n hx hb dX6_takesLetter_45 rfl (lv_at hl 1 rfl) ?_
        refine va_get (D := D) (ci := 6) (v := .ref td) (C := RX6) (T := TX6) (N := 2) hx hb hts (fun _ h9 => List.mem_cons_of_mem _ (List.mem_append_left _ (List.mem_append_right _ h9))) hown hK hP 0 rfl rfl 0 (by decide) (hts (.fieldLink RX6 12 "FontRuns$TextReader" "told" "LFontRuns$FontRow;") mw_X6_takesLetter_w_0) (fun _ h9 => h9) rfl dX6_takesLetter_46 ?_
        refine va_get (D := D) (ci := 0) (v := .ref k3) (C := RX0) (T := TX0) (N := 4) hx hb hts (fun _ h9 => List.mem_cons_of_mem _ (List.mem_append_right _ h9)) hown hK hP 1 rfl rfl 2 (by decide) (hts (.fieldLink RX6 51 "FontRuns$FontRow" "has" "[I") mw_X6_takesLetter_w_3) (fun _ h9 => h9) rfl dX6_takesLetter_49 ?_
        refine lv_iload_n hx hb dX6_takesLetter_52 rfl (lv_at hl 3 rfl) ?_
        refine kz_iald hx hb hK hP 2 0 rfl rfl (by omega) dX6_takesLetter_53 (fun z_7 rz_7 ez_7 => ?_)
        have q9 : z_4 = z_7 := (zI_eq rz_4 rz_7).mp (ez_4.symm.trans ez_7)
        subst q9
        refine k_callR (va_runS (As := [.int (zI z_4)]) (rest := []) ⟨hx, hb, hml, hown, hts⟩ (c_J6_bitCount_0f7a4_w l D s.heap.size (x := z_4) (by omega)) (va_cwS 1 hts gX6_takesLetter_J6_bitCount_0f7a4 rfl rfl rfl (by decide +kernel) ⟨Nat.le_of_ble_eq_true rfl, Nat.le_of_ble_eq_true rfl⟩) (kPreS hP (kD0 hD) hK hN [] [] ax_X6_takesLetter_w_2 rfl (by decide +kernel)) rfl rfl hl.1 rfl (lv_room (Nat.le_of_ble_eq_true rfl)) dX6_takesLetter_54 ⟨Nat.le_of_ble_eq_true rfl, Nat.le_of_ble_eq_true rfl⟩) ?_
        refine kz_any (fun z_8 rz_8 ez_8 => ?_)
        refine lv_bipush (v := zI 8) hx hb dX6_takesLetter_57 (by decide) ?_
        refine kz_icmp_lt (tgt := 64) hx hb dX6_takesLetter_59 (by decide) (by omega) (by omega) (fun c_9 => ?_) (fun c_9 => ?_)
        · refine lv_aload_n hx hb dX6_takesLetter_64 rfl (lv_at hl 1 rfl) ?_
          refine va_get (D := D) (ci := 6) (v := .ref td) (C := RX6) (T := TX6) (N := 2) hx hb hts (fun _ h9 => List.mem_cons_of_mem _ (List.mem_append_left _ (List.mem_append_right _ h9))) hown hK hP 0 rfl rfl 0 (by decide) (hts (.fieldLink RX6 12 "FontRuns$TextReader" "told" "LFontRuns$FontRow;") mw_X6_takesLetter_w_0) (fun _ h9 => h9) rfl dX6_takesLetter_65 ?_
          refine va_get (D := D) (ci := 0) (v := .ref k3) (C := RX0) (T := TX0) (N := 4) hx hb hts (fun _ h9 => List.mem_cons_of_mem _ (List.mem_append_right _ h9)) hown hK hP 1 rfl rfl 2 (by decide) (hts (.fieldLink RX6 51 "FontRuns$FontRow" "has" "[I") mw_X6_takesLetter_w_3) (fun _ h9 => h9) rfl dX6_takesLetter_68 ?_
          refine lv_iload_n hx hb dX6_takesLetter_71 rfl (lv_at hl 3 rfl) ?_
          refine lv_dup2_11 hx hb dX6_takesLetter_72 rfl rfl ?_
          refine kz_iald hx hb hK hP 2 0 rfl rfl (by omega) dX6_takesLetter_73 (fun z_10 rz_10 ez_10 => ?_)
          have q9 : z_4 = z_10 := (zI_eq rz_4 rz_10).mp (ez_4.symm.trans ez_10)
          subst q9
          refine lv_iload_n hx hb dX6_takesLetter_74 rfl (lv_at hl 0 rfl) ?_
          refine lv_ior hx hb dX6_takesLetter_75 ?_
          refine kz_any (fun z_11 rz_11 ez_11 => ?_)
          refine kz_iast hx hb hK hP hD hS 2 0 rfl rfl (by omega) dX6_takesLetter_76 (fun H locs hP hD hS => ?_)
          have hP : va_P D vwCl [(h0, .inr (6, [.ref td, .int (zI du)])), (td, .inr (0, [.ref k1, .ref k2, .ref k3, .int (zI n)])), (k3, .inl (ck3, 4, .inl (upd fh (f).toNat (zI z_11))))] H := hP
          have hD : va_D A [(h0, .inr (6, [.ref td, .int (zI du)])), (td, .inr (0, [.ref k1, .ref k2, .ref k3, .int (zI n)])), (k3, .inl (ck3, 4, .inl (upd fh (f).toNat (zI z_11))))] := hD
          generalize ef_12 : upd fh (f).toNat (zI z_11) = f_12 at hP hD
          refine lv_aload_n hx hb dX6_takesLetter_77 rfl (lv_at hl 1 rfl) ?_
          refine lv_iconst (v := zI 5) hx hb dX6_takesLetter_78 rfl ?_
          refine va_put (D := D) (ci := 6) (v := .int (zI 5)) (ty := .int) (C := RX6) (T := TX6) (N := 2) hx hb hts (fun _ h9 => List.mem_cons_of_mem _ (List.mem_append_left _ (List.mem_append_right _ h9))) tyX6 tyX6_ok nmX6 hown hK hP hD hS 0 rfl rfl 1 (by decide) (hts (.fieldLink RX6 22 "FontRuns$TextReader" "due" "I") mw_X6_takesLetter_w_4) (fun _ h9 => h9) rfl (by decide +kernel) rfl rfl (Nat.le_of_ble_eq_true rfl) dX6_takesLetter_79 (fun H locs hP hD hS => ?_)
          have hP : va_P D vwCl [(h0, .inr (6, [.ref td, .int (zI 5)])), (td, .inr (0, [.ref k1, .ref k2, .ref k3, .int (zI n)])), (k3, .inl (ck3, 4, .inl f_12))] H := hP
          have hD : va_D A [(h0, .inr (6, [.ref td, .int (zI 5)])), (td, .inr (0, [.ref k1, .ref k2, .ref k3, .int (zI n)])), (k3, .inl (ck3, 4, .inl f_12))] := hD
          refine lv_iconst (v := zI 1) hx hb dX6_takesLetter_82 rfl ?_
          have hP9 := hP.sub (ws' := [(h0, .inr (6, [.ref td, .int (zI 5)])), (td, .inr (0, [.ref k1, .ref k2, .ref k3, .int (zI n)])), (k3, .inl (ck3, 4, .inl f_12))]) [0, 1, 2] rfl
          have hD9 := hD.sub (ws' := [(h0, .inr (6, [.ref td, .int (zI 5)])), (td, .inr (0, [.ref k1, .ref k2, .ref k3, .int (zI n)])), (k3, .inl (ck3, 4, .inl f_12))]) [0, 1, 2] (by decide +kernel) rfl
          exact W.zret (v := (zI 1)) hx hb hr rfl (fun t ht hW => kQS_of (by omega) ⟨5, f_12, (Or.inl ⟨by omega, by omega, kLtC_y2 q5 (by omega) (by omega) (by omega) ez_3 rz_4 ez_4 rz_5 ez_5 (by omega) rz_8 ez_8 (by omega) ez_11 ef_12⟩), (by omega), by rw [ht]; exact hP9, hD9⟩ (hS.F ht)) hS.2.2 dX6_takesLetter_83
        · refine lv_iconst (v := zI 0) hx hb dX6_takesLetter_62 rfl ?_
          have hP9 := hP.sub (ws' := [(h0, .inr (6, [.ref td, .int (zI du)])), (td, .inr (0, [.ref k1, .ref k2, .ref k3, .int (zI n)])), (k3, .inl (ck3, 4, .inl fh))]) [0, 1, 2] rfl
          have hD9 := hD.sub (ws' := [(h0, .inr (6, [.ref td, .int (zI du)])), (td, .inr (0, [.ref k1, .ref k2, .ref k3, .int (zI n)])), (k3, .inl (ck3, 4, .inl fh))]) [0, 1, 2] (by decide +kernel) rfl
          exact W.zret (v := (zI 0)) hx hb hr rfl (fun t ht hW => kQS_of (by omega) ⟨du, fh, (Or.inr ⟨by omega, kLtC_82 q5 (by omega) (by omega) rz_4 ez_4 rz_8 ez_8 (by omega)⟩), q2, by rw [ht]; exact hP9, hD9⟩ (hS.F ht)) hS.2.2 dX6_takesLetter_63
    · have c_2 : ¬ (97 ≤ x ∧ x ≤ 112) := b01f c_2
      refine lv_iconst (v := zI 0) hx hb dX6_takesLetter_22 rfl ?_
      have hP9 := hP.sub (ws' := [(h0, .inr (6, [.ref td, .int (zI du)])), (td, .inr (0, [.ref k1, .ref k2, .ref k3, .int (zI n)])), (k3, .inl (ck3, 4, .inl fh))]) [0, 1, 2] rfl
      have hD9 := hD.sub (ws' := [(h0, .inr (6, [.ref td, .int (zI du)])), (td, .inr (0, [.ref k1, .ref k2, .ref k3, .int (zI n)])), (k3, .inl (ck3, 4, .inl fh))]) [0, 1, 2] (by decide +kernel) rfl
      exact W.zret (v := (zI 0)) hx hb hr rfl (fun t ht hW => kQS_of (by omega) ⟨du, fh, (Or.inr ⟨by omega, kLtC_n (by omega)⟩), q2, by rw [ht]; exact hP9, hD9⟩ (hS.F ht)) hS.2.2 dX6_takesLetter_23
theorem dX6_goesOnWith_0 : decode cX6_goesOnWith 0 = .ok (.aload_n 0, 1) := kqo_2a kbl_X6_goesOnWith (pc := 0) rfl
theorem dX6_goesOnWith_1 : decode cX6_goesOnWith 1 = .ok (.getfield 22, 3) := kqo_b4 (x1 := 0) (x2 := 22) kbl_X6_goesOnWith (pc := 1) rfl rfl
theorem dX6_goesOnWith_4 : decode cX6_goesOnWith 4 = .ok (.tableswitch 93 0 4 #[36, 42, 48, 63, 78], 36) := by decide +kernel
theorem dX6_goesOnWith_40 : decode cX6_goesOnWith 40 = .ok (.aload_n 0, 1) := kqo_2a kbl_X6_goesOnWith (pc := 40) rfl
theorem dX6_goesOnWith_41 : decode cX6_goesOnWith 41 = .ok (.iload_n 1, 1) := kqo_1b kbl_X6_goesOnWith (pc := 41) rfl
theorem dX6_goesOnWith_42 : decode cX6_goesOnWith 42 = .ok (.invokevirtual 35, 3) := kqo_b6 (x1 := 0) (x2 := 35) kbl_X6_goesOnWith (pc := 42) rfl rfl
theorem dX6_goesOnWith_45 : decode cX6_goesOnWith 45 = .ok (.ireturn, 1) := kqo_ac kbl_X6_goesOnWith (pc := 45) rfl
theorem dX6_goesOnWith_46 : decode cX6_goesOnWith 46 = .ok (.aload_n 0, 1) := kqo_2a kbl_X6_goesOnWith (pc := 46) rfl
theorem dX6_goesOnWith_47 : decode cX6_goesOnWith 47 = .ok (.iload_n 1, 1) := kqo_1b kbl_X6_goesOnWith (pc := 47) rfl
theorem dX6_goesOnWith_48 : decode cX6_goesOnWith 48 = .ok (.invokevirtual 38, 3) := kqo_b6 (x1 := 0) (x2 := 38) kbl_X6_goesOnWith (pc := 48) rfl rfl
theorem dX6_goesOnWith_51 : decode cX6_goesOnWith 51 = .ok (.ireturn, 1) := kqo_ac kbl_X6_goesOnWith (pc := 51) rfl
theorem dX6_goesOnWith_52 : decode cX6_goesOnWith 52 = .ok (.aload_n 0, 1) := kqo_2a kbl_X6_goesOnWith (pc := 52) rfl
theorem dX6_goesOnWith_53 : decode cX6_goesOnWith 53 = .ok (.iload_n 1, 1) := kqo_1b kbl_X6_goesOnWith (pc := 53) rfl
theorem dX6_goesOnWith_54 : decode cX6_goesOnWith 54 = .ok (.aload_n 0, 1) := kqo_2a kbl_X6_goesOnWith (pc := 54) rfl
theorem dX6_goesOnWith_55 : decode cX6_goesOnWith 55 = .ok (.getfield 12, 3) := kqo_b4 (x1 := 0) (x2 := 12) kbl_X6_goesOnWith (pc := 55) rfl rfl
theorem dX6_goesOnWith_58 : decode cX6_goesOnWith 58 = .ok (.getfield 18, 3) := kqo_b4 (x1 := 0) (x2 := 18) kbl_X6_goesOnWith (pc := 58) rfl rfl
theorem dX6_goesOnWith_61 : decode cX6_goesOnWith 61 = .ok (.iconst 1, 1) := kqo_04 kbl_X6_goesOnWith (pc := 61) rfl
theorem dX6_goesOnWith_62 : decode cX6_goesOnWith 62 = .ok (.isub, 1) := kqo_64 kbl_X6_goesOnWith (pc := 62) rfl
theorem dX6_goesOnWith_63 : decode cX6_goesOnWith 63 = .ok (.invokevirtual 41, 3) := kqo_b6 (x1 := 0) (x2 := 41) kbl_X6_goesOnWith (pc := 63) rfl rfl
theorem dX6_goesOnWith_66 : decode cX6_goesOnWith 66 = .ok (.ireturn, 1) := kqo_ac kbl_X6_goesOnWith (pc := 66) rfl
theorem dX6_goesOnWith_67 : decode cX6_goesOnWith 67 = .ok (.aload_n 0, 1) := kqo_2a kbl_X6_goesOnWith (pc := 67) rfl
theorem dX6_goesOnWith_68 : decode cX6_goesOnWith 68 = .ok (.iload_n 1, 1) := kqo_1b kbl_X6_goesOnWith (pc := 68) rfl
theorem dX6_goesOnWith_69 : decode cX6_goesOnWith 69 = .ok (.aload_n 0, 1) := kqo_2a kbl_X6_goesOnWith (pc := 69) rfl
theorem dX6_goesOnWith_70 : decode cX6_goesOnWith 70 = .ok (.getfield 12, 3) := kqo_b4 (x1 := 0) (x2 := 12) kbl_X6_goesOnWith (pc := 70) rfl rfl
theorem dX6_goesOnWith_73 : decode cX6_goesOnWith 73 = .ok (.getfield 18, 3) := kqo_b4 (x1 := 0) (x2 := 18) kbl_X6_goesOnWith (pc := 73) rfl rfl
theorem dX6_goesOnWith_76 : decode cX6_goesOnWith 76 = .ok (.iconst 1, 1) := kqo_04 kbl_X6_goesOnWith (pc := 76) rfl
theorem dX6_goesOnWith_77 : decode cX6_goesOnWith 77 = .ok (.isub, 1) := kqo_64 kbl_X6_goesOnWith (pc := 77) rfl
theorem dX6_goesOnWith_78 : decode cX6_goesOnWith 78 = .ok (.invokevirtual 45, 3) := kqo_b6 (x1 := 0) (x2 := 45) kbl_X6_goesOnWith (pc := 78) rfl rfl
theorem dX6_goesOnWith_81 : decode cX6_goesOnWith 81 = .ok (.ireturn, 1) := kqo_ac kbl_X6_goesOnWith (pc := 81) rfl
theorem dX6_goesOnWith_82 : decode cX6_goesOnWith 82 = .ok (.aload_n 0, 1) := kqo_2a kbl_X6_goesOnWith (pc := 82) rfl
theorem dX6_goesOnWith_83 : decode cX6_goesOnWith 83 = .ok (.iload_n 1, 1) := kqo_1b kbl_X6_goesOnWith (pc := 83) rfl
theorem dX6_goesOnWith_84 : decode cX6_goesOnWith 84 = .ok (.aload_n 0, 1) := kqo_2a kbl_X6_goesOnWith (pc := 84) rfl
theorem dX6_goesOnWith_85 : decode cX6_goesOnWith 85 = .ok (.getfield 12, 3) := kqo_b4 (x1 := 0) (x2 := 12) kbl_X6_goesOnWith (pc := 85) rfl rfl
theorem dX6_goesOnWith_88 : decode cX6_goesOnWith 88 = .ok (.getfield 18, 3) := kqo_b4 (x1 := 0) (x2 := 18) kbl_X6_goesOnWith (pc := 88) rfl rfl
theorem dX6_goesOnWith_91 : decode cX6_goesOnWith 91 = .ok (.iconst 1, 1) := kqo_04 kbl_X6_goesOnWith (pc := 91) rfl
theorem dX6_goesOnWith_92 : decode cX6_goesOnWith 92 = .ok (.isub, 1) := kqo_64 kbl_X6_goesOnWith (pc := 92) rfl
theorem dX6_goesOnWith_93 : decode cX6_goesOnWith 93 = .ok (.invokevirtual 48, 3) := kqo_b6 (x1 := 0) (x2 := 48) kbl_X6_goesOnWith (pc := 93) rfl rfl
theorem dX6_goesOnWith_96 : decode cX6_goesOnWith 96 = .ok (.ireturn, 1) := kqo_ac kbl_X6_goesOnWith (pc := 96) rfl
theorem dX6_goesOnWith_97 : decode cX6_goesOnWith 97 = .ok (.iload_n 1, 1) := kqo_1b kbl_X6_goesOnWith (pc := 97) rfl
theorem dX6_goesOnWith_98 : decode cX6_goesOnWith 98 = .ok (.bipush 59, 2) := kqo_10 (x1 := 59) kbl_X6_goesOnWith (pc := 98) rfl rfl
theorem dX6_goesOnWith_100 : decode cX6_goesOnWith 100 = .ok (.if_icmp .ne 11, 3) := kqo_a0 (x1 := 0) (x2 := 11) kbl_X6_goesOnWith (pc := 100) rfl rfl
theorem dX6_goesOnWith_103 : decode cX6_goesOnWith 103 = .ok (.aload_n 0, 1) := kqo_2a kbl_X6_goesOnWith (pc := 103) rfl
theorem dX6_goesOnWith_104 : decode cX6_goesOnWith 104 = .ok (.iload_n 1, 1) := kqo_1b kbl_X6_goesOnWith (pc := 104) rfl
theorem dX6_goesOnWith_105 : decode cX6_goesOnWith 105 = .ok (.invokevirtual 38, 3) := kqo_b6 (x1 := 0) (x2 := 38) kbl_X6_goesOnWith (pc := 105) rfl rfl
theorem dX6_goesOnWith_108 : decode cX6_goesOnWith 108 = .ok (.goto 17, 3) := kqo_a7 (x1 := 0) (x2 := 17) kbl_X6_goesOnWith (pc := 108) rfl rfl
theorem dX6_goesOnWith_111 : decode cX6_goesOnWith 111 = .ok (.aload_n 0, 1) := kqo_2a kbl_X6_goesOnWith (pc := 111) rfl
theorem dX6_goesOnWith_112 : decode cX6_goesOnWith 112 = .ok (.iload_n 1, 1) := kqo_1b kbl_X6_goesOnWith (pc := 112) rfl
theorem dX6_goesOnWith_113 : decode cX6_goesOnWith 113 = .ok (.aload_n 0, 1) := kqo_2a kbl_X6_goesOnWith (pc := 113) rfl
theorem dX6_goesOnWith_114 : decode cX6_goesOnWith 114 = .ok (.getfield 12, 3) := kqo_b4 (x1 := 0) (x2 := 12) kbl_X6_goesOnWith (pc := 114) rfl rfl
theorem dX6_goesOnWith_117 : decode cX6_goesOnWith 117 = .ok (.getfield 18, 3) := kqo_b4 (x1 := 0) (x2 := 18) kbl_X6_goesOnWith (pc := 117) rfl rfl
theorem dX6_goesOnWith_120 : decode cX6_goesOnWith 120 = .ok (.iconst 1, 1) := kqo_04 kbl_X6_goesOnWith (pc := 120) rfl
theorem dX6_goesOnWith_121 : decode cX6_goesOnWith 121 = .ok (.isub, 1) := kqo_64 kbl_X6_goesOnWith (pc := 121) rfl
theorem dX6_goesOnWith_122 : decode cX6_goesOnWith 122 = .ok (.invokevirtual 48, 3) := kqo_b6 (x1 := 0) (x2 := 48) kbl_X6_goesOnWith (pc := 122) rfl rfl
theorem dX6_goesOnWith_125 : decode cX6_goesOnWith 125 = .ok (.ireturn, 1) := kqo_ac kbl_X6_goesOnWith (pc := 125) rfl
set_option maxRecDepth 20000 in
theorem ggX6_goesOnWith_X6_takesBreadth : GoodIn wsX6_goesOnWith wsX6_takesBreadth := goodIn_4 _ (List.forall_mem_cons.mpr ⟨List.mem_cons_of_mem _ (List.mem_append_left _ (List.mem_append_left _ (List.mem_append_right _ (List.mem_of_getElem? (i := 6) rfl)))), List.forall_mem_append.mpr ⟨List.forall_mem_append.mpr ⟨List.forall_mem_cons.mpr ⟨List.mem_cons_of_mem _ (List.mem_append_left _ (List.mem_append_left _ (List.mem_append_left _ (List.mem_of_getElem? (i := 1) rfl)))), List.forall_mem_cons.mpr ⟨List.mem_cons_of_mem _ (List.mem_append_left _ (List.mem_append_left _ (List.mem_append_right _ (List.mem_of_getElem? (i := 7) rfl)))), List.forall_mem_cons.mpr ⟨List.mem_cons_of_mem _ (List.mem_append_left _ (List.mem_append_left _ (List.mem_append_left _ (List.mem_of_getElem? (i := 0) rfl)))), List.forall_mem_cons.mpr ⟨List.mem_cons_of_mem _ (List.mem_append_left _ (List.mem_append_left _ (List.mem_append_left _ (List.mem_of_getElem? (i := 18) rfl)))), List.forall_mem_cons.mpr ⟨List.mem_cons_of_mem _ (List.mem_append_left _ (List.mem_append_left _ (List.mem_append_left _ (List.mem_of_getElem? (i := 19) rfl)))), List.forall_mem_cons.mpr ⟨List.mem_cons_of_mem _ (List.mem_append_left _ (List.mem_append_left _ (List.mem_append_left _ (List.mem_of_getElem? (i := 20) rfl)))), List.forall_mem_cons.mpr ⟨List.mem_cons_of_mem _ (List.mem_append_left _ (List.mem_append_left _ (List.mem_append_left _ (List.mem_of_getElem? (i := 21) rfl)))), List.forall_mem_cons.mpr ⟨List.mem_cons_of_mem _ (List.mem_append_left _ (List.mem_append_left _ (List.mem_append_left _ (List.mem_of_getElem? (i := 22) rfl)))), List.forall_mem_cons.mpr ⟨List.mem_cons_of_mem _ (List.mem_append_left _ (List.mem_append_left _ (List.mem_append_left _ (List.mem_of_getElem? (i := 23) rfl)))), List.forall_mem_cons.mpr ⟨List.mem_cons_of_mem _ (List.mem_append_left _ (List.mem_append_left _ (List.mem_append_right _ (List.mem_of_getElem? (i := 0) rfl)))), List.forall_mem_cons.mpr ⟨List.mem_cons_of_mem _ (List.mem_append_left _ (List.mem_append_left _ (List.mem_append_right _ (List.mem_of_getElem? (i := 1) rfl)))), List.forall_mem_cons.mpr ⟨List.mem_cons_of_mem _ (List.mem_append_left _ (List.mem_append_left _ (List.mem_append_right _ (List.mem_of_getElem? (i := 2) rfl)))), fun _ h9 => absurd h9 List.not_mem_nil⟩⟩⟩⟩⟩⟩⟩⟩⟩⟩⟩⟩, fun w h9 => List.mem_cons_of_mem _ (List.mem_append_left _ (List.mem_append_right _ (h9)))⟩, fun w h9 => List.mem_cons_of_mem _ (List.mem_append_right _ (h9))⟩⟩) (by decide +kernel)
set_option maxRecDepth 20000 in
theorem gX6_goesOnWith_X6_takesBreadth : GoodIn wsX6_goesOnWith (wsV RX6 45 RX6 yX6_takesBreadth wsX6_takesBreadth) := goodIn_app (goodIn_4 _ (List.forall_mem_cons.mpr ⟨List.mem_cons_of_mem _ (List.mem_append_left _ (List.mem_append_left _ (List.mem_append_right _ (List.mem_of_getElem? (i := 3) rfl)))), List.forall_mem_cons.mpr ⟨List.mem_cons_of_mem _ (List.mem_append_left _ (List.mem_append_left _ (List.mem_append_right _ (List.mem_of_getElem? (i := 4) rfl)))), List.forall_mem_cons.mpr ⟨List.mem_cons_of_mem _ (List.mem_append_left _ (List.mem_append_left _ (List.mem_append_right _ (List.mem_of_getElem? (i := 5) rfl)))), List.forall_mem_cons.mpr ⟨List.mem_cons_of_mem _ (List.mem_append_left _ (List.mem_append_left _ (List.mem_append_left _ (List.mem_of_getElem? (i := 6) rfl)))), fun _ h9 => absurd h9 List.not_mem_nil⟩⟩⟩⟩) (by decide +kernel)) ggX6_goesOnWith_X6_takesBreadth
set_option maxRecDepth 20000 in
theorem ggX6_goesOnWith_X6_takesHead : GoodIn wsX6_goesOnWith wsX6_takesHead := goodIn_4 _ (List.forall_mem_cons.mpr ⟨List.mem_cons_of_mem _ (List.mem_append_left _ (List.mem_append_left _ (List.mem_append_left _ (List.mem_of_getElem? (i := 7) rfl)))), List.forall_mem_append.mpr ⟨List.forall_mem_cons.mpr ⟨List.mem_cons_of_mem _ (List.mem_append_left _ (List.mem_append_left _ (List.mem_append_left _ (List.mem_of_getElem? (i := 0) rfl)))), fun _ h9 => absurd h9 List.not_mem_nil⟩, fun w h9 => List.mem_cons_of_mem _ (List.mem_append_left _ (List.mem_append_right _ (h9)))⟩⟩) (by decide +kernel)
set_option maxRecDepth 20000 in
theorem gX6_goesOnWith_X6_takesHead : GoodIn wsX6_goesOnWith (wsV RX6 35 RX6 yX6_takesHead wsX6_takesHead) := goodIn_app (goodIn_4 _ (List.forall_mem_cons.mpr ⟨List.mem_cons_of_mem _ (List.mem_append_left _ (List.mem_append_left _ (List.mem_append_left _ (List.mem_of_getElem? (i := 3) rfl)))), List.forall_mem_cons.mpr ⟨List.mem_cons_of_mem _ (List.mem_append_left _ (List.mem_append_left _ (List.mem_append_left _ (List.mem_of_getElem? (i := 4) rfl)))), List.forall_mem_cons.mpr ⟨List.mem_cons_of_mem _ (List.mem_append_left _ (List.mem_append_left _ (List.mem_append_left _ (List.mem_of_getElem? (i := 5) rfl)))), List.forall_mem_cons.mpr ⟨List.mem_cons_of_mem _ (List.mem_append_left _ (List.mem_append_left _ (List.mem_append_left _ (List.mem_of_getElem? (i := 6) rfl)))), fun _ h9 => absurd h9 List.not_mem_nil⟩⟩⟩⟩) (by decide +kernel)) ggX6_goesOnWith_X6_takesHead
set_option maxRecDepth 20000 in
theorem ggX6_goesOnWith_X6_takesKind : GoodIn wsX6_goesOnWith wsX6_takesKind := goodIn_4 _ (List.forall_mem_cons.mpr ⟨List.mem_cons_of_mem _ (List.mem_append_left _ (List.mem_append_left _ (List.mem_append_left _ (List.mem_of_getElem? (i := 16) rfl)))), List.forall_mem_append.mpr ⟨List.forall_mem_append.mpr ⟨List.forall_mem_cons.mpr ⟨List.mem_cons_of_mem _ (List.mem_append_left _ (List.mem_append_left _ (List.mem_append_left _ (List.mem_of_getElem? (i := 1) rfl)))), List.forall_mem_cons.mpr ⟨List.mem_cons_of_mem _ (List.mem_append_left _ (List.mem_append_left _ (List.mem_append_left _ (List.mem_of_getElem? (i := 17) rfl)))), List.forall_mem_cons.mpr ⟨List.mem_cons_of_mem _ (List.mem_append_left _ (List.mem_append_left _ (List.mem_append_left _ (List.mem_of_getElem? (i := 0) rfl)))), List.forall_mem_cons.mpr ⟨List.mem_cons_of_mem _ (List.mem_append_left _ (List.mem_append_left _ (List.mem_append_left _ (List.mem_of_getElem? (i := 18) rfl)))), List.forall_mem_cons.mpr ⟨List.mem_cons_of_mem _ (List.mem_append_left _ (List.mem_append_left _ (List.mem_append_left _ (List.mem_of_getElem? (i := 19) rfl)))), List.forall_mem_cons.mpr ⟨List.mem_cons_of_mem _ (List.mem_append_left _ (List.mem_append_left _ (List.mem_append_left _ (List.mem_of_getElem? (i := 20) rfl)))), List.forall_mem_cons.mpr ⟨List.mem_cons_of_mem _ (List.mem_append_left _ (List.mem_append_left _ (List.mem_append_left _ (List.mem_of_getElem? (i := 21) rfl)))), List.forall_mem_cons.mpr ⟨List.mem_cons_of_mem _ (List.mem_append_left _ (List.mem_append_left _ (List.mem_append_left _ (List.mem_of_getElem? (i := 22) rfl)))), List.forall_mem_cons.mpr ⟨List.mem_cons_of_mem _ (List.mem_append_left _ (List.mem_append_left _ (List.mem_append_left _ (List.mem_of_getElem? (i := 23) rfl)))), List.forall_mem_cons.mpr ⟨List.mem_cons_of_mem _ (List.mem_append_left _ (List.mem_append_left _ (List.mem_append_right _ (List.mem_of_getElem? (i := 0) rfl)))), List.forall_mem_cons.mpr ⟨List.mem_cons_of_mem _ (List.mem_append_left _ (List.mem_append_left _ (List.mem_append_right _ (List.mem_of_getElem? (i := 1) rfl)))), List.forall_mem_cons.mpr ⟨List.mem_cons_of_mem _ (List.mem_append_left _ (List.mem_append_left _ (List.mem_append_right _ (List.mem_of_getElem? (i := 2) rfl)))), fun _ h9 => absurd h9 List.not_mem_nil⟩⟩⟩⟩⟩⟩⟩⟩⟩⟩⟩⟩, fun w h9 => List.mem_cons_of_mem _ (List.mem_append_left _ (List.mem_append_right _ (h9)))⟩, fun w h9 => List.mem_cons_of_mem _ (List.mem_append_right _ (h9))⟩⟩) (by decide +kernel)
set_option maxRecDepth 20000 in
theorem gX6_goesOnWith_X6_takesKind : GoodIn wsX6_goesOnWith (wsV RX6 41 RX6 yX6_takesKind wsX6_takesKind) := goodIn_app (goodIn_4 _ (List.forall_mem_cons.mpr ⟨List.mem_cons_of_mem _ (List.mem_append_left _ (List.mem_append_left _ (List.mem_append_left _ (List.mem_of_getElem? (i := 13) rfl)))), List.forall_mem_cons.mpr ⟨List.mem_cons_of_mem _ (List.mem_append_left _ (List.mem_append_left _ (List.mem_append_left _ (List.mem_of_getElem? (i := 14) rfl)))), List.forall_mem_cons.mpr ⟨List.mem_cons_of_mem _ (List.mem_append_left _ (List.mem_append_left _ (List.mem_append_left _ (List.mem_of_getElem? (i := 15) rfl)))), List.forall_mem_cons.mpr ⟨List.mem_cons_of_mem _ (List.mem_append_left _ (List.mem_append_left _ (List.mem_append_left _ (List.mem_of_getElem? (i := 6) rfl)))), fun _ h9 => absurd h9 List.not_mem_nil⟩⟩⟩⟩) (by decide +kernel)) ggX6_goesOnWith_X6_takesKind
set_option maxRecDepth 20000 in
theorem ggX6_goesOnWith_X6_takesLetter : GoodIn wsX6_goesOnWith wsX6_takesLetter := goodIn_4 _ (List.forall_mem_cons.mpr ⟨List.mem_cons_of_mem _ (List.mem_append_left _ (List.mem_append_left _ (List.mem_append_right _ (List.mem_of_getElem? (i := 11) rfl)))), List.forall_mem_append.mpr ⟨List.forall_mem_append.mpr ⟨List.forall_mem_cons.mpr ⟨List.mem_cons_of_mem _ (List.mem_append_left _ (List.mem_append_left _ (List.mem_append_left _ (List.mem_of_getElem? (i := 1) rfl)))), List.forall_mem_cons.mpr ⟨List.mem_cons_of_mem _ (List.mem_append_left _ (List.mem_append_left _ (List.mem_append_left _ (List.mem_of_getElem? (i := 12) rfl)))), List.forall_mem_cons.mpr ⟨List.mem_cons_of_mem _ (List.mem_append_left _ (List.mem_append_left _ (List.mem_append_left _ (List.mem_of_getElem? (i := 0) rfl)))), List.forall_mem_cons.mpr ⟨List.mem_cons_of_mem _ (List.mem_append_left _ (List.mem_append_left _ (List.mem_append_left _ (List.mem_of_getElem? (i := 18) rfl)))), List.forall_mem_cons.mpr ⟨List.mem_cons_of_mem _ (List.mem_append_left _ (List.mem_append_left _ (List.mem_append_left _ (List.mem_of_getElem? (i := 19) rfl)))), List.forall_mem_cons.mpr ⟨List.mem_cons_of_mem _ (List.mem_append_left _ (List.mem_append_left _ (List.mem_append_left _ (List.mem_of_getElem? (i := 20) rfl)))), List.forall_mem_cons.mpr ⟨List.mem_cons_of_mem _ (List.mem_append_left _ (List.mem_append_left _ (List.mem_append_left _ (List.mem_of_getElem? (i := 21) rfl)))), List.forall_mem_cons.mpr ⟨List.mem_cons_of_mem _ (List.mem_append_left _ (List.mem_append_left _ (List.mem_append_left _ (List.mem_of_getElem? (i := 22) rfl)))), List.forall_mem_cons.mpr ⟨List.mem_cons_of_mem _ (List.mem_append_left _ (List.mem_append_left _ (List.mem_append_left _ (List.mem_of_getElem? (i := 23) rfl)))), List.forall_mem_cons.mpr ⟨List.mem_cons_of_mem _ (List.mem_append_left _ (List.mem_append_left _ (List.mem_append_right _ (List.mem_of_getElem? (i := 0) rfl)))), List.forall_mem_cons.mpr ⟨List.mem_cons_of_mem _ (List.mem_append_left _ (List.mem_append_left _ (List.mem_append_right _ (List.mem_of_getElem? (i := 1) rfl)))), List.forall_mem_cons.mpr ⟨List.mem_cons_of_mem _ (List.mem_append_left _ (List.mem_append_left _ (List.mem_append_right _ (List.mem_of_getElem? (i := 2) rfl)))), List.forall_mem_cons.mpr ⟨List.mem_cons_of_mem _ (List.mem_append_left _ (List.mem_append_left _ (List.mem_append_right _ (List.mem_of_getElem? (i := 12) rfl)))), List.forall_mem_cons.mpr ⟨List.mem_cons_of_mem _ (List.mem_append_left _ (List.mem_append_left _ (List.mem_append_right _ (List.mem_of_getElem? (i := 13) rfl)))), List.forall_mem_cons.mpr ⟨List.mem_cons_of_mem _ (List.mem_append_left _ (List.mem_append_left _ (List.mem_append_right _ (List.mem_of_getElem? (i := 14) rfl)))), List.forall_mem_cons.mpr ⟨List.mem_cons_of_mem _ (List.mem_append_left _ (List.mem_append_left _ (List.mem_append_right _ (List.mem_of_getElem? (i := 15) rfl)))), List.forall_mem_cons.mpr ⟨List.mem_cons_of_mem _ (List.mem_append_left _ (List.mem_append_left _ (List.mem_append_right _ (List.mem_of_getElem? (i := 16) rfl)))), List.forall_mem_cons.mpr ⟨List.mem_cons_of_mem _ (List.mem_append_left _ (List.mem_append_left _ (List.mem_append_right _ (List.mem_of_getElem? (i := 17) rfl)))), List.forall_mem_cons.mpr ⟨List.mem_cons_of_mem _ (List.mem_append_left _ (List.mem_append_left _ (List.mem_append_right _ (List.mem_of_getElem? (i := 18) rfl)))), fun _ h9 => absurd h9 List.not_mem_nil⟩⟩⟩⟩⟩⟩⟩⟩⟩⟩⟩⟩⟩⟩⟩⟩⟩⟩⟩, fun w h9 => List.mem_cons_of_mem _ (List.mem_append_left _ (List.mem_append_right _ (h9)))⟩, fun w h9 => List.mem_cons_of_mem _ (List.mem_append_right _ (h9))⟩⟩) (by decide +kernel)
set_option maxRecDepth 20000 in
theorem gX6_goesOnWith_X6_takesLetter : GoodIn wsX6_goesOnWith (wsV RX6 48 RX6 yX6_takesLetter wsX6_takesLetter) := goodIn_app (goodIn_4 _ (List.forall_mem_cons.mpr ⟨List.mem_cons_of_mem _ (List.mem_append_left _ (List.mem_append_left _ (List.mem_append_right _ (List.mem_of_getElem? (i := 8) rfl)))), List.forall_mem_cons.mpr ⟨List.mem_cons_of_mem _ (List.mem_append_left _ (List.mem_append_left _ (List.mem_append_right _ (List.mem_of_getElem? (i := 9) rfl)))), List.forall_mem_cons.mpr ⟨List.mem_cons_of_mem _ (List.mem_append_left _ (List.mem_append_left _ (List.mem_append_right _ (List.mem_of_getElem? (i := 10) rfl)))), List.forall_mem_cons.mpr ⟨List.mem_cons_of_mem _ (List.mem_append_left _ (List.mem_append_left _ (List.mem_append_left _ (List.mem_of_getElem? (i := 6) rfl)))), fun _ h9 => absurd h9 List.not_mem_nil⟩⟩⟩⟩) (by decide +kernel)) ggX6_goesOnWith_X6_takesLetter
set_option maxRecDepth 20000 in
theorem ggX6_goesOnWith_X6_takesSign : GoodIn wsX6_goesOnWith wsX6_takesSign := goodIn_4 _ (List.forall_mem_cons.mpr ⟨List.mem_cons_of_mem _ (List.mem_append_left _ (List.mem_append_left _ (List.mem_append_left _ (List.mem_of_getElem? (i := 11) rfl)))), List.forall_mem_append.mpr ⟨List.forall_mem_append.mpr ⟨List.forall_mem_cons.mpr ⟨List.mem_cons_of_mem _ (List.mem_append_left _ (List.mem_append_left _ (List.mem_append_left _ (List.mem_of_getElem? (i := 1) rfl)))), List.forall_mem_cons.mpr ⟨List.mem_cons_of_mem _ (List.mem_append_left _ (List.mem_append_left _ (List.mem_append_left _ (List.mem_of_getElem? (i := 2) rfl)))), List.forall_mem_cons.mpr ⟨List.mem_cons_of_mem _ (List.mem_append_left _ (List.mem_append_left _ (List.mem_append_left _ (List.mem_of_getElem? (i := 12) rfl)))), List.forall_mem_cons.mpr ⟨List.mem_cons_of_mem _ (List.mem_append_left _ (List.mem_append_left _ (List.mem_append_left _ (List.mem_of_getElem? (i := 0) rfl)))), fun _ h9 => absurd h9 List.not_mem_nil⟩⟩⟩⟩, fun w h9 => List.mem_cons_of_mem _ (List.mem_append_left _ (List.mem_append_right _ (h9)))⟩, fun w h9 => List.mem_cons_of_mem _ (List.mem_append_right _ (h9))⟩⟩) (by decide +kernel)
set_option maxRecDepth 20000 in
theorem gX6_goesOnWith_X6_takesSign : GoodIn wsX6_goesOnWith (wsV RX6 38 RX6 yX6_takesSign wsX6_takesSign) := goodIn_app (goodIn_4 _ (List.forall_mem_cons.mpr ⟨List.mem_cons_of_mem _ (List.mem_append_left _ (List.mem_append_left _ (List.mem_append_left _ (List.mem_of_getElem? (i := 8) rfl)))), List.forall_mem_cons.mpr ⟨List.mem_cons_of_mem _ (List.mem_append_left _ (List.mem_append_left _ (List.mem_append_left _ (List.mem_of_getElem? (i := 9) rfl)))), List.forall_mem_cons.mpr ⟨List.mem_cons_of_mem _ (List.mem_append_left _ (List.mem_append_left _ (List.mem_append_left _ (List.mem_of_getElem? (i := 10) rfl)))), List.forall_mem_cons.mpr ⟨List.mem_cons_of_mem _ (List.mem_append_left _ (List.mem_append_left _ (List.mem_append_left _ (List.mem_of_getElem? (i := 6) rfl)))), fun _ h9 => absurd h9 List.not_mem_nil⟩⟩⟩⟩) (by decide +kernel)) ggX6_goesOnWith_X6_takesSign
set_option maxRecDepth 20000 in
theorem mw_X6_goesOnWith_w_0 : (.fieldLink RX6 22 "FontRuns$TextReader" "due" "I" : Cond) ∈ wsX6_goesOnWith := List.mem_cons_of_mem _ (List.mem_append_left _ (List.mem_append_left _ (List.mem_append_left _ (List.mem_of_getElem? (i := 0) rfl))))
set_option maxRecDepth 20000 in
theorem mw_X6_goesOnWith_w_1 : (.fieldLink RX6 12 "FontRuns$TextReader" "told" "LFontRuns$FontRow;" : Cond) ∈ wsX6_goesOnWith := List.mem_cons_of_mem _ (List.mem_append_left _ (List.mem_append_left _ (List.mem_append_left _ (List.mem_of_getElem? (i := 1) rfl))))
set_option maxRecDepth 20000 in
theorem mw_X6_goesOnWith_w_2 : (.fieldLink RX6 18 "FontRuns$FontRow" "count" "I" : Cond) ∈ wsX6_goesOnWith := List.mem_cons_of_mem _ (List.mem_append_left _ (List.mem_append_left _ (List.mem_append_left _ (List.mem_of_getElem? (i := 2) rfl))))
theorem ax_X6_goesOnWith_w_0 {e0 e1 e2 e3 e4 : Nat × va_E} : ([0] : List Nat).map (fun i => ([e0, e1, e2, e3, e4] : va_W)[i]?) = ([e0] : va_W).map some := rfl
theorem ax_X6_goesOnWith_w_1 {e0 e1 e2 e3 e4 : Nat × va_E} : ([1, 2, 3, 4] : List Nat).map (fun i => ([e0, e1, e2, e3, e4] : va_W)[i]?) = ([e1, e2, e3, e4] : va_W).map some := rfl
theorem ax_X6_goesOnWith_w_2 {D : va_G} {cl : List vw_C} {H : Heap} {e0 e1 e2 e3 f0 : Nat × va_E} (h : va_P D cl ((([e0, e1, e2, e3] : va_W) ++ ([f0] : va_W))) H) : va_P D cl (([e0, e1, e2, e3, f0] : va_W)) H := h
theorem ax_X6_goesOnWith_w_3 {A : Nat → Prop} {e0 e1 e2 e3 f0 : Nat × va_E} (h : va_D A ((([e0, e1, e2, e3] : va_W) ++ ([f0] : va_W)))) : va_D A (([e0, e1, e2, e3, f0] : va_W)) := h
theorem ax_X6_goesOnWith_w_4 {e0 e1 e2 e3 e4 : Nat × va_E} : ([4, 0, 1, 2, 3] : List Nat).map (fun i => ([e0, e1, e2, e3, e4] : va_W)[i]?) = ([e4, e0, e1, e2, e3] : va_W).map some := rfl
theorem ax_X6_goesOnWith_w_5 {e0 e1 e2 e3 e4 : Nat × va_E} : ([0, 1, 4] : List Nat).map (fun i => ([e0, e1, e2, e3, e4] : va_W)[i]?) = ([e0, e1, e4] : va_W).map some := rfl
theorem ax_X6_goesOnWith_w_6 {e0 e1 e2 e3 e4 : Nat × va_E} : ([2, 3] : List Nat).map (fun i => ([e0, e1, e2, e3, e4] : va_W)[i]?) = ([e2, e3] : va_W).map some := rfl
theorem ax_X6_goesOnWith_w_7 {D : va_G} {cl : List vw_C} {H : Heap} {e0 e1 f0 f1 f2 : Nat × va_E} (h : va_P D cl ((([e0, e1] : va_W) ++ ([f0, f1, f2] : va_W))) H) : va_P D cl (([e0, e1, f0, f1, f2] : va_W)) H := h
theorem ax_X6_goesOnWith_w_8 {A : Nat → Prop} {e0 e1 f0 f1 f2 : Nat × va_E} (h : va_D A ((([e0, e1] : va_W) ++ ([f0, f1, f2] : va_W)))) : va_D A (([e0, e1, f0, f1, f2] : va_W)) := h
theorem ax_X6_goesOnWith_w_9 {e0 e1 e2 e3 e4 : Nat × va_E} : ([2, 3, 0, 1, 4] : List Nat).map (fun i => ([e0, e1, e2, e3, e4] : va_W)[i]?) = ([e2, e3, e0, e1, e4] : va_W).map some := rfl
theorem ax_X6_goesOnWith_w_10 {e0 e1 e2 e3 e4 : Nat × va_E} : ([0, 1, 2] : List Nat).map (fun i => ([e0, e1, e2, e3, e4] : va_W)[i]?) = ([e0, e1, e2] : va_W).map some := rfl
theorem ax_X6_goesOnWith_w_11 {e0 e1 e2 e3 e4 : Nat × va_E} : ([3, 4] : List Nat).map (fun i => ([e0, e1, e2, e3, e4] : va_W)[i]?) = ([e3, e4] : va_W).map some := rfl
theorem ax_X6_goesOnWith_w_12 {e0 e1 e2 e3 e4 : Nat × va_E} : ([2, 3, 4, 0, 1] : List Nat).map (fun i => ([e0, e1, e2, e3, e4] : va_W)[i]?) = ([e2, e3, e4, e0, e1] : va_W).map some := rfl
theorem ax_X6_goesOnWith_w_13 {e0 e1 e2 e3 e4 : Nat × va_E} : ([0, 1, 3] : List Nat).map (fun i => ([e0, e1, e2, e3, e4] : va_W)[i]?) = ([e0, e1, e3] : va_W).map some := rfl
theorem ax_X6_goesOnWith_w_14 {e0 e1 e2 e3 e4 : Nat × va_E} : ([2, 4] : List Nat).map (fun i => ([e0, e1, e2, e3, e4] : va_W)[i]?) = ([e2, e4] : va_W).map some := rfl
theorem ax_X6_goesOnWith_w_15 {e0 e1 e2 e3 e4 : Nat × va_E} : ([2, 3, 0, 4, 1] : List Nat).map (fun i => ([e0, e1, e2, e3, e4] : va_W)[i]?) = ([e2, e3, e0, e4, e1] : va_W).map some := rfl
set_option maxHeartbeats 4000000 in
set_option maxRecDepth 100000 in
theorem c_X6_goesOnWith_w (l : Launch) (D : va_G) (sz : Nat) (x : Int) (h0 : Nat) (td : Nat) (du : Int) (k1 : Nat) (k2 : Nat) (k3 : Nat) (n : Int) (ck1 : ClassId) (fk : Nat → Int32) (ck2 : ClassId) (fb : Nat → Int32) (ck3 : ClassId) (fh : Nat → Int32) (q0 : rg x) (q1 : 0 ≤ du ∧ du ≤ 5) (q2 : 0 ≤ n ∧ n ≤ 4) (q3 : kHb fh n) : Met l yX6_goesOnWith wsX6_goesOnWith ({ frames := 3, cells := 0, slots := 0, locals := 66 }) (kPre [.ref h0, .int (zI x)] D [(h0, .inr (6, [.ref td, .int (zI du)])), (td, .inr (0, [.ref k1, .ref k2, .ref k3, .int (zI n)])), (k1, .inl (ck1, 4, .inl fk)), (k2, .inl (ck2, 4, .inl fb)), (k3, .inl (ck3, 4, .inl fh))] [(ck1, .int), (ck2, .int), (ck3, .int)] sz) (kQS (fun rz t => ∃ (ud : Int) (un : Int) (uk : Nat → Int32) (ub : Nat → Int32) (uh : Nat → Int32), (kGw du n fk fb fh x rz (ud, un, uk, ub, uh)) ∧ (rz = 0 ∨ rz = 1) ∧ (rg ud) ∧ (0 ≤ un ∧ un ≤ 4) ∧ va_P D vwCl [(h0, .inr (6, [.ref td, .int (zI ud)])), (td, .inr (0, [.ref k1, .ref k2, .ref k3, .int (zI un)])), (k1, .inl (ck1, 4, .inl uk)), (k2, .inl (ck2, 4, .inl ub)), (k3, .inl (ck3, 4, .inl uh))] t.heap ∧ va_D (va_A [(h0, .inr (6, [.ref td, .int (zI du)])), (td, .inr (0, [.ref k1, .ref k2, .ref k3, .int (zI n)])), (k1, .inl (ck1, 4, .inl fk)), (k2, .inl (ck2, 4, .inl fb)), (k3, .inl (ck3, 4, .inl fh))] sz) [(h0, .inr (6, [.ref td, .int (zI ud)])), (td, .inr (0, [.ref k1, .ref k2, .ref k3, .int (zI un)])), (k1, .inl (ck1, 4, .inl uk)), (k2, .inl (ck2, 4, .inl ub)), (k3, .inl (ck3, 4, .inl uh))]) (va_A [(h0, .inr (6, [.ref td, .int (zI du)])), (td, .inr (0, [.ref k1, .ref k2, .ref k3, .int (zI n)])), (k1, .inl (ck1, 4, .inl fk)), (k2, .inl (ck2, 4, .inl fb)), (k3, .inl (ck3, 4, .inl fh))] sz)) 0 0 (va_A [(h0, .inr (6, [.ref td, .int (zI du)])), (td, .inr (0, [.ref k1, .ref k2, .ref k3, .int (zI n)])), (k1, .inl (ck1, 4, .inl fk)), (k2, .inl (ck2, 4, .inl fb)), (k3, .inl (ck3, 4, .inl fh))] sz) := by
  refine Met.ofW (cc := cX6_goesOnWith) (maxL := 2) (ret := (some .boolean)) (by decide) rfl ?_
  intro p e s m args below meth c s₁ B hml hv
  obtain ⟨rfl, hsz, hP, hK, hD0, hN⟩ := hv
  have hx := B.exec
  have hb := B.bytes
  have hr := B.returns
  have hts := atoms_spec (ws := wsX6_goesOnWith) B.pre
  have hown : s.vm.findClass RX6 = some m.cls := findClass_of_methodNamed B.named
  have hlocks := B.notSynchronized
  subst hsz
  have hD := hD0.self (sz := s.heap.size)
  generalize hAe : va_A [(h0, .inr (6, [.ref td, .int (zI du)])), (td, .inr (0, [.ref k1, .ref k2, .ref k3, .int (zI n)])), (k1, .inl (ck1, 4, .inl fk)), (k2, .inl (ck2, 4, .inl fb)), (k3, .inl (ck3, 4, .inl fh))] s.heap.size = A at hD ⊢
  have hA : ∀ q : Nat, s.heap.size ≤ q → A q := fun q h => by rw [← hAe]; exact Or.inr h
  have hS : va_S A s.heap s.heap [] := va_S.rf
  have hP : va_P D vwCl [(h0, .inr (6, [.ref td, .int (zI du)])), (td, .inr (0, [.ref k1, .ref k2, .ref k3, .int (zI n)])), (k1, .inl (ck1, 4, .inl fk)), (k2, .inl (ck2, 4, .inl fb)), (k3, .inl (ck3, 4, .inl fh))] s.heap := hP
  have hl := lv_entry ([.ref h0, .int (zI x)]) (n := 2) (Nat.le_of_ble_eq_true rfl)
  rw [lg_entry_eq]
  generalize (lg_sl ([.ref h0, .int (zI x)]) ++ List.replicate (2 - (lg_sl ([.ref h0, .int (zI x)])).length) Slot.unset).toArray = ls at hl ⊢
  have hl : lv_has ls 2 [(0, .ref h0), (1, .int (zI x))] := hl
  refine lv_aload_n hx hb dX6_goesOnWith_0 rfl (lv_at hl 0 rfl) ?_
  refine va_get (D := D) (ci := 6) (v := .int (zI du)) (C := RX6) (T := TX6) (N := 2) hx hb hts (fun _ h9 => List.mem_cons_of_mem _ (List.mem_append_left _ (List.mem_append_right _ h9))) hown hK hP 0 rfl rfl 1 (by decide) (hts (.fieldLink RX6 22 "FontRuns$TextReader" "due" "I") mw_X6_goesOnWith_w_0) (fun _ h9 => h9) rfl dX6_goesOnWith_1 ?_
  rcases (show du = 0 ∨ du = 1 ∨ du = 2 ∨ du = 3 ∨ du = 4 ∨ (¬ du = 0 ∧ ¬ du = 1 ∧ ¬ du = 2 ∧ ¬ du = 3 ∧ ¬ du = 4) from by omega) with c_1 | c_1 | c_1 | c_1 | c_1 | c_1
  · refine kz_tabIn (tgt := 40) (off := 36) hx hb dX6_goesOnWith_4 0 (by omega) (by decide) (by decide) (by decide) (by decide) (by decide) ?_
    refine lv_aload_n hx hb dX6_goesOnWith_40 rfl (lv_at hl 0 rfl) ?_
    refine lv_iload_n hx hb dX6_goesOnWith_41 rfl (lv_at hl 1 rfl) ?_
    have hFc := va_free (wc := [(h0, .inr (6, [.ref td, .int (zI du)]))]) hD hS hA [0] ax_X6_goesOnWith_w_0
    refine va_calli (va_runV (As := [.int (zI x)]) (rest := []) ⟨hx, hb, hml, hown, hts⟩ (c_X6_takesHead_w l D s.heap.size (x := x) (h0 := h0) (td := td) (du := du) q0) (cwV 1 hts gX6_goesOnWith_X6_takesHead rfl rfl rfl (by decide +kernel) ⟨Nat.le_of_ble_eq_true rfl, Nat.le_of_ble_eq_true rfl⟩) (kPreV hP (kD0 hD) hK hN [0] [] ax_X6_goesOnWith_w_0 rfl (by decide +kernel) 0 6 rfl rfl) rfl rfl hl.1 rfl (lv_room (Nat.le_of_ble_eq_true rfl)) dX6_goesOnWith_42 ⟨Nat.le_of_ble_eq_true rfl, Nat.le_of_ble_eq_true rfl⟩) hS (fun q _ h => hFc q h) hFc (fun r u t H1 locs ht hvm hw hB hz1 hk1 hS => ?_)
    obtain ⟨z_3, e9⟩ : ∃ z, z = u := ⟨_, rfl⟩
    subst e9
    obtain ⟨rfl, rz_3⟩ := hw
    refine Exists.elim hB (fun ud_2 hB1 => ?_)
    have h_4 := hB1.1
    have hP1 := hB1.2.1
    have hD1 := hB1.2.2
    clear hB hB1
    rw [ht] at hP1
    obtain ⟨hP, hD⟩ := va_join (wr := [(td, .inr (0, [.ref k1, .ref k2, .ref k3, .int (zI n)])), (k1, .inl (ck1, 4, .inl fk)), (k2, .inl (ck2, 4, .inl fb)), (k3, .inl (ck3, 4, .inl fh))]) (w1 := [(h0, .inr (6, [.ref td, .int (zI ud_2)]))]) hP hD [0] [1, 2, 3, 4] ax_X6_goesOnWith_w_0 ax_X6_goesOnWith_w_1 (by decide +kernel) (by decide +kernel) hk1 hFc hP1 hD1
    have hP := ax_X6_goesOnWith_w_2 hP
    have hD := ax_X6_goesOnWith_w_3 hD
    generalize H1 = H at hP hS ⊢
    have hP : va_P D vwCl [(td, .inr (0, [.ref k1, .ref k2, .ref k3, .int (zI n)])), (k1, .inl (ck1, 4, .inl fk)), (k2, .inl (ck2, 4, .inl fb)), (k3, .inl (ck3, 4, .inl fh)), (h0, .inr (6, [.ref td, .int (zI ud_2)]))] H := hP
    have hD : va_D A [(td, .inr (0, [.ref k1, .ref k2, .ref k3, .int (zI n)])), (k1, .inl (ck1, 4, .inl fk)), (k2, .inl (ck2, 4, .inl fb)), (k3, .inl (ck3, 4, .inl fh)), (h0, .inr (6, [.ref td, .int (zI ud_2)]))] := hD
    have hP9 := hP.sub (ws' := [(h0, .inr (6, [.ref td, .int (zI ud_2)])), (td, .inr (0, [.ref k1, .ref k2, .ref k3, .int (zI n)])), (k1, .inl (ck1, 4, .inl fk)), (k2, .inl (ck2, 4, .inl fb)), (k3, .inl (ck3, 4, .inl fh))]) [4, 0, 1, 2, 3] rfl
    have hD9 := hD.sub (ws' := [(h0, .inr (6, [.ref td, .int (zI ud_2)])), (td, .inr (0, [.ref k1, .ref k2, .ref k3, .int (zI n)])), (k1, .inl (ck1, 4, .inl fk)), (k2, .inl (ck2, 4, .inl fb)), (k3, .inl (ck3, 4, .inl fh))]) [4, 0, 1, 2, 3] (by decide +kernel) rfl
    exact W.zret (v := (zI z_3)) hx hb hr (kbz (by omega)) (fun t ht hW => kQS_of (by omega) ⟨ud_2, n, fk, fb, fh, (kGw_0 (by omega) h_4), (by omega), (by omega), q2, by rw [ht]; exact hP9, hD9⟩ (hS.F ht)) hS.2.2 dX6_goesOnWith_45
  · refine kz_tabIn (tgt := 46) (off := 42) hx hb dX6_goesOnWith_4 1 (by omega) (by decide) (by decide) (by decide) (by decide) (by decide) ?_
    refine lv_aload_n hx hb dX6_goesOnWith_46 rfl (lv_at hl 0 rfl) ?_
    refine lv_iload_n hx hb dX6_goesOnWith_47 rfl (lv_at hl 1 rfl) ?_
    have hFc := va_free (wc := [(h0, .inr (6, [.ref td, .int (zI du)])), (td, .inr (0, [.ref k1, .ref k2, .ref k3, .int (zI n)])), (k3, .inl (ck3, 4, .inl fh))]) hD hS hA [0, 1, 4] ax_X6_goesOnWith_w_5
    refine va_calli (va_runV (As := [.int (zI x)]) (rest := []) ⟨hx, hb, hml, hown, hts⟩ (c_X6_takesSign_w l D s.heap.size (x := x) (h0 := h0) (td := td) (du := du) (k1 := k1) (k2 := k2) (k3 := k3) (n := n) (ck3 := ck3) (fh := fh) q0 (by omega) q2) (cwV 1 hts gX6_goesOnWith_X6_takesSign rfl rfl rfl (by decide +kernel) ⟨Nat.le_of_ble_eq_true rfl, Nat.le_of_ble_eq_true rfl⟩) (kPreV hP (kD0 hD) hK hN [0, 1, 4] [2] ax_X6_goesOnWith_w_5 rfl (by decide +kernel) 0 6 rfl rfl) rfl rfl hl.1 rfl (lv_room (Nat.le_of_ble_eq_true rfl)) dX6_goesOnWith_48 ⟨Nat.le_of_ble_eq_true rfl, Nat.le_of_ble_eq_true rfl⟩) hS (fun q _ h => hFc q h) hFc (fun r u t H1 locs ht hvm hw hB hz1 hk1 hS => ?_)
    obtain ⟨z_8, e9⟩ : ∃ z, z = u := ⟨_, rfl⟩
    subst e9
    obtain ⟨rfl, rz_8⟩ := hw
    refine Exists.elim hB (fun ud_5 hB1 => Exists.elim hB1 (fun un_6 hB2 => Exists.elim hB2 (fun uh_7 hB3 => ?_)))
    have h_9 := hB3.1
    have h_10 := hB3.2.1
    have h_11 := hB3.2.2.1
    have hP1 := hB3.2.2.2.1
    have hD1 := hB3.2.2.2.2
    clear hB hB1 hB2 hB3
    rw [ht] at hP1
    obtain ⟨hP, hD⟩ := va_join (wr := [(k1, .inl (ck1, 4, .inl fk)), (k2, .inl (ck2, 4, .inl fb))]) (w1 := [(h0, .inr (6, [.ref td, .int (zI ud_5)])), (td, .inr (0, [.ref k1, .ref k2, .ref k3, .int (zI un_6)])), (k3, .inl (ck3, 4, .inl uh_7))]) hP hD [0, 1, 4] [2, 3] ax_X6_goesOnWith_w_5 ax_X6_goesOnWith_w_6 (by decide +kernel) (by decide +kernel) hk1 hFc hP1 hD1
    have hP := ax_X6_goesOnWith_w_7 hP
    have hD := ax_X6_goesOnWith_w_8 hD
    generalize H1 = H at hP hS ⊢
    have hP : va_P D vwCl [(k1, .inl (ck1, 4, .inl fk)), (k2, .inl (ck2, 4, .inl fb)), (h0, .inr (6, [.ref td, .int (zI ud_5)])), (td, .inr (0, [.ref k1, .ref k2, .ref k3, .int (zI un_6)])), (k3, .inl (ck3, 4, .inl uh_7))] H := hP
    have hD : va_D A [(k1, .inl (ck1, 4, .inl fk)), (k2, .inl (ck2, 4, .inl fb)), (h0, .inr (6, [.ref td, .int (zI ud_5)])), (td, .inr (0, [.ref k1, .ref k2, .ref k3, .int (zI un_6)])), (k3, .inl (ck3, 4, .inl uh_7))] := hD
    have hP9 := hP.sub (ws' := [(h0, .inr (6, [.ref td, .int (zI ud_5)])), (td, .inr (0, [.ref k1, .ref k2, .ref k3, .int (zI un_6)])), (k1, .inl (ck1, 4, .inl fk)), (k2, .inl (ck2, 4, .inl fb)), (k3, .inl (ck3, 4, .inl uh_7))]) [2, 3, 0, 1, 4] rfl
    have hD9 := hD.sub (ws' := [(h0, .inr (6, [.ref td, .int (zI ud_5)])), (td, .inr (0, [.ref k1, .ref k2, .ref k3, .int (zI un_6)])), (k1, .inl (ck1, 4, .inl fk)), (k2, .inl (ck2, 4, .inl fb)), (k3, .inl (ck3, 4, .inl uh_7))]) [2, 3, 0, 1, 4] (by decide +kernel) rfl
    exact W.zret (v := (zI z_8)) hx hb hr (kbz (by omega)) (fun t ht hW => kQS_of (by omega) ⟨ud_5, un_6, fk, fb, uh_7, (kGw_1 (by omega) h_9), (by omega), h_10, h_11, by rw [ht]; exact hP9, hD9⟩ (hS.F ht)) hS.2.2 dX6_goesOnWith_51
  · refine kz_tabIn (tgt := 52) (off := 48) hx hb dX6_goesOnWith_4 2 (by omega) (by decide) (by decide) (by decide) (by decide) (by decide) ?_
    refine lv_aload_n hx hb dX6_goesOnWith_52 rfl (lv_at hl 0 rfl) ?_
    refine lv_iload_n hx hb dX6_goesOnWith_53 rfl (lv_at hl 1 rfl) ?_
    refine lv_aload_n hx hb dX6_goesOnWith_54 rfl (lv_at hl 0 rfl) ?_
    refine va_get (D := D) (ci := 6) (v := .ref td) (C := RX6) (T := TX6) (N := 2) hx hb hts (fun _ h9 => List.mem_cons_of_mem _ (List.mem_append_left _ (List.mem_append_right _ h9))) hown hK hP 0 rfl rfl 0 (by decide) (hts (.fieldLink RX6 12 "FontRuns$TextReader" "told" "LFontRuns$FontRow;") mw_X6_goesOnWith_w_1) (fun _ h9 => h9) rfl dX6_goesOnWith_55 ?_
    refine va_get (D := D) (ci := 0) (v := .int (zI n)) (C := RX0) (T := TX0) (N := 4) hx hb hts (fun _ h9 => List.mem_cons_of_mem _ (List.mem_append_right _ h9)) hown hK hP 1 rfl rfl 3 (by decide) (hts (.fieldLink RX6 18 "FontRuns$FontRow" "count" "I") mw_X6_goesOnWith_w_2) (fun _ h9 => h9) rfl dX6_goesOnWith_58 ?_
    refine lv_iconst (v := zI 1) hx hb dX6_goesOnWith_61 rfl ?_
    refine kz_isub hx hb dX6_goesOnWith_62 ?_
    have hFc := va_free (wc := [(h0, .inr (6, [.ref td, .int (zI du)])), (td, .inr (0, [.ref k1, .ref k2, .ref k3, .int (zI n)])), (k1, .inl (ck1, 4, .inl fk))]) hD hS hA [0, 1, 2] ax_X6_goesOnWith_w_10
    refine va_calli (va_runV (As := [.int (zI x), .int (zI (n - 1))]) (rest := []) ⟨hx, hb, hml, hown, hts⟩ (c_X6_takesKind_w l D s.heap.size (x := x) (f := (n - 1)) (h0 := h0) (td := td) (du := du) (k1 := k1) (k2 := k2) (k3 := k3) (n := n) (ck1 := ck1) (fk := fk) q0 (by omega) (by omega) q2 (by omega)) (cwV 2 hts gX6_goesOnWith_X6_takesKind rfl rfl rfl (by decide +kernel) ⟨Nat.le_of_ble_eq_true rfl, Nat.le_of_ble_eq_true rfl⟩) (kPreV hP (kD0 hD) hK hN [0, 1, 2] [0] ax_X6_goesOnWith_w_10 rfl (by decide +kernel) 0 6 rfl rfl) rfl rfl hl.1 rfl (lv_room (Nat.le_of_ble_eq_true rfl)) dX6_goesOnWith_63 ⟨Nat.le_of_ble_eq_true rfl, Nat.le_of_ble_eq_true rfl⟩) hS (fun q _ h => hFc q h) hFc (fun r u t H1 locs ht hvm hw hB hz1 hk1 hS => ?_)
    obtain ⟨z_14, e9⟩ : ∃ z, z = u := ⟨_, rfl⟩
    subst e9
    obtain ⟨rfl, rz_14⟩ := hw
    refine Exists.elim hB (fun ud_12 hB1 => Exists.elim hB1 (fun uk_13 hB2 => ?_))
    have h_15 := hB2.1
    have h_16 := hB2.2.1
    have hP1 := hB2.2.2.1
    have hD1 := hB2.2.2.2
    clear hB hB1 hB2
    rw [ht] at hP1
    obtain ⟨hP, hD⟩ := va_join (wr := [(k2, .inl (ck2, 4, .inl fb)), (k3, .inl (ck3, 4, .inl fh))]) (w1 := [(h0, .inr (6, [.ref td, .int (zI ud_12)])), (td, .inr (0, [.ref k1, .ref k2, .ref k3, .int (zI n)])), (k1, .inl (ck1, 4, .inl uk_13))]) hP hD [0, 1, 2] [3, 4] ax_X6_goesOnWith_w_10 ax_X6_goesOnWith_w_11 (by decide +kernel) (by decide +kernel) hk1 hFc hP1 hD1
    have hP := ax_X6_goesOnWith_w_7 hP
    have hD := ax_X6_goesOnWith_w_8 hD
    generalize H1 = H at hP hS ⊢
    have hP : va_P D vwCl [(k2, .inl (ck2, 4, .inl fb)), (k3, .inl (ck3, 4, .inl fh)), (h0, .inr (6, [.ref td, .int (zI ud_12)])), (td, .inr (0, [.ref k1, .ref k2, .ref k3, .int (zI n)])), (k1, .inl (ck1, 4, .inl uk_13))] H := hP
    have hD : va_D A [(k2, .inl (ck2, 4, .inl fb)), (k3, .inl (ck3, 4, .inl fh)), (h0, .inr (6, [.ref td, .int (zI ud_12)])), (td, .inr (0, [.ref k1, .ref k2, .ref k3, .int (zI n)])), (k1, .inl (ck1, 4, .inl uk_13))] := hD
    have hP9 := hP.sub (ws' := [(h0, .inr (6, [.ref td, .int (zI ud_12)])), (td, .inr (0, [.ref k1, .ref k2, .ref k3, .int (zI n)])), (k1, .inl (ck1, 4, .inl uk_13)), (k2, .inl (ck2, 4, .inl fb)), (k3, .inl (ck3, 4, .inl fh))]) [2, 3, 4, 0, 1] rfl
    have hD9 := hD.sub (ws' := [(h0, .inr (6, [.ref td, .int (zI ud_12)])), (td, .inr (0, [.ref k1, .ref k2, .ref k3, .int (zI n)])), (k1, .inl (ck1, 4, .inl uk_13)), (k2, .inl (ck2, 4, .inl fb)), (k3, .inl (ck3, 4, .inl fh))]) [2, 3, 4, 0, 1] (by decide +kernel) rfl
    exact W.zret (v := (zI z_14)) hx hb hr (kbz (by omega)) (fun t ht hW => kQS_of (by omega) ⟨ud_12, n, uk_13, fb, fh, (kGw_2 (by omega) h_15), (by omega), h_16, q2, by rw [ht]; exact hP9, hD9⟩ (hS.F ht)) hS.2.2 dX6_goesOnWith_66
  · refine kz_tabIn (tgt := 67) (off := 63) hx hb dX6_goesOnWith_4 3 (by omega) (by decide) (by decide) (by decide) (by decide) (by decide) ?_
    refine lv_aload_n hx hb dX6_goesOnWith_67 rfl (lv_at hl 0 rfl) ?_
    refine lv_iload_n hx hb dX6_goesOnWith_68 rfl (lv_at hl 1 rfl) ?_
    refine lv_aload_n hx hb dX6_goesOnWith_69 rfl (lv_at hl 0 rfl) ?_
    refine va_get (D := D) (ci := 6) (v := .ref td) (C := RX6) (T := TX6) (N := 2) hx hb hts (fun _ h9 => List.mem_cons_of_mem _ (List.mem_append_left _ (List.mem_append_right _ h9))) hown hK hP 0 rfl rfl 0 (by decide) (hts (.fieldLink RX6 12 "FontRuns$TextReader" "told" "LFontRuns$FontRow;") mw_X6_goesOnWith_w_1) (fun _ h9 => h9) rfl dX6_goesOnWith_70 ?_
    refine va_get (D := D) (ci := 0) (v := .int (zI n)) (C := RX0) (T := TX0) (N := 4) hx hb hts (fun _ h9 => List.mem_cons_of_mem _ (List.mem_append_right _ h9)) hown hK hP 1 rfl rfl 3 (by decide) (hts (.fieldLink RX6 18 "FontRuns$FontRow" "count" "I") mw_X6_goesOnWith_w_2) (fun _ h9 => h9) rfl dX6_goesOnWith_73 ?_
    refine lv_iconst (v := zI 1) hx hb dX6_goesOnWith_76 rfl ?_
    refine kz_isub hx hb dX6_goesOnWith_77 ?_
    have hFc := va_free (wc := [(h0, .inr (6, [.ref td, .int (zI du)])), (td, .inr (0, [.ref k1, .ref k2, .ref k3, .int (zI n)])), (k2, .inl (ck2, 4, .inl fb))]) hD hS hA [0, 1, 3] ax_X6_goesOnWith_w_13
    refine va_calli (va_runV (As := [.int (zI x), .int (zI (n - 1))]) (rest := []) ⟨hx, hb, hml, hown, hts⟩ (c_X6_takesBreadth_w l D s.heap.size (x := x) (f := (n - 1)) (h0 := h0) (td := td) (du := du) (k1 := k1) (k2 := k2) (k3 := k3) (n := n) (ck2 := ck2) (fb := fb) q0 (by omega) (by omega) q2 (by omega)) (cwV 2 hts gX6_goesOnWith_X6_takesBreadth rfl rfl rfl (by decide +kernel) ⟨Nat.le_of_ble_eq_true rfl, Nat.le_of_ble_eq_true rfl⟩) (kPreV hP (kD0 hD) hK hN [0, 1, 3] [1] ax_X6_goesOnWith_w_13 rfl (by decide +kernel) 0 6 rfl rfl) rfl rfl hl.1 rfl (lv_room (Nat.le_of_ble_eq_true rfl)) dX6_goesOnWith_78 ⟨Nat.le_of_ble_eq_true rfl, Nat.le_of_ble_eq_true rfl⟩) hS (fun q _ h => hFc q h) hFc (fun r u t H1 locs ht hvm hw hB hz1 hk1 hS => ?_)
    obtain ⟨z_19, e9⟩ : ∃ z, z = u := ⟨_, rfl⟩
    subst e9
    obtain ⟨rfl, rz_19⟩ := hw
    refine Exists.elim hB (fun ud_17 hB1 => Exists.elim hB1 (fun ub_18 hB2 => ?_))
    have h_20 := hB2.1
    have h_21 := hB2.2.1
    have hP1 := hB2.2.2.1
    have hD1 := hB2.2.2.2
    clear hB hB1 hB2
    rw [ht] at hP1
    obtain ⟨hP, hD⟩ := va_join (wr := [(k1, .inl (ck1, 4, .inl fk)), (k3, .inl (ck3, 4, .inl fh))]) (w1 := [(h0, .inr (6, [.ref td, .int (zI ud_17)])), (td, .inr (0, [.ref k1, .ref k2, .ref k3, .int (zI n)])), (k2, .inl (ck2, 4, .inl ub_18))]) hP hD [0, 1, 3] [2, 4] ax_X6_goesOnWith_w_13 ax_X6_goesOnWith_w_14 (by decide +kernel) (by decide +kernel) hk1 hFc hP1 hD1
    have hP := ax_X6_goesOnWith_w_7 hP
    have hD := ax_X6_goesOnWith_w_8 hD
    generalize H1 = H at hP hS ⊢
    have hP : va_P D vwCl [(k1, .inl (ck1, 4, .inl fk)), (k3, .inl (ck3, 4, .inl fh)), (h0, .inr (6, [.ref td, .int (zI ud_17)])), (td, .inr (0, [.ref k1, .ref k2, .ref k3, .int (zI n)])), (k2, .inl (ck2, 4, .inl ub_18))] H := hP
    have hD : va_D A [(k1, .inl (ck1, 4, .inl fk)), (k3, .inl (ck3, 4, .inl fh)), (h0, .inr (6, [.ref td, .int (zI ud_17)])), (td, .inr (0, [.ref k1, .ref k2, .ref k3, .int (zI n)])), (k2, .inl (ck2, 4, .inl ub_18))] := hD
    have hP9 := hP.sub (ws' := [(h0, .inr (6, [.ref td, .int (zI ud_17)])), (td, .inr (0, [.ref k1, .ref k2, .ref k3, .int (zI n)])), (k1, .inl (ck1, 4, .inl fk)), (k2, .inl (ck2, 4, .inl ub_18)), (k3, .inl (ck3, 4, .inl fh))]) [2, 3, 0, 4, 1] rfl
    have hD9 := hD.sub (ws' := [(h0, .inr (6, [.ref td, .int (zI ud_17)])), (td, .inr (0, [.ref k1, .ref k2, .ref k3, .int (zI n)])), (k1, .inl (ck1, 4, .inl fk)), (k2, .inl (ck2, 4, .inl ub_18)), (k3, .inl (ck3, 4, .inl fh))]) [2, 3, 0, 4, 1] (by decide +kernel) rfl
    exact W.zret (v := (zI z_19)) hx hb hr (kbz (by omega)) (fun t ht hW => kQS_of (by omega) ⟨ud_17, n, fk, ub_18, fh, (kGw_3 (by omega) h_20), (by omega), h_21, q2, by rw [ht]; exact hP9, hD9⟩ (hS.F ht)) hS.2.2 dX6_goesOnWith_81
  · refine kz_tabIn (tgt := 82) (off := 78) hx hb dX6_goesOnWith_4 4 (by omega) (by decide) (by decide) (by decide) (by decide) (by decide) ?_
    refine lv_aload_n hx hb dX6_goesOnWith_82 rfl (lv_at hl 0 rfl) ?_
    refine lv_iload_n hx hb dX6_goesOnWith_83 rfl (lv_at hl 1 rfl) ?_
    refine lv_aload_n hx hb dX6_goesOnWith_84 rfl (lv_at hl 0 rfl) ?_
    refine va_get (D := D) (ci := 6) (v := .ref td) (C := RX6) (T := TX6) (N := 2) hx hb hts (fun _ h9 => List.mem_cons_of_mem _ (List.mem_append_left _ (List.mem_append_right _ h9))) hown hK hP 0 rfl rfl 0 (by decide) (hts (.fieldLink RX6 12 "FontRuns$TextReader" "told" "LFontRuns$FontRow;") mw_X6_goesOnWith_w_1) (fun _ h9 => h9) rfl dX6_goesOnWith_85 ?_
    refine va_get (D := D) (ci := 0) (v := .int (zI n)) (C := RX0) (T := TX0) (N := 4) hx hb hts (fun _ h9 => List.mem_cons_of_mem _ (List.mem_append_right _ h9)) hown hK hP 1 rfl rfl 3 (by decide) (hts (.fieldLink RX6 18 "FontRuns$FontRow" "count" "I") mw_X6_goesOnWith_w_2) (fun _ h9 => h9) rfl dX6_goesOnWith_88 ?_
    refine lv_iconst (v := zI 1) hx hb dX6_goesOnWith_91 rfl ?_
    refine kz_isub hx hb dX6_goesOnWith_92 ?_
    have hFc := va_free (wc := [(h0, .inr (6, [.ref td, .int (zI du)])), (td, .inr (0, [.ref k1, .ref k2, .ref k3, .int (zI n)])), (k3, .inl (ck3, 4, .inl fh))]) hD hS hA [0, 1, 4] ax_X6_goesOnWith_w_5
    refine va_calli (va_runV (As := [.int (zI x), .int (zI (n - 1))]) (rest := []) ⟨hx, hb, hml, hown, hts⟩ (c_X6_takesLetter_w l D s.heap.size (x := x) (f := (n - 1)) (h0 := h0) (td := td) (du := du) (k1 := k1) (k2 := k2) (k3 := k3) (n := n) (ck3 := ck3) (fh := fh) q0 (by omega) (by omega) q2 (by omega) q3) (cwV 2 hts gX6_goesOnWith_X6_takesLetter rfl rfl rfl (by decide +kernel) ⟨Nat.le_of_ble_eq_true rfl, Nat.le_of_ble_eq_true rfl⟩) (kPreV hP (kD0 hD) hK hN [0, 1, 4] [2] ax_X6_goesOnWith_w_5 rfl (by decide +kernel) 0 6 rfl rfl) rfl rfl hl.1 rfl (lv_room (Nat.le_of_ble_eq_true rfl)) dX6_goesOnWith_93 ⟨Nat.le_of_ble_eq_true rfl, Nat.le_of_ble_eq_true rfl⟩) hS (fun q _ h => hFc q h) hFc (fun r u t H1 locs ht hvm hw hB hz1 hk1 hS => ?_)
    obtain ⟨z_24, e9⟩ : ∃ z, z = u := ⟨_, rfl⟩
    subst e9
    obtain ⟨rfl, rz_24⟩ := hw
    refine Exists.elim hB (fun ud_22 hB1 => Exists.elim hB1 (fun uh_23 hB2 => ?_))
    have h_25 := hB2.1
    have h_26 := hB2.2.1
    have hP1 := hB2.2.2.1
    have hD1 := hB2.2.2.2
    clear hB hB1 hB2
    rw [ht] at hP1
    obtain ⟨hP, hD⟩ := va_join (wr := [(k1, .inl (ck1, 4, .inl fk)), (k2, .inl (ck2, 4, .inl fb))]) (w1 := [(h0, .inr (6, [.ref td, .int (zI ud_22)])), (td, .inr (0, [.ref k1, .ref k2, .ref k3, .int (zI n)])), (k3, .inl (ck3, 4, .inl uh_23))]) hP hD [0, 1, 4] [2, 3] ax_X6_goesOnWith_w_5 ax_X6_goesOnWith_w_6 (by decide +kernel) (by decide +kernel) hk1 hFc hP1 hD1
    have hP := ax_X6_goesOnWith_w_7 hP
    have hD := ax_X6_goesOnWith_w_8 hD
    generalize H1 = H at hP hS ⊢
    have hP : va_P D vwCl [(k1, .inl (ck1, 4, .inl fk)), (k2, .inl (ck2, 4, .inl fb)), (h0, .inr (6, [.ref td, .int (zI ud_22)])), (td, .inr (0, [.ref k1, .ref k2, .ref k3, .int (zI n)])), (k3, .inl (ck3, 4, .inl uh_23))] H := hP
    have hD : va_D A [(k1, .inl (ck1, 4, .inl fk)), (k2, .inl (ck2, 4, .inl fb)), (h0, .inr (6, [.ref td, .int (zI ud_22)])), (td, .inr (0, [.ref k1, .ref k2, .ref k3, .int (zI n)])), (k3, .inl (ck3, 4, .inl uh_23))] := hD
    have hP9 := hP.sub (ws' := [(h0, .inr (6, [.ref td, .int (zI ud_22)])), (td, .inr (0, [.ref k1, .ref k2, .ref k3, .int (zI n)])), (k1, .inl (ck1, 4, .inl fk)), (k2, .inl (ck2, 4, .inl fb)), (k3, .inl (ck3, 4, .inl uh_23))]) [2, 3, 0, 1, 4] rfl
    have hD9 := hD.sub (ws' := [(h0, .inr (6, [.ref td, .int (zI ud_22)])), (td, .inr (0, [.ref k1, .ref k2, .ref k3, .int (zI n)])), (k1, .inl (ck1, 4, .inl fk)), (k2, .inl (ck2, 4, .inl fb)), (k3, .inl (ck3, 4, .inl uh_23))]) [2, 3, 0, 1, 4] (by decide +kernel) rfl
    exact W.zret (v := (zI z_24)) hx hb hr (kbz (by omega)) (fun t ht hW => kQS_of (by omega) ⟨ud_22, n, fk, fb, uh_23, (kGw_4 (by omega) h_25), (by omega), h_26, q2, by rw [ht]; exact hP9, hD9⟩ (hS.F ht)) hS.2.2 dX6_goesOnWith_96
  · refine kz_tabOut (tgt := 97) hx hb dX6_goesOnWith_4 (by omega) (by omega) (by decide) ?_
    refine lv_iload_n hx hb dX6_goesOnWith_97 rfl (lv_at hl 1 rfl) ?_
    refine lv_bipush (v := zI 59) hx hb dX6_goesOnWith_98 (by decide) ?_
    refine kz_icmp_ne (tgt := 111) hx hb dX6_goesOnWith_100 (by decide) (by omega) (by omega) (fun c_27 => ?_) (fun c_27 => ?_)
    · refine lv_aload_n hx hb dX6_goesOnWith_111 rfl (lv_at hl 0 rfl) ?_
      refine lv_iload_n hx hb dX6_goesOnWith_112 rfl (lv_at hl 1 rfl) ?_
      refine lv_aload_n hx hb dX6_goesOnWith_113 rfl (lv_at hl 0 rfl) ?_
      refine va_get (D := D) (ci := 6) (v := .ref td) (C := RX6) (T := TX6) (N := 2) hx hb hts (fun _ h9 => List.mem_cons_of_mem _ (List.mem_append_left _ (List.mem_append_right _ h9))) hown hK hP 0 rfl rfl 0 (by decide) (hts (.fieldLink RX6 12 "FontRuns$TextReader" "told" "LFontRuns$FontRow;") mw_X6_goesOnWith_w_1) (fun _ h9 => h9) rfl dX6_goesOnWith_114 ?_
      refine va_get (D := D) (ci := 0) (v := .int (zI n)) (C := RX0) (T := TX0) (N := 4) hx hb hts (fun _ h9 => List.mem_cons_of_mem _ (List.mem_append_right _ h9)) hown hK hP 1 rfl rfl 3 (by decide) (hts (.fieldLink RX6 18 "FontRuns$FontRow" "count" "I") mw_X6_goesOnWith_w_2) (fun _ h9 => h9) rfl dX6_goesOnWith_117 ?_
      refine lv_iconst (v := zI 1) hx hb dX6_goesOnWith_120 rfl ?_
      refine kz_isub hx hb dX6_goesOnWith_121 ?_
      have hFc := va_free (wc := [(h0, .inr (6, [.ref td, .int (zI du)])), (td, .inr (0, [.ref k1, .ref k2, .ref k3, .int (zI n)])), (k3, .inl (ck3, 4, .inl fh))]) hD hS hA [0, 1, 4] ax_X6_goesOnWith_w_5
      refine va_calli (va_runV (As := [.int (zI x), .int (zI (n - 1))]) (rest := []) ⟨hx, hb, hml, hown, hts⟩ (c_X6_takesLetter_w l D s.heap.size (x := x) (f := (n - 1)) (h0 := h0) (td := td) (du := du) (k1 := k1) (k2 := k2) (k3 := k3) (n := n) (ck3 := ck3) (fh := fh) q0 (by omega) (by omega) q2 (by omega) q3) (cwV 2 hts gX6_goesOnWith_X6_takesLetter rfl rfl rfl (by decide +kernel) ⟨Nat.le_of_ble_eq_true rfl, Nat.le_of_ble_eq_true rfl⟩) (kPreV hP (kD0 hD) hK hN [0, 1, 4] [2] ax_X6_goesOnWith_w_5 rfl (by decide +kernel) 0 6 rfl rfl) rfl rfl hl.1 rfl (lv_room (Nat.le_of_ble_eq_true rfl)) dX6_goesOnWith_122 ⟨Nat.le_of_ble_eq_true rfl, Nat.le_of_ble_eq_true rfl⟩) hS (fun q _ h => hFc q h) hFc (fun r u t H1 locs ht hvm hw hB hz1 hk1 hS => ?_)
      obtain ⟨z_30, e9⟩ : ∃ z, z = u := ⟨_, rfl⟩
      subst e9
      obtain ⟨rfl, rz_30⟩ := hw
      refine Exists.elim hB (fun ud_28 hB1 => Exists.elim hB1 (fun uh_29 hB2 => ?_))
      have h_31 := hB2.1
      have h_32 := hB2.2.1
      have hP1 := hB2.2.2.1
      have hD1 := hB2.2.2.2
      clear hB hB1 hB2
      rw [ht] at hP1
      obtain ⟨hP, hD⟩ := va_join (wr := [(k1, .inl (ck1, 4, .inl fk)), (k2, .inl (ck2, 4, .inl fb))]) (w1 := [(h0, .inr (6, [.ref td, .int (zI ud_28)])), (td, .inr (0, [.ref k1, .ref k2, .ref k3, .int (zI n)])), (k3, .inl (ck3, 4, .inl uh_29))]) hP hD [0, 1, 4] [2, 3] ax_X6_goesOnWith_w_5 ax_X6_goesOnWith_w_6 (by decide +kernel) (by decide +kernel) hk1 hFc hP1 hD1
      have hP := ax_X6_goesOnWith_w_7 hP
      have hD := ax_X6_goesOnWith_w_8 hD
      generalize H1 = H at hP hS ⊢
      have hP : va_P D vwCl [(k1, .inl (ck1, 4, .inl fk)), (k2, .inl (ck2, 4, .inl fb)), (h0, .inr (6, [.ref td, .int (zI ud_28)])), (td, .inr (0, [.ref k1, .ref k2, .ref k3, .int (zI n)])), (k3, .inl (ck3, 4, .inl uh_29))] H := hP
      have hD : va_D A [(k1, .inl (ck1, 4, .inl fk)), (k2, .inl (ck2, 4, .inl fb)), (h0, .inr (6, [.ref td, .int (zI ud_28)])), (td, .inr (0, [.ref k1, .ref k2, .ref k3, .int (zI n)])), (k3, .inl (ck3, 4, .inl uh_29))] := hD
      have hP9 := hP.sub (ws' := [(h0, .inr (6, [.ref td, .int (zI ud_28)])), (td, .inr (0, [.ref k1, .ref k2, .ref k3, .int (zI n)])), (k1, .inl (ck1, 4, .inl fk)), (k2, .inl (ck2, 4, .inl fb)), (k3, .inl (ck3, 4, .inl uh_29))]) [2, 3, 0, 1, 4] rfl
      have hD9 := hD.sub (ws' := [(h0, .inr (6, [.ref td, .int (zI ud_28)])), (td, .inr (0, [.ref k1, .ref k2, .ref k3, .int (zI n)])), (k1, .inl (ck1, 4, .inl fk)), (k2, .inl (ck2, 4, .inl fb)), (k3, .inl (ck3, 4, .inl uh_29))]) [2, 3, 0, 1, 4] (by decide +kernel) rfl
      exact W.zret (v := (zI z_30)) hx hb hr (kbz (by omega)) (fun t ht hW => kQS_of (by omega) ⟨ud_28, n, fk, fb, uh_29, (kGw_5l (by omega) (by omega) h_31), (by omega), h_32, q2, by rw [ht]; exact hP9, hD9⟩ (hS.F ht)) hS.2.2 dX6_goesOnWith_125
    · refine lv_aload_n hx hb dX6_goesOnWith_103 rfl (lv_at hl 0 rfl) ?_
      refine lv_iload_n hx hb dX6_goesOnWith_104 rfl (lv_at hl 1 rfl) ?_
      have hFc := va_free (wc := [(h0, .inr (6, [.ref td, .int (zI du)])), (td, .inr (0, [.ref k1, .ref k2, .ref k3, .int (zI n)])), (k3, .inl (ck3, 4, .inl fh))]) hD hS hA [0, 1, 4] ax_X6_goesOnWith_w_5
      refine va_calli (va_runV (As := [.int (zI x)]) (rest := []) ⟨hx, hb, hml, hown, hts⟩ (c_X6_takesSign_w l D s.heap.size (x := x) (h0 := h0) (td := td) (du := du) (k1 := k1) (k2 := k2) (k3 := k3) (n := n) (ck3 := ck3) (fh := fh) q0 (by omega) q2) (cwV 1 hts gX6_goesOnWith_X6_takesSign rfl rfl rfl (by decide +kernel) ⟨Nat.le_of_ble_eq_true rfl, Nat.le_of_ble_eq_true rfl⟩) (kPreV hP (kD0 hD) hK hN [0, 1, 4] [2] ax_X6_goesOnWith_w_5 rfl (by decide +kernel) 0 6 rfl rfl) rfl rfl hl.1 rfl (lv_room (Nat.le_of_ble_eq_true rfl)) dX6_goesOnWith_105 ⟨Nat.le_of_ble_eq_true rfl, Nat.le_of_ble_eq_true rfl⟩) hS (fun q _ h => hFc q h) hFc (fun r u t H1 locs ht hvm hw hB hz1 hk1 hS => ?_)
      obtain ⟨z_36, e9⟩ : ∃ z, z = u := ⟨_, rfl⟩
      subst e9
      obtain ⟨rfl, rz_36⟩ := hw
      refine Exists.elim hB (fun ud_33 hB1 => Exists.elim hB1 (fun un_34 hB2 => Exists.elim hB2 (fun uh_35 hB3 => ?_)))
      have h_37 := hB3.1
      have h_38 := hB3.2.1
      have h_39 := hB3.2.2.1
      have hP1 := hB3.2.2.2.1
      have hD1 := hB3.2.2.2.2
      clear hB hB1 hB2 hB3
      rw [ht] at hP1
      obtain ⟨hP, hD⟩ := va_join (wr := [(k1, .inl (ck1, 4, .inl fk)), (k2, .inl (ck2, 4, .inl fb))]) (w1 := [(h0, .inr (6, [.ref td, .int (zI ud_33)])), (td, .inr (0, [.ref k1, .ref k2, .ref k3, .int (zI un_34)])), (k3, .inl (ck3, 4, .inl uh_35))]) hP hD [0, 1, 4] [2, 3] ax_X6_goesOnWith_w_5 ax_X6_goesOnWith_w_6 (by decide +kernel) (by decide +kernel) hk1 hFc hP1 hD1
      have hP := ax_X6_goesOnWith_w_7 hP
      have hD := ax_X6_goesOnWith_w_8 hD
      generalize H1 = H at hP hS ⊢
      have hP : va_P D vwCl [(k1, .inl (ck1, 4, .inl fk)), (k2, .inl (ck2, 4, .inl fb)), (h0, .inr (6, [.ref td, .int (zI ud_33)])), (td, .inr (0, [.ref k1, .ref k2, .ref k3, .int (zI un_34)])), (k3, .inl (ck3, 4, .inl uh_35))] H := hP
      have hD : va_D A [(k1, .inl (ck1, 4, .inl fk)), (k2, .inl (ck2, 4, .inl fb)), (h0, .inr (6, [.ref td, .int (zI ud_33)])), (td, .inr (0, [.ref k1, .ref k2, .ref k3, .int (zI un_34)])), (k3, .inl (ck3, 4, .inl uh_35))] := hD
      refine lv_goto (tgt := 125) hx hb dX6_goesOnWith_108 (by decide) ?_
      have hP9 := hP.sub (ws' := [(h0, .inr (6, [.ref td, .int (zI ud_33)])), (td, .inr (0, [.ref k1, .ref k2, .ref k3, .int (zI un_34)])), (k1, .inl (ck1, 4, .inl fk)), (k2, .inl (ck2, 4, .inl fb)), (k3, .inl (ck3, 4, .inl uh_35))]) [2, 3, 0, 1, 4] rfl
      have hD9 := hD.sub (ws' := [(h0, .inr (6, [.ref td, .int (zI ud_33)])), (td, .inr (0, [.ref k1, .ref k2, .ref k3, .int (zI un_34)])), (k1, .inl (ck1, 4, .inl fk)), (k2, .inl (ck2, 4, .inl fb)), (k3, .inl (ck3, 4, .inl uh_35))]) [2, 3, 0, 1, 4] (by decide +kernel) rfl
      exact W.zret (v := (zI z_36)) hx hb hr (kbz (by omega)) (fun t ht hW => kQS_of (by omega) ⟨ud_33, un_34, fk, fb, uh_35, (kGw_5s (by omega) (by omega) h_37), (by omega), h_38, h_39, by rw [ht]; exact hP9, hD9⟩ (hS.F ht)) hS.2.2 dX6_goesOnWith_125
theorem dX6_firstFault_0 : decode cX6_firstFault 0 = .ok (.aload_n 0, 1) := kqo_2a kbl_X6_firstFault (pc := 0) rfl
theorem dX6_firstFault_1 : decode cX6_firstFault 1 = .ok (.getfield 12, 3) := kqo_b4 (x1 := 0) (x2 := 12) kbl_X6_firstFault (pc := 1) rfl rfl
theorem dX6_firstFault_4 : decode cX6_firstFault 4 = .ok (.iconst 0, 1) := kqo_03 kbl_X6_firstFault (pc := 4) rfl
theorem dX6_firstFault_5 : decode cX6_firstFault 5 = .ok (.putfield 18, 3) := kqo_b5 (x1 := 0) (x2 := 18) kbl_X6_firstFault (pc := 5) rfl rfl
theorem dX6_firstFault_8 : decode cX6_firstFault 8 = .ok (.aload_n 0, 1) := kqo_2a kbl_X6_firstFault (pc := 8) rfl
theorem dX6_firstFault_9 : decode cX6_firstFault 9 = .ok (.iconst 0, 1) := kqo_03 kbl_X6_firstFault (pc := 9) rfl
theorem dX6_firstFault_10 : decode cX6_firstFault 10 = .ok (.putfield 22, 3) := kqo_b5 (x1 := 0) (x2 := 22) kbl_X6_firstFault (pc := 10) rfl rfl
theorem dX6_firstFault_13 : decode cX6_firstFault 13 = .ok (.iconst 0, 1) := kqo_03 kbl_X6_firstFault (pc := 13) rfl
theorem dX6_firstFault_14 : decode cX6_firstFault 14 = .ok (.istore 4, 2) := kqo_36 (x1 := 4) kbl_X6_firstFault (pc := 14) rfl rfl
theorem dX6_firstFault_16 : decode cX6_firstFault 16 = .ok (.iload 4, 2) := kqo_15 (x1 := 4) kbl_X6_firstFault (pc := 16) rfl rfl
theorem dX6_firstFault_18 : decode cX6_firstFault 18 = .ok (.iload_n 3, 1) := kqo_1d kbl_X6_firstFault (pc := 18) rfl
theorem dX6_firstFault_19 : decode cX6_firstFault 19 = .ok (.if_icmp .ge 27, 3) := kqo_a2 (x1 := 0) (x2 := 27) kbl_X6_firstFault (pc := 19) rfl rfl
theorem dX6_firstFault_22 : decode cX6_firstFault 22 = .ok (.aload_n 0, 1) := kqo_2a kbl_X6_firstFault (pc := 22) rfl
theorem dX6_firstFault_23 : decode cX6_firstFault 23 = .ok (.aload_n 1, 1) := kqo_2b kbl_X6_firstFault (pc := 23) rfl
theorem dX6_firstFault_24 : decode cX6_firstFault 24 = .ok (.iload_n 2, 1) := kqo_1c kbl_X6_firstFault (pc := 24) rfl
theorem dX6_firstFault_25 : decode cX6_firstFault 25 = .ok (.iload 4, 2) := kqo_15 (x1 := 4) kbl_X6_firstFault (pc := 25) rfl rfl
theorem dX6_firstFault_27 : decode cX6_firstFault 27 = .ok (.iadd, 1) := kqo_60 kbl_X6_firstFault (pc := 27) rfl
theorem dX6_firstFault_28 : decode cX6_firstFault 28 = .ok (.invokevirtual 25, 3) := kqo_b6 (x1 := 0) (x2 := 25) kbl_X6_firstFault (pc := 28) rfl rfl
theorem dX6_firstFault_31 : decode cX6_firstFault 31 = .ok (.invokevirtual 31, 3) := kqo_b6 (x1 := 0) (x2 := 31) kbl_X6_firstFault (pc := 31) rfl rfl
theorem dX6_firstFault_34 : decode cX6_firstFault 34 = .ok (.ifCond .ne 6, 3) := kqo_9a (x1 := 0) (x2 := 6) kbl_X6_firstFault (pc := 34) rfl rfl
theorem dX6_firstFault_37 : decode cX6_firstFault 37 = .ok (.iload 4, 2) := kqo_15 (x1 := 4) kbl_X6_firstFault (pc := 37) rfl rfl
theorem dX6_firstFault_39 : decode cX6_firstFault 39 = .ok (.ireturn, 1) := kqo_ac kbl_X6_firstFault (pc := 39) rfl
theorem dX6_firstFault_40 : decode cX6_firstFault 40 = .ok (.iinc 4 1, 3) := kqo_84 (x1 := 4) (x2 := 1) kbl_X6_firstFault (pc := 40) rfl rfl
theorem dX6_firstFault_43 : decode cX6_firstFault 43 = .ok (.goto (-27), 3) := kqo_a7 (x1 := 255) (x2 := 229) kbl_X6_firstFault (pc := 43) rfl rfl
theorem dX6_firstFault_46 : decode cX6_firstFault 46 = .ok (.aload_n 0, 1) := kqo_2a kbl_X6_firstFault (pc := 46) rfl
theorem dX6_firstFault_47 : decode cX6_firstFault 47 = .ok (.getfield 22, 3) := kqo_b4 (x1 := 0) (x2 := 22) kbl_X6_firstFault (pc := 47) rfl rfl
theorem dX6_firstFault_50 : decode cX6_firstFault 50 = .ok (.iconst 5, 1) := kqo_08 kbl_X6_firstFault (pc := 50) rfl
theorem dX6_firstFault_51 : decode cX6_firstFault 51 = .ok (.if_icmp .ne 8, 3) := kqo_a0 (x1 := 0) (x2 := 8) kbl_X6_firstFault (pc := 51) rfl rfl
theorem dX6_firstFault_54 : decode cX6_firstFault 54 = .ok (.bipush (-9), 2) := kqo_10 (x1 := 247) kbl_X6_firstFault (pc := 54) rfl rfl
theorem dX6_firstFault_56 : decode cX6_firstFault 56 = .ok (.goto 4, 3) := kqo_a7 (x1 := 0) (x2 := 4) kbl_X6_firstFault (pc := 56) rfl rfl
theorem dX6_firstFault_59 : decode cX6_firstFault 59 = .ok (.iload_n 3, 1) := kqo_1d kbl_X6_firstFault (pc := 59) rfl
theorem dX6_firstFault_60 : decode cX6_firstFault 60 = .ok (.ireturn, 1) := kqo_ac kbl_X6_firstFault (pc := 60) rfl
set_option maxRecDepth 20000 in
theorem ggX6_firstFault_X5_at : GoodIn wsX6_firstFault wsX5_at := goodIn_4 _ (List.forall_mem_cons.mpr ⟨List.mem_cons_of_mem _ (List.mem_append_left _ (List.mem_append_left _ (List.mem_append_left _ (List.mem_append_left _ (List.mem_of_getElem? (i := 7) rfl))))), List.forall_mem_append.mpr ⟨List.forall_mem_cons.mpr ⟨List.mem_cons_of_mem _ (List.mem_append_left _ (List.mem_append_left _ (List.mem_append_left _ (List.mem_append_left _ (List.mem_of_getElem? (i := 8) rfl))))), List.forall_mem_cons.mpr ⟨List.mem_cons_of_mem _ (List.mem_append_left _ (List.mem_append_left _ (List.mem_append_left _ (List.mem_append_left _ (List.mem_of_getElem? (i := 9) rfl))))), List.forall_mem_cons.mpr ⟨List.mem_cons_of_mem _ (List.mem_append_left _ (List.mem_append_left _ (List.mem_append_left _ (List.mem_append_left _ (List.mem_of_getElem? (i := 10) rfl))))), List.forall_mem_cons.mpr ⟨List.mem_cons_of_mem _ (List.mem_append_left _ (List.mem_append_left _ (List.mem_append_left _ (List.mem_append_left _ (List.mem_of_getElem? (i := 11) rfl))))), List.forall_mem_cons.mpr ⟨List.mem_cons_of_mem _ (List.mem_append_left _ (List.mem_append_left _ (List.mem_append_left _ (List.mem_append_left _ (List.mem_of_getElem? (i := 6) rfl))))), List.forall_mem_cons.mpr ⟨List.mem_cons_of_mem _ (List.mem_append_left _ (List.mem_append_left _ (List.mem_append_left _ (List.mem_append_left _ (List.mem_of_getElem? (i := 12) rfl))))), List.forall_mem_cons.mpr ⟨List.mem_cons_of_mem _ (List.mem_append_left _ (List.mem_append_left _ (List.mem_append_left _ (List.mem_append_left _ (List.mem_of_getElem? (i := 13) rfl))))), List.forall_mem_cons.mpr ⟨List.mem_cons_of_mem _ (List.mem_append_left _ (List.mem_append_left _ (List.mem_append_left _ (List.mem_append_left _ (List.mem_of_getElem? (i := 14) rfl))))), List.forall_mem_cons.mpr ⟨List.mem_cons_of_mem _ (List.mem_append_left _ (List.mem_append_left _ (List.mem_append_left _ (List.mem_append_left _ (List.mem_of_getElem? (i := 15) rfl))))), List.forall_mem_cons.mpr ⟨List.mem_cons_of_mem _ (List.mem_append_left _ (List.mem_append_left _ (List.mem_append_left _ (List.mem_append_left _ (List.mem_of_getElem? (i := 16) rfl))))), List.forall_mem_cons.mpr ⟨List.mem_cons_of_mem _ (List.mem_append_left _ (List.mem_append_left _ (List.mem_append_left _ (List.mem_append_left _ (List.mem_of_getElem? (i := 17) rfl))))), fun _ h9 => absurd h9 List.not_mem_nil⟩⟩⟩⟩⟩⟩⟩⟩⟩⟩⟩, fun w h9 => List.mem_cons_of_mem _ (List.mem_append_right _ (h9))⟩⟩) (by decide +kernel)
set_option maxRecDepth 20000 in
theorem gX6_firstFault_X5_at : GoodIn wsX6_firstFault (wsV RX6 25 RX5 yX5_at wsX5_at) := goodIn_app (goodIn_4 _ (List.forall_mem_cons.mpr ⟨List.mem_cons_of_mem _ (List.mem_append_left _ (List.mem_append_left _ (List.mem_append_left _ (List.mem_append_left _ (List.mem_of_getElem? (i := 3) rfl))))), List.forall_mem_cons.mpr ⟨List.mem_cons_of_mem _ (List.mem_append_left _ (List.mem_append_left _ (List.mem_append_left _ (List.mem_append_left _ (List.mem_of_getElem? (i := 4) rfl))))), List.forall_mem_cons.mpr ⟨List.mem_cons_of_mem _ (List.mem_append_left _ (List.mem_append_left _ (List.mem_append_left _ (List.mem_append_left _ (List.mem_of_getElem? (i := 5) rfl))))), List.forall_mem_cons.mpr ⟨List.mem_cons_of_mem _ (List.mem_append_left _ (List.mem_append_left _ (List.mem_append_left _ (List.mem_append_left _ (List.mem_of_getElem? (i := 6) rfl))))), fun _ h9 => absurd h9 List.not_mem_nil⟩⟩⟩⟩) (by decide +kernel)) ggX6_firstFault_X5_at
set_option maxRecDepth 20000 in
theorem ggX6_firstFault_X6_goesOnWith : GoodIn wsX6_firstFault wsX6_goesOnWith := goodIn_4 _ (List.forall_mem_cons.mpr ⟨List.mem_cons_of_mem _ (List.mem_append_left _ (List.mem_append_left _ (List.mem_append_left _ (List.mem_append_left _ (List.mem_of_getElem? (i := 22) rfl))))), List.forall_mem_append.mpr ⟨List.forall_mem_append.mpr ⟨List.forall_mem_append.mpr ⟨List.forall_mem_cons.mpr ⟨List.mem_cons_of_mem _ (List.mem_append_left _ (List.mem_append_left _ (List.mem_append_left _ (List.mem_append_left _ (List.mem_of_getElem? (i := 2) rfl))))), List.forall_mem_cons.mpr ⟨List.mem_cons_of_mem _ (List.mem_append_left _ (List.mem_append_left _ (List.mem_append_left _ (List.mem_append_left _ (List.mem_of_getElem? (i := 0) rfl))))), List.forall_mem_cons.mpr ⟨List.mem_cons_of_mem _ (List.mem_append_left _ (List.mem_append_left _ (List.mem_append_left _ (List.mem_append_left _ (List.mem_of_getElem? (i := 1) rfl))))), List.forall_mem_cons.mpr ⟨List.mem_cons_of_mem _ (List.mem_append_left _ (List.mem_append_left _ (List.mem_append_left _ (List.mem_append_left _ (List.mem_of_getElem? (i := 23) rfl))))), List.forall_mem_cons.mpr ⟨List.mem_cons_of_mem _ (List.mem_append_left _ (List.mem_append_left _ (List.mem_append_left _ (List.mem_append_right _ (List.mem_append_left _ (List.mem_of_getElem? (i := 0) rfl)))))), List.forall_mem_cons.mpr ⟨List.mem_cons_of_mem _ (List.mem_append_left _ (List.mem_append_left _ (List.mem_append_left _ (List.mem_append_right _ (List.mem_append_left _ (List.mem_of_getElem? (i := 1) rfl)))))), List.forall_mem_cons.mpr ⟨List.mem_cons_of_mem _ (List.mem_append_left _ (List.mem_append_left _ (List.mem_append_left _ (List.mem_append_left _ (List.mem_of_getElem? (i := 21) rfl))))), List.forall_mem_cons.mpr ⟨List.mem_cons_of_mem _ (List.mem_append_left _ (List.mem_append_left _ (List.mem_append_left _ (List.mem_append_right _ (List.mem_append_left _ (List.mem_of_getElem? (i := 2) rfl)))))), List.forall_mem_cons.mpr ⟨List.mem_cons_of_mem _ (List.mem_append_left _ (List.mem_append_left _ (List.mem_append_left _ (List.mem_append_right _ (List.mem_append_left _ (List.mem_of_getElem? (i := 3) rfl)))))), List.forall_mem_cons.mpr ⟨List.mem_cons_of_mem _ (List.mem_append_left _ (List.mem_append_left _ (List.mem_append_left _ (List.mem_append_right _ (List.mem_append_left _ (List.mem_of_getElem? (i := 4) rfl)))))), List.forall_mem_cons.mpr ⟨List.mem_cons_of_mem _ (List.mem_append_left _ (List.mem_append_left _ (List.mem_append_left _ (List.mem_append_right _ (List.mem_append_left _ (List.mem_of_getElem? (i := 5) rfl)))))), List.forall_mem_cons.mpr ⟨List.mem_cons_of_mem _ (List.mem_append_left _ (List.mem_append_left _ (List.mem_append_left _ (List.mem_append_right _ (List.mem_append_left _ (List.mem_of_getElem? (i := 6) rfl)))))), List.forall_mem_cons.mpr ⟨List.mem_cons_of_mem _ (List.mem_append_left _ (List.mem_append_left _ (List.mem_append_left _ (List.mem_append_right _ (List.mem_append_left _ (List.mem_of_getElem? (i := 7) rfl)))))), List.forall_mem_cons.mpr ⟨List.mem_cons_of_mem _ (List.mem_append_left _ (List.mem_append_left _ (List.mem_append_left _ (List.mem_append_right _ (List.mem_append_left _ (List.mem_of_getElem? (i := 8) rfl)))))), List.forall_mem_cons.mpr ⟨List.mem_cons_of_mem _ (List.mem_append_left _ (List.mem_append_left _ (List.mem_append_left _ (List.mem_append_right _ (List.mem_append_left _ (List.mem_of_getElem? (i := 9) rfl)))))), List.forall_mem_cons.mpr ⟨List.mem_cons_of_mem _ (List.mem_append_left _ (List.mem_append_left _ (List.mem_append_left _ (List.mem_append_right _ (List.mem_append_left _ (List.mem_of_getElem? (i := 10) rfl)))))), List.forall_mem_cons.mpr ⟨List.mem_cons_of_mem _ (List.mem_append_left _ (List.mem_append_left _ (List.mem_append_left _ (List.mem_append_right _ (List.mem_append_left _ (List.mem_of_getElem? (i := 11) rfl)))))), List.forall_mem_cons.mpr ⟨List.mem_cons_of_mem _ (List.mem_append_left _ (List.mem_append_left _ (List.mem_append_left _ (List.mem_append_right _ (List.mem_append_left _ (List.mem_of_getElem? (i := 12) rfl)))))), List.forall_mem_cons.mpr ⟨List.mem_cons_of_mem _ (List.mem_append_left _ (List.mem_append_left _ (List.mem_append_left _ (List.mem_append_right _ (List.mem_append_left _ (List.mem_of_getElem? (i := 13) rfl)))))), List.forall_mem_cons.mpr ⟨List.mem_cons_of_mem _ (List.mem_append_left _ (List.mem_append_left _ (List.mem_append_left _ (List.mem_append_right _ (List.mem_append_left _ (List.mem_of_getElem? (i := 14) rfl)))))), List.forall_mem_cons.mpr ⟨List.mem_cons_of_mem _ (List.mem_append_left _ (List.mem_append_left _ (List.mem_append_left _ (List.mem_append_right _ (List.mem_append_left _ (List.mem_of_getElem? (i := 15) rfl)))))), List.forall_mem_cons.mpr ⟨List.mem_cons_of_mem _ (List.mem_append_left _ (List.mem_append_left _ (List.mem_append_left _ (List.mem_append_right _ (List.mem_append_left _ (List.mem_of_getElem? (i := 16) rfl)))))), List.forall_mem_cons.mpr ⟨List.mem_cons_of_mem _ (List.mem_append_left _ (List.mem_append_left _ (List.mem_append_left _ (List.mem_append_right _ (List.mem_append_left _ (List.mem_of_getElem? (i := 17) rfl)))))), List.forall_mem_cons.mpr ⟨List.mem_cons_of_mem _ (List.mem_append_left _ (List.mem_append_left _ (List.mem_append_left _ (List.mem_append_right _ (List.mem_append_left _ (List.mem_of_getElem? (i := 18) rfl)))))), fun _ h9 => absurd h9 List.not_mem_nil⟩⟩⟩⟩⟩⟩⟩⟩⟩⟩⟩⟩⟩⟩⟩⟩⟩⟩⟩⟩⟩⟩⟩⟩, List.forall_mem_cons.mpr ⟨List.mem_cons_of_mem _ (List.mem_append_left _ (List.mem_append_left _ (List.mem_append_left _ (List.mem_append_left _ (List.mem_of_getElem? (i := 15) rfl))))), List.forall_mem_cons.mpr ⟨List.mem_cons_of_mem _ (List.mem_append_left _ (List.mem_append_left _ (List.mem_append_left _ (List.mem_append_left _ (List.mem_of_getElem? (i := 16) rfl))))), List.forall_mem_cons.mpr ⟨List.mem_cons_of_mem _ (List.mem_append_left _ (List.mem_append_left _ (List.mem_append_left _ (List.mem_append_left _ (List.mem_of_getElem? (i := 17) rfl))))), List.forall_mem_cons.mpr ⟨List.mem_cons_of_mem _ (List.mem_append_left _ (List.mem_append_left _ (List.mem_append_left _ (List.mem_append_right _ (List.mem_append_left _ (List.mem_of_getElem? (i := 19) rfl)))))), List.forall_mem_cons.mpr ⟨List.mem_cons_of_mem _ (List.mem_append_left _ (List.mem_append_left _ (List.mem_append_left _ (List.mem_append_right _ (List.mem_append_left _ (List.mem_of_getElem? (i := 20) rfl)))))), List.forall_mem_cons.mpr ⟨List.mem_cons_of_mem _ (List.mem_append_left _ (List.mem_append_left _ (List.mem_append_left _ (List.mem_append_right _ (List.mem_append_left _ (List.mem_of_getElem? (i := 21) rfl)))))), List.forall_mem_cons.mpr ⟨List.mem_cons_of_mem _ (List.mem_append_left _ (List.mem_append_left _ (List.mem_append_left _ (List.mem_append_right _ (List.mem_append_left _ (List.mem_of_getElem? (i := 22) rfl)))))), List.forall_mem_cons.mpr ⟨List.mem_cons_of_mem _ (List.mem_append_left _ (List.mem_append_left _ (List.mem_append_left _ (List.mem_append_right _ (List.mem_append_left _ (List.mem_of_getElem? (i := 23) rfl)))))), List.forall_mem_cons.mpr ⟨List.mem_cons_of_mem _ (List.mem_append_left _ (List.mem_append_left _ (List.mem_append_left _ (List.mem_append_right _ (List.mem_append_right _ (List.mem_of_getElem? (i := 0) rfl)))))), List.forall_mem_cons.mpr ⟨List.mem_cons_of_mem _ (List.mem_append_left _ (List.mem_append_left _ (List.mem_append_left _ (List.mem_append_right _ (List.mem_append_right _ (List.mem_of_getElem? (i := 1) rfl)))))), List.forall_mem_cons.mpr ⟨List.mem_cons_of_mem _ (List.mem_append_left _ (List.mem_append_left _ (List.mem_append_left _ (List.mem_append_right _ (List.mem_append_right _ (List.mem_of_getElem? (i := 2) rfl)))))), List.forall_mem_cons.mpr ⟨List.mem_cons_of_mem _ (List.mem_append_left _ (List.mem_append_left _ (List.mem_append_left _ (List.mem_append_right _ (List.mem_append_right _ (List.mem_of_getElem? (i := 3) rfl)))))), List.forall_mem_cons.mpr ⟨List.mem_cons_of_mem _ (List.mem_append_left _ (List.mem_append_left _ (List.mem_append_left _ (List.mem_append_right _ (List.mem_append_right _ (List.mem_of_getElem? (i := 4) rfl)))))), List.forall_mem_cons.mpr ⟨List.mem_cons_of_mem _ (List.mem_append_left _ (List.mem_append_left _ (List.mem_append_left _ (List.mem_append_right _ (List.mem_append_right _ (List.mem_of_getElem? (i := 5) rfl)))))), List.forall_mem_cons.mpr ⟨List.mem_cons_of_mem _ (List.mem_append_left _ (List.mem_append_left _ (List.mem_append_left _ (List.mem_append_right _ (List.mem_append_right _ (List.mem_of_getElem? (i := 6) rfl)))))), List.forall_mem_cons.mpr ⟨List.mem_cons_of_mem _ (List.mem_append_left _ (List.mem_append_left _ (List.mem_append_left _ (List.mem_append_right _ (List.mem_append_right _ (List.mem_of_getElem? (i := 7) rfl)))))), List.forall_mem_cons.mpr ⟨List.mem_cons_of_mem _ (List.mem_append_left _ (List.mem_append_left _ (List.mem_append_left _ (List.mem_append_right _ (List.mem_append_right _ (List.mem_of_getElem? (i := 8) rfl)))))), List.forall_mem_cons.mpr ⟨List.mem_cons_of_mem _ (List.mem_append_left _ (List.mem_append_left _ (List.mem_append_left _ (List.mem_append_right _ (List.mem_append_right _ (List.mem_of_getElem? (i := 9) rfl)))))), List.forall_mem_cons.mpr ⟨List.mem_cons_of_mem _ (List.mem_append_left _ (List.mem_append_left _ (List.mem_append_left _ (List.mem_append_right _ (List.mem_append_right _ (List.mem_of_getElem? (i := 10) rfl)))))), fun _ h9 => absurd h9 List.not_mem_nil⟩⟩⟩⟩⟩⟩⟩⟩⟩⟩⟩⟩⟩⟩⟩⟩⟩⟩⟩⟩, fun w h9 => List.mem_cons_of_mem _ (List.mem_append_left _ (List.mem_append_left _ (List.mem_append_right _ (h9))))⟩, fun w h9 => List.mem_cons_of_mem _ (List.mem_append_left _ (List.mem_append_right _ (h9)))⟩⟩) (by decide +kernel)
set_option maxRecDepth 20000 in
theorem gX6_firstFault_X6_goesOnWith : GoodIn wsX6_firstFault (wsV RX6 31 RX6 yX6_goesOnWith wsX6_goesOnWith) := goodIn_app (goodIn_4 _ (List.forall_mem_cons.mpr ⟨List.mem_cons_of_mem _ (List.mem_append_left _ (List.mem_append_left _ (List.mem_append_left _ (List.mem_append_left _ (List.mem_of_getElem? (i := 18) rfl))))), List.forall_mem_cons.mpr ⟨List.mem_cons_of_mem _ (List.mem_append_left _ (List.mem_append_left _ (List.mem_append_left _ (List.mem_append_left _ (List.mem_of_getElem? (i := 19) rfl))))), List.forall_mem_cons.mpr ⟨List.mem_cons_of_mem _ (List.mem_append_left _ (List.mem_append_left _ (List.mem_append_left _ (List.mem_append_left _ (List.mem_of_getElem? (i := 20) rfl))))), List.forall_mem_cons.mpr ⟨List.mem_cons_of_mem _ (List.mem_append_left _ (List.mem_append_left _ (List.mem_append_left _ (List.mem_append_left _ (List.mem_of_getElem? (i := 21) rfl))))), fun _ h9 => absurd h9 List.not_mem_nil⟩⟩⟩⟩) (by decide +kernel)) ggX6_firstFault_X6_goesOnWith
set_option maxRecDepth 20000 in
theorem mw_X6_firstFault_w_0 : (.fieldLink RX6 12 "FontRuns$TextReader" "told" "LFontRuns$FontRow;" : Cond) ∈ wsX6_firstFault := List.mem_cons_of_mem _ (List.mem_append_left _ (List.mem_append_left _ (List.mem_append_left _ (List.mem_append_left _ (List.mem_of_getElem? (i := 0) rfl)))))
set_option maxRecDepth 20000 in
theorem mw_X6_firstFault_w_1 : (.fieldLink RX6 18 "FontRuns$FontRow" "count" "I" : Cond) ∈ wsX6_firstFault := List.mem_cons_of_mem _ (List.mem_append_left _ (List.mem_append_left _ (List.mem_append_left _ (List.mem_append_left _ (List.mem_of_getElem? (i := 1) rfl)))))
set_option maxRecDepth 20000 in
theorem mw_X6_firstFault_w_2 : (.fieldLink RX6 22 "FontRuns$TextReader" "due" "I" : Cond) ∈ wsX6_firstFault := List.mem_cons_of_mem _ (List.mem_append_left _ (List.mem_append_left _ (List.mem_append_left _ (List.mem_append_left _ (List.mem_of_getElem? (i := 2) rfl)))))
theorem ax_X6_firstFault_w_0 {e0 e1 e2 e3 e4 e5 e6 : Nat × va_E} : ([0, 1, 2, 3, 4, 5, 6] : List Nat).map (fun i => ([e0, e1, e2, e3, e4, e5, e6] : va_W)[i]?) = ([e0, e1, e2, e3, e4, e5, e6] : va_W).map some := rfl
theorem ax_X6_firstFault_w_1 {e0 e1 e2 e3 e4 e5 e6 : Nat × va_E} : ([5, 6] : List Nat).map (fun i => ([e0, e1, e2, e3, e4, e5, e6] : va_W)[i]?) = ([e5, e6] : va_W).map some := rfl
theorem ax_X6_firstFault_w_2 {e0 e1 e2 e3 e4 e5 e6 : Nat × va_E} : ([0, 1, 2, 3, 4] : List Nat).map (fun i => ([e0, e1, e2, e3, e4, e5, e6] : va_W)[i]?) = ([e0, e1, e2, e3, e4] : va_W).map some := rfl
theorem ax_X6_firstFault_w_3 {D : va_G} {cl : List vw_C} {H : Heap} {e0 e1 f0 f1 f2 f3 f4 : Nat × va_E} (h : va_P D cl ((([e0, e1] : va_W) ++ ([f0, f1, f2, f3, f4] : va_W))) H) : va_P D cl (([e0, e1, f0, f1, f2, f3, f4] : va_W)) H := h
theorem ax_X6_firstFault_w_4 {A : Nat → Prop} {e0 e1 f0 f1 f2 f3 f4 : Nat × va_E} (h : va_D A ((([e0, e1] : va_W) ++ ([f0, f1, f2, f3, f4] : va_W)))) : va_D A (([e0, e1, f0, f1, f2, f3, f4] : va_W)) := h
theorem ax_X6_firstFault_w_5 {e0 e1 e2 e3 e4 e5 e6 : Nat × va_E} : ([2, 3, 4, 5, 6, 0, 1] : List Nat).map (fun i => ([e0, e1, e2, e3, e4, e5, e6] : va_W)[i]?) = ([e2, e3, e4, e5, e6, e0, e1] : va_W).map some := rfl
set_option maxHeartbeats 4000000 in
set_option maxRecDepth 100000 in
theorem c_X6_firstFault_w (l : Launch) (D : va_G) (sz : Nat) (ro : Nat) (i : Int) (k : Int) (h0 : Nat) (td : Nat) (du : Int) (k1 : Nat) (k2 : Nat) (k3 : Nat) (n : Int) (ck1 : ClassId) (fk : Nat → Int32) (ck2 : ClassId) (fb : Nat → Int32) (ck3 : ClassId) (fh : Nat → Int32) (r1 : Nat) (th : Int) (la : Int) (sz0 : Int) (cr1 : ClassId) (fr : Nat → Int32) (q0 : 0 ≤ i ∧ 0 ≤ k ∧ i + k ≤ sz0) (q1 : th = 1) (q2 : rg du) (q3 : 0 ≤ n ∧ n ≤ 4) (q4 : th = 0 ∨ th = 1) (q5 : rg la) (q6 : 0 ≤ sz0 ∧ sz0 ≤ 60) : Met l yX6_firstFault wsX6_firstFault ({ frames := 4, cells := 0, slots := 0, locals := 87 }) (kPre [.ref h0, .ref ro, .int (zI i), .int (zI k)] D [(h0, .inr (6, [.ref td, .int (zI du)])), (td, .inr (0, [.ref k1, .ref k2, .ref k3, .int (zI n)])), (k1, .inl (ck1, 4, .inl fk)), (k2, .inl (ck2, 4, .inl fb)), (k3, .inl (ck3, 4, .inl fh)), (ro, .inr (5, [.ref r1, .int (zI th), .int (zI la), .int (zI sz0)])), (r1, .inl (cr1, 60, .inl fr))] [(ck1, .int), (ck2, .int), (ck3, .int), (cr1, .int)] sz) (kQS (fun rz t => ∃ (ud : Int) (un : Int) (uk : Nat → Int32) (ub : Nat → Int32) (uh : Nat → Int32), (rg ud) ∧ (0 ≤ un ∧ un ≤ 4) ∧ (kFf (kCd fr i) fk fb fh k rz un uk ub uh) ∧ (rz = -9 ∨ (0 ≤ rz ∧ rz ≤ k)) ∧ va_P D vwCl [(h0, .inr (6, [.ref td, .int (zI ud)])), (td, .inr (0, [.ref k1, .ref k2, .ref k3, .int (zI un)])), (k1, .inl (ck1, 4, .inl uk)), (k2, .inl (ck2, 4, .inl ub)), (k3, .inl (ck3, 4, .inl uh)), (ro, .inr (5, [.ref r1, .int (zI th), .int (zI la), .int (zI sz0)])), (r1, .inl (cr1, 60, .inl fr))] t.heap ∧ va_D (va_A [(h0, .inr (6, [.ref td, .int (zI du)])), (td, .inr (0, [.ref k1, .ref k2, .ref k3, .int (zI n)])), (k1, .inl (ck1, 4, .inl fk)), (k2, .inl (ck2, 4, .inl fb)), (k3, .inl (ck3, 4, .inl fh)), (ro, .inr (5, [.ref r1, .int (zI th), .int (zI la), .int (zI sz0)])), (r1, .inl (cr1, 60, .inl fr))] sz) [(h0, .inr (6, [.ref td, .int (zI ud)])), (td, .inr (0, [.ref k1, .ref k2, .ref k3, .int (zI un)])), (k1, .inl (ck1, 4, .inl uk)), (k2, .inl (ck2, 4, .inl ub)), (k3, .inl (ck3, 4, .inl uh)), (ro, .inr (5, [.ref r1, .int (zI th), .int (zI la), .int (zI sz0)])), (r1, .inl (cr1, 60, .inl fr))]) (va_A [(h0, .inr (6, [.ref td, .int (zI du)])), (td, .inr (0, [.ref k1, .ref k2, .ref k3, .int (zI n)])), (k1, .inl (ck1, 4, .inl fk)), (k2, .inl (ck2, 4, .inl fb)), (k3, .inl (ck3, 4, .inl fh)), (ro, .inr (5, [.ref r1, .int (zI th), .int (zI la), .int (zI sz0)])), (r1, .inl (cr1, 60, .inl fr))] sz)) 0 0 (va_A [(h0, .inr (6, [.ref td, .int (zI du)])), (td, .inr (0, [.ref k1, .ref k2, .ref k3, .int (zI n)])), (k1, .inl (ck1, 4, .inl fk)), (k2, .inl (ck2, 4, .inl fb)), (k3, .inl (ck3, 4, .inl fh)), (ro, .inr (5, [.ref r1, .int (zI th), .int (zI la), .int (zI sz0)])), (r1, .inl (cr1, 60, .inl fr))] sz) := by
  refine Met.ofW (cc := cX6_firstFault) (maxL := 5) (ret := (some .int)) (by decide) rfl ?_
  intro p e s m args below meth c s₁ B hml hv
  obtain ⟨rfl, hsz, hP, hK, hD0, hN⟩ := hv
  have hx := B.exec
  have hb := B.bytes
  have hr := B.returns
  have hts := atoms_spec (ws := wsX6_firstFault) B.pre
  have hown : s.vm.findClass RX6 = some m.cls := findClass_of_methodNamed B.named
  have hlocks := B.notSynchronized
  subst hsz
  have hD := hD0.self (sz := s.heap.size)
  generalize hAe : va_A [(h0, .inr (6, [.ref td, .int (zI du)])), (td, .inr (0, [.ref k1, .ref k2, .ref k3, .int (zI n)])), (k1, .inl (ck1, 4, .inl fk)), (k2, .inl (ck2, 4, .inl fb)), (k3, .inl (ck3, 4, .inl fh)), (ro, .inr (5, [.ref r1, .int (zI th), .int (zI la), .int (zI sz0)])), (r1, .inl (cr1, 60, .inl fr))] s.heap.size = A at hD ⊢
  have hA : ∀ q : Nat, s.heap.size ≤ q → A q := fun q h => by rw [← hAe]; exact Or.inr h
  have hS : va_S A s.heap s.heap [] := va_S.rf
  have hP : va_P D vwCl [(h0, .inr (6, [.ref td, .int (zI du)])), (td, .inr (0, [.ref k1, .ref k2, .ref k3, .int (zI n)])), (k1, .inl (ck1, 4, .inl fk)), (k2, .inl (ck2, 4, .inl fb)), (k3, .inl (ck3, 4, .inl fh)), (ro, .inr (5, [.ref r1, .int (zI th), .int (zI la), .int (zI sz0)])), (r1, .inl (cr1, 60, .inl fr))] s.heap := hP
  have hl := lv_entry ([.ref h0, .ref ro, .int (zI i), .int (zI k)]) (n := 5) (Nat.le_of_ble_eq_true rfl)
  rw [lg_entry_eq]
  generalize (lg_sl ([.ref h0, .ref ro, .int (zI i), .int (zI k)]) ++ List.replicate (5 - (lg_sl ([.ref h0, .ref ro, .int (zI i), .int (zI k)])).length) Slot.unset).toArray = ls at hl ⊢
  have hl : lv_has ls 5 [(0, .ref h0), (1, .ref ro), (2, .int (zI i)), (3, .int (zI k))] := hl
  refine lv_aload_n hx hb dX6_firstFault_0 rfl (lv_at hl 0 rfl) ?_
  refine va_get (D := D) (ci := 6) (v := .ref td) (C := RX6) (T := TX6) (N := 2) hx hb hts (fun _ h9 => List.mem_cons_of_mem _ (List.mem_append_left _ (List.mem_append_left _ (List.mem_append_right _ h9)))) hown hK hP 0 rfl rfl 0 (by decide) (hts (.fieldLink RX6 12 "FontRuns$TextReader" "told" "LFontRuns$FontRow;") mw_X6_firstFault_w_0) (fun _ h9 => h9) rfl dX6_firstFault_1 ?_
  refine lv_iconst (v := zI 0) hx hb dX6_firstFault_4 rfl ?_
  refine va_put (D := D) (ci := 0) (v := .int (zI 0)) (ty := .int) (C := RX0) (T := TX0) (N := 4) hx hb hts (fun _ h9 => List.mem_cons_of_mem _ (List.mem_append_left _ (List.mem_append_right _ h9))) tyX0 tyX0_ok nmX0 hown hK hP hD hS 1 rfl rfl 3 (by decide) (hts (.fieldLink RX6 18 "FontRuns$FontRow" "count" "I") mw_X6_firstFault_w_1) (fun _ h9 => h9) rfl (by decide +kernel) rfl rfl (Nat.le_of_ble_eq_true rfl) dX6_firstFault_5 (fun H locs hP hD hS => ?_)
  have hP : va_P D vwCl [(h0, .inr (6, [.ref td, .int (zI du)])), (td, .inr (0, [.ref k1, .ref k2, .ref k3, .int (zI 0)])), (k1, .inl (ck1, 4, .inl fk)), (k2, .inl (ck2, 4, .inl fb)), (k3, .inl (ck3, 4, .inl fh)), (ro, .inr (5, [.ref r1, .int (zI th), .int (zI la), .int (zI sz0)])), (r1, .inl (cr1, 60, .inl fr))] H := hP
  have hD : va_D A [(h0, .inr (6, [.ref td, .int (zI du)])), (td, .inr (0, [.ref k1, .ref k2, .ref k3, .int (zI 0)])), (k1, .inl (ck1, 4, .inl fk)), (k2, .inl (ck2, 4, .inl fb)), (k3, .inl (ck3, 4, .inl fh)), (ro, .inr (5, [.ref r1, .int (zI th), .int (zI la), .int (zI sz0)])), (r1, .inl (cr1, 60, .inl fr))] := hD
  refine lv_aload_n hx hb dX6_firstFault_8 rfl (lv_at hl 0 rfl) ?_
  refine lv_iconst (v := zI 0) hx hb dX6_firstFault_9 rfl ?_
  refine va_put (D := D) (ci := 6) (v := .int (zI 0)) (ty := .int) (C := RX6) (T := TX6) (N := 2) hx hb hts (fun _ h9 => List.mem_cons_of_mem _ (List.mem_append_left _ (List.mem_append_left _ (List.mem_append_right _ h9)))) tyX6 tyX6_ok nmX6 hown hK hP hD hS 0 rfl rfl 1 (by decide) (hts (.fieldLink RX6 22 "FontRuns$TextReader" "due" "I") mw_X6_firstFault_w_2) (fun _ h9 => h9) rfl (by decide +kernel) rfl rfl (Nat.le_of_ble_eq_true rfl) dX6_firstFault_10 (fun H locs hP hD hS => ?_)
  have hP : va_P D vwCl [(h0, .inr (6, [.ref td, .int (zI 0)])), (td, .inr (0, [.ref k1, .ref k2, .ref k3, .int (zI 0)])), (k1, .inl (ck1, 4, .inl fk)), (k2, .inl (ck2, 4, .inl fb)), (k3, .inl (ck3, 4, .inl fh)), (ro, .inr (5, [.ref r1, .int (zI th), .int (zI la), .int (zI sz0)])), (r1, .inl (cr1, 60, .inl fr))] H := hP
  have hD : va_D A [(h0, .inr (6, [.ref td, .int (zI 0)])), (td, .inr (0, [.ref k1, .ref k2, .ref k3, .int (zI 0)])), (k1, .inl (ck1, 4, .inl fk)), (k2, .inl (ck2, 4, .inl fb)), (k3, .inl (ck3, 4, .inl fh)), (ro, .inr (5, [.ref r1, .int (zI th), .int (zI la), .int (zI sz0)])), (r1, .inl (cr1, 60, .inl fr))] := hD
  refine lv_iconst (v := zI 0) hx hb dX6_firstFault_13 rfl ?_
  refine lv_istore (lv' := [(4, .int (zI 0)), (0, .ref h0), (1, .ref ro), (2, .int (zI i)), (3, .int (zI k))]) hx hb dX6_firstFault_14 hl (by decide) rfl (fun ls hl => ?_)
  refine k_loopM (I := fun n9 H locs ls => ∃ (jk : Int) (jd : Int) (jn : Int) (ja : Nat → Int32) (jb : Nat → Int32) (jc : Nat → Int32), n9 = (k - jk).toNat ∧ (0 ≤ jk ∧ jk ≤ k) ∧ (kGo (kCd fr i) fk fb fh (kNa jk) = some (jd, jn, ja, jb, jc)) ∧ va_P D vwCl [(h0, .inr (6, [.ref td, .int (zI jd)])), (td, .inr (0, [.ref k1, .ref k2, .ref k3, .int (zI jn)])), (k1, .inl (ck1, 4, .inl ja)), (k2, .inl (ck2, 4, .inl jb)), (k3, .inl (ck3, 4, .inl jc)), (ro, .inr (5, [.ref r1, .int (zI th), .int (zI la), .int (zI sz0)])), (r1, .inl (cr1, 60, .inl fr))] H ∧ va_D A [(h0, .inr (6, [.ref td, .int (zI jd)])), (td, .inr (0, [.ref k1, .ref k2, .ref k3, .int (zI jn)])), (k1, .inl (ck1, 4, .inl ja)), (k2, .inl (ck2, 4, .inl jb)), (k3, .inl (ck3, 4, .inl jc)), (ro, .inr (5, [.ref r1, .int (zI th), .int (zI la), .int (zI sz0)])), (r1, .inl (cr1, 60, .inl fr))] ∧ va_S A s.heap H locs ∧ lv_has ls 5 [(4, .int (zI jk)), (0, .ref h0), (1, .ref ro), (2, .int (zI i)), (3, .int (zI k))]) ?_ _ ⟨0, 0, 0, fk, fb, fh, rfl, (by omega), kGo_0, hP, hD, hS, hl⟩
  intro n16 ih16 H locs ls hI
  obtain ⟨jk, jd, jn, ja, jb, jc, en16, v_160, v_161, hP, hD, hS, hl⟩ := hI
  have o9 := kGo_b v_161
  have o1 := o9.1
  have o2 := o9.2.1
  refine lv_iload hx hb dX6_firstFault_16 (lv_at hl 0 rfl) ?_
  refine lv_iload_n hx hb dX6_firstFault_18 rfl (lv_at hl 4 rfl) ?_
  refine kz_icmp_ge (tgt := 46) hx hb dX6_firstFault_19 (by decide) (by omega) (by omega) (fun c_1 => ?_) (fun c_1 => ?_)
  · refine lv_aload_n hx hb dX6_firstFault_46 rfl (lv_at hl 1 rfl) ?_
    refine va_get (D := D) (ci := 6) (v := .int (zI jd)) (C := RX6) (T := TX6) (N := 2) hx hb hts (fun _ h9 => List.mem_cons_of_mem _ (List.mem_append_left _ (List.mem_append_left _ (List.mem_append_right _ h9)))) hown hK hP 0 rfl rfl 1 (by decide) (hts (.fieldLink RX6 22 "FontRuns$TextReader" "due" "I") mw_X6_firstFault_w_2) (fun _ h9 => h9) rfl dX6_firstFault_47 ?_
    refine lv_iconst (v := zI 5) hx hb dX6_firstFault_50 rfl ?_
    refine kz_icmp_ne (tgt := 59) hx hb dX6_firstFault_51 (by decide) (by omega) (by omega) (fun c_2 => ?_) (fun c_2 => ?_)
    · refine lv_iload_n hx hb dX6_firstFault_59 rfl (lv_at hl 4 rfl) ?_
      have hP9 := hP.sub (ws' := [(h0, .inr (6, [.ref td, .int (zI jd)])), (td, .inr (0, [.ref k1, .ref k2, .ref k3, .int (zI jn)])), (k1, .inl (ck1, 4, .inl ja)), (k2, .inl (ck2, 4, .inl jb)), (k3, .inl (ck3, 4, .inl jc)), (ro, .inr (5, [.ref r1, .int (zI th), .int (zI la), .int (zI sz0)])), (r1, .inl (cr1, 60, .inl fr))]) [0, 1, 2, 3, 4, 5, 6] rfl
      have hD9 := hD.sub (ws' := [(h0, .inr (6, [.ref td, .int (zI jd)])), (td, .inr (0, [.ref k1, .ref k2, .ref k3, .int (zI jn)])), (k1, .inl (ck1, 4, .inl ja)), (k2, .inl (ck2, 4, .inl jb)), (k3, .inl (ck3, 4, .inl jc)), (ro, .inr (5, [.ref r1, .int (zI th), .int (zI la), .int (zI sz0)])), (r1, .inl (cr1, 60, .inl fr))]) [0, 1, 2, 3, 4, 5, 6] (by decide +kernel) rfl
      exact W.iret (v := (zI k)) hx hb hr (fun t ht hW => kQS_of (by omega) ⟨jd, jn, ja, jb, jc, (by omega), (by omega), (kFf_3 v_161 (by omega) (by omega) (by omega) (by omega)), (by omega), by rw [ht]; exact hP9, hD9⟩ (hS.F ht)) hS.2.2 dX6_firstFault_60
    · refine lv_bipush (v := zI (-9)) hx hb dX6_firstFault_54 (by decide) ?_
      refine lv_goto (tgt := 60) hx hb dX6_firstFault_56 (by decide) ?_
      have hP9 := hP.sub (ws' := [(h0, .inr (6, [.ref td, .int (zI jd)])), (td, .inr (0, [.ref k1, .ref k2, .ref k3, .int (zI jn)])), (k1, .inl (ck1, 4, .inl ja)), (k2, .inl (ck2, 4, .inl jb)), (k3, .inl (ck3, 4, .inl jc)), (ro, .inr (5, [.ref r1, .int (zI th), .int (zI la), .int (zI sz0)])), (r1, .inl (cr1, 60, .inl fr))]) [0, 1, 2, 3, 4, 5, 6] rfl
      have hD9 := hD.sub (ws' := [(h0, .inr (6, [.ref td, .int (zI jd)])), (td, .inr (0, [.ref k1, .ref k2, .ref k3, .int (zI jn)])), (k1, .inl (ck1, 4, .inl ja)), (k2, .inl (ck2, 4, .inl jb)), (k3, .inl (ck3, 4, .inl jc)), (ro, .inr (5, [.ref r1, .int (zI th), .int (zI la), .int (zI sz0)])), (r1, .inl (cr1, 60, .inl fr))]) [0, 1, 2, 3, 4, 5, 6] (by decide +kernel) rfl
      exact W.iret (v := (zI (-9))) hx hb hr (fun t ht hW => kQS_of (by omega) ⟨jd, jn, ja, jb, jc, (by omega), (by omega), (kFf_2 v_161 (by omega) (by omega) (by omega)), (by omega), by rw [ht]; exact hP9, hD9⟩ (hS.F ht)) hS.2.2 dX6_firstFault_60
  · refine lv_aload_n hx hb dX6_firstFault_22 rfl (lv_at hl 1 rfl) ?_
    refine lv_aload_n hx hb dX6_firstFault_23 rfl (lv_at hl 2 rfl) ?_
    refine lv_iload_n hx hb dX6_firstFault_24 rfl (lv_at hl 3 rfl) ?_
    refine lv_iload hx hb dX6_firstFault_25 (lv_at hl 0 rfl) ?_
    refine kz_iadd hx hb dX6_firstFault_27 ?_
    refine k_callR (va_runV (As := [.int (zI (i + jk))]) (rest := [.ref h0]) ⟨hx, hb, hml, hown, hts⟩ (c_X5_at_v l D H.size (i := (i + jk)) (h0 := ro) (r1 := r1) (th := th) (la := la) (n := sz0) (cr1 := cr1) (fr := fr) (by omega) q4 q5 q6) (cwV 1 hts gX6_firstFault_X5_at rfl rfl rfl (by decide +kernel) ⟨Nat.le_of_ble_eq_true rfl, Nat.le_of_ble_eq_true rfl⟩) (kPreV hP (kD0 hD) hK hN [5, 6] [3] ax_X6_firstFault_w_1 rfl (by decide +kernel) 5 5 rfl rfl) rfl rfl hl.1 rfl (lv_room (Nat.le_of_ble_eq_true rfl)) dX6_firstFault_28 ⟨Nat.le_of_ble_eq_true rfl, Nat.le_of_ble_eq_true rfl⟩) ?_
    refine kz_any (fun z_3 rz_3 ez_3 => ?_)
    have hFc := va_free (wc := [(h0, .inr (6, [.ref td, .int (zI jd)])), (td, .inr (0, [.ref k1, .ref k2, .ref k3, .int (zI jn)])), (k1, .inl (ck1, 4, .inl ja)), (k2, .inl (ck2, 4, .inl jb)), (k3, .inl (ck3, 4, .inl jc))]) hD hS hA [0, 1, 2, 3, 4] ax_X6_firstFault_w_2
    refine va_calli (va_runV (As := [.int (zI z_3)]) (rest := []) ⟨hx, hb, hml, hown, hts⟩ (c_X6_goesOnWith_w l D H.size (x := z_3) (h0 := h0) (td := td) (du := jd) (k1 := k1) (k2 := k2) (k3 := k3) (n := jn) (ck1 := ck1) (fk := ja) (ck2 := ck2) (fb := jb) (ck3 := ck3) (fh := jc) (by omega) (by omega) (by omega) o9.2.2) (cwV 1 hts gX6_firstFault_X6_goesOnWith rfl rfl rfl (by decide +kernel) ⟨Nat.le_of_ble_eq_true rfl, Nat.le_of_ble_eq_true rfl⟩) (kPreV hP (kD0 hD) hK hN [0, 1, 2, 3, 4] [0, 1, 2] ax_X6_firstFault_w_2 rfl (by decide +kernel) 0 6 rfl rfl) rfl rfl hl.1 rfl (lv_room (Nat.le_of_ble_eq_true rfl)) dX6_firstFault_31 ⟨Nat.le_of_ble_eq_true rfl, Nat.le_of_ble_eq_true rfl⟩) hS (fun q _ h => hFc q h) hFc (fun r u t H1 locs ht hvm hw hB hz1 hk1 hS => ?_)
    obtain ⟨z_9, e9⟩ : ∃ z, z = u := ⟨_, rfl⟩
    subst e9
    obtain ⟨rfl, rz_9⟩ := hw
    refine Exists.elim hB (fun ud_4 hB1 => Exists.elim hB1 (fun un_5 hB2 => Exists.elim hB2 (fun uk_6 hB3 => Exists.elim hB3 (fun ub_7 hB4 => Exists.elim hB4 (fun uh_8 hB5 => ?_)))))
    have h_10 := hB5.1
    have h_11 := hB5.2.1
    have h_12 := hB5.2.2.1
    have h_13 := hB5.2.2.2.1
    have hP1 := hB5.2.2.2.2.1
    have hD1 := hB5.2.2.2.2.2
    clear hB hB1 hB2 hB3 hB4 hB5
    rw [ht] at hP1
    obtain ⟨hP, hD⟩ := va_join (wr := [(ro, .inr (5, [.ref r1, .int (zI th), .int (zI la), .int (zI sz0)])), (r1, .inl (cr1, 60, .inl fr))]) (w1 := [(h0, .inr (6, [.ref td, .int (zI ud_4)])), (td, .inr (0, [.ref k1, .ref k2, .ref k3, .int (zI un_5)])), (k1, .inl (ck1, 4, .inl uk_6)), (k2, .inl (ck2, 4, .inl ub_7)), (k3, .inl (ck3, 4, .inl uh_8))]) hP hD [0, 1, 2, 3, 4] [5, 6] ax_X6_firstFault_w_2 ax_X6_firstFault_w_1 (by decide +kernel) (by decide +kernel) hk1 hFc hP1 hD1
    have hP := ax_X6_firstFault_w_3 hP
    have hD := ax_X6_firstFault_w_4 hD
    generalize H1 = H at hP hS ⊢
    have hP : va_P D vwCl [(ro, .inr (5, [.ref r1, .int (zI th), .int (zI la), .int (zI sz0)])), (r1, .inl (cr1, 60, .inl fr)), (h0, .inr (6, [.ref td, .int (zI ud_4)])), (td, .inr (0, [.ref k1, .ref k2, .ref k3, .int (zI un_5)])), (k1, .inl (ck1, 4, .inl uk_6)), (k2, .inl (ck2, 4, .inl ub_7)), (k3, .inl (ck3, 4, .inl uh_8))] H := hP
    have hD : va_D A [(ro, .inr (5, [.ref r1, .int (zI th), .int (zI la), .int (zI sz0)])), (r1, .inl (cr1, 60, .inl fr)), (h0, .inr (6, [.ref td, .int (zI ud_4)])), (td, .inr (0, [.ref k1, .ref k2, .ref k3, .int (zI un_5)])), (k1, .inl (ck1, 4, .inl uk_6)), (k2, .inl (ck2, 4, .inl ub_7)), (k3, .inl (ck3, 4, .inl uh_8))] := hD
    refine kz_if_ne (tgt := 40) hx hb dX6_firstFault_34 (by decide) (by omega) (fun c_14 => ?_) (fun c_14 => ?_)
    · refine lv_iinc (v := (zI (jk + 1))) (lv' := [(4, .int (zI (jk + 1))), (0, .ref h0), (1, .ref ro), (2, .int (zI i)), (3, .int (zI k))]) hx hb dX6_firstFault_40 hl (k := 0) rfl (kz_inc _ 1) (by decide) rfl (fun ls hl => ?_)
      refine lv_goto (tgt := 16) hx hb dX6_firstFault_43 (by decide) ?_
      exact ih16 _ (by omega) _ _ _ ⟨(jk + 1), ud_4, un_5, uk_6, ub_7, uh_8, rfl, (by omega), (kGo_st v_161 (by omega) ez_3 rz_3 (by omega) h_10 (by omega)), (hP.sub [2, 3, 4, 5, 6, 0, 1] rfl), (hD.sub [2, 3, 4, 5, 6, 0, 1] (by decide) rfl), hS, lv_sub hl [0, 1, 2, 3, 4] rfl⟩
    · refine lv_iload hx hb dX6_firstFault_37 (lv_at hl 0 rfl) ?_
      have hP9 := hP.sub (ws' := [(h0, .inr (6, [.ref td, .int (zI ud_4)])), (td, .inr (0, [.ref k1, .ref k2, .ref k3, .int (zI un_5)])), (k1, .inl (ck1, 4, .inl uk_6)), (k2, .inl (ck2, 4, .inl ub_7)), (k3, .inl (ck3, 4, .inl uh_8)), (ro, .inr (5, [.ref r1, .int (zI th), .int (zI la), .int (zI sz0)])), (r1, .inl (cr1, 60, .inl fr))]) [2, 3, 4, 5, 6, 0, 1] rfl
      have hD9 := hD.sub (ws' := [(h0, .inr (6, [.ref td, .int (zI ud_4)])), (td, .inr (0, [.ref k1, .ref k2, .ref k3, .int (zI un_5)])), (k1, .inl (ck1, 4, .inl uk_6)), (k2, .inl (ck2, 4, .inl ub_7)), (k3, .inl (ck3, 4, .inl uh_8)), (ro, .inr (5, [.ref r1, .int (zI th), .int (zI la), .int (zI sz0)])), (r1, .inl (cr1, 60, .inl fr))]) [2, 3, 4, 5, 6, 0, 1] (by decide +kernel) rfl
      exact W.iret (v := (zI jk)) hx hb hr (fun t ht hW => kQS_of (by omega) ⟨ud_4, un_5, uk_6, ub_7, uh_8, h_12, h_13, (kFf_1 v_161 (by omega) ez_3 rz_3 (by omega) h_10 (by omega)), (by omega), by rw [ht]; exact hP9, hD9⟩ (hS.F ht)) hS.2.2 dX6_firstFault_39
set_option maxRecDepth 20000 in
theorem mw_X0_takeFrom_w_0 : (.fieldLink RX0 21 "FontRuns$FontRow" "count" "I" : Cond) ∈ wsX0_takeFrom := List.mem_cons_of_mem _ (List.mem_append_left _ (List.mem_of_getElem? (i := 0) rfl))
set_option maxRecDepth 20000 in
theorem mw_X0_takeFrom_w_1 : (.fieldLink RX0 9 "FontRuns$FontRow" "kind" "[I" : Cond) ∈ wsX0_takeFrom := List.mem_cons_of_mem _ (List.mem_append_left _ (List.mem_of_getElem? (i := 1) rfl))
set_option maxRecDepth 20000 in
theorem mw_X0_takeFrom_w_2 : (.fieldLink RX0 15 "FontRuns$FontRow" "breadth" "[I" : Cond) ∈ wsX0_takeFrom := List.mem_cons_of_mem _ (List.mem_append_left _ (List.mem_of_getElem? (i := 2) rfl))
set_option maxRecDepth 20000 in
theorem mw_X0_takeFrom_w_3 : (.fieldLink RX0 18 "FontRuns$FontRow" "has" "[I" : Cond) ∈ wsX0_takeFrom := List.mem_cons_of_mem _ (List.mem_append_left _ (List.mem_of_getElem? (i := 3) rfl))
theorem ax_X0_takeFrom_w_0 {e0 e1 e2 e3 e4 e5 e6 e7 : Nat × va_E} : ([0, 1, 2, 3, 4, 5, 6, 7] : List Nat).map (fun i => ([e0, e1, e2, e3, e4, e5, e6, e7] : va_W)[i]?) = ([e0, e1, e2, e3, e4, e5, e6, e7] : va_W).map some := rfl
set_option maxHeartbeats 4000000 in
set_option maxRecDepth 100000 in
theorem c_X0_takeFrom_w (l : Launch) (D : va_G) (sz : Nat) (h1 : Nat) (h0 : Nat) (k1 : Nat) (k2 : Nat) (k3 : Nat) (n : Int) (ck1 : ClassId) (fk : Nat → Int32) (ck2 : ClassId) (fb : Nat → Int32) (ck3 : ClassId) (fh : Nat → Int32) (m1 : Nat) (m2 : Nat) (m3 : Nat) (n2 : Int) (cm1 : ClassId) (gk : Nat → Int32) (cm2 : ClassId) (gb : Nat → Int32) (cm3 : ClassId) (gh : Nat → Int32) (q0 : 0 ≤ n2 ∧ n2 ≤ 4) : Met l yX0_takeFrom wsX0_takeFrom ({ frames := 0, cells := 0, slots := 0, locals := 0 }) (kPre [.ref h0, .ref h1] D [(h0, .inr (0, [.ref k1, .ref k2, .ref k3, .int (zI n)])), (k1, .inl (ck1, 4, .inl fk)), (k2, .inl (ck2, 4, .inl fb)), (k3, .inl (ck3, 4, .inl fh)), (h1, .inr (0, [.ref m1, .ref m2, .ref m3, .int (zI n2)])), (m1, .inl (cm1, 4, .inl gk)), (m2, .inl (cm2, 4, .inl gb)), (m3, .inl (cm3, 4, .inl gh))] [(ck1, .int), (ck2, .int), (ck3, .int), (cm1, .int), (cm2, .int), (cm3, .int)] sz) (kQV (fun t => ∃ (un : Int) (uk : Nat → Int32) (ub : Nat → Int32) (uh : Nat → Int32), (un = n2) ∧ (kEq uk gk 4) ∧ (kEq ub gb 4) ∧ (kEq uh gh 4) ∧ va_P D vwCl [(h0, .inr (0, [.ref k1, .ref k2, .ref k3, .int (zI un)])), (k1, .inl (ck1, 4, .inl uk)), (k2, .inl (ck2, 4, .inl ub)), (k3, .inl (ck3, 4, .inl uh)), (h1, .inr (0, [.ref m1, .ref m2, .ref m3, .int (zI n2)])), (m1, .inl (cm1, 4, .inl gk)), (m2, .inl (cm2, 4, .inl gb)), (m3, .inl (cm3, 4, .inl gh))] t.heap ∧ va_D (va_A [(h0, .inr (0, [.ref k1, .ref k2, .ref k3, .int (zI n)])), (k1, .inl (ck1, 4, .inl fk)), (k2, .inl (ck2, 4, .inl fb)), (k3, .inl (ck3, 4, .inl fh)), (h1, .inr (0, [.ref m1, .ref m2, .ref m3, .int (zI n2)])), (m1, .inl (cm1, 4, .inl gk)), (m2, .inl (cm2, 4, .inl gb)), (m3, .inl (cm3, 4, .inl gh))] sz) [(h0, .inr (0, [.ref k1, .ref k2, .ref k3, .int (zI un)])), (k1, .inl (ck1, 4, .inl uk)), (k2, .inl (ck2, 4, .inl ub)), (k3, .inl (ck3, 4, .inl uh)), (h1, .inr (0, [.ref m1, .ref m2, .ref m3, .int (zI n2)])), (m1, .inl (cm1, 4, .inl gk)), (m2, .inl (cm2, 4, .inl gb)), (m3, .inl (cm3, 4, .inl gh))]) (va_A [(h0, .inr (0, [.ref k1, .ref k2, .ref k3, .int (zI n)])), (k1, .inl (ck1, 4, .inl fk)), (k2, .inl (ck2, 4, .inl fb)), (k3, .inl (ck3, 4, .inl fh)), (h1, .inr (0, [.ref m1, .ref m2, .ref m3, .int (zI n2)])), (m1, .inl (cm1, 4, .inl gk)), (m2, .inl (cm2, 4, .inl gb)), (m3, .inl (cm3, 4, .inl gh))] sz)) 0 0 (va_A [(h0, .inr (0, [.ref k1, .ref k2, .ref k3, .int (zI n)])), (k1, .inl (ck1, 4, .inl fk)), (k2, .inl (ck2, 4, .inl fb)), (k3, .inl (ck3, 4, .inl fh)), (h1, .inr (0, [.ref m1, .ref m2, .ref m3, .int (zI n2)])), (m1, .inl (cm1, 4, .inl gk)), (m2, .inl (cm2, 4, .inl gb)), (m3, .inl (cm3, 4, .inl gh))] sz) := by
  refine Met.ofW (cc := cX0_takeFrom) (maxL := 3) (ret := none) (by decide) rfl ?_
  intro p e s m args below meth c s₁ B hml hv
  obtain ⟨rfl, hsz, hP, hK, hD0, hN⟩ := hv
  have hx := B.exec
  have hb := B.bytes
  have hr := B.returns
  have hts := atoms_spec (ws := wsX0_takeFrom) B.pre
  have hown : s.vm.findClass RX0 = some m.cls := findClass_of_methodNamed B.named
  have hlocks := B.notSynchronized
  subst hsz
  have hD := hD0.self (sz := s.heap.size)
  generalize hAe : va_A [(h0, .inr (0, [.ref k1, .ref k2, .ref k3, .int (zI n)])), (k1, .inl (ck1, 4, .inl fk)), (k2, .inl (ck2, 4, .inl fb)), (k3, .inl (ck3, 4, .inl fh)), (h1, .inr (0, [.ref m1, .ref m2, .ref m3, .int (zI n2)])), (m1, .inl (cm1, 4, .inl gk)), (m2, .inl (cm2, 4, .inl gb)), (m3, .inl (cm3, 4, .inl gh))] s.heap.size = A at hD ⊢
  have hA : ∀ q : Nat, s.heap.size ≤ q → A q := fun q h => by rw [← hAe]; exact Or.inr h
  have hS : va_S A s.heap s.heap [] := va_S.rf
  have hP : va_P D vwCl [(h0, .inr (0, [.ref k1, .ref k2, .ref k3, .int (zI n)])), (k1, .inl (ck1, 4, .inl fk)), (k2, .inl (ck2, 4, .inl fb)), (k3, .inl (ck3, 4, .inl fh)), (h1, .inr (0, [.ref m1, .ref m2, .ref m3, .int (zI n2)])), (m1, .inl (cm1, 4, .inl gk)), (m2, .inl (cm2, 4, .inl gb)), (m3, .inl (cm3, 4, .inl gh))] s.heap := hP
  have hl := lv_entry ([.ref h0, .ref h1]) (n := 3) (Nat.le_of_ble_eq_true rfl)
  rw [lg_entry_eq]
  generalize (lg_sl ([.ref h0, .ref h1]) ++ List.replicate (3 - (lg_sl ([.ref h0, .ref h1])).length) Slot.unset).toArray = ls at hl ⊢
  have hl : lv_has ls 3 [(0, .ref h0), (1, .ref h1)] := hl
  refine lv_aload_n hx hb dX0_takeFrom_0 rfl (lv_at hl 0 rfl) ?_
  refine lv_aload_n hx hb dX0_takeFrom_1 rfl (lv_at hl 1 rfl) ?_
  refine va_get (D := D) (ci := 0) (v := .int (zI n2)) (C := RX0) (T := TX0) (N := 4) hx hb hts (fun _ h9 => List.mem_cons_of_mem _ (List.mem_append_right _ h9)) hown hK hP 4 rfl rfl 3 (by decide) (hts (.fieldLink RX0 21 "FontRuns$FontRow" "count" "I") mw_X0_takeFrom_w_0) (fun _ h9 => h9) rfl dX0_takeFrom_2 ?_
  refine va_put (D := D) (ci := 0) (v := .int (zI n2)) (ty := .int) (C := RX0) (T := TX0) (N := 4) hx hb hts (fun _ h9 => List.mem_cons_of_mem _ (List.mem_append_right _ h9)) tyX0 tyX0_ok nmX0 hown hK hP hD hS 0 rfl rfl 3 (by decide) (hts (.fieldLink RX0 21 "FontRuns$FontRow" "count" "I") mw_X0_takeFrom_w_0) (fun _ h9 => h9) rfl (by decide +kernel) rfl rfl (Nat.le_of_ble_eq_true rfl) dX0_takeFrom_5 (fun H locs hP hD hS => ?_)
  have hP : va_P D vwCl [(h0, .inr (0, [.ref k1, .ref k2, .ref k3, .int (zI n2)])), (k1, .inl (ck1, 4, .inl fk)), (k2, .inl (ck2, 4, .inl fb)), (k3, .inl (ck3, 4, .inl fh)), (h1, .inr (0, [.ref m1, .ref m2, .ref m3, .int (zI n2)])), (m1, .inl (cm1, 4, .inl gk)), (m2, .inl (cm2, 4, .inl gb)), (m3, .inl (cm3, 4, .inl gh))] H := hP
  have hD : va_D A [(h0, .inr (0, [.ref k1, .ref k2, .ref k3, .int (zI n2)])), (k1, .inl (ck1, 4, .inl fk)), (k2, .inl (ck2, 4, .inl fb)), (k3, .inl (ck3, 4, .inl fh)), (h1, .inr (0, [.ref m1, .ref m2, .ref m3, .int (zI n2)])), (m1, .inl (cm1, 4, .inl gk)), (m2, .inl (cm2, 4, .inl gb)), (m3, .inl (cm3, 4, .inl gh))] := hD
  refine lv_iconst (v := zI 0) hx hb dX0_takeFrom_8 rfl ?_
  refine lv_istore_n (lv' := [(2, .int (zI 0)), (0, .ref h0), (1, .ref h1)]) hx hb dX0_takeFrom_9 rfl hl (by decide) rfl (fun ls hl => ?_)
  refine k_loopM (I := fun n9 H locs ls => ∃ (jk : Int) (ja : Nat → Int32) (jb : Nat → Int32) (jc : Nat → Int32), n9 = (4 - jk).toNat ∧ (0 ≤ jk ∧ jk ≤ 4) ∧ (kEq ja gk jk) ∧ (kEq jb gb jk) ∧ (kEq jc gh jk) ∧ va_P D vwCl [(h0, .inr (0, [.ref k1, .ref k2, .ref k3, .int (zI n2)])), (k1, .inl (ck1, 4, .inl ja)), (k2, .inl (ck2, 4, .inl jb)), (k3, .inl (ck3, 4, .inl jc)), (h1, .inr (0, [.ref m1, .ref m2, .ref m3, .int (zI n2)])), (m1, .inl (cm1, 4, .inl gk)), (m2, .inl (cm2, 4, .inl gb)), (m3, .inl (cm3, 4, .inl gh))] H ∧ va_D A [(h0, .inr (0, [.ref k1, .ref k2, .ref k3, .int (zI n2)])), (k1, .inl (ck1, 4, .inl ja)), (k2, .inl (ck2, 4, .inl jb)), (k3, .inl (ck3, 4, .inl jc)), (h1, .inr (0, [.ref m1, .ref m2, .ref m3, .int (zI n2)])), (m1, .inl (cm1, 4, .inl gk)), (m2, .inl (cm2, 4, .inl gb)), (m3, .inl (cm3, 4, .inl gh))] ∧ va_S A s.heap H locs ∧ lv_has ls 3 [(2, .int (zI jk)), (0, .ref h0), (1, .ref h1)]) ?_ _ ⟨0, fk, fb, fh, rfl, (by omega), kEq_0, kEq_0, kEq_0, hP, hD, hS, hl⟩
  intro n10 ih10 H locs ls hI
  obtain ⟨jk, ja, jb, jc, en10, v_100, v_101, v_102, v_103, hP, hD, hS, hl⟩ := hI
  refine lv_iload_n hx hb dX0_takeFrom_10 rfl (lv_at hl 0 rfl) ?_
  refine lv_iconst (v := zI 4) hx hb dX0_takeFrom_11 rfl ?_
  refine kz_icmp_ge (tgt := 57) hx hb dX0_takeFrom_12 (by decide) (by omega) (by omega) (fun c_1 => ?_) (fun c_1 => ?_)
  · have hP9 := hP.sub (ws' := [(h0, .inr (0, [.ref k1, .ref k2, .ref k3, .int (zI n2)])), (k1, .inl (ck1, 4, .inl ja)), (k2, .inl (ck2, 4, .inl jb)), (k3, .inl (ck3, 4, .inl jc)), (h1, .inr (0, [.ref m1, .ref m2, .ref m3, .int (zI n2)])), (m1, .inl (cm1, 4, .inl gk)), (m2, .inl (cm2, 4, .inl gb)), (m3, .inl (cm3, 4, .inl gh))]) [0, 1, 2, 3, 4, 5, 6, 7] rfl
    have hD9 := hD.sub (ws' := [(h0, .inr (0, [.ref k1, .ref k2, .ref k3, .int (zI n2)])), (k1, .inl (ck1, 4, .inl ja)), (k2, .inl (ck2, 4, .inl jb)), (k3, .inl (ck3, 4, .inl jc)), (h1, .inr (0, [.ref m1, .ref m2, .ref m3, .int (zI n2)])), (m1, .inl (cm1, 4, .inl gk)), (m2, .inl (cm2, 4, .inl gb)), (m3, .inl (cm3, 4, .inl gh))]) [0, 1, 2, 3, 4, 5, 6, 7] (by decide +kernel) rfl
    exact W.vret hx hb hr (fun t ht hW => kQV_of ⟨n2, ja, jb, jc, (by omega), (kEq_le v_101 (by omega)), (kEq_le v_102 (by omega)), (kEq_le v_103 (by omega)), by rw [ht]; exact hP9, hD9⟩ (hS.F ht)) hS.2.2 dX0_takeFrom_57
  · refine lv_aload_n hx hb dX0_takeFrom_15 rfl (lv_at hl 1 rfl) ?_
    refine va_get (D := D) (ci := 0) (v := .ref k1) (C := RX0) (T := TX0) (N := 4) hx hb hts (fun _ h9 => List.mem_cons_of_mem _ (List.mem_append_right _ h9)) hown hK hP 0 rfl rfl 0 (by decide) (hts (.fieldLink RX0 9 "FontRuns$FontRow" "kind" "[I") mw_X0_takeFrom_w_1) (fun _ h9 => h9) rfl dX0_takeFrom_16 ?_
    refine lv_iload_n hx hb dX0_takeFrom_19 rfl (lv_at hl 0 rfl) ?_
    refine lv_aload_n hx hb dX0_takeFrom_20 rfl (lv_at hl 2 rfl) ?_
    refine va_get (D := D) (ci := 0) (v := .ref m1) (C := RX0) (T := TX0) (N := 4) hx hb hts (fun _ h9 => List.mem_cons_of_mem _ (List.mem_append_right _ h9)) hown hK hP 4 rfl rfl 0 (by decide) (hts (.fieldLink RX0 9 "FontRuns$FontRow" "kind" "[I") mw_X0_takeFrom_w_1) (fun _ h9 => h9) rfl dX0_takeFrom_21 ?_
    refine lv_iload_n hx hb dX0_takeFrom_24 rfl (lv_at hl 0 rfl) ?_
    refine kz_iald hx hb hK hP 5 3 rfl rfl (by omega) dX0_takeFrom_25 (fun z_2 rz_2 ez_2 => ?_)
    refine kz_iast hx hb hK hP hD hS 1 0 rfl rfl (by omega) dX0_takeFrom_26 (fun H locs hP hD hS => ?_)
    have hP : va_P D vwCl [(h0, .inr (0, [.ref k1, .ref k2, .ref k3, .int (zI n2)])), (k1, .inl (ck1, 4, .inl (upd ja (jk).toNat (zI z_2)))), (k2, .inl (ck2, 4, .inl jb)), (k3, .inl (ck3, 4, .inl jc)), (h1, .inr (0, [.ref m1, .ref m2, .ref m3, .int (zI n2)])), (m1, .inl (cm1, 4, .inl gk)), (m2, .inl (cm2, 4, .inl gb)), (m3, .inl (cm3, 4, .inl gh))] H := hP
    have hD : va_D A [(h0, .inr (0, [.ref k1, .ref k2, .ref k3, .int (zI n2)])), (k1, .inl (ck1, 4, .inl (upd ja (jk).toNat (zI z_2)))), (k2, .inl (ck2, 4, .inl jb)), (k3, .inl (ck3, 4, .inl jc)), (h1, .inr (0, [.ref m1, .ref m2, .ref m3, .int (zI n2)])), (m1, .inl (cm1, 4, .inl gk)), (m2, .inl (cm2, 4, .inl gb)), (m3, .inl (cm3, 4, .inl gh))] := hD
    generalize ef_3 : upd ja (jk).toNat (zI z_2) = f_3 at hP hD
    refine lv_aload_n hx hb dX0_takeFrom_27 rfl (lv_at hl 1 rfl) ?_
    refine va_get (D := D) (ci := 0) (v := .ref k2) (C := RX0) (T := TX0) (N := 4) hx hb hts (fun _ h9 => List.mem_cons_of_mem _ (List.mem_append_right _ h9)) hown hK hP 0 rfl rfl 1 (by decide) (hts (.fieldLink RX0 15 "FontRuns$FontRow" "breadth" "[I") mw_X0_takeFrom_w_2) (fun _ h9 => h9) rfl dX0_takeFrom_28 ?_
    refine lv_iload_n hx hb dX0_takeFrom_31 rfl (lv_at hl 0 rfl) ?_
    refine lv_aload_n hx hb dX0_takeFrom_32 rfl (lv_at hl 2 rfl) ?_
    refine va_get (D := D) (ci := 0) (v := .ref m2) (C := RX0) (T := TX0) (N := 4) hx hb hts (fun _ h9 => List.mem_cons_of_mem _ (List.mem_append_right _ h9)) hown hK hP 4 rfl rfl 1 (by decide) (hts (.fieldLink RX0 15 "FontRuns$FontRow" "breadth" "[I") mw_X0_takeFrom_w_2) (fun _ h9 => h9) rfl dX0_takeFrom_33 ?_
    refine lv_iload_n hx hb dX0_takeFrom_36 rfl (lv_at hl 0 rfl) ?_
    refine kz_iald hx hb hK hP 6 4 rfl rfl (by omega) dX0_takeFrom_37 (fun z_4 rz_4 ez_4 => ?_)
    refine kz_iast hx hb hK hP hD hS 2 1 rfl rfl (by omega) dX0_takeFrom_38 (fun H locs hP hD hS => ?_)
    have hP : va_P D vwCl [(h0, .inr (0, [.ref k1, .ref k2, .ref k3, .int (zI n2)])), (k1, .inl (ck1, 4, .inl f_3)), (k2, .inl (ck2, 4, .inl (upd jb (jk).toNat (zI z_4)))), (k3, .inl (ck3, 4, .inl jc)), (h1, .inr (0, [.ref m1, .ref m2, .ref m3, .int (zI n2)])), (m1, .inl (cm1, 4, .inl gk)), (m2, .inl (cm2, 4, .inl gb)), (m3, .inl (cm3, 4, .inl gh))] H := hP
    have hD : va_D A [(h0, .inr (0, [.ref k1, .ref k2, .ref k3, .int (zI n2)])), (k1, .inl (ck1, 4, .inl f_3)), (k2, .inl (ck2, 4, .inl (upd jb (jk).toNat (zI z_4)))), (k3, .inl (ck3, 4, .inl jc)), (h1, .inr (0, [.ref m1, .ref m2, .ref m3, .int (zI n2)])), (m1, .inl (cm1, 4, .inl gk)), (m2, .inl (cm2, 4, .inl gb)), (m3, .inl (cm3, 4, .inl gh))] := hD
    generalize ef_5 : upd jb (jk).toNat (zI z_4) = f_5 at hP hD
    refine lv_aload_n hx hb dX0_takeFrom_39 rfl (lv_at hl 1 rfl) ?_
    refine va_get (D := D) (ci := 0) (v := .ref k3) (C := RX0) (T := TX0) (N := 4) hx hb hts (fun _ h9 => List.mem_cons_of_mem _ (List.mem_append_right _ h9)) hown hK hP 0 rfl rfl 2 (by decide) (hts (.fieldLink RX0 18 "FontRuns$FontRow" "has" "[I") mw_X0_takeFrom_w_3) (fun _ h9 => h9) rfl dX0_takeFrom_40 ?_
    refine lv_iload_n hx hb dX0_takeFrom_43 rfl (lv_at hl 0 rfl) ?_
    refine lv_aload_n hx hb dX0_takeFrom_44 rfl (lv_at hl 2 rfl) ?_
    refine va_get (D := D) (ci := 0) (v := .ref m3) (C := RX0) (T := TX0) (N := 4) hx hb hts (fun _ h9 => List.mem_cons_of_mem _ (List.mem_append_right _ h9)) hown hK hP 4 rfl rfl 2 (by decide) (hts (.fieldLink RX0 18 "FontRuns$FontRow" "has" "[I") mw_X0_takeFrom_w_3) (fun _ h9 => h9) rfl dX0_takeFrom_45 ?_
    refine lv_iload_n hx hb dX0_takeFrom_48 rfl (lv_at hl 0 rfl) ?_
    refine kz_iald hx hb hK hP 7 5 rfl rfl (by omega) dX0_takeFrom_49 (fun z_6 rz_6 ez_6 => ?_)
    refine kz_iast hx hb hK hP hD hS 3 2 rfl rfl (by omega) dX0_takeFrom_50 (fun H locs hP hD hS => ?_)
    have hP : va_P D vwCl [(h0, .inr (0, [.ref k1, .ref k2, .ref k3, .int (zI n2)])), (k1, .inl (ck1, 4, .inl f_3)), (k2, .inl (ck2, 4, .inl f_5)), (k3, .inl (ck3, 4, .inl (upd jc (jk).toNat (zI z_6)))), (h1, .inr (0, [.ref m1, .ref m2, .ref m3, .int (zI n2)])), (m1, .inl (cm1, 4, .inl gk)), (m2, .inl (cm2, 4, .inl gb)), (m3, .inl (cm3, 4, .inl gh))] H := hP
    have hD : va_D A [(h0, .inr (0, [.ref k1, .ref k2, .ref k3, .int (zI n2)])), (k1, .inl (ck1, 4, .inl f_3)), (k2, .inl (ck2, 4, .inl f_5)), (k3, .inl (ck3, 4, .inl (upd jc (jk).toNat (zI z_6)))), (h1, .inr (0, [.ref m1, .ref m2, .ref m3, .int (zI n2)])), (m1, .inl (cm1, 4, .inl gk)), (m2, .inl (cm2, 4, .inl gb)), (m3, .inl (cm3, 4, .inl gh))] := hD
    generalize ef_7 : upd jc (jk).toNat (zI z_6) = f_7 at hP hD
    refine lv_iinc (v := (zI (jk + 1))) (lv' := [(2, .int (zI (jk + 1))), (0, .ref h0), (1, .ref h1)]) hx hb dX0_takeFrom_51 hl (k := 0) rfl (kz_inc _ 1) (by decide) rfl (fun ls hl => ?_)
    refine lv_goto (tgt := 10) hx hb dX0_takeFrom_54 (by decide) ?_
    exact ih10 _ (by omega) _ _ _ ⟨(jk + 1), f_3, f_5, f_7, rfl, (by omega), (kEq_s v_101 (by omega) ez_2 ef_3), (kEq_s v_102 (by omega) ez_4 ef_5), (kEq_s v_103 (by omega) ez_6 ef_7), hP, hD, hS, lv_sub hl [0, 1, 2] rfl⟩
set_option maxRecDepth 20000 in
theorem mw_X1_begin_w_0 : (.methodLink RX1 15 Lib.Math.min.name : Cond) ∈ wsX1_begin := List.mem_cons_of_mem _ (List.mem_append_left _ (List.mem_of_getElem? (i := 0) rfl))
set_option maxRecDepth 20000 in
theorem mw_X1_begin_w_1 : (.static Lib.Math.min.name : Cond) ∈ wsX1_begin := List.mem_cons_of_mem _ (List.mem_append_left _ (List.mem_of_getElem? (i := 1) rfl))
set_option maxRecDepth 20000 in
theorem mw_X1_begin_w_2 : (.initialized "java/lang/Math" : Cond) ∈ wsX1_begin := List.mem_cons_of_mem _ (List.mem_append_left _ (List.mem_of_getElem? (i := 2) rfl))
set_option maxRecDepth 20000 in
theorem mw_X1_begin_w_3 : (.code Lib.Math.min.name Lib.Math.min.code 2 (some .int) : Cond) ∈ wsX1_begin := List.mem_cons_of_mem _ (List.mem_append_left _ (List.mem_of_getElem? (i := 3) rfl))
set_option maxRecDepth 20000 in
theorem mw_X1_begin_w_4 : (.fieldLink RX1 21 "FontRuns$Preference" "count" "I" : Cond) ∈ wsX1_begin := List.mem_cons_of_mem _ (List.mem_append_left _ (List.mem_of_getElem? (i := 4) rfl))
set_option maxRecDepth 20000 in
theorem mw_X1_begin_w_5 : (.fieldLink RX1 9 "FontRuns$Preference" "row" "[I" : Cond) ∈ wsX1_begin := List.mem_cons_of_mem _ (List.mem_append_left _ (List.mem_of_getElem? (i := 5) rfl))
theorem ax_X1_begin_w_0 {e0 e1 : Nat × va_E} : ([0, 1] : List Nat).map (fun i => ([e0, e1] : va_W)[i]?) = ([e0, e1] : va_W).map some := rfl
set_option maxHeartbeats 4000000 in
set_option maxRecDepth 100000 in
theorem c_X1_begin_w (l : Launch) (D : va_G) (sz : Nat) (k : Int) (h0 : Nat) (r1 : Nat) (n : Int) (cr1 : ClassId) (fr : Nat → Int32) (q0 : 0 ≤ k ∧ k ≤ 4) (q1 : kPr fr) : Met l yX1_begin wsX1_begin ({ frames := 1, cells := 0, slots := 0, locals := 21 }) (kPre [.ref h0, .int (zI k)] D [(h0, .inr (1, [.ref r1, .int (zI n)])), (r1, .inl (cr1, 4, .inl fr))] [(cr1, .int)] sz) (kQV (fun t => ∃ (un : Int) (uf : Nat → Int32), (0 ≤ un ∧ un ≤ 4) ∧ (kPr uf) ∧ (un = k) ∧ (kId uf k) ∧ va_P D vwCl [(h0, .inr (1, [.ref r1, .int (zI un)])), (r1, .inl (cr1, 4, .inl uf))] t.heap ∧ va_D (va_A [(h0, .inr (1, [.ref r1, .int (zI n)])), (r1, .inl (cr1, 4, .inl fr))] sz) [(h0, .inr (1, [.ref r1, .int (zI un)])), (r1, .inl (cr1, 4, .inl uf))]) (va_A [(h0, .inr (1, [.ref r1, .int (zI n)])), (r1, .inl (cr1, 4, .inl fr))] sz)) 0 0 (va_A [(h0, .inr (1, [.ref r1, .int (zI n)])), (r1, .inl (cr1, 4, .inl fr))] sz) := by
  refine Met.ofW (cc := cX1_begin) (maxL := 3) (ret := none) (by decide) rfl ?_
  intro p e s m args below meth c s₁ B hml hv
  obtain ⟨rfl, hsz, hP, hK, hD0, hN⟩ := hv
  have hx := B.exec
  have hb := B.bytes
  have hr := B.returns
  have hts := atoms_spec (ws := wsX1_begin) B.pre
  have hown : s.vm.findClass RX1 = some m.cls := findClass_of_methodNamed B.named
  have hlocks := B.notSynchronized
  subst hsz
  have hD := hD0.self (sz := s.heap.size)
  generalize hAe : va_A [(h0, .inr (1, [.ref r1, .int (zI n)])), (r1, .inl (cr1, 4, .inl fr))] s.heap.size = A at hD ⊢
  have hA : ∀ q : Nat, s.heap.size ≤ q → A q := fun q h => by rw [← hAe]; exact Or.inr h
  have hS : va_S A s.heap s.heap [] := va_S.rf
  have hP : va_P D vwCl [(h0, .inr (1, [.ref r1, .int (zI n)])), (r1, .inl (cr1, 4, .inl fr))] s.heap := hP
  have hl := lv_entry ([.ref h0, .int (zI k)]) (n := 3) (Nat.le_of_ble_eq_true rfl)
  rw [lg_entry_eq]
  generalize (lg_sl ([.ref h0, .int (zI k)]) ++ List.replicate (3 - (lg_sl ([.ref h0, .int (zI k)])).length) Slot.unset).toArray = ls at hl ⊢
  have hl : lv_has ls 3 [(0, .ref h0), (1, .int (zI k))] := hl
  refine lv_aload_n hx hb dX1_begin_0 rfl (lv_at hl 0 rfl) ?_
  refine lv_iload_n hx hb dX1_begin_1 rfl (lv_at hl 1 rfl) ?_
  refine lv_iconst (v := zI 4) hx hb dX1_begin_2 rfl ?_
  refine kz_min hx hb (by rw [hml]; exact hl.1.symm) hown (hts (.methodLink RX1 15 Lib.Math.min.name) mw_X1_begin_w_0) (hts (.static Lib.Math.min.name) mw_X1_begin_w_1) (hts (.initialized "java/lang/Math") mw_X1_begin_w_2) (hts (.code Lib.Math.min.name Lib.Math.min.code 2 (some .int)) mw_X1_begin_w_3) (Nat.le_of_ble_eq_true rfl) (Nat.le_of_ble_eq_true rfl) (Nat.le_of_ble_eq_true rfl) (Nat.le_of_ble_eq_true rfl) (by omega) (by omega) dX1_begin_3 (fun z_1 rz_1 ez_1 => ?_)
  refine va_put (D := D) (ci := 1) (v := .int (zI z_1)) (ty := .int) (C := RX1) (T := TX1) (N := 2) hx hb hts (fun _ h9 => List.mem_cons_of_mem _ (List.mem_append_right _ h9)) tyX1 tyX1_ok nmX1 hown hK hP hD hS 0 rfl rfl 1 (by decide) (hts (.fieldLink RX1 21 "FontRuns$Preference" "count" "I") mw_X1_begin_w_4) (fun _ h9 => h9) rfl (by decide +kernel) rfl rfl (Nat.le_of_ble_eq_true rfl) dX1_begin_6 (fun H locs hP hD hS => ?_)
  have hP : va_P D vwCl [(h0, .inr (1, [.ref r1, .int (zI z_1)])), (r1, .inl (cr1, 4, .inl fr))] H := hP
  have hD : va_D A [(h0, .inr (1, [.ref r1, .int (zI z_1)])), (r1, .inl (cr1, 4, .inl fr))] := hD
  refine lv_iconst (v := zI 0) hx hb dX1_begin_9 rfl ?_
  refine lv_istore_n (lv' := [(2, .int (zI 0)), (0, .ref h0), (1, .int (zI k))]) hx hb dX1_begin_10 rfl hl (by decide) rfl (fun ls hl => ?_)
  refine k_loopM (I := fun n9 H locs ls => ∃ (jk : Int) (ja : Nat → Int32), n9 = (4 - jk).toNat ∧ (0 ≤ jk ∧ jk ≤ 4) ∧ (kPr ja) ∧ (kId ja jk) ∧ va_P D vwCl [(h0, .inr (1, [.ref r1, .int (zI z_1)])), (r1, .inl (cr1, 4, .inl ja))] H ∧ va_D A [(h0, .inr (1, [.ref r1, .int (zI z_1)])), (r1, .inl (cr1, 4, .inl ja))] ∧ va_S A s.heap H locs ∧ lv_has ls 3 [(2, .int (zI jk)), (0, .ref h0), (1, .int (zI k))]) ?_ _ ⟨0, fr, rfl, (by omega), q1, kId_0, hP, hD, hS, hl⟩
  intro n11 ih11 H locs ls hI
  obtain ⟨jk, ja, en11, v_110, v_111, v_112, hP, hD, hS, hl⟩ := hI
  refine lv_iload_n hx hb dX1_begin_11 rfl (lv_at hl 0 rfl) ?_
  refine lv_aload_n hx hb dX1_begin_12 rfl (lv_at hl 1 rfl) ?_
  refine va_get (D := D) (ci := 1) (v := .int (zI z_1)) (C := RX1) (T := TX1) (N := 2) hx hb hts (fun _ h9 => List.mem_cons_of_mem _ (List.mem_append_right _ h9)) hown hK hP 0 rfl rfl 1 (by decide) (hts (.fieldLink RX1 21 "FontRuns$Preference" "count" "I") mw_X1_begin_w_4) (fun _ h9 => h9) rfl dX1_begin_13 ?_
  refine kz_icmp_ge (tgt := 32) hx hb dX1_begin_16 (by decide) (by omega) (by omega) (fun c_2 => ?_) (fun c_2 => ?_)
  · have hP9 := hP.sub (ws' := [(h0, .inr (1, [.ref r1, .int (zI z_1)])), (r1, .inl (cr1, 4, .inl ja))]) [0, 1] rfl
    have hD9 := hD.sub (ws' := [(h0, .inr (1, [.ref r1, .int (zI z_1)])), (r1, .inl (cr1, 4, .inl ja))]) [0, 1] (by decide +kernel) rfl
    exact W.vret hx hb hr (fun t ht hW => kQV_of ⟨z_1, ja, (by omega), v_111, (by omega), (kId_le v_112 (by omega)), by rw [ht]; exact hP9, hD9⟩ (hS.F ht)) hS.2.2 dX1_begin_32
  · refine lv_aload_n hx hb dX1_begin_19 rfl (lv_at hl 1 rfl) ?_
    refine va_get (D := D) (ci := 1) (v := .ref r1) (C := RX1) (T := TX1) (N := 2) hx hb hts (fun _ h9 => List.mem_cons_of_mem _ (List.mem_append_right _ h9)) hown hK hP 0 rfl rfl 0 (by decide) (hts (.fieldLink RX1 9 "FontRuns$Preference" "row" "[I") mw_X1_begin_w_5) (fun _ h9 => h9) rfl dX1_begin_20 ?_
    refine lv_iload_n hx hb dX1_begin_23 rfl (lv_at hl 0 rfl) ?_
    refine lv_iload_n hx hb dX1_begin_24 rfl (lv_at hl 0 rfl) ?_
    refine kz_iast hx hb hK hP hD hS 1 0 rfl rfl (by omega) dX1_begin_25 (fun H locs hP hD hS => ?_)
    have hP : va_P D vwCl [(h0, .inr (1, [.ref r1, .int (zI z_1)])), (r1, .inl (cr1, 4, .inl (upd ja (jk).toNat (zI jk))))] H := hP
    have hD : va_D A [(h0, .inr (1, [.ref r1, .int (zI z_1)])), (r1, .inl (cr1, 4, .inl (upd ja (jk).toNat (zI jk))))] := hD
    have k_4 : kPr (upd ja (jk).toNat (zI jk)) := kPr_upd v_111 (by omega) (by omega)
    generalize ef_3 : upd ja (jk).toNat (zI jk) = f_3 at hP hD k_4
    refine lv_iinc (v := (zI (jk + 1))) (lv' := [(2, .int (zI (jk + 1))), (0, .ref h0), (1, .int (zI k))]) hx hb dX1_begin_26 hl (k := 0) rfl (kz_inc _ 1) (by decide) rfl (fun ls hl => ?_)
    refine lv_goto (tgt := 11) hx hb dX1_begin_29 (by decide) ?_
    exact ih11 _ (by omega) _ _ _ ⟨(jk + 1), f_3, rfl, (by omega), k_4, (kId_s v_112 (by omega) ef_3), hP, hD, hS, lv_sub hl [0, 1, 2] rfl⟩
set_option maxRecDepth 20000 in
theorem mw_X1_placeOf_w_0 : (.fieldLink RX1 21 "FontRuns$Preference" "count" "I" : Cond) ∈ wsX1_placeOf := List.mem_cons_of_mem _ (List.mem_append_left _ (List.mem_of_getElem? (i := 0) rfl))
set_option maxRecDepth 20000 in
theorem mw_X1_placeOf_w_1 : (.fieldLink RX1 9 "FontRuns$Preference" "row" "[I" : Cond) ∈ wsX1_placeOf := List.mem_cons_of_mem _ (List.mem_append_left _ (List.mem_of_getElem? (i := 1) rfl))
set_option maxHeartbeats 4000000 in
set_option maxRecDepth 100000 in
theorem c_X1_placeOf_w (l : Launch) (D : va_G) (sz : Nat) (f : Int) (h0 : Nat) (r1 : Nat) (n : Int) (cr1 : ClassId) (fr : Nat → Int32) (q0 : rg f) (q1 : 0 ≤ n ∧ n ≤ 4) (q2 : kPr fr) : Met l yX1_placeOf wsX1_placeOf ({ frames := 0, cells := 0, slots := 0, locals := 0 }) (kPre [.ref h0, .int (zI f)] D [(h0, .inr (1, [.ref r1, .int (zI n)])), (r1, .inl (cr1, 4, .inl fr))] [(cr1, .int)] sz) (QcP (fun rz => (rz = -9 ∨ (0 ≤ rz ∧ rz ≤ n - 1 ∧ 0 ≤ f ∧ f ≤ 3)) ∧ kPl fr n f rz)) 0 0 (fun _ => False) := by
  refine Met.ofW (cc := cX1_placeOf) (maxL := 3) (ret := (some .int)) (by decide) rfl ?_
  intro p e s m args below meth c s₁ B hml hv
  obtain ⟨rfl, hsz, hP, hK, hD0, hN⟩ := hv
  have hx := B.exec
  have hb := B.bytes
  have hr := B.returns
  have hts := atoms_spec (ws := wsX1_placeOf) B.pre
  have hown : s.vm.findClass RX1 = some m.cls := findClass_of_methodNamed B.named
  have hlocks := B.notSynchronized
  subst hsz
  have hD := hD0
  have hP : va_P D vwCl [(h0, .inr (1, [.ref r1, .int (zI n)])), (r1, .inl (cr1, 4, .inl fr))] s.heap := hP
  have hl := lv_entry ([.ref h0, .int (zI f)]) (n := 3) (Nat.le_of_ble_eq_true rfl)
  rw [lg_entry_eq]
  generalize (lg_sl ([.ref h0, .int (zI f)]) ++ List.replicate (3 - (lg_sl ([.ref h0, .int (zI f)])).length) Slot.unset).toArray = ls at hl ⊢
  have hl : lv_has ls 3 [(0, .ref h0), (1, .int (zI f))] := hl
  refine lv_iconst (v := zI 0) hx hb dX1_placeOf_0 rfl ?_
  refine lv_istore_n (lv' := [(2, .int (zI 0)), (0, .ref h0), (1, .int (zI f))]) hx hb dX1_placeOf_1 rfl hl (by decide) rfl (fun ls hl => ?_)
  refine k_loopM (I := fun n9 H locs ls => ∃ (jk : Int), n9 = (n - jk).toNat ∧ (0 ≤ jk ∧ jk ≤ n) ∧ (kNo fr f jk) ∧ H = s.heap ∧ locs = [] ∧ lv_has ls 3 [(2, .int (zI jk)), (0, .ref h0), (1, .int (zI f))]) ?_ _ ⟨0, rfl, (by omega), kNo_0, rfl, rfl, hl⟩
  intro n2 ih2 H locs ls hI
  obtain ⟨jk, en2, v_20, v_21, eH, eL, hl⟩ := hI
  subst eH
  subst eL
  refine lv_iload_n hx hb dX1_placeOf_2 rfl (lv_at hl 0 rfl) ?_
  refine lv_aload_n hx hb dX1_placeOf_3 rfl (lv_at hl 1 rfl) ?_
  refine va_get (D := D) (ci := 1) (v := .int (zI n)) (C := RX1) (T := TX1) (N := 2) hx hb hts (fun _ h9 => List.mem_cons_of_mem _ (List.mem_append_right _ h9)) hown hK hP 0 rfl rfl 1 (by decide) (hts (.fieldLink RX1 21 "FontRuns$Preference" "count" "I") mw_X1_placeOf_w_0) (fun _ h9 => h9) rfl dX1_placeOf_4 ?_
  refine kz_icmp_ge (tgt := 28) hx hb dX1_placeOf_7 (by decide) (by omega) (by omega) (fun c_1 => ?_) (fun c_1 => ?_)
  · refine lv_bipush (v := zI (-9)) hx hb dX1_placeOf_28 (by decide) ?_
    exact W.iret (v := (zI (-9))) hx hb hr (fun t ht hW => QcP_of (by omega) ⟨by omega, kPl_1 v_21 (by omega) rfl⟩ ht) (fun _ h9 => by cases h9) dX1_placeOf_30
  · refine lv_aload_n hx hb dX1_placeOf_10 rfl (lv_at hl 1 rfl) ?_
    refine va_get (D := D) (ci := 1) (v := .ref r1) (C := RX1) (T := TX1) (N := 2) hx hb hts (fun _ h9 => List.mem_cons_of_mem _ (List.mem_append_right _ h9)) hown hK hP 0 rfl rfl 0 (by decide) (hts (.fieldLink RX1 9 "FontRuns$Preference" "row" "[I") mw_X1_placeOf_w_1) (fun _ h9 => h9) rfl dX1_placeOf_11 ?_
    refine lv_iload_n hx hb dX1_placeOf_14 rfl (lv_at hl 0 rfl) ?_
    refine kz_iald hx hb hK hP 1 0 rfl rfl (by omega) dX1_placeOf_15 (fun z_2 rz_2 ez_2 => ?_)
    have bz_2 := kPr_at q2 (by omega) rz_2 ez_2
    refine lv_iload_n hx hb dX1_placeOf_16 rfl (lv_at hl 2 rfl) ?_
    refine kz_icmp_ne (tgt := 22) hx hb dX1_placeOf_17 (by decide) (by omega) (by omega) (fun c_3 => ?_) (fun c_3 => ?_)
    · refine lv_iinc (v := (zI (jk + 1))) (lv' := [(2, .int (zI (jk + 1))), (0, .ref h0), (1, .int (zI f))]) hx hb dX1_placeOf_22 hl (k := 0) rfl (kz_inc _ 1) (by decide) rfl (fun ls hl => ?_)
      refine lv_goto (tgt := 2) hx hb dX1_placeOf_25 (by decide) ?_
      exact ih2 _ (by omega) _ _ _ ⟨(jk + 1), rfl, (by omega), (kNo_s v_21 (by omega) rz_2 (by omega) ez_2 (by omega)), rfl, rfl, lv_sub hl [0, 1, 2] rfl⟩
    · refine lv_iload_n hx hb dX1_placeOf_20 rfl (lv_at hl 0 rfl) ?_
      exact W.iret (v := (zI jk)) hx hb hr (fun t ht hW => QcP_of (by omega) ⟨by omega, kPl_2 v_21 (by omega) ez_2 (by omega)⟩ ht) (fun _ h9 => by cases h9) dX1_placeOf_21
set_option maxRecDepth 20000 in
theorem mw_X1_lead_w_0 : (.fieldLink RX1 9 "FontRuns$Preference" "row" "[I" : Cond) ∈ wsX1_lead := List.mem_cons_of_mem _ (List.mem_append_left _ (List.mem_of_getElem? (i := 0) rfl))
theorem ax_X1_lead_w_0 {e0 e1 : Nat × va_E} : ([0, 1] : List Nat).map (fun i => ([e0, e1] : va_W)[i]?) = ([e0, e1] : va_W).map some := rfl
set_option maxHeartbeats 4000000 in
set_option maxRecDepth 100000 in
theorem c_X1_lead_w (l : Launch) (D : va_G) (sz : Nat) (f : Int) (h0 : Nat) (r1 : Nat) (n : Int) (cr1 : ClassId) (fr : Nat → Int32) (q0 : rg f) (q1 : 0 ≤ n ∧ n ≤ 4) (q2 : kPr fr) : Met l yX1_lead wsX1_lead ({ frames := 1, cells := 0, slots := 0, locals := 22 }) (kPre [.ref h0, .int (zI f)] D [(h0, .inr (1, [.ref r1, .int (zI n)])), (r1, .inl (cr1, 4, .inl fr))] [(cr1, .int)] sz) (kQS (fun rz t => ∃ (uf : Nat → Int32), (kPr uf) ∧ (rz = 0 ∨ rz = 1) ∧ (kLd fr n f uf rz) ∧ va_P D vwCl [(h0, .inr (1, [.ref r1, .int (zI n)])), (r1, .inl (cr1, 4, .inl uf))] t.heap ∧ va_D (va_A [(h0, .inr (1, [.ref r1, .int (zI n)])), (r1, .inl (cr1, 4, .inl fr))] sz) [(h0, .inr (1, [.ref r1, .int (zI n)])), (r1, .inl (cr1, 4, .inl uf))]) (va_A [(h0, .inr (1, [.ref r1, .int (zI n)])), (r1, .inl (cr1, 4, .inl fr))] sz)) 0 0 (va_A [(h0, .inr (1, [.ref r1, .int (zI n)])), (r1, .inl (cr1, 4, .inl fr))] sz) := by
  refine Met.ofW (cc := cX1_lead) (maxL := 4) (ret := (some .boolean)) (by decide) rfl ?_
  intro p e s m args below meth c s₁ B hml hv
  obtain ⟨rfl, hsz, hP, hK, hD0, hN⟩ := hv
  have hx := B.exec
  have hb := B.bytes
  have hr := B.returns
  have hts := atoms_spec (ws := wsX1_lead) B.pre
  have hown : s.vm.findClass RX1 = some m.cls := findClass_of_methodNamed B.named
  have hlocks := B.notSynchronized
  subst hsz
  have hD := hD0.self (sz := s.heap.size)
  generalize hAe : va_A [(h0, .inr (1, [.ref r1, .int (zI n)])), (r1, .inl (cr1, 4, .inl fr))] s.heap.size = A at hD ⊢
  have hA : ∀ q : Nat, s.heap.size ≤ q → A q := fun q h => by rw [← hAe]; exact Or.inr h
  have hS : va_S A s.heap s.heap [] := va_S.rf
  have hP : va_P D vwCl [(h0, .inr (1, [.ref r1, .int (zI n)])), (r1, .inl (cr1, 4, .inl fr))] s.heap := hP
  have hl := lv_entry ([.ref h0, .int (zI f)]) (n := 4) (Nat.le_of_ble_eq_true rfl)
  rw [lg_entry_eq]
  generalize (lg_sl ([.ref h0, .int (zI f)]) ++ List.replicate (4 - (lg_sl ([.ref h0, .int (zI f)])).length) Slot.unset).toArray = ls at hl ⊢
  have hl : lv_has ls 4 [(0, .ref h0), (1, .int (zI f))] := hl
  refine lv_aload_n hx hb dX1_lead_0 rfl (lv_at hl 0 rfl) ?_
  refine lv_iload_n hx hb dX1_lead_1 rfl (lv_at hl 1 rfl) ?_
  refine k_callP (va_runV (As := [.int (zI f)]) (rest := []) ⟨hx, hb, hml, hown, hts⟩ (c_X1_placeOf_w l D s.heap.size (f := f) (h0 := h0) (r1 := r1) (n := n) (cr1 := cr1) (fr := fr) q0 q1 q2) (cwV 1 hts gX1_lead_X1_placeOf rfl rfl rfl (by decide +kernel) ⟨Nat.le_of_ble_eq_true rfl, Nat.le_of_ble_eq_true rfl⟩) (kPreV hP (kD0 hD) hK hN [0, 1] [0] ax_X1_lead_w_0 rfl (by decide +kernel) 0 1 rfl rfl) rfl rfl hl.1 rfl (lv_room (Nat.le_of_ble_eq_true rfl)) dX1_lead_2 ⟨Nat.le_of_ble_eq_true rfl, Nat.le_of_ble_eq_true rfl⟩) (fun z_1 rz_1 h_2 => ?_)
  refine lv_istore_n (lv' := [(2, .int (zI z_1)), (0, .ref h0), (1, .int (zI f))]) hx hb dX1_lead_5 rfl hl (by decide) rfl (fun ls hl => ?_)
  refine lv_iload_n hx hb dX1_lead_6 rfl (lv_at hl 0 rfl) ?_
  refine lv_bipush (v := zI (-9)) hx hb dX1_lead_7 (by decide) ?_
  refine kz_icmp_ne (tgt := 14) hx hb dX1_lead_9 (by decide) (by omega) (by omega) (fun c_3 => ?_) (fun c_3 => ?_)
  · refine lv_iload_n hx hb dX1_lead_14 rfl (lv_at hl 0 rfl) ?_
    refine lv_istore_n (lv' := [(3, .int (zI z_1)), (2, .int (zI z_1)), (0, .ref h0), (1, .int (zI f))]) hx hb dX1_lead_15 rfl hl (by decide) rfl (fun ls hl => ?_)
    refine k_loopM (I := fun n9 H locs ls => ∃ (jk : Int) (ja : Nat → Int32), n9 = (jk).toNat ∧ (0 ≤ jk ∧ jk ≤ z_1) ∧ (kPr ja) ∧ (ja = kMv fr z_1 jk) ∧ va_P D vwCl [(h0, .inr (1, [.ref r1, .int (zI n)])), (r1, .inl (cr1, 4, .inl ja))] H ∧ va_D A [(h0, .inr (1, [.ref r1, .int (zI n)])), (r1, .inl (cr1, 4, .inl ja))] ∧ va_S A s.heap H locs ∧ lv_has ls 4 [(3, .int (zI jk)), (2, .int (zI z_1)), (0, .ref h0), (1, .int (zI f))]) ?_ _ ⟨z_1, fr, rfl, (by omega), q2, (kMv_0 _ _).symm, hP, hD, hS, hl⟩
    intro n16 ih16 H locs ls hI
    obtain ⟨jk, ja, en16, v_160, v_161, v_162, hP, hD, hS, hl⟩ := hI
    refine lv_iload_n hx hb dX1_lead_16 rfl (lv_at hl 0 rfl) ?_
    refine kz_if_le (tgt := 40) hx hb dX1_lead_17 (by decide) (by omega) (fun c_4 => ?_) (fun c_4 => ?_)
    · refine lv_aload_n hx hb dX1_lead_40 rfl (lv_at hl 2 rfl) ?_
      refine va_get (D := D) (ci := 1) (v := .ref r1) (C := RX1) (T := TX1) (N := 2) hx hb hts (fun _ h9 => List.mem_cons_of_mem _ (List.mem_append_right _ h9)) hown hK hP 0 rfl rfl 0 (by decide) (hts (.fieldLink RX1 9 "FontRuns$Preference" "row" "[I") mw_X1_lead_w_0) (fun _ h9 => h9) rfl dX1_lead_41 ?_
      refine lv_iconst (v := zI 0) hx hb dX1_lead_44 rfl ?_
      refine lv_iload_n hx hb dX1_lead_45 rfl (lv_at hl 3 rfl) ?_
      refine kz_iast hx hb hK hP hD hS 1 0 rfl rfl (by omega) dX1_lead_46 (fun H locs hP hD hS => ?_)
      have hP : va_P D vwCl [(h0, .inr (1, [.ref r1, .int (zI n)])), (r1, .inl (cr1, 4, .inl (upd ja (0 : Int).toNat (zI f))))] H := hP
      have hD : va_D A [(h0, .inr (1, [.ref r1, .int (zI n)])), (r1, .inl (cr1, 4, .inl (upd ja (0 : Int).toNat (zI f))))] := hD
      have k_6 : kPr (upd ja (0 : Int).toNat (zI f)) := kPr_upd v_161 (by omega) (by omega)
      generalize ef_5 : upd ja (0 : Int).toNat (zI f) = f_5 at hP hD k_6
      refine lv_iconst (v := zI 1) hx hb dX1_lead_47 rfl ?_
      have hP9 := hP.sub (ws' := [(h0, .inr (1, [.ref r1, .int (zI n)])), (r1, .inl (cr1, 4, .inl f_5))]) [0, 1] rfl
      have hD9 := hD.sub (ws' := [(h0, .inr (1, [.ref r1, .int (zI n)])), (r1, .inl (cr1, 4, .inl f_5))]) [0, 1] (by decide +kernel) rfl
      exact W.zret (v := (zI 1)) hx hb hr rfl (fun t ht hW => kQS_of (by omega) ⟨f_5, k_6, (by omega), (kLd_2 h_2.2 (by omega) (by omega) v_162 (by omega) ef_5), by rw [ht]; exact hP9, hD9⟩ (hS.F ht)) hS.2.2 dX1_lead_48
    · refine lv_aload_n hx hb dX1_lead_20 rfl (lv_at hl 2 rfl) ?_
      refine va_get (D := D) (ci := 1) (v := .ref r1) (C := RX1) (T := TX1) (N := 2) hx hb hts (fun _ h9 => List.mem_cons_of_mem _ (List.mem_append_right _ h9)) hown hK hP 0 rfl rfl 0 (by decide) (hts (.fieldLink RX1 9 "FontRuns$Preference" "row" "[I") mw_X1_lead_w_0) (fun _ h9 => h9) rfl dX1_lead_21 ?_
      refine lv_iload_n hx hb dX1_lead_24 rfl (lv_at hl 0 rfl) ?_
      refine lv_aload_n hx hb dX1_lead_25 rfl (lv_at hl 2 rfl) ?_
      refine va_get (D := D) (ci := 1) (v := .ref r1) (C := RX1) (T := TX1) (N := 2) hx hb hts (fun _ h9 => List.mem_cons_of_mem _ (List.mem_append_right _ h9)) hown hK hP 0 rfl rfl 0 (by decide) (hts (.fieldLink RX1 9 "FontRuns$Preference" "row" "[I") mw_X1_lead_w_0) (fun _ h9 => h9) rfl dX1_lead_26 ?_
      refine lv_iload_n hx hb dX1_lead_29 rfl (lv_at hl 0 rfl) ?_
      refine lv_iconst (v := zI 1) hx hb dX1_lead_30 rfl ?_
      refine kz_isub hx hb dX1_lead_31 ?_
      refine kz_iald hx hb hK hP 1 0 rfl rfl (by omega) dX1_lead_32 (fun z_7 rz_7 ez_7 => ?_)
      have bz_7 := kPr_at v_161 (by omega) rz_7 ez_7
      refine kz_iast hx hb hK hP hD hS 1 0 rfl rfl (by omega) dX1_lead_33 (fun H locs hP hD hS => ?_)
      have hP : va_P D vwCl [(h0, .inr (1, [.ref r1, .int (zI n)])), (r1, .inl (cr1, 4, .inl (upd ja (jk).toNat (zI z_7))))] H := hP
      have hD : va_D A [(h0, .inr (1, [.ref r1, .int (zI n)])), (r1, .inl (cr1, 4, .inl (upd ja (jk).toNat (zI z_7))))] := hD
      have k_9 : kPr (upd ja (jk).toNat (zI z_7)) := kPr_upd v_161 (by omega) (by omega)
      generalize ef_8 : upd ja (jk).toNat (zI z_7) = f_8 at hP hD k_9
      refine lv_iinc (v := (zI (jk - 1))) (lv' := [(3, .int (zI (jk - 1))), (2, .int (zI z_1)), (0, .ref h0), (1, .int (zI f))]) hx hb dX1_lead_34 hl (k := 0) rfl (kz_dec _ 1) (by decide) rfl (fun ls hl => ?_)
      refine lv_goto (tgt := 16) hx hb dX1_lead_37 (by decide) ?_
      exact ih16 _ (by omega) _ _ _ ⟨(jk - 1), f_8, rfl, (by omega), k_9, (by rw [← ef_8, v_162]; exact kMv_1 fr (by omega) (by rw [← v_162]; exact ez_7)), hP, hD, hS, lv_sub hl [0, 1, 2, 3] rfl⟩
  · refine lv_iconst (v := zI 0) hx hb dX1_lead_12 rfl ?_
    have hP9 := hP.sub (ws' := [(h0, .inr (1, [.ref r1, .int (zI n)])), (r1, .inl (cr1, 4, .inl fr))]) [0, 1] rfl
    have hD9 := hD.sub (ws' := [(h0, .inr (1, [.ref r1, .int (zI n)])), (r1, .inl (cr1, 4, .inl fr))]) [0, 1] (by decide +kernel) rfl
    exact W.zret (v := (zI 0)) hx hb hr rfl (fun t ht hW => kQS_of (by omega) ⟨fr, q2, (by omega), (kLd_1 h_2.2 (by omega) (by omega)), by rw [ht]; exact hP9, hD9⟩ (hS.F ht)) hS.2.2 dX1_lead_13
theorem dX3_keep_0 : decode cX3_keep 0 = .ok (.iconst 4, 1) := kqo_07 kbl_X3_keep (pc := 0) rfl
theorem dX3_keep_1 : decode cX3_keep 1 = .ok (.istore_n 2, 1) := kqo_3d kbl_X3_keep (pc := 1) rfl
theorem dX3_keep_2 : decode cX3_keep 2 = .ok (.iload_n 2, 1) := kqo_1c kbl_X3_keep (pc := 2) rfl
theorem dX3_keep_3 : decode cX3_keep 3 = .ok (.ifCond .le 23, 3) := kqo_9e (x1 := 0) (x2 := 23) kbl_X3_keep (pc := 3) rfl rfl
theorem dX3_keep_6 : decode cX3_keep 6 = .ok (.aload_n 0, 1) := kqo_2a kbl_X3_keep (pc := 6) rfl
theorem dX3_keep_7 : decode cX3_keep 7 = .ok (.getfield 9, 3) := kqo_b4 (x1 := 0) (x2 := 9) kbl_X3_keep (pc := 7) rfl rfl
theorem dX3_keep_10 : decode cX3_keep 10 = .ok (.iload_n 2, 1) := kqo_1c kbl_X3_keep (pc := 10) rfl
theorem dX3_keep_11 : decode cX3_keep 11 = .ok (.aload_n 0, 1) := kqo_2a kbl_X3_keep (pc := 11) rfl
theorem dX3_keep_12 : decode cX3_keep 12 = .ok (.getfield 9, 3) := kqo_b4 (x1 := 0) (x2 := 9) kbl_X3_keep (pc := 12) rfl rfl
theorem dX3_keep_15 : decode cX3_keep 15 = .ok (.iload_n 2, 1) := kqo_1c kbl_X3_keep (pc := 15) rfl
theorem dX3_keep_16 : decode cX3_keep 16 = .ok (.iconst 1, 1) := kqo_04 kbl_X3_keep (pc := 16) rfl
theorem dX3_keep_17 : decode cX3_keep 17 = .ok (.isub, 1) := kqo_64 kbl_X3_keep (pc := 17) rfl
theorem dX3_keep_18 : decode cX3_keep 18 = .ok (.iaload, 1) := kqo_2e kbl_X3_keep (pc := 18) rfl
theorem dX3_keep_19 : decode cX3_keep 19 = .ok (.iastore, 1) := kqo_4f kbl_X3_keep (pc := 19) rfl
theorem dX3_keep_20 : decode cX3_keep 20 = .ok (.iinc 2 (-1), 3) := kqo_84 (x1 := 2) (x2 := 255) kbl_X3_keep (pc := 20) rfl rfl
theorem dX3_keep_23 : decode cX3_keep 23 = .ok (.goto (-21), 3) := kqo_a7 (x1 := 255) (x2 := 235) kbl_X3_keep (pc := 23) rfl rfl
theorem dX3_keep_26 : decode cX3_keep 26 = .ok (.aload_n 0, 1) := kqo_2a kbl_X3_keep (pc := 26) rfl
theorem dX3_keep_27 : decode cX3_keep 27 = .ok (.getfield 9, 3) := kqo_b4 (x1 := 0) (x2 := 9) kbl_X3_keep (pc := 27) rfl rfl
theorem dX3_keep_30 : decode cX3_keep 30 = .ok (.iconst 0, 1) := kqo_03 kbl_X3_keep (pc := 30) rfl
theorem dX3_keep_31 : decode cX3_keep 31 = .ok (.iload_n 1, 1) := kqo_1b kbl_X3_keep (pc := 31) rfl
theorem dX3_keep_32 : decode cX3_keep 32 = .ok (.iastore, 1) := kqo_4f kbl_X3_keep (pc := 32) rfl
theorem dX3_keep_33 : decode cX3_keep 33 = .ok (.aload_n 0, 1) := kqo_2a kbl_X3_keep (pc := 33) rfl
theorem dX3_keep_34 : decode cX3_keep 34 = .ok (.aload_n 0, 1) := kqo_2a kbl_X3_keep (pc := 34) rfl
theorem dX3_keep_35 : decode cX3_keep 35 = .ok (.getfield 15, 3) := kqo_b4 (x1 := 0) (x2 := 15) kbl_X3_keep (pc := 35) rfl rfl
theorem dX3_keep_38 : decode cX3_keep 38 = .ok (.iconst 1, 1) := kqo_04 kbl_X3_keep (pc := 38) rfl
theorem dX3_keep_39 : decode cX3_keep 39 = .ok (.iadd, 1) := kqo_60 kbl_X3_keep (pc := 39) rfl
theorem dX3_keep_40 : decode cX3_keep 40 = .ok (.iconst 5, 1) := kqo_08 kbl_X3_keep (pc := 40) rfl
theorem dX3_keep_41 : decode cX3_keep 41 = .ok (.invokestatic 19, 3) := kqo_b8 (x1 := 0) (x2 := 19) kbl_X3_keep (pc := 41) rfl rfl
theorem dX3_keep_44 : decode cX3_keep 44 = .ok (.putfield 15, 3) := kqo_b5 (x1 := 0) (x2 := 15) kbl_X3_keep (pc := 44) rfl rfl
theorem dX3_keep_47 : decode cX3_keep 47 = .ok (.return_, 1) := kqo_b1 kbl_X3_keep (pc := 47) rfl
set_option maxRecDepth 20000 in
theorem mw_X3_keep_w_0 : (.fieldLink RX3 9 "FontRuns$Recent" "row" "[I" : Cond) ∈ wsX3_keep := List.mem_cons_of_mem _ (List.mem_append_left _ (List.mem_of_getElem? (i := 0) rfl))
set_option maxRecDepth 20000 in
theorem mw_X3_keep_w_1 : (.fieldLink RX3 15 "FontRuns$Recent" "count" "I" : Cond) ∈ wsX3_keep := List.mem_cons_of_mem _ (List.mem_append_left _ (List.mem_of_getElem? (i := 1) rfl))
set_option maxRecDepth 20000 in
theorem mw_X3_keep_w_2 : (.methodLink RX3 19 Lib.Math.min.name : Cond) ∈ wsX3_keep := List.mem_cons_of_mem _ (List.mem_append_left _ (List.mem_of_getElem? (i := 2) rfl))
set_option maxRecDepth 20000 in
theorem mw_X3_keep_w_3 : (.static Lib.Math.min.name : Cond) ∈ wsX3_keep := List.mem_cons_of_mem _ (List.mem_append_left _ (List.mem_of_getElem? (i := 3) rfl))
set_option maxRecDepth 20000 in
theorem mw_X3_keep_w_4 : (.initialized "java/lang/Math" : Cond) ∈ wsX3_keep := List.mem_cons_of_mem _ (List.mem_append_left _ (List.mem_of_getElem? (i := 4) rfl))
set_option maxRecDepth 20000 in
theorem mw_X3_keep_w_5 : (.code Lib.Math.min.name Lib.Math.min.code 2 (some .int) : Cond) ∈ wsX3_keep := List.mem_cons_of_mem _ (List.mem_append_left _ (List.mem_of_getElem? (i := 5) rfl))
theorem ax_X3_keep_w_0 {e0 e1 : Nat × va_E} : ([0, 1] : List Nat).map (fun i => ([e0, e1] : va_W)[i]?) = ([e0, e1] : va_W).map some := rfl
set_option maxHeartbeats 4000000 in
set_option maxRecDepth 100000 in
theorem c_X3_keep_w (l : Launch) (D : va_G) (sz : Nat) (f : Int) (h0 : Nat) (r1 : Nat) (n : Int) (cr1 : ClassId) (fr : Nat → Int32) (q0 : rg f) (q1 : 0 ≤ n ∧ n ≤ 5) : Met l yX3_keep wsX3_keep ({ frames := 1, cells := 0, slots := 0, locals := 21 }) (kPre [.ref h0, .int (zI f)] D [(h0, .inr (3, [.ref r1, .int (zI n)])), (r1, .inl (cr1, 5, .inl fr))] [(cr1, .int)] sz) (kQV (fun t => ∃ (un : Int) (uf : Nat → Int32), (0 ≤ un ∧ un ≤ 5) ∧ ((n ≤ 4 ∧ un = n + 1) ∨ (n = 5 ∧ un = 5)) ∧ (uf = upd (kMv fr 4 0) 0 (zI f)) ∧ va_P D vwCl [(h0, .inr (3, [.ref r1, .int (zI un)])), (r1, .inl (cr1, 5, .inl uf))] t.heap ∧ va_D (va_A [(h0, .inr (3, [.ref r1, .int (zI n)])), (r1, .inl (cr1, 5, .inl fr))] sz) [(h0, .inr (3, [.ref r1, .int (zI un)])), (r1, .inl (cr1, 5, .inl uf))]) (va_A [(h0, .inr (3, [.ref r1, .int (zI n)])), (r1, .inl (cr1, 5, .inl fr))] sz)) 0 0 (va_A [(h0, .inr (3, [.ref r1, .int (zI n)])), (r1, .inl (cr1, 5, .inl fr))] sz) := by
  refine Met.ofW (cc := cX3_keep) (maxL := 3) (ret := none) (by decide) rfl ?_
  intro p e s m args below meth c s₁ B hml hv
  obtain ⟨rfl, hsz, hP, hK, hD0, hN⟩ := hv
  have hx := B.exec
  have hb := B.bytes
  have hr := B.returns
  have hts := atoms_spec (ws := wsX3_keep) B.pre
  have hown : s.vm.findClass RX3 = some m.cls := findClass_of_methodNamed B.named
  have hlocks := B.notSynchronized
  subst hsz
  have hD := hD0.self (sz := s.heap.size)
  generalize hAe : va_A [(h0, .inr (3, [.ref r1, .int (zI n)])), (r1, .inl (cr1, 5, .inl fr))] s.heap.size = A at hD ⊢
  have hA : ∀ q : Nat, s.heap.size ≤ q → A q := fun q h => by rw [← hAe]; exact Or.inr h
  have hS : va_S A s.heap s.heap [] := va_S.rf
  have hP : va_P D vwCl [(h0, .inr (3, [.ref r1, .int (zI n)])), (r1, .inl (cr1, 5, .inl fr))] s.heap := hP
  have hl := lv_entry ([.ref h0, .int (zI f)]) (n := 3) (Nat.le_of_ble_eq_true rfl)
  rw [lg_entry_eq]
  generalize (lg_sl ([.ref h0, .int (zI f)]) ++ List.replicate (3 - (lg_sl ([.ref h0, .int (zI f)])).length) Slot.unset).toArray = ls at hl ⊢
  have hl : lv_has ls 3 [(0, .ref h0), (1, .int (zI f))] := hl
  refine lv_iconst (v := zI 4) hx hb dX3_keep_0 rfl ?_
  refine lv_istore_n (lv' := [(2, .int (zI 4)), (0, .ref h0), (1, .int (zI f))]) hx hb dX3_keep_1 rfl hl (by decide) rfl (fun ls hl => ?_)
  refine k_loopM (I := fun n9 H locs ls => ∃ (jk : Int) (ja : Nat → Int32), n9 = (jk).toNat ∧ (0 ≤ jk ∧ jk ≤ 4) ∧ (ja = kMv fr 4 jk) ∧ va_P D vwCl [(h0, .inr (3, [.ref r1, .int (zI n)])), (r1, .inl (cr1, 5, .inl ja))] H ∧ va_D A [(h0, .inr (3, [.ref r1, .int (zI n)])), (r1, .inl (cr1, 5, .inl ja))] ∧ va_S A s.heap H locs ∧ lv_has ls 3 [(2, .int (zI jk)), (0, .ref h0), (1, .int (zI f))]) ?_ _ ⟨4, fr, rfl, (by omega), (kMv_0 _ _).symm, hP, hD, hS, hl⟩
  intro n2 ih2 H locs ls hI
  obtain ⟨jk, ja, en2, v_20, v_21, hP, hD, hS, hl⟩ := hI
  refine lv_iload_n hx hb dX3_keep_2 rfl (lv_at hl 0 rfl) ?_
  refine kz_if_le (tgt := 26) hx hb dX3_keep_3 (by decide) (by omega) (fun c_1 => ?_) (fun c_1 => ?_)
  · refine lv_aload_n hx hb dX3_keep_26 rfl (lv_at hl 1 rfl) ?_
    refine va_get (D := D) (ci := 3) (v := .ref r1) (C := RX3) (T := TX3) (N := 2) hx hb hts (fun _ h9 => List.mem_cons_of_mem _ (List.mem_append_right _ h9)) hown hK hP 0 rfl rfl 0 (by decide) (hts (.fieldLink RX3 9 "FontRuns$Recent" "row" "[I") mw_X3_keep_w_0) (fun _ h9 => h9) rfl dX3_keep_27 ?_
    refine lv_iconst (v := zI 0) hx hb dX3_keep_30 rfl ?_
    refine lv_iload_n hx hb dX3_keep_31 rfl (lv_at hl 2 rfl) ?_
    refine kz_iast hx hb hK hP hD hS 1 0 rfl rfl (by omega) dX3_keep_32 (fun H locs hP hD hS => ?_)
    have hP : va_P D vwCl [(h0, .inr (3, [.ref r1, .int (zI n)])), (r1, .inl (cr1, 5, .inl (upd ja (0 : Int).toNat (zI f))))] H := hP
    have hD : va_D A [(h0, .inr (3, [.ref r1, .int (zI n)])), (r1, .inl (cr1, 5, .inl (upd ja (0 : Int).toNat (zI f))))] := hD
    generalize ef_2 : upd ja (0 : Int).toNat (zI f) = f_2 at hP hD
    refine lv_aload_n hx hb dX3_keep_33 rfl (lv_at hl 1 rfl) ?_
    refine lv_aload_n hx hb dX3_keep_34 rfl (lv_at hl 1 rfl) ?_
    refine va_get (D := D) (ci := 3) (v := .int (zI n)) (C := RX3) (T := TX3) (N := 2) hx hb hts (fun _ h9 => List.mem_cons_of_mem _ (List.mem_append_right _ h9)) hown hK hP 0 rfl rfl 1 (by decide) (hts (.fieldLink RX3 15 "FontRuns$Recent" "count" "I") mw_X3_keep_w_1) (fun _ h9 => h9) rfl dX3_keep_35 ?_
    refine lv_iconst (v := zI 1) hx hb dX3_keep_38 rfl ?_
    refine kz_iadd hx hb dX3_keep_39 ?_
    refine lv_iconst (v := zI 5) hx hb dX3_keep_40 rfl ?_
    refine kz_min hx hb (by rw [hml]; exact hl.1.symm) hown (hts (.methodLink RX3 19 Lib.Math.min.name) mw_X3_keep_w_2) (hts (.static Lib.Math.min.name) mw_X3_keep_w_3) (hts (.initialized "java/lang/Math") mw_X3_keep_w_4) (hts (.code Lib.Math.min.name Lib.Math.min.code 2 (some .int)) mw_X3_keep_w_5) (Nat.le_of_ble_eq_true rfl) (Nat.le_of_ble_eq_true rfl) (Nat.le_of_ble_eq_true rfl) (Nat.le_of_ble_eq_true rfl) (by omega) (by omega) dX3_keep_41 (fun z_3 rz_3 ez_3 => ?_)
    refine va_put (D := D) (ci := 3) (v := .int (zI z_3)) (ty := .int) (C := RX3) (T := TX3) (N := 2) hx hb hts (fun _ h9 => List.mem_cons_of_mem _ (List.mem_append_right _ h9)) tyX3 tyX3_ok nmX3 hown hK hP hD hS 0 rfl rfl 1 (by decide) (hts (.fieldLink RX3 15 "FontRuns$Recent" "count" "I") mw_X3_keep_w_1) (fun _ h9 => h9) rfl (by decide +kernel) rfl rfl (Nat.le_of_ble_eq_true rfl) dX3_keep_44 (fun H locs hP hD hS => ?_)
    have hP : va_P D vwCl [(h0, .inr (3, [.ref r1, .int (zI z_3)])), (r1, .inl (cr1, 5, .inl f_2))] H := hP
    have hD : va_D A [(h0, .inr (3, [.ref r1, .int (zI z_3)])), (r1, .inl (cr1, 5, .inl f_2))] := hD
    have hP9 := hP.sub (ws' := [(h0, .inr (3, [.ref r1, .int (zI z_3)])), (r1, .inl (cr1, 5, .inl f_2))]) [0, 1] rfl
    have hD9 := hD.sub (ws' := [(h0, .inr (3, [.ref r1, .int (zI z_3)])), (r1, .inl (cr1, 5, .inl f_2))]) [0, 1] (by decide +kernel) rfl
    exact W.vret hx hb hr (fun t ht hW => kQV_of ⟨z_3, f_2, (by omega), (by omega), (kMvE ef_2 v_21 (by omega)), by rw [ht]; exact hP9, hD9⟩ (hS.F ht)) hS.2.2 dX3_keep_47
  · refine lv_aload_n hx hb dX3_keep_6 rfl (lv_at hl 1 rfl) ?_
    refine va_get (D := D) (ci := 3) (v := .ref r1) (C := RX3) (T := TX3) (N := 2) hx hb hts (fun _ h9 => List.mem_cons_of_mem _ (List.mem_append_right _ h9)) hown hK hP 0 rfl rfl 0 (by decide) (hts (.fieldLink RX3 9 "FontRuns$Recent" "row" "[I") mw_X3_keep_w_0) (fun _ h9 => h9) rfl dX3_keep_7 ?_
    refine lv_iload_n hx hb dX3_keep_10 rfl (lv_at hl 0 rfl) ?_
    refine lv_aload_n hx hb dX3_keep_11 rfl (lv_at hl 1 rfl) ?_
    refine va_get (D := D) (ci := 3) (v := .ref r1) (C := RX3) (T := TX3) (N := 2) hx hb hts (fun _ h9 => List.mem_cons_of_mem _ (List.mem_append_right _ h9)) hown hK hP 0 rfl rfl 0 (by decide) (hts (.fieldLink RX3 9 "FontRuns$Recent" "row" "[I") mw_X3_keep_w_0) (fun _ h9 => h9) rfl dX3_keep_12 ?_
    refine lv_iload_n hx hb dX3_keep_15 rfl (lv_at hl 0 rfl) ?_
    refine lv_iconst (v := zI 1) hx hb dX3_keep_16 rfl ?_
    refine kz_isub hx hb dX3_keep_17 ?_
    refine kz_iald hx hb hK hP 1 0 rfl rfl (by omega) dX3_keep_18 (fun z_4 rz_4 ez_4 => ?_)
    refine kz_iast hx hb hK hP hD hS 1 0 rfl rfl (by omega) dX3_keep_19 (fun H locs hP hD hS => ?_)
    have hP : va_P D vwCl [(h0, .inr (3, [.ref r1, .int (zI n)])), (r1, .inl (cr1, 5, .inl (upd ja (jk).toNat (zI z_4))))] H := hP
    have hD : va_D A [(h0, .inr (3, [.ref r1, .int (zI n)])), (r1, .inl (cr1, 5, .inl (upd ja (jk).toNat (zI z_4))))] := hD
    generalize ef_5 : upd ja (jk).toNat (zI z_4) = f_5 at hP hD
    refine lv_iinc (v := (zI (jk - 1))) (lv' := [(2, .int (zI (jk - 1))), (0, .ref h0), (1, .int (zI f))]) hx hb dX3_keep_20 hl (k := 0) rfl (kz_dec _ 1) (by decide) rfl (fun ls hl => ?_)
    refine lv_goto (tgt := 2) hx hb dX3_keep_23 (by decide) ?_
    exact ih2 _ (by omega) _ _ _ ⟨(jk - 1), f_5, rfl, (by omega), (by rw [← ef_5, v_21]; exact kMv_1 fr (by omega) (by rw [← v_21]; exact ez_4)), hP, hD, hS, lv_sub hl [0, 1, 2] rfl⟩
set_option maxRecDepth 20000 in
theorem mw_X7_add_w_0 : (.fieldLink RX7 15 "FontRuns$Writing" "count" "I" : Cond) ∈ wsX7_add := List.mem_cons_of_mem _ (List.mem_append_left _ (List.mem_of_getElem? (i := 0) rfl))
set_option maxRecDepth 20000 in
theorem mw_X7_add_w_1 : (.initialized RX8 : Cond) ∈ wsX7_add := List.mem_cons_of_mem _ (List.mem_append_left _ (List.mem_of_getElem? (i := 3) rfl))
set_option maxRecDepth 20000 in
theorem mw_X7_add_w_2 : (.static yX8_isWithin : Cond) ∈ wsX7_add := List.mem_cons_of_mem _ (List.mem_append_left _ (List.mem_of_getElem? (i := 2) rfl))
set_option maxRecDepth 20000 in
theorem mw_X7_add_w_3 : (.fieldLink RX7 9 "FontRuns$Writing" "row" "[I" : Cond) ∈ wsX7_add := List.mem_cons_of_mem _ (List.mem_append_left _ (List.mem_of_getElem? (i := 1) rfl))
theorem ax_X7_add_w_0 {e0 e1 : Nat × va_E} : ([] : List Nat).map (fun i => ([e0, e1] : va_W)[i]?) = ([] : va_W).map some := rfl
theorem ax_X7_add_w_1 {e0 e1 : Nat × va_E} : ([0, 1] : List Nat).map (fun i => ([e0, e1] : va_W)[i]?) = ([e0, e1] : va_W).map some := rfl
set_option maxHeartbeats 4000000 in
set_option maxRecDepth 100000 in
theorem c_X7_add_w (l : Launch) (D : va_G) (sz : Nat) (x : Int) (h0 : Nat) (r1 : Nat) (n : Int) (cr1 : ClassId) (fr : Nat → Int32) (q0 : rg x) (q1 : 0 ≤ n ∧ n ≤ 24) : Met l yX7_add wsX7_add ({ frames := 1, cells := 0, slots := 0, locals := 22 }) (kPre [.ref h0, .int (zI x)] D [(h0, .inr (7, [.ref r1, .int (zI n)])), (r1, .inl (cr1, 24, .inl fr))] [(cr1, .int)] sz) (kQS (fun rz t => ∃ (un : Int) (uf : Nat → Int32), (0 ≤ un ∧ un ≤ 24) ∧ (rz = 0 ∨ rz = 1) ∧ ((n < 24 ∧ rz = 1 ∧ un = n + 1 ∧ uf = upd fr n.toNat (zI x)) ∨ (24 ≤ n ∧ rz = 0 ∧ un = n ∧ uf = fr)) ∧ va_P D vwCl [(h0, .inr (7, [.ref r1, .int (zI un)])), (r1, .inl (cr1, 24, .inl uf))] t.heap ∧ va_D (va_A [(h0, .inr (7, [.ref r1, .int (zI n)])), (r1, .inl (cr1, 24, .inl fr))] sz) [(h0, .inr (7, [.ref r1, .int (zI un)])), (r1, .inl (cr1, 24, .inl uf))]) (va_A [(h0, .inr (7, [.ref r1, .int (zI n)])), (r1, .inl (cr1, 24, .inl fr))] sz)) 0 0 (va_A [(h0, .inr (7, [.ref r1, .int (zI n)])), (r1, .inl (cr1, 24, .inl fr))] sz) := by
  refine Met.ofW (cc := cX7_add) (maxL := 2) (ret := (some .boolean)) (by decide) rfl ?_
  intro p e s m args below meth c s₁ B hml hv
  obtain ⟨rfl, hsz, hP, hK, hD0, hN⟩ := hv
  have hx := B.exec
  have hb := B.bytes
  have hr := B.returns
  have hts := atoms_spec (ws := wsX7_add) B.pre
  have hown : s.vm.findClass RX7 = some m.cls := findClass_of_methodNamed B.named
  have hlocks := B.notSynchronized
  subst hsz
  have hD := hD0.self (sz := s.heap.size)
  generalize hAe : va_A [(h0, .inr (7, [.ref r1, .int (zI n)])), (r1, .inl (cr1, 24, .inl fr))] s.heap.size = A at hD ⊢
  have hA : ∀ q : Nat, s.heap.size ≤ q → A q := fun q h => by rw [← hAe]; exact Or.inr h
  have hS : va_S A s.heap s.heap [] := va_S.rf
  have hP : va_P D vwCl [(h0, .inr (7, [.ref r1, .int (zI n)])), (r1, .inl (cr1, 24, .inl fr))] s.heap := hP
  have hl := lv_entry ([.ref h0, .int (zI x)]) (n := 2) (Nat.le_of_ble_eq_true rfl)
  rw [lg_entry_eq]
  generalize (lg_sl ([.ref h0, .int (zI x)]) ++ List.replicate (2 - (lg_sl ([.ref h0, .int (zI x)])).length) Slot.unset).toArray = ls at hl ⊢
  have hl : lv_has ls 2 [(0, .ref h0), (1, .int (zI x))] := hl
  refine lv_aload_n hx hb dX7_add_0 rfl (lv_at hl 0 rfl) ?_
  refine va_get (D := D) (ci := 7) (v := .int (zI n)) (C := RX7) (T := TX7) (N := 2) hx hb hts (fun _ h9 => List.mem_cons_of_mem _ (List.mem_append_right _ h9)) hown hK hP 0 rfl rfl 1 (by decide) (hts (.fieldLink RX7 15 "FontRuns$Writing" "count" "I") mw_X7_add_w_0) (fun _ h9 => h9) rfl dX7_add_1 ?_
  refine lv_iconst (v := zI 0) hx hb dX7_add_4 rfl ?_
  refine lv_bipush (v := zI 23) hx hb dX7_add_5 (by decide) ?_
  refine k_callR (va_runSN (As := [.int (zI n), .int (zI 0), .int (zI 23)]) (rest := []) ⟨hx, hb, hml, hown, hts⟩ (c_X8_isWithin l D s.heap.size (v := n) (a := 0) (b := 23) (by omega) (by omega) (by omega)) (⟨va_cnB 3 hts gX7_add_X8_isWithin_n19 rfl rfl rfl (hN.1 (RX7, 19, yX8_isWithin) (by decide +kernel)) (hts (.initialized RX8) mw_X7_add_w_1) (by decide +kernel) ⟨Nat.le_of_ble_eq_true rfl, Nat.le_of_ble_eq_true rfl⟩, (hts (.static yX8_isWithin) mw_X7_add_w_2), trivial⟩) (kPreS hP (kD0 hD) hK hN [] [] ax_X7_add_w_0 rfl (by decide +kernel)) rfl rfl hl.1 rfl (lv_room (Nat.le_of_ble_eq_true rfl)) dX7_add_7 ⟨Nat.le_of_ble_eq_true rfl, Nat.le_of_ble_eq_true rfl⟩) ?_
  refine lv_if_ne (tgt := 15) hx hb dX7_add_10 (by decide) (fun c_1 => ?_) (fun c_1 => ?_)
  · have c_1 : 0 ≤ n ∧ n ≤ 23 := b01t c_1
    refine lv_aload_n hx hb dX7_add_15 rfl (lv_at hl 0 rfl) ?_
    refine va_get (D := D) (ci := 7) (v := .ref r1) (C := RX7) (T := TX7) (N := 2) hx hb hts (fun _ h9 => List.mem_cons_of_mem _ (List.mem_append_right _ h9)) hown hK hP 0 rfl rfl 0 (by decide) (hts (.fieldLink RX7 9 "FontRuns$Writing" "row" "[I") mw_X7_add_w_3) (fun _ h9 => h9) rfl dX7_add_16 ?_
    refine lv_aload_n hx hb dX7_add_19 rfl (lv_at hl 0 rfl) ?_
    refine va_get (D := D) (ci := 7) (v := .int (zI n)) (C := RX7) (T := TX7) (N := 2) hx hb hts (fun _ h9 => List.mem_cons_of_mem _ (List.mem_append_right _ h9)) hown hK hP 0 rfl rfl 1 (by decide) (hts (.fieldLink RX7 15 "FontRuns$Writing" "count" "I") mw_X7_add_w_0) (fun _ h9 => h9) rfl dX7_add_20 ?_
    refine lv_iload_n hx hb dX7_add_23 rfl (lv_at hl 1 rfl) ?_
    refine kz_iast hx hb hK hP hD hS 1 0 rfl rfl (by omega) dX7_add_24 (fun H locs hP hD hS => ?_)
    have hP : va_P D vwCl [(h0, .inr (7, [.ref r1, .int (zI n)])), (r1, .inl (cr1, 24, .inl (upd fr (n).toNat (zI x))))] H := hP
    have hD : va_D A [(h0, .inr (7, [.ref r1, .int (zI n)])), (r1, .inl (cr1, 24, .inl (upd fr (n).toNat (zI x))))] := hD
    generalize ef_2 : upd fr (n).toNat (zI x) = f_2 at hP hD
    refine lv_aload_n hx hb dX7_add_25 rfl (lv_at hl 0 rfl) ?_
    refine lv_dup hx hb dX7_add_26 rfl ?_
    refine va_get (D := D) (ci := 7) (v := .int (zI n)) (C := RX7) (T := TX7) (N := 2) hx hb hts (fun _ h9 => List.mem_cons_of_mem _ (List.mem_append_right _ h9)) hown hK hP 0 rfl rfl 1 (by decide) (hts (.fieldLink RX7 15 "FontRuns$Writing" "count" "I") mw_X7_add_w_0) (fun _ h9 => h9) rfl dX7_add_27 ?_
    refine lv_iconst (v := zI 1) hx hb dX7_add_30 rfl ?_
    refine kz_iadd hx hb dX7_add_31 ?_
    refine va_put (D := D) (ci := 7) (v := .int (zI (n + 1))) (ty := .int) (C := RX7) (T := TX7) (N := 2) hx hb hts (fun _ h9 => List.mem_cons_of_mem _ (List.mem_append_right _ h9)) tyX7 tyX7_ok nmX7 hown hK hP hD hS 0 rfl rfl 1 (by decide) (hts (.fieldLink RX7 15 "FontRuns$Writing" "count" "I") mw_X7_add_w_0) (fun _ h9 => h9) rfl (by decide +kernel) rfl rfl (Nat.le_of_ble_eq_true rfl) dX7_add_32 (fun H locs hP hD hS => ?_)
    have hP : va_P D vwCl [(h0, .inr (7, [.ref r1, .int (zI (n + 1))])), (r1, .inl (cr1, 24, .inl f_2))] H := hP
    have hD : va_D A [(h0, .inr (7, [.ref r1, .int (zI (n + 1))])), (r1, .inl (cr1, 24, .inl f_2))] := hD
    refine lv_iconst (v := zI 1) hx hb dX7_add_35 rfl ?_
    have hP9 := hP.sub (ws' := [(h0, .inr (7, [.ref r1, .int (zI (n + 1))])), (r1, .inl (cr1, 24, .inl f_2))]) [0, 1] rfl
    have hD9 := hD.sub (ws' := [(h0, .inr (7, [.ref r1, .int (zI (n + 1))])), (r1, .inl (cr1, 24, .inl f_2))]) [0, 1] (by decide +kernel) rfl
    exact W.zret (v := (zI 1)) hx hb hr rfl (fun t ht hW => kQS_of (by omega) ⟨(n + 1), f_2, (by omega), (by omega), (Or.inl ⟨by omega, by omega, by omega, by first | exact ef_2.symm | rfl⟩), by rw [ht]; exact hP9, hD9⟩ (hS.F ht)) hS.2.2 dX7_add_36
  · have c_1 : ¬ (0 ≤ n ∧ n ≤ 23) := b01f c_1
    refine lv_iconst (v := zI 0) hx hb dX7_add_13 rfl ?_
    have hP9 := hP.sub (ws' := [(h0, .inr (7, [.ref r1, .int (zI n)])), (r1, .inl (cr1, 24, .inl fr))]) [0, 1] rfl
    have hD9 := hD.sub (ws' := [(h0, .inr (7, [.ref r1, .int (zI n)])), (r1, .inl (cr1, 24, .inl fr))]) [0, 1] (by decide +kernel) rfl
    exact W.zret (v := (zI 0)) hx hb hr rfl (fun t ht hW => kQS_of (by omega) ⟨n, fr, q1, (by omega), (Or.inr ⟨by omega, by omega, by omega, rfl⟩), by rw [ht]; exact hP9, hD9⟩ (hS.F ht)) hS.2.2 dX7_add_14
set_option maxRecDepth 20000 in
theorem mw_X7_drop_w_0 : (.fieldLink RX7 15 "FontRuns$Writing" "count" "I" : Cond) ∈ wsX7_drop := List.mem_cons_of_mem _ (List.mem_append_left _ (List.mem_of_getElem? (i := 0) rfl))
set_option maxRecDepth 20000 in
theorem mw_X7_drop_w_1 : (.initialized RX8 : Cond) ∈ wsX7_drop := List.mem_cons_of_mem _ (List.mem_append_left _ (List.mem_of_getElem? (i := 2) rfl))
set_option maxRecDepth 20000 in
theorem mw_X7_drop_w_2 : (.static yX8_isWithin : Cond) ∈ wsX7_drop := List.mem_cons_of_mem _ (List.mem_append_left _ (List.mem_of_getElem? (i := 1) rfl))
theorem ax_X7_drop_w_0 {e0 : Nat × va_E} : ([] : List Nat).map (fun i => ([e0] : va_W)[i]?) = ([] : va_W).map some := rfl
theorem ax_X7_drop_w_1 {e0 : Nat × va_E} : ([0] : List Nat).map (fun i => ([e0] : va_W)[i]?) = ([e0] : va_W).map some := rfl
set_option maxHeartbeats 4000000 in
set_option maxRecDepth 100000 in
theorem c_X7_drop_w (l : Launch) (D : va_G) (sz : Nat) (x : Int) (h0 : Nat) (r1 : Nat) (n : Int) (q0 : rg x) (q1 : 0 ≤ n ∧ n ≤ 24) : Met l yX7_drop wsX7_drop ({ frames := 1, cells := 0, slots := 0, locals := 22 }) (kPre [.ref h0, .int (zI x)] D [(h0, .inr (7, [.ref r1, .int (zI n)]))] [] sz) (kQS (fun rz t => ∃ (un : Int), (0 ≤ un ∧ un ≤ 24) ∧ (rz = 0 ∨ rz = 1) ∧ ((0 ≤ x ∧ x ≤ n ∧ rz = 1 ∧ un = n - x) ∨ (¬ (0 ≤ x ∧ x ≤ n) ∧ rz = 0 ∧ un = n)) ∧ va_P D vwCl [(h0, .inr (7, [.ref r1, .int (zI un)]))] t.heap ∧ va_D (va_A [(h0, .inr (7, [.ref r1, .int (zI n)]))] sz) [(h0, .inr (7, [.ref r1, .int (zI un)]))]) (va_A [(h0, .inr (7, [.ref r1, .int (zI n)]))] sz)) 0 0 (va_A [(h0, .inr (7, [.ref r1, .int (zI n)]))] sz) := by
  refine Met.ofW (cc := cX7_drop) (maxL := 2) (ret := (some .boolean)) (by decide) rfl ?_
  intro p e s m args below meth c s₁ B hml hv
  obtain ⟨rfl, hsz, hP, hK, hD0, hN⟩ := hv
  have hx := B.exec
  have hb := B.bytes
  have hr := B.returns
  have hts := atoms_spec (ws := wsX7_drop) B.pre
  have hown : s.vm.findClass RX7 = some m.cls := findClass_of_methodNamed B.named
  have hlocks := B.notSynchronized
  subst hsz
  have hD := hD0.self (sz := s.heap.size)
  generalize hAe : va_A [(h0, .inr (7, [.ref r1, .int (zI n)]))] s.heap.size = A at hD ⊢
  have hA : ∀ q : Nat, s.heap.size ≤ q → A q := fun q h => by rw [← hAe]; exact Or.inr h
  have hS : va_S A s.heap s.heap [] := va_S.rf
  have hP : va_P D vwCl [(h0, .inr (7, [.ref r1, .int (zI n)]))] s.heap := hP
  have hl := lv_entry ([.ref h0, .int (zI x)]) (n := 2) (Nat.le_of_ble_eq_true rfl)
  rw [lg_entry_eq]
  generalize (lg_sl ([.ref h0, .int (zI x)]) ++ List.replicate (2 - (lg_sl ([.ref h0, .int (zI x)])).length) Slot.unset).toArray = ls at hl ⊢
  have hl : lv_has ls 2 [(0, .ref h0), (1, .int (zI x))] := hl
  refine lv_iload_n hx hb dX7_drop_0 rfl (lv_at hl 1 rfl) ?_
  refine lv_iconst (v := zI 0) hx hb dX7_drop_1 rfl ?_
  refine lv_aload_n hx hb dX7_drop_2 rfl (lv_at hl 0 rfl) ?_
  refine va_get (D := D) (ci := 7) (v := .int (zI n)) (C := RX7) (T := TX7) (N := 2) hx hb hts (fun _ h9 => List.mem_cons_of_mem _ (List.mem_append_right _ h9)) hown hK hP 0 rfl rfl 1 (by decide) (hts (.fieldLink RX7 15 "FontRuns$Writing" "count" "I") mw_X7_drop_w_0) (fun _ h9 => h9) rfl dX7_drop_3 ?_
  refine k_callR (va_runSN (As := [.int (zI x), .int (zI 0), .int (zI n)]) (rest := []) ⟨hx, hb, hml, hown, hts⟩ (c_X8_isWithin l D s.heap.size (v := x) (a := 0) (b := n) q0 (by omega) (by omega)) (⟨va_cnB 3 hts gX7_drop_X8_isWithin_n19 rfl rfl rfl (hN.1 (RX7, 19, yX8_isWithin) (by decide +kernel)) (hts (.initialized RX8) mw_X7_drop_w_1) (by decide +kernel) ⟨Nat.le_of_ble_eq_true rfl, Nat.le_of_ble_eq_true rfl⟩, (hts (.static yX8_isWithin) mw_X7_drop_w_2), trivial⟩) (kPreS hP (kD0 hD) hK hN [] [] ax_X7_drop_w_0 rfl (by decide +kernel)) rfl rfl hl.1 rfl (lv_room (Nat.le_of_ble_eq_true rfl)) dX7_drop_6 ⟨Nat.le_of_ble_eq_true rfl, Nat.le_of_ble_eq_true rfl⟩) ?_
  refine lv_if_ne (tgt := 14) hx hb dX7_drop_9 (by decide) (fun c_1 => ?_) (fun c_1 => ?_)
  · have c_1 : 0 ≤ x ∧ x ≤ n := b01t c_1
    refine lv_aload_n hx hb dX7_drop_14 rfl (lv_at hl 0 rfl) ?_
    refine lv_dup hx hb dX7_drop_15 rfl ?_
    refine va_get (D := D) (ci := 7) (v := .int (zI n)) (C := RX7) (T := TX7) (N := 2) hx hb hts (fun _ h9 => List.mem_cons_of_mem _ (List.mem_append_right _ h9)) hown hK hP 0 rfl rfl 1 (by decide) (hts (.fieldLink RX7 15 "FontRuns$Writing" "count" "I") mw_X7_drop_w_0) (fun _ h9 => h9) rfl dX7_drop_16 ?_
    refine lv_iload_n hx hb dX7_drop_19 rfl (lv_at hl 1 rfl) ?_
    refine kz_isub hx hb dX7_drop_20 ?_
    refine va_put (D := D) (ci := 7) (v := .int (zI (n - x))) (ty := .int) (C := RX7) (T := TX7) (N := 2) hx hb hts (fun _ h9 => List.mem_cons_of_mem _ (List.mem_append_right _ h9)) tyX7 tyX7_ok nmX7 hown hK hP hD hS 0 rfl rfl 1 (by decide) (hts (.fieldLink RX7 15 "FontRuns$Writing" "count" "I") mw_X7_drop_w_0) (fun _ h9 => h9) rfl (by decide +kernel) rfl rfl (Nat.le_of_ble_eq_true rfl) dX7_drop_21 (fun H locs hP hD hS => ?_)
    have hP : va_P D vwCl [(h0, .inr (7, [.ref r1, .int (zI (n - x))]))] H := hP
    have hD : va_D A [(h0, .inr (7, [.ref r1, .int (zI (n - x))]))] := hD
    refine lv_iconst (v := zI 1) hx hb dX7_drop_24 rfl ?_
    have hP9 := hP.sub (ws' := [(h0, .inr (7, [.ref r1, .int (zI (n - x))]))]) [0] rfl
    have hD9 := hD.sub (ws' := [(h0, .inr (7, [.ref r1, .int (zI (n - x))]))]) [0] (by decide +kernel) rfl
    exact W.zret (v := (zI 1)) hx hb hr rfl (fun t ht hW => kQS_of (by omega) ⟨(n - x), (by omega), (by omega), (by omega), by rw [ht]; exact hP9, hD9⟩ (hS.F ht)) hS.2.2 dX7_drop_25
  · have c_1 : ¬ (0 ≤ x ∧ x ≤ n) := b01f c_1
    refine lv_iconst (v := zI 0) hx hb dX7_drop_12 rfl ?_
    have hP9 := hP.sub (ws' := [(h0, .inr (7, [.ref r1, .int (zI n)]))]) [0] rfl
    have hD9 := hD.sub (ws' := [(h0, .inr (7, [.ref r1, .int (zI n)]))]) [0] (by decide +kernel) rfl
    exact W.zret (v := (zI 0)) hx hb hr rfl (fun t ht hW => kQS_of (by omega) ⟨n, q1, (by omega), (by omega), by rw [ht]; exact hP9, hD9⟩ (hS.F ht)) hS.2.2 dX7_drop_13
set_option maxHeartbeats 4000000 in
set_option maxRecDepth 100000 in
theorem c_X8_stepOf_w (l : Launch) (D : va_G) (sz : Nat) (k : Int) (b : Int) (q0 : rg k) (q1 : rg b) : Met l yX8_stepOf wsX8_stepOf ({ frames := 0, cells := 0, slots := 0, locals := 0 }) (kPre [.int (zI k), .int (zI b)] D [] [] sz) (QcP (fun rz => zI rz = kStX (zI k) (zI b))) 0 0 (fun _ => False) := by
  refine Met.ofW (cc := cX8_stepOf) (maxL := 2) (ret := (some .int)) (by decide) rfl ?_
  intro p e s m args below meth c s₁ B hml hv
  obtain ⟨rfl, hsz, hP, hK, hD0, hN⟩ := hv
  have hx := B.exec
  have hb := B.bytes
  have hr := B.returns
  have hts := atoms_spec (ws := wsX8_stepOf) B.pre
  have hown : s.vm.findClass RX8 = some m.cls := findClass_of_methodNamed B.named
  have hlocks := B.notSynchronized
  subst hsz
  have hD := hD0
  have hP : va_P D vwCl [] s.heap := hP
  have hl := lv_entry ([.int (zI k), .int (zI b)]) (n := 2) (Nat.le_of_ble_eq_true rfl)
  rw [lg_entry_eq]
  generalize (lg_sl ([.int (zI k), .int (zI b)]) ++ List.replicate (2 - (lg_sl ([.int (zI k), .int (zI b)])).length) Slot.unset).toArray = ls at hl ⊢
  have hl : lv_has ls 2 [(0, .int (zI k)), (1, .int (zI b))] := hl
  refine lv_iload_n hx hb dX8_stepOf_0 rfl (lv_at hl 0 rfl) ?_
  rcases (show k = 1 ∨ k = 2 ∨ (¬ k = 1 ∧ ¬ k = 2) from by omega) with c_1 | c_1 | c_1
  · refine kz_look (tgt := 32) (off := 31) hx hb dX8_stepOf_1 (by decide) (by omega) (by show Op.lookupswitch.offset [(1, 31), (2, 27)] 35 k = 31; rw [Op.lookupswitch.offset_cons, Op.lookupswitch.offset_cons, Op.lookupswitch.offset_nil]; (repeat' split) <;> omega) (by decide) ?_
    refine lv_iload_n hx hb dX8_stepOf_32 rfl (lv_at hl 1 rfl) ?_
    refine lv_iconst (v := zI 1) hx hb dX8_stepOf_33 rfl ?_
    refine kz_iadd hx hb dX8_stepOf_34 ?_
    refine kz_any (fun z_2 rz_2 ez_2 => ?_)
    exact W.iret (v := (zI z_2)) hx hb hr (fun t ht hW => QcP_of (by omega) (by first | exact kStX_2 (by omega) ez_2 | exact kStX_1 (by omega) ez_2 | exact kStX_0 (by omega) (by omega) ez_2) ht) (fun _ h9 => by cases h9) dX8_stepOf_35
  · refine kz_look (tgt := 28) (off := 27) hx hb dX8_stepOf_1 (by decide) (by omega) (by show Op.lookupswitch.offset [(1, 31), (2, 27)] 35 k = 27; rw [Op.lookupswitch.offset_cons, Op.lookupswitch.offset_cons, Op.lookupswitch.offset_nil]; (repeat' split) <;> omega) (by decide) ?_
    refine lv_iconst (v := zI 2) hx hb dX8_stepOf_28 rfl ?_
    refine lv_iload_n hx hb dX8_stepOf_29 rfl (lv_at hl 1 rfl) ?_
    refine kz_imul hx hb dX8_stepOf_30 ?_
    refine kz_any (fun z_3 rz_3 ez_3 => ?_)
    exact W.iret (v := (zI z_3)) hx hb hr (fun t ht hW => QcP_of (by omega) (by first | exact kStX_2 (by omega) ez_3 | exact kStX_1 (by omega) ez_3 | exact kStX_0 (by omega) (by omega) ez_3) ht) (fun _ h9 => by cases h9) dX8_stepOf_31
  · refine kz_look (tgt := 36) (off := 35) hx hb dX8_stepOf_1 (by decide) (by omega) (by show Op.lookupswitch.offset [(1, 31), (2, 27)] 35 k = 35; rw [Op.lookupswitch.offset_cons, Op.lookupswitch.offset_cons, Op.lookupswitch.offset_nil]; (repeat' split) <;> omega) (by decide) ?_
    refine lv_iload_n hx hb dX8_stepOf_36 rfl (lv_at hl 1 rfl) ?_
    refine kz_any (fun z_4 rz_4 ez_4 => ?_)
    exact W.iret (v := (zI z_4)) hx hb hr (fun t ht hW => QcP_of (by omega) (by first | exact kStX_2 (by omega) ez_4 | exact kStX_1 (by omega) ez_4 | exact kStX_0 (by omega) (by omega) ez_4) ht) (fun _ h9 => by cases h9) dX8_stepOf_37
set_option maxRecDepth 20000 in
theorem mw_X0_step_w_0 : (.fieldLink RX0 9 "FontRuns$FontRow" "kind" "[I" : Cond) ∈ wsX0_step := List.mem_cons_of_mem _ (List.mem_append_left _ (List.mem_of_getElem? (i := 0) rfl))
set_option maxRecDepth 20000 in
theorem mw_X0_step_w_1 : (.fieldLink RX0 15 "FontRuns$FontRow" "breadth" "[I" : Cond) ∈ wsX0_step := List.mem_cons_of_mem _ (List.mem_append_left _ (List.mem_of_getElem? (i := 1) rfl))
set_option maxRecDepth 20000 in
theorem mw_X0_step_w_2 : (.initialized RX8 : Cond) ∈ wsX0_step := List.mem_cons_of_mem _ (List.mem_append_left _ (List.mem_of_getElem? (i := 9) rfl))
set_option maxRecDepth 20000 in
theorem mw_X0_step_w_3 : (.static yX8_stepOf : Cond) ∈ wsX0_step := List.mem_cons_of_mem _ (List.mem_append_left _ (List.mem_of_getElem? (i := 11) rfl))
theorem ax_X0_step_w_0 {e0 e1 e2 : Nat × va_E} : ([0] : List Nat).map (fun i => ([e0, e1, e2] : va_W)[i]?) = ([e0] : va_W).map some := rfl
theorem ax_X0_step_w_1 {e0 e1 e2 : Nat × va_E} : ([] : List Nat).map (fun i => ([e0, e1, e2] : va_W)[i]?) = ([] : va_W).map some := rfl
set_option maxHeartbeats 4000000 in
set_option maxRecDepth 100000 in
theorem c_X0_step_w (l : Launch) (D : va_G) (sz : Nat) (f : Int) (h0 : Nat) (k1 : Nat) (k2 : Nat) (k3 : Nat) (n : Int) (ck1 : ClassId) (fk : Nat → Int32) (ck2 : ClassId) (fb : Nat → Int32) (q0 : rg f) (q1 : 0 ≤ n ∧ n ≤ 4) : Met l yX0_step wsX0_step ({ frames := 2, cells := 0, slots := 0, locals := 43 }) (kPre [.ref h0, .int (zI f)] D [(h0, .inr (0, [.ref k1, .ref k2, .ref k3, .int (zI n)])), (k1, .inl (ck1, 4, .inl fk)), (k2, .inl (ck2, 4, .inl fb))] [(ck1, .int), (ck2, .int)] sz) (QcP (fun rz => (0 ≤ f ∧ f ≤ n - 1) → zI rz = kStX (fk f.toNat) (fb f.toNat))) 0 0 (fun _ => False) := by
  refine Met.ofW (cc := cX0_step) (maxL := 2) (ret := (some .int)) (by decide) rfl ?_
  intro p e s m args below meth c s₁ B hml hv
  obtain ⟨rfl, hsz, hP, hK, hD0, hN⟩ := hv
  have hx := B.exec
  have hb := B.bytes
  have hr := B.returns
  have hts := atoms_spec (ws := wsX0_step) B.pre
  have hown : s.vm.findClass RX0 = some m.cls := findClass_of_methodNamed B.named
  have hlocks := B.notSynchronized
  subst hsz
  have hD := hD0
  have hP : va_P D vwCl [(h0, .inr (0, [.ref k1, .ref k2, .ref k3, .int (zI n)])), (k1, .inl (ck1, 4, .inl fk)), (k2, .inl (ck2, 4, .inl fb))] s.heap := hP
  have hl := lv_entry ([.ref h0, .int (zI f)]) (n := 2) (Nat.le_of_ble_eq_true rfl)
  rw [lg_entry_eq]
  generalize (lg_sl ([.ref h0, .int (zI f)]) ++ List.replicate (2 - (lg_sl ([.ref h0, .int (zI f)])).length) Slot.unset).toArray = ls at hl ⊢
  have hl : lv_has ls 2 [(0, .ref h0), (1, .int (zI f))] := hl
  refine lv_aload_n hx hb dX0_step_0 rfl (lv_at hl 0 rfl) ?_
  refine lv_iload_n hx hb dX0_step_1 rfl (lv_at hl 1 rfl) ?_
  refine k_callR (va_runV (As := [.int (zI f)]) (rest := []) ⟨hx, hb, hml, hown, hts⟩ (c_X0_isFont l D s.heap.size (f := f) (h0 := h0) (k1 := k1) (k2 := k2) (k3 := k3) (n := n) q0 q1) (cwV 1 hts gX0_step_X0_isFont rfl rfl rfl (by decide +kernel) ⟨Nat.le_of_ble_eq_true rfl, Nat.le_of_ble_eq_true rfl⟩) (kPreV hP (kD0 hD) hK hN [0] [] ax_X0_step_w_0 rfl (by decide +kernel) 0 0 rfl rfl) rfl rfl hl.1 rfl (lv_room (Nat.le_of_ble_eq_true rfl)) dX0_step_2 ⟨Nat.le_of_ble_eq_true rfl, Nat.le_of_ble_eq_true rfl⟩) ?_
  refine lv_if_eq (tgt := 26) hx hb dX0_step_5 (by decide) (fun c_1 => ?_) (fun c_1 => ?_)
  · have c_1 : ¬ (0 ≤ f ∧ f ≤ n - 1) := b01f c_1
    refine lv_iconst (v := zI 0) hx hb dX0_step_26 rfl ?_
    exact W.iret (v := (zI 0)) hx hb hr (fun t ht hW => QcP_of (by omega) (fun q9 => absurd q9 (by omega)) ht) (fun _ h9 => by cases h9) dX0_step_27
  · have c_1 : 0 ≤ f ∧ f ≤ n - 1 := b01t c_1
    refine lv_aload_n hx hb dX0_step_8 rfl (lv_at hl 0 rfl) ?_
    refine va_get (D := D) (ci := 0) (v := .ref k1) (C := RX0) (T := TX0) (N := 4) hx hb hts (fun _ h9 => List.mem_cons_of_mem _ (List.mem_append_right _ h9)) hown hK hP 0 rfl rfl 0 (by decide) (hts (.fieldLink RX0 9 "FontRuns$FontRow" "kind" "[I") mw_X0_step_w_0) (fun _ h9 => h9) rfl dX0_step_9 ?_
    refine lv_iload_n hx hb dX0_step_12 rfl (lv_at hl 1 rfl) ?_
    refine kz_iald hx hb hK hP 1 0 rfl rfl (by omega) dX0_step_13 (fun z_2 rz_2 ez_2 => ?_)
    refine lv_aload_n hx hb dX0_step_14 rfl (lv_at hl 0 rfl) ?_
    refine va_get (D := D) (ci := 0) (v := .ref k2) (C := RX0) (T := TX0) (N := 4) hx hb hts (fun _ h9 => List.mem_cons_of_mem _ (List.mem_append_right _ h9)) hown hK hP 0 rfl rfl 1 (by decide) (hts (.fieldLink RX0 15 "FontRuns$FontRow" "breadth" "[I") mw_X0_step_w_1) (fun _ h9 => h9) rfl dX0_step_15 ?_
    refine lv_iload_n hx hb dX0_step_18 rfl (lv_at hl 1 rfl) ?_
    refine kz_iald hx hb hK hP 2 1 rfl rfl (by omega) dX0_step_19 (fun z_3 rz_3 ez_3 => ?_)
    refine k_callP (va_runSN (As := [.int (zI z_2), .int (zI z_3)]) (rest := []) ⟨hx, hb, hml, hown, hts⟩ (c_X8_stepOf_w l D s.heap.size (k := z_2) (b := z_3) (by omega) (by omega)) (⟨va_cnB 2 hts gX0_step_X8_stepOf_n33 rfl rfl rfl (hN.1 (RX0, 33, yX8_stepOf) (by decide +kernel)) (hts (.initialized RX8) mw_X0_step_w_2) (by decide +kernel) ⟨Nat.le_of_ble_eq_true rfl, Nat.le_of_ble_eq_true rfl⟩, (hts (.static yX8_stepOf) mw_X0_step_w_3), trivial⟩) (kPreS hP (kD0 hD) hK hN [] [] ax_X0_step_w_1 rfl (by decide +kernel)) rfl rfl hl.1 rfl (lv_room (Nat.le_of_ble_eq_true rfl)) dX0_step_20 ⟨Nat.le_of_ble_eq_true rfl, Nat.le_of_ble_eq_true rfl⟩) (fun z_4 rz_4 h_5 => ?_)
    refine lv_goto (tgt := 27) hx hb dX0_step_23 (by decide) ?_
    exact W.iret (v := (zI z_4)) hx hb hr (fun t ht hW => QcP_of (by omega) (fun _ => by rw [ez_2, ez_3]; exact h_5) ht) (fun _ h9 => by cases h9) dX0_step_27
section
variable {t l n y i z w : Int}
theorem kAg_0 (h1 : t = 1) (h2 : l = y) (h3 : 0 ≤ z) (h4 : 0 ≤ i ∧ i ≤ n ∧ z ≤ n - i) : kAg t l n y i z 0 := Or.inr (Or.inr (Or.inr (Or.inr ⟨h1, h2, h3, h4, rfl⟩)))
theorem kAg_3 (h1 : t = 1) (h2 : l = y) (h3 : 0 ≤ z) (h4 : ¬ (0 ≤ i ∧ i ≤ n ∧ z ≤ n - i)) : kAg t l n y i z 3 := Or.inr (Or.inr (Or.inr (Or.inl ⟨h1, h2, h3, h4, rfl⟩)))
theorem kAg_4 (h1 : t = 1) (h2 : l = y) (h3 : z < 0) : kAg t l n y i z 4 := Or.inr (Or.inr (Or.inl ⟨h1, h2, h3, rfl⟩))
theorem kAg_P (h : (w = 1 ∧ t = 0) ∨ (w = 0 ∧ t = 1 ∧ l = y) ∨ (w = 2 ∧ t = 1 ∧ ¬ l = y)) (h0 : ¬ w = 0) : kAg t l n y i z w := by
  rcases h with ⟨a, b⟩ | ⟨a, -, -⟩ | ⟨a, b, c⟩
  · exact Or.inl ⟨b, a⟩
  · exact absurd a h0
  · exact Or.inr (Or.inl ⟨b, c, a⟩)
theorem kAg_C (h : (w = 1 ∧ t = 0) ∨ (w = 2 ∧ t = 1 ∧ ¬ l = y) ∨ (w = 3 ∧ t = 1 ∧ l = y ∧ ¬ (0 ≤ i ∧ i ≤ n ∧ 0 ≤ z ∧ z ≤ n - i)) ∨ (w = 0 ∧ t = 1 ∧ l = y ∧ 0 ≤ i ∧ i ≤ n ∧ 0 ≤ z ∧ z ≤ n - i)) (hz : 0 ≤ z) : kAg t l n y i z w := by
  rcases h with ⟨a, b⟩ | ⟨a, b, c⟩ | ⟨a, b, c, d⟩ | ⟨a, b, c, d, e, f, g⟩
  · exact Or.inl ⟨b, a⟩
  · exact Or.inr (Or.inl ⟨b, c, a⟩)
  · exact Or.inr (Or.inr (Or.inr (Or.inl ⟨b, c, hz, fun q => d ⟨q.1, q.2.1, hz, q.2.2⟩, a⟩)))
  · exact Or.inr (Or.inr (Or.inr (Or.inr ⟨b, c, hz, ⟨d, e, g⟩, a⟩)))
theorem kAg_C0 (h : (w = 1 ∧ t = 0) ∨ (w = 2 ∧ t = 1 ∧ ¬ l = y) ∨ (w = 3 ∧ t = 1 ∧ l = y ∧ ¬ (0 ≤ i ∧ i ≤ n ∧ 0 ≤ z ∧ z ≤ n - i)) ∨ (w = 0 ∧ t = 1 ∧ l = y ∧ 0 ≤ i ∧ i ≤ n ∧ 0 ≤ z ∧ z ≤ n - i)) (hz : 0 ≤ z) (h0 : w = 0) : kAg t l n y i z 0 := h0 ▸ kAg_C h hz
end
/-! PHASE B, a draft: clusters as a fold over the letters: how many, where each begins -/
theorem kNp {jk : Int} (h : 0 ≤ jk) : kNa (jk + 1) = kNa jk + 1 := by show (jk + 1).toNat = jk.toNat + 1; omega
theorem kNc {jk : Int} (h : 0 ≤ jk) : ((kNa jk : Nat) : Int) = jk := by show ((jk.toNat : Nat) : Int) = jk; omega
def kCt (w : Nat → Int32) : Nat → Nat × (Nat → Nat)
  | 0 => (0, fun _ => 0)
  | k + 1 => if k = 0 ∨ (w k).toInt < 12 then ((kCt w k).1 + 1, fun i => if i = (kCt w k).1 then k else (kCt w k).2 i) else kCt w k
def kEn (w : Nat → Int32) (k i : Nat) : Nat := if i + 1 < (kCt w k).1 then (kCt w k).2 (i + 1) else k
theorem kCt_y {w : Nat → Int32} {k : Nat} (h : k = 0 ∨ (w k).toInt < 12) : kCt w (k + 1) = ((kCt w k).1 + 1, fun i => if i = (kCt w k).1 then k else (kCt w k).2 i) := by
  show (if k = 0 ∨ (w k).toInt < 12 then _ else _) = _
  rw [if_pos h]
theorem kCt_n {w : Nat → Int32} {k : Nat} (h : ¬ (k = 0 ∨ (w k).toInt < 12)) : kCt w (k + 1) = kCt w k := by
  show (if k = 0 ∨ (w k).toInt < 12 then _ else _) = _
  rw [if_neg h]
/-- every start lies below k, they rise, and there is one as soon as there is a letter -/
theorem kCt_b {w : Nat → Int32} : ∀ k : Nat, (kCt w k).1 ≤ k ∧ (0 < k → 0 < (kCt w k).1) ∧ (∀ i, i < (kCt w k).1 → (kCt w k).2 i < k) ∧ (∀ i, i + 1 < (kCt w k).1 → (kCt w k).2 i < (kCt w k).2 (i + 1))
  | 0 => ⟨Nat.le_refl 0, fun h => absurd h (Nat.lt_irrefl 0), fun i h => absurd h (Nat.not_lt_zero i), fun i h => absurd h (Nat.not_lt_zero _)⟩
  | k + 1 => by
    obtain ⟨h1, h2, h3, h4⟩ := kCt_b (w := w) k
    by_cases c : k = 0 ∨ (w k).toInt < 12
    · rw [kCt_y c]
      refine ⟨by dsimp only; omega, fun _ => by dsimp only; omega, fun i hi => ?_, fun i hi => ?_⟩
      · dsimp only at hi ⊢
        by_cases q : i = (kCt w k).1
        · rw [if_pos q]
          omega
        · rw [if_neg q]
          have := h3 i (by omega)
          omega
      · dsimp only at hi ⊢
        rw [if_neg (show ¬ i = (kCt w k).1 by omega)]
        by_cases q : i + 1 = (kCt w k).1
        · rw [if_pos q]
          exact h3 i (by omega)
        · rw [if_neg q]
          exact h4 i (by omega)
    · rw [kCt_n c]
      refine ⟨by omega, fun _ => h2 (by omega), fun i hi => ?_, h4⟩
      have := h3 i hi
      omega
/-- the letters of a stretch, as a set -/
def kOr (w : Nat → Int32) (a : Nat) : Nat → Int32
  | 0 => 0
  | m + 1 => kOr w a m ||| (zI 1 <<< (w (a + m) &&& 31))
/-- what the class's cut has made of the first k letters -/
def kCu (w : Nat → Int32) (k : Nat) (c : Int) (F N L : Nat → Int32) : Prop := c = ((kCt w k).1 : Nat) ∧ ∀ i, i < (kCt w k).1 → F i = zI ((kCt w k).2 i : Nat) ∧ N i = zI ((kEn w k i : Nat) - ((kCt w k).2 i : Nat) : Int) ∧ L i = kOr w ((kCt w k).2 i) (kEn w k i - (kCt w k).2 i)
/-- the reference's starts -/
def kSa (w : Nat → Int32) (k : Nat) (c : Int) (F : Nat → Int32) : Prop := c = ((kCt w k).1 : Nat) ∧ ∀ i, i < (kCt w k).1 → F i = zI ((kCt w k).2 i : Nat)
theorem kEn_new {w : Nat → Int32} {k i : Nat} (c : k = 0 ∨ (w k).toInt < 12) (hi : i < (kCt w k).1) : kEn w (k + 1) i = kEn w k i := by
  unfold kEn
  rw [kCt_y c]
  dsimp only
  by_cases q : i + 1 < (kCt w k).1
  · rw [if_pos (by omega), if_neg (by omega), if_pos q]
  · rw [if_pos (by omega), if_pos (by omega), if_neg q]
theorem kEn_last {w : Nat → Int32} {k i : Nat} (h : i + 1 = (kCt w k).1) : kEn w k i = k := by
  unfold kEn
  rw [if_neg (by omega)]
theorem kEn_old {w : Nat → Int32} {k i : Nat} (c : ¬ (k = 0 ∨ (w k).toInt < 12)) (hi : i + 1 < (kCt w k).1) : kEn w (k + 1) i = kEn w k i := by
  unfold kEn
  rw [kCt_n c, if_pos hi, if_pos hi]
/-! one letter more -/
section
variable {w F N L F2 N1 N2 L1 L2 : Nat → Int32} {jk c l z1 z2 z3 z4 : Int}
theorem kSa_0 : kSa w 0 0 F := ⟨rfl, fun i h => absurd h (Nat.not_lt_zero i)⟩
theorem kCu_0 : kCu w 0 0 F N L := ⟨rfl, fun i h => absurd h (Nat.not_lt_zero i)⟩
theorem kSa_y (h : kSa w (kNa jk) c F) (h0 : 0 ≤ jk) (hc : jk = 0 ∨ l < 12) (rl : rg l) (el : w jk.toNat = zI l) (e : upd F c.toNat (zI jk) = F2) : kSa w (kNa (jk + 1)) (c + 1) F2 := by
  obtain ⟨h1, h2⟩ := h
  have cc : kNa jk = 0 ∨ (w (kNa jk)).toInt < 12 := by
    rcases hc with q | q
    · left; show jk.toNat = 0; omega
    · right; rw [show w (kNa jk) = zI l from el, zI_toInt rl]; exact q
  rw [kNp h0]
  unfold kSa
  rw [kCt_y cc]
  refine ⟨by dsimp only; omega, fun i hi => ?_⟩
  dsimp only at hi ⊢
  rw [← e]
  by_cases q : i = (kCt w (kNa jk)).1
  · rw [if_pos q, show i = c.toNat by omega, pk_us, show ((kNa jk : Nat) : Int) = jk by show ((jk.toNat : Nat) : Int) = jk; omega]
  · rw [if_neg q, pk_un (by omega)]
    exact h2 i (by omega)
theorem kSa_n (h : kSa w (kNa jk) c F) (h0 : 0 ≤ jk) (hc : ¬ (jk = 0 ∨ l < 12)) (rl : rg l) (el : w jk.toNat = zI l) : kSa w (kNa (jk + 1)) c F := by
  have cc : ¬ (kNa jk = 0 ∨ (w (kNa jk)).toInt < 12) := by
    intro q
    rcases q with q | q
    · have q2 : jk.toNat = 0 := q
      omega
    · rw [show w (kNa jk) = zI l from el, zI_toInt rl] at q
      omega
  rw [kNp h0]
  unfold kSa
  rw [kCt_n cc]
  exact h
theorem kCt_c (hc : jk = 0 ∨ l < 12) (rl : rg l) (el : w jk.toNat = zI l) : kNa jk = 0 ∨ (w (kNa jk)).toInt < 12 := by
  rcases hc with q | q
  · left; show jk.toNat = 0; omega
  · right; rw [show w (kNa jk) = zI l from el, zI_toInt rl]; exact q
theorem kCt_d (h0 : 0 ≤ jk) (hc : ¬ (jk = 0 ∨ l < 12)) (rl : rg l) (el : w jk.toNat = zI l) : ¬ (kNa jk = 0 ∨ (w (kNa jk)).toInt < 12) := by
  intro q
  rcases q with q | q
  · have q2 : jk.toNat = 0 := q
    omega
  · rw [show w (kNa jk) = zI l from el, zI_toInt rl] at q
    omega
theorem kCu_y (h : kCu w (kNa jk) c F N L) (h0 : 0 ≤ jk) (hc : jk = 0 ∨ l < 12) (rl : rg l) (el : w jk.toNat = zI l) (e1 : upd F c.toNat (zI jk) = F2) (e2 : upd N c.toNat (zI 0) = N1) (l1 : N1 (c + 1 - 1).toNat = zI z1) (e3 : upd N1 (c + 1 - 1).toNat (zI (z1 + 1)) = N2) (e4 : upd L c.toNat (zI 0) = L1) (l2 : L1 (c + 1 - 1).toNat = zI z2) (x3 : zI 1 <<< (zI l &&& 31) = zI z3) (x4 : zI z2 ||| zI z3 = zI z4) (e5 : upd L1 (c + 1 - 1).toNat (zI z4) = L2) : kCu w (kNa (jk + 1)) (c + 1) F2 N2 L2 := by
  obtain ⟨h1, h2⟩ := h
  have cc := kCt_c hc rl el
  have cN : c.toNat = (kCt w (kNa jk)).1 := by omega
  have cM : (c + 1 - 1).toNat = (kCt w (kNa jk)).1 := by omega
  rw [cN] at e1 e2 e4
  rw [cM] at l1 e3 l2 e5
  have jn : ((kNa jk : Nat) : Int) = jk := by show ((jk.toNat : Nat) : Int) = jk; omega
  rw [kNp h0]
  unfold kCu
  refine ⟨by rw [kCt_y cc]; dsimp only; omega, fun i hi => ?_⟩
  have hi2 : i < (kCt w (kNa jk)).1 + 1 := by rw [kCt_y cc] at hi; exact hi
  by_cases q : i = (kCt w (kNa jk)).1
  · have s1 : (kCt w (kNa jk + 1)).2 i = kNa jk := by rw [kCt_y cc]; exact if_pos q
    have s2 : kEn w (kNa jk + 1) i = kNa jk + 1 := kEn_last (by rw [kCt_y cc]; show i + 1 = _ + 1; rw [q])
    rw [s1, s2, show kNa jk + 1 - kNa jk = 1 by omega, q]
    refine ⟨by rw [← e1, pk_us, jn], ?_, ?_⟩
    · rw [← e3, pk_us, ← zI_add, ← l1, ← e2, pk_us, zI_add]
      congr 1
      omega
    · rw [← e5, pk_us, ← x4, ← l2, ← e4, pk_us, ← x3]
      show _ = (0 : Int32) ||| (zI 1 <<< (w (kNa jk + 0) &&& 31))
      rw [show w (kNa jk + 0) = zI l from el]
      rfl
  · have s1 : (kCt w (kNa jk + 1)).2 i = (kCt w (kNa jk)).2 i := by rw [kCt_y cc]; exact if_neg q
    rw [s1, kEn_new cc (by omega), ← e1, ← e3, ← e2, ← e5, ← e4, pk_un q, pk_un q, pk_un q, pk_un q, pk_un q]
    exact h2 i (by omega)
theorem kCu_n (h : kCu w (kNa jk) c F N L) (h0 : 0 ≤ jk) (hp : 1 ≤ c) (hc : ¬ (jk = 0 ∨ l < 12)) (rl : rg l) (el : w jk.toNat = zI l) (l1 : N (c - 1).toNat = zI z1) (e3 : upd N (c - 1).toNat (zI (z1 + 1)) = N2) (l2 : L (c - 1).toNat = zI z2) (x3 : zI 1 <<< (zI l &&& 31) = zI z3) (x4 : zI z2 ||| zI z3 = zI z4) (e5 : upd L (c - 1).toNat (zI z4) = L2) : kCu w (kNa (jk + 1)) c F N2 L2 := by
  obtain ⟨h1, h2⟩ := h
  have cc := kCt_d h0 hc rl el
  obtain ⟨b1, b2, b3, b4⟩ := kCt_b (w := w) (kNa jk)
  have cM : (c - 1).toNat = (kCt w (kNa jk)).1 - 1 := by omega
  rw [cM] at l1 e3 l2 e5
  rw [kNp h0]
  unfold kCu
  rw [kCt_n cc]
  refine ⟨h1, fun i hi => ?_⟩
  obtain ⟨t1, t2, t3⟩ := h2 i hi
  by_cases q : i = (kCt w (kNa jk)).1 - 1
  · have s0 : kEn w (kNa jk) i = kNa jk := kEn_last (by omega)
    have s2 : kEn w (kNa jk + 1) i = kNa jk + 1 := kEn_last (by rw [kCt_n cc]; omega)
    have s3 := b3 i hi
    rw [s0] at t2 t3
    rw [s2]
    refine ⟨t1, ?_, ?_⟩
    · rw [← e3, q, pk_us, ← zI_add, ← l1, ← q, t2, zI_add]
      congr 1
      omega
    · rw [← e5, q, pk_us, ← x4, ← l2, ← q, t3, ← x3, show kNa jk + 1 - (kCt w (kNa jk)).2 i = (kNa jk - (kCt w (kNa jk)).2 i) + 1 by omega]
      show _ = kOr w _ _ ||| (zI 1 <<< (w ((kCt w (kNa jk)).2 i + (kNa jk - (kCt w (kNa jk)).2 i)) &&& 31))
      rw [show (kCt w (kNa jk)).2 i + (kNa jk - (kCt w (kNa jk)).2 i) = kNa jk by omega, show w (kNa jk) = zI l from el]
  · rw [kEn_old cc (by omega), ← e3, ← e5, pk_un q, pk_un q]
    exact ⟨t1, t2, t3⟩
end
/-! who fits: a set of FONTS as bits, FONT by FONT -/
def kFb (b : Nat → Bool) : Nat → Int32
  | 0 => 0
  | f + 1 => kFb b f ||| (if b f then zI 1 <<< (zI (f : Int) &&& 31) else zI 0)
def kHx (has : Nat → Int32) (x : Int32) : Nat → Bool := fun f => decide (has f &&& x = x)
def kHm (has : Nat → Int32) (wo : Int) (x : Int32) : Nat → Bool := fun f => decide (¬ (f : Int) = wo ∧ x &&& (has f ^^^ zI (-1)) = zI 0)
theorem kFb_cong {b b2 : Nat → Bool} : ∀ n : Nat, (∀ i, i < n → b i = b2 i) → kFb b n = kFb b2 n
  | 0, _ => rfl
  | n + 1, h => by
    show kFb b n ||| _ = kFb b2 n ||| _
    rw [kFb_cong n (fun i hi => h i (by omega)), h n (by omega)]
section
variable {b : Nat → Bool} {js jk z1 z2 z3 le x : Int} {has : Nat → Int32}
theorem kFb_y (h : zI js = kFb b (kNa jk)) (h0 : 0 ≤ jk) (hb : b (kNa jk) = true) (e1 : zI 1 <<< (zI jk &&& 31) = zI z1) (e2 : zI js ||| zI z1 = zI z2) : zI z2 = kFb b (kNa (jk + 1)) := by
  rw [kNp h0]
  show zI z2 = kFb b (kNa jk) ||| (if b (kNa jk) then zI 1 <<< (zI ((kNa jk : Nat) : Int) &&& 31) else zI 0)
  rw [hb, if_pos rfl, ← h, kNc h0, e1, e2]
theorem kFb_n (h : zI js = kFb b (kNa jk)) (h0 : 0 ≤ jk) (hb : b (kNa jk) = false) : zI js = kFb b (kNa (jk + 1)) := by
  rw [kNp h0]
  show zI js = kFb b (kNa jk) ||| (if b (kNa jk) then zI 1 <<< (zI ((kNa jk : Nat) : Int) &&& 31) else zI 0)
  rw [hb, if_neg (by decide), ← h, kb_o0]
theorem kHx_y (e : has jk.toNat = zI z1) (e2 : zI z1 &&& zI le = zI z2) (h : z2 = le) : kHx has (zI le) (kNa jk) = true := by
  show decide (has jk.toNat &&& zI le = zI le) = true
  rw [e, e2, h]
  exact decide_eq_true rfl
theorem kHx_n (e : has jk.toNat = zI z1) (e2 : zI z1 &&& zI le = zI z2) (r2 : rg z2) (rl : rg le) (h : ¬ z2 = le) : kHx has (zI le) (kNa jk) = false := by
  show decide (has jk.toNat &&& zI le = zI le) = false
  rw [e, e2]
  exact decide_eq_false (fun q => h ((zI_eq r2 rl).mp q))
theorem kHm_y {wo : Int} (h0 : 0 ≤ jk) (hw : ¬ jk = wo) (e : has jk.toNat = zI z1) (e2 : zI z1 ^^^ zI (-1) = zI z2) (e3 : zI x &&& zI z2 = zI z3) (h : z3 = 0) : kHm has wo (zI x) (kNa jk) = true := by
  show decide (¬ ((kNa jk : Nat) : Int) = wo ∧ zI x &&& (has jk.toNat ^^^ zI (-1)) = zI 0) = true
  rw [e, e2, e3, h, kNc h0]
  exact decide_eq_true ⟨hw, rfl⟩
theorem kHm_w {wo : Int} (h0 : 0 ≤ jk) (hw : jk = wo) : kHm has wo (zI x) (kNa jk) = false := by
  show decide (¬ ((kNa jk : Nat) : Int) = wo ∧ _) = false
  rw [kNc h0]
  exact decide_eq_false (fun q => q.1 hw)
theorem kHm_n {wo : Int} (e : has jk.toNat = zI z1) (e2 : zI z1 ^^^ zI (-1) = zI z2) (e3 : zI x &&& zI z2 = zI z3) (r3 : rg z3) (h : ¬ z3 = 0) : kHm has wo (zI x) (kNa jk) = false := by
  show decide (¬ ((kNa jk : Nat) : Int) = wo ∧ zI x &&& (has jk.toNat ^^^ zI (-1)) = zI 0) = false
  rw [e, e2, e3]
  exact decide_eq_false (fun q => h ((zI_eq r3 (by omega)).mp q.2))
end
/-- having all of a set, in the class's words and in the reference's -/
theorem kHas_iff (h x : Int32) : (h &&& x = x) ↔ (x &&& (h ^^^ zI (-1)) = zI 0) := by
  have m1 : ∀ i, i < 32 → bt (zI (-1)) i = true := by decide +kernel
  constructor
  · intro q
    apply b_ext
    intro i hi
    have q2 := congrArg (fun z => bt z i) q
    simp only [b_and] at q2
    rw [b_and, b_xor, m1 i hi, show bt (zI 0) i = false from b_0 i]
    revert q2
    cases bt h i <;> cases bt x i <;> decide
  · intro q
    apply b_ext
    intro i hi
    have q2 := congrArg (fun z => bt z i) q
    simp only [b_and, b_xor] at q2
    rw [m1 i hi, show bt (zI 0) i = false from b_0 i] at q2
    rw [b_and]
    revert q2
    cases bt h i <;> cases bt x i <;> decide
/-- all FONTS; all but one -/
def kAl (n : Int) : Int32 := (zI 1 <<< (zI n &&& 31)) - zI 1
def kAw (n wo : Int) : Int32 := if 0 ≤ wo then kAl n &&& ((zI 1 <<< (zI wo &&& 31)) ^^^ zI (-1)) else kAl n
def kQ4 (c : Bool × Bool × Bool × Bool) : Nat → Bool
  | 0 => c.1
  | 1 => c.2.1
  | 2 => c.2.2.1
  | _ => c.2.2.2
theorem kQ4_eq (b : Nat → Bool) : ∀ i, i < 4 → b i = kQ4 (b 0, b 1, b 2, b 3) i
  | 0, _ => rfl
  | 1, _ => rfl
  | 2, _ => rfl
  | 3, _ => rfl
  | i + 4, h => by omega
theorem kFb_to {b : Nat → Bool} {n : Nat} (hn : n ≤ 4) : kFb b n = kFb (kQ4 (b 0, b 1, b 2, b 3)) n := kFb_cong n (fun i hi => kQ4_eq b i (by omega))
def kXb (b : Nat → Bool) (wo : Int) : Nat → Bool := fun f => b f && !decide ((f : Int) = wo)
theorem kFa_all : ∀ n : Fin 5, ∀ a b c d : Bool, kFb (kQ4 (a, b, c, d)) n.val &&& kAl (n.val : Int) = kFb (kQ4 (a, b, c, d)) n.val := by decide +kernel
theorem kFa_wo : ∀ n : Fin 5, ∀ w : Fin 4, ∀ a b c d : Bool, kFb (kQ4 (a, b, c, d)) n.val &&& (kAl (n.val : Int) &&& ((zI 1 <<< (zI (w.val : Int) &&& 31)) ^^^ zI (-1))) = kFb (kXb (kQ4 (a, b, c, d)) (w.val : Int)) n.val := by decide +kernel
/-- who fits without the one left out: the class's and the reference's -/
theorem kFb_aw {b : Nat → Bool} {n wo : Int} (hn : 0 ≤ n ∧ n ≤ 4) (hw : wo = -9 ∨ (0 ≤ wo ∧ wo ≤ 3)) : kFb b (kNa n) &&& kAw n wo = kFb (kXb b wo) (kNa n) := by
  have e4 : kFb (kXb b wo) (kNa n) = kFb (kXb (kQ4 (b 0, b 1, b 2, b 3)) wo) (kNa n) := kFb_cong _ (fun i hi => by
    have : (kNa n) ≤ 4 := by show n.toNat ≤ 4; omega
    show (b i && _) = (kQ4 _ i && _)
    rw [kQ4_eq b i (by omega)])
  rw [e4, kFb_to (b := b) (by show n.toNat ≤ 4; omega)]
  have nn : n = ((kNa n : Nat) : Int) := (kNc hn.1).symm
  unfold kAw
  rcases hw with w | w
  · rw [if_neg (by omega), w]
    have q := kFa_all ⟨kNa n, by show n.toNat < 5; omega⟩ (b 0) (b 1) (b 2) (b 3)
    dsimp only at q
    rw [← nn] at q
    rw [q]
    refine kFb_cong _ (fun i hi => ?_)
    show _ = (_ && !decide ((i : Int) = -9))
    rw [decide_eq_false (by omega)]
    simp
  · rw [if_pos w.1]
    have q := kFa_wo ⟨kNa n, by show n.toNat < 5; omega⟩ ⟨kNa wo, by show wo.toNat < 4; omega⟩ (b 0) (b 1) (b 2) (b 3)
    dsimp only at q
    rw [← nn, kNc w.1] at q
    exact q
theorem kXb_hm {has : Nat → Int32} {wo : Int} {x : Int32} (i : Nat) : kXb (kHx has x) wo i = kHm has wo x i := by
  show (decide (has i &&& x = x) && !decide ((i : Int) = wo)) = decide (¬ (i : Int) = wo ∧ x &&& (has i ^^^ zI (-1)) = zI 0)
  by_cases a : (i : Int) = wo <;> by_cases c : has i &&& x = x
  · rw [decide_eq_true a, decide_eq_false (p := ¬ (i : Int) = wo ∧ _) (fun q => q.1 a)]; simp
  · rw [decide_eq_true a, decide_eq_false (p := ¬ (i : Int) = wo ∧ _) (fun q => q.1 a)]; simp
  · rw [decide_eq_true c, decide_eq_false a, decide_eq_true ⟨a, (kHas_iff _ _).mp c⟩]; rfl
  · rw [decide_eq_false c, decide_eq_false (p := ¬ (i : Int) = wo ∧ _) (fun q => c ((kHas_iff _ _).mpr q.2))]; rfl
/-- which bits are open: those of the set, or of all that are allowed if the set is empty -/
def kOx (x al : Int32) : Int32 := if x = 0 then al else x
def kOp (x al : Int32) (f : Int) : Prop := (kOx x al >>> (zI f &&& 31)) &&& 1 = 1
theorem kOp_all : ∀ n : Fin 5, ∀ f : Fin 4, (((kAl (n.val : Int)) >>> (zI (f.val : Int) &&& 31)) &&& 1 = 1) ↔ f.val < n.val := by decide +kernel
theorem kOp_wo : ∀ n : Fin 5, ∀ w : Fin 4, ∀ f : Fin 4, ((kAl (n.val : Int) &&& ((zI 1 <<< (zI (w.val : Int) &&& 31)) ^^^ zI (-1))) >>> (zI (f.val : Int) &&& 31)) &&& 1 = 1 ↔ (f.val < n.val ∧ ¬ f.val = w.val) := by decide +kernel
theorem kOp_aw {n wo f : Int} (hn : 0 ≤ n ∧ n ≤ 4) (hw : wo = -9 ∨ (0 ≤ wo ∧ wo ≤ 3)) (hf : 0 ≤ f ∧ f < 4) : ((kAw n wo >>> (zI f &&& 31)) &&& 1 = 1) ↔ (f < n ∧ ¬ f = wo) := by
  have nn : n = ((kNa n : Nat) : Int) := (kNc hn.1).symm
  have ff : f = ((kNa f : Nat) : Int) := (kNc hf.1).symm
  unfold kAw
  rcases hw with w | w
  · rw [if_neg (by omega)]
    have q := kOp_all ⟨kNa n, by show n.toNat < 5; omega⟩ ⟨kNa f, by show f.toNat < 4; omega⟩
    dsimp only at q
    rw [← nn, ← ff] at q
    rw [q]
    constructor <;> intro h <;> omega
  · rw [if_pos w.1]
    have q := kOp_wo ⟨kNa n, by show n.toNat < 5; omega⟩ ⟨kNa wo, by show wo.toNat < 4; omega⟩ ⟨kNa f, by show f.toNat < 4; omega⟩
    dsimp only at q
    rw [← nn, ← ff, kNc w.1] at q
    rw [q]
    have w2 := kNc w.1
    constructor <;> intro h <;> omega
theorem kFb_bit4 : ∀ n : Fin 5, ∀ f : Fin 4, ∀ a b c d : Bool, ((kFb (kQ4 (a, b, c, d)) n.val) >>> (zI (f.val : Int) &&& 31)) &&& 1 = 1 → (f.val < n.val ∧ kQ4 (a, b, c, d) f.val = true) := by decide +kernel
theorem kFb_bit {b : Nat → Bool} {n f : Int} (hn : 0 ≤ n ∧ n ≤ 4) (hf : 0 ≤ f ∧ f < 4) (h : ((kFb b (kNa n)) >>> (zI f &&& 31)) &&& 1 = 1) : f < n ∧ b (kNa f) = true := by
  have ff : f = ((kNa f : Nat) : Int) := (kNc hf.1).symm
  have f4 : kNa f < 4 := by show f.toNat < 4; omega
  rw [kFb_to (b := b) (by show n.toNat ≤ 4; omega), ff] at h
  have q := kFb_bit4 ⟨kNa n, by show n.toNat < 5; omega⟩ ⟨kNa f, f4⟩ (b 0) (b 1) (b 2) (b 3) h
  dsimp only at q
  rw [← kQ4_eq b _ f4] at q
  have nn := kNc hn.1
  exact ⟨by omega, q.2⟩
/-- the class's open FONTS are those that the reference can set -/
theorem kOp_can {has : Nat → Int32} {x : Int32} {n wo f : Int} (hn : 0 ≤ n ∧ n ≤ 4) (hw : wo = -9 ∨ (0 ≤ wo ∧ wo ≤ 3)) (hf : 0 ≤ f ∧ f < 4) : kOp (kFb (kHm has wo x) (kNa n)) (kAw n wo) f ↔ (f < n ∧ kCan (kFb (kHm has wo x) (kNa n)) f wo) := by
  unfold kOp kOx
  by_cases e : kFb (kHm has wo x) (kNa n) = 0
  · rw [if_pos e, kOp_aw hn hw hf]
    constructor
    · intro q
      exact ⟨q.1, q.2, Or.inl e⟩
    · intro q
      exact ⟨q.1, q.2.1⟩
  · rw [if_neg e]
    constructor
    · intro q
      have q2 := kFb_bit hn hf q
      refine ⟨q2.1, ?_, Or.inr q⟩
      intro w
      have q3 := q2.2
      rw [kHm_w (x := x.toInt) hf.1 w |> (show kHm has wo (zI x.toInt) (kNa f) = false → kHm has wo x (kNa f) = false from fun t => by rw [zI_of] at t; exact t)] at q3
      cases q3
    · intro q
      rcases q.2.2 with q2 | q2
      · exact absurd q2 e
      · exact q2
/-! boxes -/
def kBx (f : Nat → Int32) : Nat → Int
  | 0 => 0
  | n + 1 => kBx f n + (if f n = 0 then 1 else 0)
theorem kBx_cong {f g : Nat → Int32} : ∀ n : Nat, (∀ i, i < n → f i = g i) → kBx f n = kBx g n
  | 0, _ => rfl
  | n + 1, h => by
    show kBx f n + _ = kBx g n + _
    rw [kBx_cong n (fun i hi => h i (by omega)), h n (by omega)]
theorem kBx_y {f F : Nat → Int32} {k b z : Int} {x : Int32} (h : b = kBx f (kNa k)) (h0 : 0 ≤ k) (e : upd f k.toNat x = F) (l : F k.toNat = zI z) (hz : z = 0) : b + 1 = kBx F (kNa (k + 1)) := by
  rw [kNp h0]
  show b + 1 = kBx F (kNa k) + (if F k.toNat = 0 then 1 else 0)
  rw [l, hz, if_pos (by rfl), h, kBx_cong (f := F) (g := f) _ (fun i hi => by rw [← e, pk_un (show ¬ i = k.toNat from by have : i < k.toNat := hi; omega)])]
theorem kBx_n {f F : Nat → Int32} {k b z : Int} {x : Int32} (h : b = kBx f (kNa k)) (h0 : 0 ≤ k) (e : upd f k.toNat x = F) (l : F k.toNat = zI z) (rz : rg z) (hz : ¬ z = 0) : b = kBx F (kNa (k + 1)) := by
  rw [kNp h0]
  show b = kBx F (kNa k) + (if F k.toNat = 0 then 1 else 0)
  rw [l, if_neg (show ¬ zI z = 0 from fun q => hz ((zI_eq rz (by omega)).mp q)), h, kBx_cong (f := F) (g := f) _ (fun i hi => by rw [← e, pk_un (show ¬ i = k.toNat from by have : i < k.toNat := hi; omega)])]
  omega
theorem kBx_b (f : Nat → Int32) : ∀ n : Nat, 0 ≤ kBx f n ∧ kBx f n ≤ n
  | 0 => ⟨by show (0 : Int) ≤ 0; omega, by show (0 : Int) ≤ 0; omega⟩
  | n + 1 => by
    have := kBx_b f n
    show 0 ≤ kBx f n + _ ∧ kBx f n + _ ≤ _
    split <;> omega
/-- what the class's findFitting has made of the first j CLUSTERS -/
def kFz (F L has : Nat → Int32) (n al : Int) (j : Int) : Prop := ∀ i : Nat, (i : Int) < j → F i = kFb (kHx has (L i)) (kNa n) &&& zI al
theorem kFz_0 {F L has : Nat → Int32} {n al : Int} : kFz F L has n al 0 := fun i h => by omega
theorem kFz_s {F L has G : Nat → Int32} {n al k z1 z2 z3 : Int} (h : kFz F L has n al k) (h0 : 0 ≤ k) (l : L k.toNat = zI z1) (f : zI z2 = kFb (kHx has (zI z1)) (kNa n)) (e2 : zI z2 &&& zI al = zI z3) (e : upd F k.toNat (zI z3) = G) : kFz G L has n al (k + 1) := by
  intro i hi
  rw [← e]
  by_cases q : i = k.toNat
  · rw [q, pk_us, ← e2, f, ← l]
  · rw [pk_un q]
    exact h i (by omega)
theorem kFz_le {F L has : Nat → Int32} {n al j k : Int} (h : kFz F L has n al j) (e : k ≤ j) : kFz F L has n al k := fun i hi => h i (by omega)
/-! the class's table of what lies behind, by CLUSTER and FONT -/
def kB (gp : Nat → Nat → Int32) (o : Nat) (c f : Int) : Int := (gp (o + c.toNat) f.toNat).toInt
section
variable {gp gp2 : Nat → Nat → Int32} {o : Nat} {x : Nat → Int32} {al : Int32} {cn k f j v b z z2 z3 z4 z5 z8 z9 c l : Int}
theorem kB_at (rz : rg z) (e : gp (o + c.toNat) f.toNat = zI z) : kB gp o c f = z := by
  unfold kB
  rw [e, zI_toInt rz]
theorem kB_same (e : va_up gp (o + k.toNat) (upd (gp (o + k.toNat)) j.toNat (zI v)) = gp2) (rv : rg v) : kB gp2 o k j = v := by
  unfold kB
  rw [← e, va_up_self, pk_us, zI_toInt rv]
theorem kB_other (e : va_up gp (o + k.toNat) (upd (gp (o + k.toNat)) j.toNat (zI v)) = gp2) (h : 0 ≤ k ∧ 0 ≤ j ∧ 0 ≤ c ∧ 0 ≤ f) (ne : ¬ (c = k ∧ f = j)) : kB gp2 o c f = kB gp o c f := by
  unfold kB
  rw [← e]
  by_cases q : c = k
  · rw [q, va_up_self, pk_un (by omega)]
  · rw [va_up_ne _ _ (by omega)]
def kLs (gp : Nat → Nat → Int32) (o : Nat) (c j b : Int) : Prop := b ≤ 1000 ∧ (∀ f : Int, 0 ≤ f → f < j → b ≤ kB gp o c f) ∧ (b = 1000 ∨ ∃ f : Int, 0 ≤ f ∧ f < j ∧ b = kB gp o c f)
theorem kLs_0 : kLs gp o c 0 1000 := ⟨by omega, fun f h1 h2 => by omega, Or.inl rfl⟩
theorem kLs_s (h : kLs gp o k j b) (h0 : 0 ≤ j ∧ 0 ≤ k) (e : va_up gp (o + k.toNat) (upd (gp (o + k.toNat)) j.toNat (zI v)) = gp2) (rl : rg z) (l : gp2 (o + k.toNat) j.toNat = zI z) (m : z2 ≤ b ∧ z2 ≤ z ∧ (z2 = b ∨ z2 = z)) : kLs gp2 o k (j + 1) z2 := by
  obtain ⟨h1, h2, h3⟩ := h
  have q := kB_at rl l
  refine ⟨by omega, fun f g1 g2 => ?_, ?_⟩
  · by_cases w : f = j
    · rw [w, q]; omega
    · rw [kB_other e (by omega) (by omega)]
      have := h2 f g1 (by omega)
      omega
  · rcases m.2.2 with m2 | m2
    · rcases h3 with h3 | ⟨f, g1, g2, g3⟩
      · left; omega
      · right
        exact ⟨f, g1, by omega, by rw [kB_other e (by omega) (by omega)]; omega⟩
    · right
      exact ⟨j, h0.1, by omega, by rw [q]; exact m2⟩
theorem kLs_keep (h : kLs gp o c 4 b) (h0 : 0 ≤ j ∧ 0 ≤ k ∧ 0 ≤ c) (ne : ¬ c = k) (e : va_up gp (o + k.toNat) (upd (gp (o + k.toNat)) j.toNat (zI v)) = gp2) : kLs gp2 o c 4 b := by
  obtain ⟨h1, h2, h3⟩ := h
  refine ⟨h1, fun f g1 g2 => ?_, ?_⟩
  · rw [kB_other e (by omega) (by omega)]
    exact h2 f g1 g2
  · rcases h3 with h3 | ⟨f, g1, g2, g3⟩
    · exact Or.inl h3
    · exact Or.inr ⟨f, g1, g2, by rw [kB_other e (by omega) (by omega)]; exact g3⟩
/-- the entry (c, f) is as it must be -/
def kBr (gp : Nat → Nat → Int32) (o : Nat) (x : Nat → Int32) (al : Int32) (cn c f : Int) : Prop := (0 ≤ kB gp o c f ∧ kB gp o c f ≤ 1000) ∧ (¬ kOp (x c.toNat) al f → kB gp o c f = 1000) ∧ (kOp (x c.toNat) al f → c + 1 = cn → kB gp o c f = 0) ∧ (kOp (x c.toNat) al f → c + 1 < cn → ∃ b : Int, kLs gp o (c + 1) 4 b ∧ kB gp o c f ≤ kB gp o (c + 1) f ∧ kB gp o c f ≤ b + 1 ∧ (kB gp o c f = kB gp o (c + 1) f ∨ kB gp o c f = b + 1))
theorem kBr_keep (h : kBr gp o x al cn c f) (h0 : 0 ≤ k ∧ 0 ≤ j ∧ k ≤ c ∧ 0 ≤ f) (ne : ¬ (c = k ∧ f = j)) (e : va_up gp (o + k.toNat) (upd (gp (o + k.toNat)) j.toNat (zI v)) = gp2) : kBr gp2 o x al cn c f := by
  obtain ⟨h1, h2, h3, h4⟩ := h
  unfold kBr
  rw [kB_other e (by omega) ne, kB_other (c := c + 1) e (by omega) (by omega)]
  exact ⟨h1, h2, h3, fun q1 q2 => by
    obtain ⟨b, b1, b2⟩ := h4 q1 q2
    exact ⟨b, kLs_keep b1 (by omega) (by omega) e, b2⟩⟩
def kBh (gp : Nat → Nat → Int32) (o : Nat) (x : Nat → Int32) (al : Int32) (cn c0 : Int) : Prop := ∀ c f : Int, c0 ≤ c → c < cn → 0 ≤ f → f < 4 → kBr gp o x al cn c f
def kBw (gp : Nat → Nat → Int32) (o : Nat) (x : Nat → Int32) (al : Int32) (cn c j : Int) : Prop := ∀ f : Int, 0 ≤ f → f < j → kBr gp o x al cn c f
def kLl (gp : Nat → Nat → Int32) (o : Nat) (cn c b : Int) : Prop := 0 ≤ b ∧ b ≤ 1000 ∧ (c = cn → b = 0) ∧ (c < cn → kLs gp o c 4 b)
theorem kBh_top (h : cn ≤ c) : kBh gp o x al cn c := fun c' f h1 h2 => by omega
theorem kLl_top (h : c = cn) : kLl gp o cn c 0 := ⟨by omega, by omega, fun _ => rfl, fun q => by omega⟩
theorem kLl_of (h : kLs gp o k 4 b) (hc : c = k) (h2 : k < cn) (hb : kBw gp o x al cn k 4) : kLl gp o cn c b := by
  subst hc
  refine ⟨?_, h.1, fun q => by omega, fun _ => h⟩
  rcases h.2.2 with e | ⟨f, g1, g2, g3⟩
  · omega
  · have := (hb f g1 g2).1
    omega
theorem kBw_0 : kBw gp o x al cn c 0 := fun f h1 h2 => by omega
theorem kBh_dn (h : kBh gp o x al cn (k + 1)) (h2 : kBw gp o x al cn k j) (hj : 4 ≤ j) (hc : c = k) : kBh gp o x al cn c := by
  subst hc
  intro c' f h3 h4 h5 h6
  by_cases e : c' = c
  · rw [e]
    exact h2 f h5 (by omega)
  · exact h c' f (by omega) h4 h5 h6
theorem kBh_keep (h : kBh gp o x al cn (k + 1)) (h0 : 0 ≤ k ∧ 0 ≤ j) (e : va_up gp (o + k.toNat) (upd (gp (o + k.toNat)) j.toNat (zI v)) = gp2) : kBh gp2 o x al cn (k + 1) := fun c f h1 h2 h3 h4 => kBr_keep (h c f h1 h2 h3 h4) (by omega) (by omega) e
theorem kLl_keep (h : kLl gp o cn (k + 1) b) (h0 : 0 ≤ k ∧ 0 ≤ j) (e : va_up gp (o + k.toNat) (upd (gp (o + k.toNat)) j.toNat (zI v)) = gp2) : kLl gp2 o cn (k + 1) b := ⟨h.1, h.2.1, h.2.2.1, fun q => kLs_keep (h.2.2.2 q) (by omega) (by omega) e⟩
theorem kBw_keep (h : kBw gp o x al cn k j) (h0 : 0 ≤ k ∧ 0 ≤ j) (e : va_up gp (o + k.toNat) (upd (gp (o + k.toNat)) j.toNat (zI v)) = gp2) : kBw gp2 o x al cn k j := fun f h1 h2 => kBr_keep (h f h1 h2) (by omega) (by omega) e
theorem kBw_s (h : kBw gp o x al cn k j) (h0 : 0 ≤ k ∧ 0 ≤ j) (e : va_up gp (o + k.toNat) (upd (gp (o + k.toNat)) j.toNat (zI v)) = gp2) (hr : kBr gp2 o x al cn k j) : kBw gp2 o x al cn k (j + 1) := by
  intro f h1 h2
  by_cases q : f = j
  · rw [q]; exact hr
  · exact kBr_keep (h f h1 (by omega)) (by omega) (by omega) e
/-- three ways of an entry: not open; open at the last CLUSTER; open before it -/
theorem kBw_no (h : kBw gp o x al cn k j) (h0 : 0 ≤ k ∧ 0 ≤ j) (e : va_up gp (o + k.toNat) (upd (gp (o + k.toNat)) j.toNat (zI 1000)) = gp2) (ho : ¬ kOp (x k.toNat) al j) : kBw gp2 o x al cn k (j + 1) := by
  have q := kB_same e (by omega)
  exact kBw_s h h0 e ⟨by omega, fun _ => q, fun w => absurd w ho, fun w => absurd w ho⟩
theorem kBw_last (h : kBw gp o x al cn k j) (h0 : 0 ≤ k ∧ 0 ≤ j) (e : va_up gp (o + k.toNat) (upd (gp (o + k.toNat)) j.toNat (zI v)) = gp2) (ho : kOp (x k.toNat) al j) (hl : kLl gp o cn (k + 1) l) (hk : cn ≤ k + 1 ∧ k < cn) (m : v ≤ 0 ∧ v ≤ l + 1 ∧ (v = 0 ∨ v = l + 1)) : kBw gp2 o x al cn k (j + 1) := by
  have l0 := hl.2.2.1 (by omega)
  have q := kB_same e (by omega)
  exact kBw_s h h0 e ⟨by omega, fun w => absurd ho w, fun _ _ => by omega, fun _ w => by omega⟩
theorem kBw_more (h : kBw gp o x al cn k j) (h0 : 0 ≤ k ∧ 0 ≤ j) (e : va_up gp (o + k.toNat) (upd (gp (o + k.toNat)) j.toNat (zI v)) = gp2) (ho : kOp (x k.toNat) al j) (hl : kLl gp o cn (k + 1) l) (hb : kBh gp o x al cn (k + 1)) (hj : j < 4) (hk : k + 1 < cn) (rz : rg z) (ez : gp (o + (k + 1).toNat) j.toNat = zI z) (m : v ≤ z ∧ v ≤ l + 1 ∧ (v = z ∨ v = l + 1)) : kBw gp2 o x al cn k (j + 1) := by
  have s := kB_at rz ez
  have b1 := (hb (k + 1) j (by omega) hk h0.2 hj).1
  have l1 := hl.1
  have l2 := hl.2.1
  have q := kB_same e (by omega)
  have s2 : kB gp2 o (k + 1) j = z := by rw [kB_other e (by omega) (by omega)]; exact s
  exact kBw_s h h0 e ⟨by omega, fun w => absurd ho w, fun _ w => by omega, fun _ _ => ⟨l, kLs_keep (hl.2.2.2 hk) (by omega) (by omega) e, by omega, by omega, by omega⟩⟩
theorem kOx_0 (e : x k.toNat = zI z2) (h : z2 = 0) (e5 : zI c = zI z5) : zI z5 = kOx (x k.toNat) (zI c) := by
  unfold kOx
  rw [if_pos (by rw [e, h]; rfl), e5]
theorem kOx_1 (e : x k.toNat = zI z2) (r2 : rg z2) (h : ¬ z2 = 0) (e4 : x k.toNat = zI z4) (e5 : zI z4 = zI z5) : zI z5 = kOx (x k.toNat) (zI c) := by
  unfold kOx
  rw [if_neg (show ¬ x k.toNat = 0 from fun q => h ((zI_eq r2 (by omega)).mp (by rw [← e, q]; rfl))), e4, e5]
theorem kb_01 (y : Int32) : y &&& 1 = 0 ∨ y &&& 1 = 1 := by
  by_cases h : y &&& 1 = 1
  · exact Or.inr h
  · left
    have o1 : ∀ i, i < 32 → bt 1 i = decide (i = 0) := by decide +kernel
    rw [kb_one] at h
    apply b_ext
    intro i hi
    rw [b_and, o1 i hi, show bt (0 : Int32) i = false from b_0 i]
    by_cases e : i = 0
    · subst e
      simp [h]
    · simp [e]
theorem kOp_y (e5 : zI z5 = kOx (x k.toNat) al) (e8 : zI z5 >>> (zI j &&& 31) = zI z8) (e9 : zI z8 &&& zI 1 = zI z9) (r9 : rg z9) (h : ¬ z9 = 0) : kOp (x k.toNat) al j := by
  unfold kOp
  rw [← e5, e8]
  rcases kb_01 (zI z8) with q | q
  · exact absurd ((zI_eq r9 (show rg 0 by omega)).mp (e9.symm.trans q)) h
  · exact q
theorem kOp_n (e5 : zI z5 = kOx (x k.toNat) al) (e8 : zI z5 >>> (zI j &&& 31) = zI z8) (e9 : zI z8 &&& zI 1 = zI z9) (h : z9 = 0) : ¬ kOp (x k.toNat) al j := by
  unfold kOp
  rw [← e5, e8]
  intro q
  have q2 : zI z9 = 1 := e9.symm.trans q
  rw [h] at q2
  exact absurd q2 (by decide)
end
/-! the choice at a CLUSTER: the first by PREFERENCE among the cheapest -/
def kVq (gp : Nat → Nat → Int32) (o : Nat) (c be : Int) (fp : Nat → Int32) (q : Nat) : Int := kB gp o c (fp q).toInt + (if (fp q).toInt = be ∨ be = -9 then 0 else 1)
def kFo (gp : Nat → Nat → Int32) (o : Nat) (c be : Int) (fp : Nat → Int32) (j x l : Int) : Prop := (l = 1000 ∧ x = 0 ∧ ∀ q : Nat, (q : Int) < j → 1000 ≤ kVq gp o c be fp q) ∨ (l < 1000 ∧ ∃ p : Nat, (p : Int) < j ∧ (fp p).toInt = x ∧ kVq gp o c be fp p = l ∧ (∀ q : Nat, q < p → l < kVq gp o c be fp q) ∧ ∀ q : Nat, (q : Int) < j → l ≤ kVq gp o c be fp q)
def kFx (gp : Nat → Nat → Int32) (o : Nat) (c be : Int) (fp : Nat → Int32) (pn x : Int) : Prop := ∃ l : Int, kFo gp o c be fp pn x l
def kBk (gp : Nat → Nat → Int32) (o : Nat) (k : Int) : Prop := ∀ f : Int, 0 ≤ f → f < 4 → 0 ≤ kB gp o k f ∧ kB gp o k f ≤ 1000
section
variable {gp : Nat → Nat → Int32} {o : Nat} {fp : Nat → Int32} {c be j x l v z2 z3 z5 d : Int}
theorem kBk_of {y : Nat → Int32} {al : Int32} {cn : Int} (h : kBh gp o y al cn 0) (hc : 0 ≤ c ∧ c < cn) : kBk gp o c := fun f h1 h2 => (h c f hc.1 hc.2 h1 h2).1
theorem kVq_at (hb : kBk gp o c) (r2 : rg z2) (e2 : fp j.toNat = zI z2) (b2 : 0 ≤ z2 ∧ z2 ≤ 3) (r3 : rg z3) (e3 : gp (o + c.toNat) z2.toNat = zI z3) (hd : ((z2 = be ∨ be = -9) ∧ d = 0) ∨ (¬ (z2 = be ∨ be = -9) ∧ d = 1)) (r5 : rg z5) (e5 : zI (z3 + d) = zI z5) : kVq gp o c be fp (kNa j) = z5 := by
  have a := kB_at (f := z2) r3 e3
  have b := hb z2 (by omega) (by omega)
  have t : (fp (kNa j)).toInt = z2 := by rw [show fp (kNa j) = zI z2 from e2, zI_toInt r2]
  have s := (zI_eq (show rg (z3 + d) by omega) r5).mp e5
  unfold kVq
  rw [t, a]
  rcases hd with ⟨h, hd⟩ | ⟨h, hd⟩
  · rw [if_pos h]; omega
  · rw [if_neg h]; omega
theorem kFo_0 : kFo gp o c be fp 0 0 1000 := Or.inl ⟨rfl, rfl, fun q h => by omega⟩
theorem kFo_ge (h : kFo gp o c be fp j x l) (h0 : 0 ≤ j) (e : kVq gp o c be fp (kNa j) = v) (hv : l ≤ v) : kFo gp o c be fp (j + 1) x l := by
  have key : ∀ q : Nat, (q : Int) < j + 1 → (∀ q : Nat, (q : Int) < j → l ≤ kVq gp o c be fp q) → l ≤ kVq gp o c be fp q := fun q hq hh => by
    by_cases w : q = kNa j
    · rw [w, e]; exact hv
    · exact hh q (by have : ¬ q = j.toNat := w; omega)
  rcases h with ⟨h1, h2, h3⟩ | ⟨h1, p, h2, h3, h4, h5, h6⟩
  · exact Or.inl ⟨h1, h2, fun q hq => h1 ▸ key q hq (fun q hq => h1 ▸ h3 q hq)⟩
  · exact Or.inr ⟨h1, p, by omega, h3, h4, h5, fun q hq => key q hq h6⟩
theorem kFo_lt (h : kFo gp o c be fp j x l) (h0 : 0 ≤ j) (r2 : rg z2) (e2 : fp j.toNat = zI z2) (e : kVq gp o c be fp (kNa j) = v) (hv : v < l) : kFo gp o c be fp (j + 1) z2 v := by
  have jn : ((kNa j : Nat) : Int) = j := kNc h0
  have lo : l ≤ 1000 ∧ ∀ q : Nat, (q : Int) < j → l ≤ kVq gp o c be fp q := by
    rcases h with ⟨h1, h2, h3⟩ | ⟨h1, p, h2, h3, h4, h5, h6⟩
    · exact ⟨by omega, fun q hq => h1 ▸ h3 q hq⟩
    · exact ⟨by omega, h6⟩
  refine Or.inr ⟨by omega, kNa j, by omega, by rw [show fp (kNa j) = zI z2 from e2, zI_toInt r2], e, fun q hq => ?_, fun q hq => ?_⟩
  · have := lo.2 q (by omega)
    omega
  · by_cases w : q = kNa j
    · rw [w, e]; omega
    · have := lo.2 q (by have : ¬ q = j.toNat := w; omega)
      omega
theorem kFx_of {pn : Int} (h : kFo gp o c be fp j x l) (e : j = pn) : kFx gp o c be fp pn x := ⟨l, e ▸ h⟩
end
/-! all choices; runs -/
def kBf (cs : Nat → Int32) (c : Int) : Int := if c = 0 then -9 else (cs (c - 1).toNat).toInt
def kCe (gp : Nat → Nat → Int32) (o : Nat) (fp : Nat → Int32) (pn : Int) (cs : Nat → Int32) (j : Int) : Prop := ∀ c : Int, 0 ≤ c → c < j → kFx gp o c (kBf cs c) fp pn (cs c.toNat).toInt ∧ (0 ≤ (cs c.toNat).toInt ∧ (cs c.toNat).toInt ≤ 3)
def kRo (ro cs : Nat → Int32) (j : Int) : Prop := ∀ i : Nat, (i : Int) < j → ro i = zI (kRn cs (i + 1) - 1)
section
variable {gp : Nat → Nat → Int32} {o : Nat} {fp ja jb F G : Nat → Int32} {pn c be j z z2 r v : Int}
theorem kCe_0 : kCe gp o fp pn ja 0 := fun c h1 h2 => by omega
theorem kCe_le (h : kCe gp o fp pn ja j) (e : c ≤ j) : kCe gp o fp pn ja c := fun q h1 h2 => h q h1 (by omega)
theorem kCe_s (h : kCe gp o fp pn ja j) (h0 : 0 ≤ j) (hb : (j = 0 ∧ be = -9) ∨ (¬ j = 0 ∧ rg be ∧ ja (j - 1).toNat = zI be)) (hf : kFx gp o j be fp pn z) (bz : 0 ≤ z ∧ z ≤ 3) (e : upd ja j.toNat (zI z) = F) : kCe gp o fp pn F (j + 1) := by
  intro c h1 h2
  by_cases q : c = j
  · rw [q, ← e, pk_us, zI_toInt (by omega)]
    refine ⟨?_, bz⟩
    have : kBf (upd ja j.toNat (zI z)) j = be := by
      unfold kBf
      rcases hb with ⟨a, b⟩ | ⟨a, b, d⟩
      · rw [if_pos a, b]
      · rw [if_neg a, pk_un (by omega), d, zI_toInt b]
    rw [this]
    exact hf
  · rw [← e, pk_un (by omega)]
    have : kBf (upd ja j.toNat (zI z)) c = kBf ja c := by
      unfold kBf
      by_cases w : c = 0
      · rw [if_pos w, if_pos w]
      · rw [if_neg w, if_neg w, pk_un (by omega)]
    rw [this]
    exact h c h1 (by omega)
theorem kRn_z (h : r = kRn ja (kNa j)) (h0 : j = 0) : r + 1 = kRn F (kNa (j + 1)) := kRn_first h0 h
theorem kRn_y (h : r = kRn ja (kNa j)) (h0 : 0 ≤ j) (h1 : ¬ j = 0) (rb : rg be) (eb : ja (j - 1).toNat = zI be) (rz : rg z) (e : upd ja j.toNat (zI z) = F) (hz : z = be) : r = kRn F (kNa (j + 1)) := by
  have q := kRn_next h0 h1 e h
  rw [show F j.toNat = F (j - 1).toNat by rw [← e, pk_us, pk_un (by omega), eb, hz], if_pos rfl] at q
  exact (q.trans (Int.add_zero r)).symm
theorem kRn_n (h : r = kRn ja (kNa j)) (h0 : 0 ≤ j) (h1 : ¬ j = 0) (rb : rg be) (eb : ja (j - 1).toNat = zI be) (rz : rg z) (e : upd ja j.toNat (zI z) = F) (hz : ¬ z = be) : r + 1 = kRn F (kNa (j + 1)) := by
  have q := kRn_next h0 h1 e h
  rw [if_neg (show ¬ F j.toNat = F (j - 1).toNat by rw [← e, pk_us, pk_un (by omega), eb]; exact fun w => hz ((zI_eq rz rb).mp w))] at q
  exact q.symm
theorem kRo_0 : kRo jb ja 0 := fun i h => by omega
theorem kRo_s (h : kRo jb ja j) (h0 : 0 ≤ j) (e : upd ja j.toNat (zI z) = F) (hr : r = kRn F (kNa (j + 1))) (hv : v = r - 1) (e2 : upd jb j.toNat (zI v) = G) : kRo G F (j + 1) := by
  intro i hi
  rw [← e2]
  by_cases q : i = j.toNat
  · rw [q, pk_us, hv, hr, kNp h0]
  · rw [pk_un q, h i (by omega), kRn_cong (f := ja) (g := F) (i + 1) (fun k hk => by rw [← e, pk_un (by omega)])]
theorem kRo_le (h : kRo jb ja j) (e : c ≤ j) : kRo jb ja c := fun i hi => h i (by omega)
theorem k_back (rz : rg z) (rz2 : rg z2) (e : upd ja j.toNat (zI z) = F) (l : F j.toNat = zI z2) : z2 = z := by
  rw [← e, pk_us] at l
  exact ((zI_eq rz rz2).mp l).symm
end
theorem kLs_b {gp : Nat → Nat → Int32} {o : Nat} {x : Nat → Int32} {al : Int32} {cn c j b : Int} (h : kLs gp o c j b) (hb : kBw gp o x al cn c j) : 0 ≤ b ∧ b ≤ 1000 := by
  refine ⟨?_, h.1⟩
  rcases h.2.2 with e | ⟨f, g1, g2, g3⟩
  · omega
  · have := (hb f g1 g2).1
    omega
def kBa (gp : Nat → Nat → Int32) (o : Nat) (cn : Int) : Prop := ∀ c : Int, 0 ≤ c → c < cn → kBk gp o c
theorem kAw9 {n al : Int} (h : zI al = kAl n) : zI al = kAw n (-9) := by
  unfold kAw
  rw [if_neg (by omega), h]
/-! a SETTING, the class's and the reference's -/
def kLt (w : Nat → Int32) (k i : Nat) : Int32 := kOr w ((kCt w k).2 i) (kEn w k i - (kCt w k).2 i)
def kSE (w : Nat → Int32) (m : Int) (has : Nat → Int32) (n wo : Int) (fp : Nat → Int32) (pn cn bo ru : Int) (f1 f2 f3 f4 f5 : Nat → Int32) : Prop := ∃ (L : Nat → Int32) (gp : Nat → Nat → Int32) (o : Nat) (al : Int), zI al = kAw n wo ∧ kCu w (kNa m) cn f1 f2 L ∧ kFz f3 L has n al cn ∧ bo = kBx f3 (kNa cn) ∧ kBh gp o f3 (zI al) cn 0 ∧ kCe gp o fp pn f4 cn ∧ ru = kRn f4 (kNa cn) ∧ kRo f5 f4 cn
def kRc (w : Nat → Int32) (m : Int) (has : Nat → Int32) (n wo cl bo : Int) (sa fi : Nat → Int32) : Prop := kSa w (kNa m) cl sa ∧ sa (kNa cl) = zI m ∧ (∀ i : Nat, (i : Int) < cl → fi i = kFb (kHm has wo (kLt w (kNa m) i)) (kNa n)) ∧ bo = kBx fi (kNa cl)
theorem kCt_cong {w v : Nat → Int32} : ∀ k : Nat, (∀ i, i < k → w i = v i) → kCt w k = kCt v k
  | 0, _ => rfl
  | k + 1, h => by
    have ih := kCt_cong k (fun i hi => h i (by omega))
    by_cases c : k = 0 ∨ (w k).toInt < 12
    · rw [kCt_y c, kCt_y (show k = 0 ∨ (v k).toInt < 12 by rw [← h k (by omega)]; exact c), ih]
    · rw [kCt_n c, kCt_n (show ¬ (k = 0 ∨ (v k).toInt < 12) by rw [← h k (by omega)]; exact c), ih]
theorem kOr_cong {w v : Nat → Int32} {a : Nat} : ∀ m : Nat, (∀ i, i < a + m → w i = v i) → kOr w a m = kOr v a m
  | 0, _ => rfl
  | m + 1, h => by
    show kOr w a m ||| _ = kOr v a m ||| _
    rw [kOr_cong m (fun i hi => h i (by omega)), h (a + m) (by omega)]
theorem kEn_le {w : Nat → Int32} {k i : Nat} : kEn w k i ≤ k := by
  unfold kEn
  split
  · rename_i h
    have := (kCt_b (w := w) k).2.2.1 (i + 1) h
    omega
  · omega
theorem kEn_cong {w v : Nat → Int32} {k i : Nat} (h : ∀ i, i < k → w i = v i) : kEn w k i = kEn v k i := by
  unfold kEn
  rw [kCt_cong k h]
theorem kEn_gt {w : Nat → Int32} {k i : Nat} (hi : i < (kCt w k).1) : (kCt w k).2 i < kEn w k i := by
  unfold kEn
  obtain ⟨b1, b2, b3, b4⟩ := kCt_b (w := w) k
  by_cases q : i + 1 < (kCt w k).1
  · rw [if_pos q]
    exact b4 i q
  · rw [if_neg q]
    exact b3 i hi
theorem kLt_cong {w v : Nat → Int32} {k i : Nat} (h : ∀ i, i < k → w i = v i) (hi : i < (kCt w k).1) : kLt w k i = kLt v k i := by
  unfold kLt
  rw [← kEn_cong h, ← kCt_cong k h]
  have a := kEn_gt hi
  have b := kEn_le (w := w) (k := k) (i := i)
  exact kOr_cong _ (fun j hj => h j (by omega))
section
variable {w v has hs fp pf f1 f2 f3 f4 f5 sa fi ch cs : Nat → Int32} {m m2 n n2 wo pn cn bo ru cl b2 c f b : Int}
/-- the CLUSTERS are the same -/
theorem kSR_clu (h : kSE w m has n wo fp pn cn bo ru f1 f2 f3 f4 f5) (r : kRc v m2 hs n2 wo cl b2 sa fi) (hm : m = m2) (hw : kEq w v m) (hn : n = n2) (hh : kEq has hs n) (bm : 0 ≤ m) (bn : 0 ≤ n ∧ n ≤ 4) (bw : wo = -9 ∨ (0 ≤ wo ∧ wo ≤ 3)) : cn = cl ∧ bo = b2 ∧ (∀ i : Nat, (i : Int) < cn → f1 i = sa i ∧ f2 i = sa (i + 1) - sa i ∧ f3 i = fi i) ∧ (0 ≤ cn ∧ cn ≤ m) ∧ ∀ i : Nat, (i : Int) < cn → fi i = kFb (kHm hs wo (kLt v (kNa m2) i)) (kNa n2) := by
  obtain ⟨L, gp, o, al, e0, h1, h2, h3, -, -, -, -⟩ := h
  obtain ⟨r1, r2, r3, r4⟩ := r
  subst hm hn
  have hw2 : ∀ i, i < kNa m → w i = v i := fun i hi => hw i (by have : i < m.toNat := hi; omega)
  have ec := kCt_cong (kNa m) hw2
  have cc : cn = cl := by rw [h1.1, r1.1, ec]
  have bd := kCt_b (w := w) (kNa m)
  have cb : 0 ≤ cn ∧ cn ≤ m := by
    have q := h1.1
    have q2 := bd.1
    have q3 := kNc bm
    omega
  have key : ∀ i : Nat, (i : Int) < cn → f1 i = sa i ∧ f2 i = sa (i + 1) - sa i ∧ f3 i = fi i := fun i hi => by
    have hi2 : i < (kCt w (kNa m)).1 := by have := h1.1; omega
    obtain ⟨t1, t2, t3⟩ := h1.2 i hi2
    have s1 := r1.2 i (by rw [← ec]; exact hi2)
    have s1' : sa i = zI ((kCt w (kNa m)).2 i : Nat) := by rw [ec]; exact s1
    have s2 : sa (i + 1) = zI ((kEn w (kNa m) i : Nat) : Int) := by
      unfold kEn
      by_cases q : i + 1 < (kCt w (kNa m)).1
      · rw [if_pos q, ec]
        exact r1.2 (i + 1) (by rw [← ec]; exact q)
      · rw [if_neg q, kNc bm, ← r2]
        congr 1
        have := h1.1
        have q3 := kNc (show 0 ≤ cl by omega)
        omega
    refine ⟨by rw [t1, s1'], by rw [t2, s2, s1', zI_sub], ?_⟩
    rw [h2 i hi, r3 i (by omega), t3, e0, kFb_aw bn bw]
    refine kFb_cong _ (fun f hf => ?_)
    have f4 : f < n.toNat := hf
    rw [kXb_hm]
    show decide (¬ (f : Int) = wo ∧ _ &&& (has f ^^^ zI (-1)) = zI 0) = decide (¬ (f : Int) = wo ∧ _ &&& (hs f ^^^ zI (-1)) = zI 0)
    rw [hh f (by omega), show kOr w ((kCt w (kNa m)).2 i) (kEn w (kNa m) i - (kCt w (kNa m)).2 i) = kLt w (kNa m) i from rfl, kLt_cong hw2 hi2]
  refine ⟨cc, ?_, key, cb, fun i hi => r3 i (by omega)⟩
  rw [h3, r4, cc]
  exact kBx_cong _ (fun i hi => (key i (by have : i < cl.toNat := hi; omega)).2.2)
/-- what is open -/
theorem kFit_of (h : kFt fi n cl wo) (hn : 1 ≤ n ∧ n ≤ 4) (hw : wo = -9 ∨ (0 ≤ wo ∧ wo ≤ 3 ∧ 2 ≤ n)) : kFit fi n cl wo := by
  intro c h1 h2
  rcases h c h1 h2 with e | e
  · by_cases q : wo = 0
    · exact ⟨1, by omega, by omega, by omega, Or.inl e⟩
    · exact ⟨0, by omega, by omega, by omega, Or.inl e⟩
  · exact e
variable {gp : Nat → Nat → Int32} {o : Nat} {al : Int}
/-- the class's table against the reference's -/
theorem kDpB (hb : kBh gp o f3 (zI al) cl 0) (ea : zI al = kAw n wo) (e3 : ∀ i : Nat, (i : Int) < cl → f3 i = fi i) (ef : ∀ i : Nat, (i : Int) < cl → ∃ (hs2 : Nat → Int32) (x : Int32), fi i = kFb (kHm hs2 wo x) (kNa n)) (bn : 0 ≤ n ∧ n ≤ 4) (bw : wo = -9 ∨ (0 ≤ wo ∧ wo ≤ 3)) (hc : 0 ≤ c ∧ c < cl) (hf : 0 ≤ f ∧ f < 4) : kOp (f3 c.toNat) (zI al) f ↔ (f < n ∧ kCan (fi c.toNat) f wo) := by
  obtain ⟨hs2, x, e⟩ := ef c.toNat (by omega)
  rw [e3 c.toNat (by omega), e, ea]
  exact kOp_can bn bw hf
theorem kDpE (hb : kBh gp o f3 (zI al) cl 0) (op : ∀ c f : Int, 0 ≤ c ∧ c < cl → 0 ≤ f ∧ f < 4 → (kOp (f3 c.toNat) (zI al) f ↔ (f < n ∧ kCan (fi c.toNat) f wo))) (bn : 0 ≤ n ∧ n ≤ 4) (hd : kDp ch fi n cl wo 0) (hfit : kFit fi n cl wo) (hcl : cl ≤ 24) : ∀ (k : Nat) (c f : Int), (cl - 1 - c).toNat = k → 0 ≤ c → c < cl → 0 ≤ f → f < n → kCan (fi c.toNat) f wo → kB gp o c f = kch ch c f := by
  intro k
  induction k with
  | zero =>
    intro c f h1 h2 h3 h4 h5 h6
    have q := (hb c f h2 h3 h4 (by omega)).2.2.1 ((op c f ⟨h2, h3⟩ (by omega)).mpr ⟨h5, h6⟩) (by omega)
    have q2 := (hd c f h2 h3 h4 h5).2.2.1 (by omega)
    omega
  | succ k ih =>
    intro c f h1 h2 h3 h4 h5 h6
    have hc2 : c + 1 < cl := by omega
    obtain ⟨b, b1, b2, b3, b4⟩ := (hb c f h2 h3 h4 (by omega)).2.2.2 ((op c f ⟨h2, h3⟩ (by omega)).mpr ⟨h5, h6⟩) hc2
    have few := (hd c f h2 h3 h4 h5).2.2.2 hc2
    obtain ⟨g, g1, g2, g3, g4⟩ := kDp_get hd hfit hcl h2 hc2 h4 h5
    have ihg := ih (c + 1) g (by omega) (by omega) hc2 g1 g2 g3
    have le24 := kDp_le hd hfit _ (c + 1) g rfl (by omega) hc2 g1 g2
    have lg := b1.2.1 g g1 (by omega)
    -- the table's entry is at most the reference's
    have up : kB gp o c f ≤ kch ch c f := by
      rw [g4]
      unfold kdl
      by_cases q : g = f
      · rw [if_pos q]
        rw [q] at ihg
        rw [q]
        omega
      · rw [if_neg q]
        omega
    -- and at least that
    have dn : kch ch c f ≤ kB gp o c f := by
      rcases b4 with b4 | b4
      · by_cases q : kCan (fi (c + 1).toNat) f wo
        · have q1 := few.2.2.1 f h4 h5 q
          have q2 := ih (c + 1) f (by omega) (by omega) hc2 h4 h5 q
          unfold kdl at q1
          rw [if_pos rfl] at q1
          omega
        · have q1 := (hb (c + 1) f (by omega) hc2 h4 (by omega)).2.1 (fun w => q ((op (c + 1) f (by omega) (by omega)).mp w).2)
          have q2 := kDp_le hd hfit _ c f rfl h2 h3 h4 h5
          omega
      · rcases b1.2.2 with e | ⟨u, u1, u2, u3⟩
        · have q2 := kDp_le hd hfit _ c f rfl h2 h3 h4 h5
          omega
        · by_cases q : u < n ∧ kCan (fi (c + 1).toNat) u wo
          · have q1 := few.2.2.1 u u1 q.1 q.2
            have q2 := ih (c + 1) u (by omega) (by omega) hc2 u1 q.1 q.2
            have q3 := kdl_le u f
            omega
          · have q1 := (hb (c + 1) u (by omega) hc2 u1 u2).2.1 (fun w => q ((op (c + 1) u (by omega) (by omega)).mp w))
            have q2 := kDp_le hd hfit _ c f rfl h2 h3 h4 h5
            omega
    omega
/-- what a choice of the class is: open, and the cheapest -/
theorem kCe_is (hb : kBh gp o f3 (zI al) cl 0) (op : ∀ c f : Int, 0 ≤ c ∧ c < cl → 0 ≤ f ∧ f < 4 → (kOp (f3 c.toNat) (zI al) f ↔ (f < n ∧ kCan (fi c.toNat) f wo))) (bn : 0 ≤ n ∧ n ≤ 4) (he : ∀ c f : Int, 0 ≤ c → c < cl → 0 ≤ f → f < n → kCan (fi c.toNat) f wo → kB gp o c f ≤ 24) (hfit : kFit fi n cl wo) (hp : kPm fp n) (hpn : pn = n) (hc : 0 ≤ c ∧ c < cl) {be x : Int} (hx : kFx gp o c be fp pn x) : (0 ≤ x ∧ x < n) ∧ kCan (fi c.toNat) x wo ∧ (∃ p : Nat, (p : Int) < n ∧ (fp p).toInt = x ∧ ∀ q : Nat, q < p → kB gp o c x + (if x = be ∨ be = -9 then 0 else 1) < kVq gp o c be fp q) ∧ ∀ g : Int, 0 ≤ g → g < n → kCan (fi c.toNat) g wo → kB gp o c x + (if x = be ∨ be = -9 then 0 else 1) ≤ kB gp o c g + (if g = be ∨ be = -9 then 0 else 1) := by
  obtain ⟨l, hl⟩ := hx
  subst hpn
  have at1 : ∀ g : Int, 0 ≤ g → g < pn → ∃ p : Nat, (p : Int) < pn ∧ (fp p).toInt = g := fun g g1 g2 => by
    obtain ⟨p, p1, p2⟩ := hp.2 g g1 g2
    exact ⟨p, p1, by rw [p2, zI_toInt (by omega)]⟩
  obtain ⟨g, g1, g2, g3⟩ := hfit c hc.1 hc.2
  obtain ⟨pg, pg1, pg2⟩ := at1 g g1 g2
  have gv : kVq gp o c be fp pg ≤ 25 := by
    unfold kVq
    rw [pg2]
    have := he c g hc.1 hc.2 g1 g2 g3
    split <;> omega
  rcases hl with ⟨-, -, h3⟩ | ⟨h1, p, h2, h3, h4, h5, h6⟩
  · have := h3 pg pg1
    omega
  · have lv : kB gp o c x + (if x = be ∨ be = -9 then 0 else 1) = l := by rw [← h4, ← h3]; rfl
    obtain ⟨zp, zp1, zp2, zp3⟩ := hp.1 p h2
    have xz : x = zp := by rw [← h3, zp3, zI_toInt (by omega)]
    have xb : 0 ≤ x ∧ x < pn := by omega
    have xo : kCan (fi c.toNat) x wo := by
      by_cases q : kOp (f3 c.toNat) (zI al) x
      · exact ((op c x hc (by omega)).mp q).2
      · have q2 := (hb c x hc.1 hc.2 xb.1 (by omega)).2.1 q
        have : l ≥ 1000 := by rw [← lv]; split <;> omega
        omega
    refine ⟨xb, xo, ⟨p, h2, h3, fun q hq => by rw [lv]; exact h5 q hq⟩, fun u u1 u2 u3 => ?_⟩
    obtain ⟨pu, pu1, pu2⟩ := at1 u u1 u2
    have := h6 pu pu1
    rw [lv, ← pu2]
    exact this
end
