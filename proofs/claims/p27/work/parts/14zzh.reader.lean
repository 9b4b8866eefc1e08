set_option maxRecDepth 20000 in
theorem mw_J6_bitCount_0f7a4_w_0 : (.constant RJ6 265 (1431655765) : Cond) ∈ wsJ6_bitCount_0f7a4 := List.mem_cons_of_mem _ (List.mem_of_getElem? (i := 0) rfl)
set_option maxRecDepth 20000 in
theorem mw_J6_bitCount_0f7a4_w_1 : (.constant RJ6 266 (858993459) : Cond) ∈ wsJ6_bitCount_0f7a4 := List.mem_cons_of_mem _ (List.mem_of_getElem? (i := 1) rfl)
set_option maxRecDepth 20000 in
theorem mw_J6_bitCount_0f7a4_w_2 : (.constant RJ6 267 (252645135) : Cond) ∈ wsJ6_bitCount_0f7a4 := List.mem_cons_of_mem _ (List.mem_of_getElem? (i := 2) rfl)
set_option maxHeartbeats 4000000 in
set_option maxRecDepth 100000 in
theorem c_J6_bitCount_0f7a4_w (l : Launch) (D : va_G) (sz : Nat) (x : Int) (q0 : rg x) : Met l yJ6_bitCount_0f7a4 wsJ6_bitCount_0f7a4 ({ frames := 0, cells := 0, slots := 0, locals := 0 }) (kPre [.int (zI x)] D [] [] sz) (QcRead (kBc (zI x))) 0 0 (fun _ => False) := by
  refine Met.ofW (cc := cJ6_bitCount_0f7a4) (maxL := 1) (ret := (some .int)) (by decide) rfl ?_
  intro p e s m args below meth c s₁ B hml hv
  obtain ⟨rfl, hsz, hP, hK, hD0, hN⟩ := hv
  have hx := B.exec
  have hb := B.bytes
  have hr := B.returns
  have hts := atoms_spec (ws := wsJ6_bitCount_0f7a4) B.pre
  have hown : s.vm.findClass RJ6 = some m.cls := findClass_of_methodNamed B.named
  have hlocks := B.notSynchronized
  subst hsz
  have hD := hD0
  have hP : va_P D vwCl [] s.heap := hP
  have hl := lv_entry ([.int (zI x)]) (n := 1) (Nat.le_of_ble_eq_true rfl)
  rw [lg_entry_eq]
  generalize (lg_sl ([.int (zI x)]) ++ List.replicate (1 - (lg_sl ([.int (zI x)])).length) Slot.unset).toArray = ls at hl ⊢
  have hl : lv_has ls 1 [(0, .int (zI x))] := hl
  refine lv_iload_n hx hb dJ6_bitCount_0f7a4_0 rfl (lv_at hl 0 rfl) ?_
  refine lv_iload_n hx hb dJ6_bitCount_0f7a4_1 rfl (lv_at hl 0 rfl) ?_
  refine lv_iconst (v := zI 1) hx hb dJ6_bitCount_0f7a4_2 rfl ?_
  refine lv_iushr hx hb dJ6_bitCount_0f7a4_3 rfl ?_
  refine kz_any (fun z_1 rz_1 ez_1 => ?_)
  refine lv_ldcw (v := zI 1431655765) hx hb hown (show (Cond.constant RJ6 265 (zI 1431655765)).before _ s = true from (hts (.constant RJ6 265 (1431655765)) mw_J6_bitCount_0f7a4_w_0)) dJ6_bitCount_0f7a4_4 ?_
  refine lv_iand hx hb dJ6_bitCount_0f7a4_7 ?_
  refine kz_any (fun z_2 rz_2 ez_2 => ?_)
  refine kz_isub hx hb dJ6_bitCount_0f7a4_8 ?_
  refine kz_any (fun z_3 rz_3 ez_3 => ?_)
  refine lv_istore_n (lv' := [(0, .int (zI z_3))]) hx hb dJ6_bitCount_0f7a4_9 rfl hl (by decide) rfl (fun ls hl => ?_)
  refine lv_iload_n hx hb dJ6_bitCount_0f7a4_10 rfl (lv_at hl 0 rfl) ?_
  refine lv_ldcw (v := zI 858993459) hx hb hown (show (Cond.constant RJ6 266 (zI 858993459)).before _ s = true from (hts (.constant RJ6 266 (858993459)) mw_J6_bitCount_0f7a4_w_1)) dJ6_bitCount_0f7a4_11 ?_
  refine lv_iand hx hb dJ6_bitCount_0f7a4_14 ?_
  refine kz_any (fun z_4 rz_4 ez_4 => ?_)
  refine lv_iload_n hx hb dJ6_bitCount_0f7a4_15 rfl (lv_at hl 0 rfl) ?_
  refine lv_iconst (v := zI 2) hx hb dJ6_bitCount_0f7a4_16 rfl ?_
  refine lv_iushr hx hb dJ6_bitCount_0f7a4_17 rfl ?_
  refine kz_any (fun z_5 rz_5 ez_5 => ?_)
  refine lv_ldcw (v := zI 858993459) hx hb hown (show (Cond.constant RJ6 266 (zI 858993459)).before _ s = true from (hts (.constant RJ6 266 (858993459)) mw_J6_bitCount_0f7a4_w_1)) dJ6_bitCount_0f7a4_18 ?_
  refine lv_iand hx hb dJ6_bitCount_0f7a4_21 ?_
  refine kz_any (fun z_6 rz_6 ez_6 => ?_)
  refine kz_iadd hx hb dJ6_bitCount_0f7a4_22 ?_
  refine kz_any (fun z_7 rz_7 ez_7 => ?_)
  refine lv_istore_n (lv' := [(0, .int (zI z_7))]) hx hb dJ6_bitCount_0f7a4_23 rfl hl (by decide) rfl (fun ls hl => ?_)
  refine lv_iload_n hx hb dJ6_bitCount_0f7a4_24 rfl (lv_at hl 0 rfl) ?_
  refine lv_iload_n hx hb dJ6_bitCount_0f7a4_25 rfl (lv_at hl 0 rfl) ?_
  refine lv_iconst (v := zI 4) hx hb dJ6_bitCount_0f7a4_26 rfl ?_
  refine lv_iushr hx hb dJ6_bitCount_0f7a4_27 rfl ?_
  refine kz_any (fun z_8 rz_8 ez_8 => ?_)
  refine kz_iadd hx hb dJ6_bitCount_0f7a4_28 ?_
  refine lv_ldcw (v := zI 252645135) hx hb hown (show (Cond.constant RJ6 267 (zI 252645135)).before _ s = true from (hts (.constant RJ6 267 (252645135)) mw_J6_bitCount_0f7a4_w_2)) dJ6_bitCount_0f7a4_29 ?_
  refine lv_iand hx hb dJ6_bitCount_0f7a4_32 ?_
  refine kz_any (fun z_9 rz_9 ez_9 => ?_)
  refine kz_any (fun z_10 rz_10 ez_10 => ?_)
  refine lv_istore_n (lv' := [(0, .int (zI z_10))]) hx hb dJ6_bitCount_0f7a4_33 rfl hl (by decide) rfl (fun ls hl => ?_)
  refine lv_iload_n hx hb dJ6_bitCount_0f7a4_34 rfl (lv_at hl 0 rfl) ?_
  refine lv_iload_n hx hb dJ6_bitCount_0f7a4_35 rfl (lv_at hl 0 rfl) ?_
  refine lv_bipush (v := zI 8) hx hb dJ6_bitCount_0f7a4_36 (by decide) ?_
  refine lv_iushr hx hb dJ6_bitCount_0f7a4_38 rfl ?_
  refine kz_any (fun z_11 rz_11 ez_11 => ?_)
  refine kz_iadd hx hb dJ6_bitCount_0f7a4_39 ?_
  refine kz_any (fun z_12 rz_12 ez_12 => ?_)
  refine lv_istore_n (lv' := [(0, .int (zI z_12))]) hx hb dJ6_bitCount_0f7a4_40 rfl hl (by decide) rfl (fun ls hl => ?_)
  refine lv_iload_n hx hb dJ6_bitCount_0f7a4_41 rfl (lv_at hl 0 rfl) ?_
  refine lv_iload_n hx hb dJ6_bitCount_0f7a4_42 rfl (lv_at hl 0 rfl) ?_
  refine lv_bipush (v := zI 16) hx hb dJ6_bitCount_0f7a4_43 (by decide) ?_
  refine lv_iushr hx hb dJ6_bitCount_0f7a4_45 rfl ?_
  refine kz_any (fun z_13 rz_13 ez_13 => ?_)
  refine kz_iadd hx hb dJ6_bitCount_0f7a4_46 ?_
  refine kz_any (fun z_14 rz_14 ez_14 => ?_)
  refine lv_istore_n (lv' := [(0, .int (zI z_14))]) hx hb dJ6_bitCount_0f7a4_47 rfl hl (by decide) rfl (fun ls hl => ?_)
  refine lv_iload_n hx hb dJ6_bitCount_0f7a4_48 rfl (lv_at hl 0 rfl) ?_
  refine lv_bipush (v := zI 63) hx hb dJ6_bitCount_0f7a4_49 (by decide) ?_
  refine lv_iand hx hb dJ6_bitCount_0f7a4_51 ?_
  refine kz_any (fun z_15 rz_15 ez_15 => ?_)
  exact W.iret (v := (zI z_15)) hx hb hr (fun t ht hW => kRd (by have Ez_1 := ez_1.symm; have Ez_2 := ez_2.symm; have Ez_3 : zI z_3 = zI x - zI z_2 := (by rw [← ez_3, zI_sub]); have Ez_4 := ez_4.symm; have Ez_5 := ez_5.symm; have Ez_6 := ez_6.symm; have Ez_7 : zI z_7 = zI z_4 + zI z_6 := (by rw [← ez_7, zI_add]); have Ez_8 := ez_8.symm; have Ez_9 : zI z_9 = (zI z_7 + zI z_8) &&& (zI 252645135) := (by rw [zI_add]; exact ez_9.symm); have Ez_10 := ez_10.symm; have Ez_11 := ez_11.symm; have Ez_12 : zI z_12 = zI z_10 + zI z_11 := (by rw [← ez_12, zI_add]); have Ez_13 := ez_13.symm; have Ez_14 : zI z_14 = zI z_12 + zI z_13 := (by rw [← ez_14, zI_add]); have Ez_15 := ez_15.symm; rw [Ez_15, Ez_14, Ez_13, Ez_12, Ez_11, Ez_10, Ez_9, Ez_8, Ez_7, Ez_6, Ez_5, Ez_4, Ez_3, Ez_2, Ez_1]; rfl) ht) (fun _ h9 => by cases h9) dJ6_bitCount_0f7a4_52
set_option maxHeartbeats 4000000 in
set_option maxRecDepth 100000 in
theorem c_X9_size_w (l : Launch) (D : va_G) (sz : Nat) (x : Int) (q0 : rg x) : Met l yX9_size wsX9_size ({ frames := 0, cells := 0, slots := 0, locals := 0 }) (kPre [.int (zI x)] D [] [] sz) (QcP (fun rz => (0 ≤ x ∧ x < 65536) → rz = kPop x)) 0 0 (fun _ => False) := by
  refine Met.ofW (cc := cX9_size) (maxL := 3) (ret := (some .int)) (by decide) rfl ?_
  intro p e s m args below meth c s₁ B hml hv
  obtain ⟨rfl, hsz, hP, hK, hD0, hN⟩ := hv
  have hx := B.exec
  have hb := B.bytes
  have hr := B.returns
  have hts := atoms_spec (ws := wsX9_size) B.pre
  have hown : s.vm.findClass RX9 = some m.cls := findClass_of_methodNamed B.named
  have hlocks := B.notSynchronized
  subst hsz
  have hD := hD0
  have hP : va_P D vwCl [] s.heap := hP
  have hl := lv_entry ([.int (zI x)]) (n := 3) (Nat.le_of_ble_eq_true rfl)
  rw [lg_entry_eq]
  generalize (lg_sl ([.int (zI x)]) ++ List.replicate (3 - (lg_sl ([.int (zI x)])).length) Slot.unset).toArray = ls at hl ⊢
  have hl : lv_has ls 3 [(0, .int (zI x))] := hl
  refine lv_iconst (v := zI 0) hx hb dX9_size_0 rfl ?_
  refine lv_istore_n (lv' := [(1, .int (zI 0)), (0, .int (zI x))]) hx hb dX9_size_1 rfl hl (by decide) rfl (fun ls hl => ?_)
  refine lv_iload_n hx hb dX9_size_2 rfl (lv_at hl 1 rfl) ?_
  refine lv_istore_n (lv' := [(2, .int (zI x)), (1, .int (zI 0)), (0, .int (zI x))]) hx hb dX9_size_3 rfl hl (by decide) rfl (fun ls hl => ?_)
  refine k_loopM (I := fun n9 H locs ls => ∃ (js : Int) (jl : Int), n9 = (jl).toNat ∧ (rg js) ∧ (rg jl) ∧ (kSz x js jl) ∧ H = s.heap ∧ locs = [] ∧ lv_has ls 3 [(2, .int (zI jl)), (1, .int (zI js)), (0, .int (zI x))]) ?_ _ ⟨0, x, rfl, (by omega), q0, kSz_0, rfl, rfl, hl⟩
  intro n4 ih4 H locs ls hI
  obtain ⟨js, jl, en4, v_40, v_41, v_42, eH, eL, hl⟩ := hI
  subst eH
  subst eL
  refine lv_iload_n hx hb dX9_size_4 rfl (lv_at hl 0 rfl) ?_
  refine kz_if_le (tgt := 21) hx hb dX9_size_5 (by decide) (by omega) (fun c_1 => ?_) (fun c_1 => ?_)
  · refine lv_iload_n hx hb dX9_size_21 rfl (lv_at hl 1 rfl) ?_
    exact W.iret (v := (zI js)) hx hb hr (fun t ht hW => QcP_of (by omega) (kSz_e v_42 (by omega)) ht) (fun _ h9 => by cases h9) dX9_size_22
  · refine lv_iload_n hx hb dX9_size_8 rfl (lv_at hl 1 rfl) ?_
    refine lv_iload_n hx hb dX9_size_9 rfl (lv_at hl 0 rfl) ?_
    refine lv_iconst (v := zI 1) hx hb dX9_size_10 rfl ?_
    refine lv_iand hx hb dX9_size_11 ?_
    refine kz_any (fun z_2 rz_2 ez_2 => ?_)
    refine kz_iadd hx hb dX9_size_12 ?_
    refine kz_any (fun z_3 rz_3 ez_3 => ?_)
    refine lv_istore_n (lv' := [(1, .int (zI z_3)), (2, .int (zI jl)), (0, .int (zI x))]) hx hb dX9_size_13 rfl hl (by decide) rfl (fun ls hl => ?_)
    refine lv_iload_n hx hb dX9_size_14 rfl (lv_at hl 1 rfl) ?_
    refine lv_iconst (v := zI 1) hx hb dX9_size_15 rfl ?_
    refine lv_ishr hx hb dX9_size_16 ?_
    refine kz_any (fun z_4 rz_4 ez_4 => ?_)
    have bz_4 := kshr1 (by omega) rz_4 ez_4
    refine lv_istore_n (lv' := [(2, .int (zI z_4)), (1, .int (zI z_3)), (0, .int (zI x))]) hx hb dX9_size_17 rfl hl (by decide) rfl (fun ls hl => ?_)
    refine lv_goto (tgt := 4) hx hb dX9_size_18 (by decide) ?_
    exact ih4 _ (by omega) _ _ _ ⟨z_3, z_4, rfl, (by omega), (by omega), (kSz_s v_42 (by omega) rz_2 ez_2 rz_3 ez_3 bz_4), rfl, rfl, lv_sub hl [0, 1, 2] rfl⟩
theorem dX6_takesHead_0 : decode cX6_takesHead 0 = .ok (.aload_n 0, 1) := kqo_2a kbl_X6_takesHead (pc := 0) rfl
theorem dX6_takesHead_1 : decode cX6_takesHead 1 = .ok (.iconst 1, 1) := kqo_04 kbl_X6_takesHead (pc := 1) rfl
theorem dX6_takesHead_2 : decode cX6_takesHead 2 = .ok (.putfield 22, 3) := kqo_b5 (x1 := 0) (x2 := 22) kbl_X6_takesHead (pc := 2) rfl rfl
theorem dX6_takesHead_5 : decode cX6_takesHead 5 = .ok (.iload_n 1, 1) := kqo_1b kbl_X6_takesHead (pc := 5) rfl
theorem dX6_takesHead_6 : decode cX6_takesHead 6 = .ok (.bipush 102, 2) := kqo_10 (x1 := 102) kbl_X6_takesHead (pc := 6) rfl rfl
theorem dX6_takesHead_8 : decode cX6_takesHead 8 = .ok (.if_icmp .ne 7, 3) := kqo_a0 (x1 := 0) (x2 := 7) kbl_X6_takesHead (pc := 8) rfl rfl
theorem dX6_takesHead_11 : decode cX6_takesHead 11 = .ok (.iconst 1, 1) := kqo_04 kbl_X6_takesHead (pc := 11) rfl
theorem dX6_takesHead_12 : decode cX6_takesHead 12 = .ok (.goto 4, 3) := kqo_a7 (x1 := 0) (x2 := 4) kbl_X6_takesHead (pc := 12) rfl rfl
theorem dX6_takesHead_15 : decode cX6_takesHead 15 = .ok (.iconst 0, 1) := kqo_03 kbl_X6_takesHead (pc := 15) rfl
theorem dX6_takesHead_16 : decode cX6_takesHead 16 = .ok (.ireturn, 1) := kqo_ac kbl_X6_takesHead (pc := 16) rfl
set_option maxRecDepth 20000 in
theorem mw_X6_takesHead_w_0 : (.fieldLink RX6 22 "FontRuns$TextReader" "due" "I" : Cond) ∈ wsX6_takesHead := List.mem_cons_of_mem _ (List.mem_append_left _ (List.mem_of_getElem? (i := 0) rfl))
theorem ax_X6_takesHead_w_0 {e0 : Nat × va_E} : ([0] : List Nat).map (fun i => ([e0] : va_W)[i]?) = ([e0] : va_W).map some := rfl
set_option maxHeartbeats 4000000 in
set_option maxRecDepth 100000 in
theorem c_X6_takesHead_w (l : Launch) (D : va_G) (sz : Nat) (x : Int) (h0 : Nat) (td : Nat) (du : Int) (q0 : rg x) : Met l yX6_takesHead wsX6_takesHead ({ frames := 0, cells := 0, slots := 0, locals := 0 }) (kPre [.ref h0, .int (zI x)] D [(h0, .inr (6, [.ref td, .int (zI du)]))] [] sz) (kQS (fun rz t => ∃ (ud : Int), (ud = 1 ∧ ((rz = 1 ∧ x = 102) ∨ (rz = 0 ∧ ¬ x = 102))) ∧ va_P D vwCl [(h0, .inr (6, [.ref td, .int (zI ud)]))] t.heap ∧ va_D (va_A [(h0, .inr (6, [.ref td, .int (zI du)]))] sz) [(h0, .inr (6, [.ref td, .int (zI ud)]))]) (va_A [(h0, .inr (6, [.ref td, .int (zI du)]))] sz)) 0 0 (va_A [(h0, .inr (6, [.ref td, .int (zI du)]))] sz) := by
  refine Met.ofW (cc := cX6_takesHead) (maxL := 2) (ret := (some .boolean)) (by decide) rfl ?_
  intro p e s m args below meth c s₁ B hml hv
  obtain ⟨rfl, hsz, hP, hK, hD0, hN⟩ := hv
  have hx := B.exec
  have hb := B.bytes
  have hr := B.returns
  have hts := atoms_spec (ws := wsX6_takesHead) B.pre
  have hown : s.vm.findClass RX6 = some m.cls := findClass_of_methodNamed B.named
  have hlocks := B.notSynchronized
  subst hsz
  have hD := hD0.self (sz := s.heap.size)
  generalize hAe : va_A [(h0, .inr (6, [.ref td, .int (zI du)]))] s.heap.size = A at hD ⊢
  have hA : ∀ q : Nat, s.heap.size ≤ q → A q := fun q h => by rw [← hAe]; exact Or.inr h
  have hS : va_S A s.heap s.heap [] := va_S.rf
  have hP : va_P D vwCl [(h0, .inr (6, [.ref td, .int (zI du)]))] s.heap := hP
  have hl := lv_entry ([.ref h0, .int (zI x)]) (n := 2) (Nat.le_of_ble_eq_true rfl)
  rw [lg_entry_eq]
  generalize (lg_sl ([.ref h0, .int (zI x)]) ++ List.replicate (2 - (lg_sl ([.ref h0, .int (zI x)])).length) Slot.unset).toArray = ls at hl ⊢
  have hl : lv_has ls 2 [(0, .ref h0), (1, .int (zI x))] := hl
  refine lv_aload_n hx hb dX6_takesHead_0 rfl (lv_at hl 0 rfl) ?_
  refine lv_iconst (v := zI 1) hx hb dX6_takesHead_1 rfl ?_
  refine va_put (D := D) (ci := 6) (v := .int (zI 1)) (ty := .int) (C := RX6) (T := TX6) (N := 2) hx hb hts (fun _ h9 => List.mem_cons_of_mem _ (List.mem_append_right _ h9)) tyX6 tyX6_ok nmX6 hown hK hP hD hS 0 rfl rfl 1 (by decide) (hts (.fieldLink RX6 22 "FontRuns$TextReader" "due" "I") mw_X6_takesHead_w_0) (fun _ h9 => h9) rfl (by decide +kernel) rfl rfl (Nat.le_of_ble_eq_true rfl) dX6_takesHead_2 (fun H locs hP hD hS => ?_)
  have hP : va_P D vwCl [(h0, .inr (6, [.ref td, .int (zI 1)]))] H := hP
  have hD : va_D A [(h0, .inr (6, [.ref td, .int (zI 1)]))] := hD
  refine lv_iload_n hx hb dX6_takesHead_5 rfl (lv_at hl 1 rfl) ?_
  refine lv_bipush (v := zI 102) hx hb dX6_takesHead_6 (by decide) ?_
  refine kz_icmp_ne (tgt := 15) hx hb dX6_takesHead_8 (by decide) (by omega) (by omega) (fun c_1 => ?_) (fun c_1 => ?_)
  · refine lv_iconst (v := zI 0) hx hb dX6_takesHead_15 rfl ?_
    have hP9 := hP.sub (ws' := [(h0, .inr (6, [.ref td, .int (zI 1)]))]) [0] rfl
    have hD9 := hD.sub (ws' := [(h0, .inr (6, [.ref td, .int (zI 1)]))]) [0] (by decide +kernel) rfl
    exact W.zret (v := (zI 0)) hx hb hr rfl (fun t ht hW => kQS_of (by omega) ⟨1, (by omega), by rw [ht]; exact hP9, hD9⟩ (hS.F ht)) hS.2.2 dX6_takesHead_16
  · refine lv_iconst (v := zI 1) hx hb dX6_takesHead_11 rfl ?_
    refine lv_goto (tgt := 16) hx hb dX6_takesHead_12 (by decide) ?_
    have hP9 := hP.sub (ws' := [(h0, .inr (6, [.ref td, .int (zI 1)]))]) [0] rfl
    have hD9 := hD.sub (ws' := [(h0, .inr (6, [.ref td, .int (zI 1)]))]) [0] (by decide +kernel) rfl
    exact W.zret (v := (zI 1)) hx hb hr rfl (fun t ht hW => kQS_of (by omega) ⟨1, (by omega), by rw [ht]; exact hP9, hD9⟩ (hS.F ht)) hS.2.2 dX6_takesHead_16
theorem dX6_takesSign_0 : decode cX6_takesSign 0 = .ok (.iload_n 1, 1) := kqo_1b kbl_X6_takesSign (pc := 0) rfl
theorem dX6_takesSign_1 : decode cX6_takesSign 1 = .ok (.bipush 59, 2) := kqo_10 (x1 := 59) kbl_X6_takesSign (pc := 1) rfl rfl
theorem dX6_takesSign_3 : decode cX6_takesSign 3 = .ok (.if_icmp .ne 14, 3) := kqo_a0 (x1 := 0) (x2 := 14) kbl_X6_takesSign (pc := 3) rfl rfl
theorem dX6_takesSign_6 : decode cX6_takesSign 6 = .ok (.aload_n 0, 1) := kqo_2a kbl_X6_takesSign (pc := 6) rfl
theorem dX6_takesSign_7 : decode cX6_takesSign 7 = .ok (.getfield 12, 3) := kqo_b4 (x1 := 0) (x2 := 12) kbl_X6_takesSign (pc := 7) rfl rfl
theorem dX6_takesSign_10 : decode cX6_takesSign 10 = .ok (.getfield 18, 3) := kqo_b4 (x1 := 0) (x2 := 18) kbl_X6_takesSign (pc := 10) rfl rfl
theorem dX6_takesSign_13 : decode cX6_takesSign 13 = .ok (.iconst 4, 1) := kqo_07 kbl_X6_takesSign (pc := 13) rfl
theorem dX6_takesSign_14 : decode cX6_takesSign 14 = .ok (.if_icmp .lt 5, 3) := kqo_a1 (x1 := 0) (x2 := 5) kbl_X6_takesSign (pc := 14) rfl rfl
theorem dX6_takesSign_17 : decode cX6_takesSign 17 = .ok (.iconst 0, 1) := kqo_03 kbl_X6_takesSign (pc := 17) rfl
theorem dX6_takesSign_18 : decode cX6_takesSign 18 = .ok (.ireturn, 1) := kqo_ac kbl_X6_takesSign (pc := 18) rfl
theorem dX6_takesSign_19 : decode cX6_takesSign 19 = .ok (.aload_n 0, 1) := kqo_2a kbl_X6_takesSign (pc := 19) rfl
theorem dX6_takesSign_20 : decode cX6_takesSign 20 = .ok (.getfield 12, 3) := kqo_b4 (x1 := 0) (x2 := 12) kbl_X6_takesSign (pc := 20) rfl rfl
theorem dX6_takesSign_23 : decode cX6_takesSign 23 = .ok (.getfield 51, 3) := kqo_b4 (x1 := 0) (x2 := 51) kbl_X6_takesSign (pc := 23) rfl rfl
theorem dX6_takesSign_26 : decode cX6_takesSign 26 = .ok (.aload_n 0, 1) := kqo_2a kbl_X6_takesSign (pc := 26) rfl
theorem dX6_takesSign_27 : decode cX6_takesSign 27 = .ok (.getfield 12, 3) := kqo_b4 (x1 := 0) (x2 := 12) kbl_X6_takesSign (pc := 27) rfl rfl
theorem dX6_takesSign_30 : decode cX6_takesSign 30 = .ok (.getfield 18, 3) := kqo_b4 (x1 := 0) (x2 := 18) kbl_X6_takesSign (pc := 30) rfl rfl
theorem dX6_takesSign_33 : decode cX6_takesSign 33 = .ok (.iconst 0, 1) := kqo_03 kbl_X6_takesSign (pc := 33) rfl
theorem dX6_takesSign_34 : decode cX6_takesSign 34 = .ok (.iastore, 1) := kqo_4f kbl_X6_takesSign (pc := 34) rfl
theorem dX6_takesSign_35 : decode cX6_takesSign 35 = .ok (.aload_n 0, 1) := kqo_2a kbl_X6_takesSign (pc := 35) rfl
theorem dX6_takesSign_36 : decode cX6_takesSign 36 = .ok (.getfield 12, 3) := kqo_b4 (x1 := 0) (x2 := 12) kbl_X6_takesSign (pc := 36) rfl rfl
theorem dX6_takesSign_39 : decode cX6_takesSign 39 = .ok (.dup, 1) := kqo_59 kbl_X6_takesSign (pc := 39) rfl
theorem dX6_takesSign_40 : decode cX6_takesSign 40 = .ok (.getfield 18, 3) := kqo_b4 (x1 := 0) (x2 := 18) kbl_X6_takesSign (pc := 40) rfl rfl
theorem dX6_takesSign_43 : decode cX6_takesSign 43 = .ok (.iconst 1, 1) := kqo_04 kbl_X6_takesSign (pc := 43) rfl
theorem dX6_takesSign_44 : decode cX6_takesSign 44 = .ok (.iadd, 1) := kqo_60 kbl_X6_takesSign (pc := 44) rfl
theorem dX6_takesSign_45 : decode cX6_takesSign 45 = .ok (.putfield 18, 3) := kqo_b5 (x1 := 0) (x2 := 18) kbl_X6_takesSign (pc := 45) rfl rfl
theorem dX6_takesSign_48 : decode cX6_takesSign 48 = .ok (.aload_n 0, 1) := kqo_2a kbl_X6_takesSign (pc := 48) rfl
theorem dX6_takesSign_49 : decode cX6_takesSign 49 = .ok (.iconst 2, 1) := kqo_05 kbl_X6_takesSign (pc := 49) rfl
theorem dX6_takesSign_50 : decode cX6_takesSign 50 = .ok (.putfield 22, 3) := kqo_b5 (x1 := 0) (x2 := 22) kbl_X6_takesSign (pc := 50) rfl rfl
theorem dX6_takesSign_53 : decode cX6_takesSign 53 = .ok (.iconst 1, 1) := kqo_04 kbl_X6_takesSign (pc := 53) rfl
theorem dX6_takesSign_54 : decode cX6_takesSign 54 = .ok (.ireturn, 1) := kqo_ac kbl_X6_takesSign (pc := 54) rfl
set_option maxRecDepth 20000 in
theorem mw_X6_takesSign_w_0 : (.fieldLink RX6 12 "FontRuns$TextReader" "told" "LFontRuns$FontRow;" : Cond) ∈ wsX6_takesSign := List.mem_cons_of_mem _ (List.mem_append_left _ (List.mem_append_left _ (List.mem_of_getElem? (i := 0) rfl)))
set_option maxRecDepth 20000 in
theorem mw_X6_takesSign_w_1 : (.fieldLink RX6 18 "FontRuns$FontRow" "count" "I" : Cond) ∈ wsX6_takesSign := List.mem_cons_of_mem _ (List.mem_append_left _ (List.mem_append_left _ (List.mem_of_getElem? (i := 1) rfl)))
set_option maxRecDepth 20000 in
theorem mw_X6_takesSign_w_2 : (.fieldLink RX6 51 "FontRuns$FontRow" "has" "[I" : Cond) ∈ wsX6_takesSign := List.mem_cons_of_mem _ (List.mem_append_left _ (List.mem_append_left _ (List.mem_of_getElem? (i := 2) rfl)))
set_option maxRecDepth 20000 in
theorem mw_X6_takesSign_w_3 : (.fieldLink RX6 22 "FontRuns$TextReader" "due" "I" : Cond) ∈ wsX6_takesSign := List.mem_cons_of_mem _ (List.mem_append_left _ (List.mem_append_left _ (List.mem_of_getElem? (i := 3) rfl)))
theorem ax_X6_takesSign_w_0 {e0 e1 e2 : Nat × va_E} : ([0, 1, 2] : List Nat).map (fun i => ([e0, e1, e2] : va_W)[i]?) = ([e0, e1, e2] : va_W).map some := rfl
set_option maxHeartbeats 4000000 in
set_option maxRecDepth 100000 in
theorem c_X6_takesSign_w (l : Launch) (D : va_G) (sz : Nat) (x : Int) (h0 : Nat) (td : Nat) (du : Int) (k1 : Nat) (k2 : Nat) (k3 : Nat) (n : Int) (ck3 : ClassId) (fh : Nat → Int32) (q0 : rg x) (q1 : rg du) (q2 : 0 ≤ n ∧ n ≤ 4) : Met l yX6_takesSign wsX6_takesSign ({ frames := 0, cells := 0, slots := 0, locals := 0 }) (kPre [.ref h0, .int (zI x)] D [(h0, .inr (6, [.ref td, .int (zI du)])), (td, .inr (0, [.ref k1, .ref k2, .ref k3, .int (zI n)])), (k3, .inl (ck3, 4, .inl fh))] [(ck3, .int)] sz) (kQS (fun rz t => ∃ (ud : Int) (un : Int) (uh : Nat → Int32), ((rz = 1 ∧ ud = 2 ∧ un = n + 1 ∧ kSgC n fh x = some uh) ∨ (rz = 0 ∧ kSgC n fh x = none)) ∧ (rg ud) ∧ (0 ≤ un ∧ un ≤ 4) ∧ va_P D vwCl [(h0, .inr (6, [.ref td, .int (zI ud)])), (td, .inr (0, [.ref k1, .ref k2, .ref k3, .int (zI un)])), (k3, .inl (ck3, 4, .inl uh))] t.heap ∧ va_D (va_A [(h0, .inr (6, [.ref td, .int (zI du)])), (td, .inr (0, [.ref k1, .ref k2, .ref k3, .int (zI n)])), (k3, .inl (ck3, 4, .inl fh))] sz) [(h0, .inr (6, [.ref td, .int (zI ud)])), (td, .inr (0, [.ref k1, .ref k2, .ref k3, .int (zI un)])), (k3, .inl (ck3, 4, .inl uh))]) (va_A [(h0, .inr (6, [.ref td, .int (zI du)])), (td, .inr (0, [.ref k1, .ref k2, .ref k3, .int (zI n)])), (k3, .inl (ck3, 4, .inl fh))] sz)) 0 0 (va_A [(h0, .inr (6, [.ref td, .int (zI du)])), (td, .inr (0, [.ref k1, .ref k2, .ref k3, .int (zI n)])), (k3, .inl (ck3, 4, .inl fh))] sz) := by
  refine Met.ofW (cc := cX6_takesSign) (maxL := 2) (ret := (some .boolean)) (by decide) rfl ?_
  intro p e s m args below meth c s₁ B hml hv
  obtain ⟨rfl, hsz, hP, hK, hD0, hN⟩ := hv
  have hx := B.exec
  have hb := B.bytes
  have hr := B.returns
  have hts := atoms_spec (ws := wsX6_takesSign) B.pre
  have hown : s.vm.findClass RX6 = some m.cls := findClass_of_methodNamed B.named
  have hlocks := B.notSynchronized
  subst hsz
  have hD := hD0.self (sz := s.heap.size)
  generalize hAe : va_A [(h0, .inr (6, [.ref td, .int (zI du)])), (td, .inr (0, [.ref k1, .ref k2, .ref k3, .int (zI n)])), (k3, .inl (ck3, 4, .inl fh))] s.heap.size = A at hD ⊢
  have hA : ∀ q : Nat, s.heap.size ≤ q → A q := fun q h => by rw [← hAe]; exact Or.inr h
  have hS : va_S A s.heap s.heap [] := va_S.rf
  have hP : va_P D vwCl [(h0, .inr (6, [.ref td, .int (zI du)])), (td, .inr (0, [.ref k1, .ref k2, .ref k3, .int (zI n)])), (k3, .inl (ck3, 4, .inl fh))] s.heap := hP
  have hl := lv_entry ([.ref h0, .int (zI x)]) (n := 2) (Nat.le_of_ble_eq_true rfl)
  rw [lg_entry_eq]
  generalize (lg_sl ([.ref h0, .int (zI x)]) ++ List.replicate (2 - (lg_sl ([.ref h0, .int (zI x)])).length) Slot.unset).toArray = ls at hl ⊢
  have hl : lv_has ls 2 [(0, .ref h0), (1, .int (zI x))] := hl
  refine lv_iload_n hx hb dX6_takesSign_0 rfl (lv_at hl 1 rfl) ?_
  refine lv_bipush (v := zI 59) hx hb dX6_takesSign_1 (by decide) ?_
  refine kz_icmp_ne (tgt := 17) hx hb dX6_takesSign_3 (by decide) (by omega) (by omega) (fun c_1 => ?_) (fun c_1 => ?_)
  · refine lv_iconst (v := zI 0) hx hb dX6_takesSign_17 rfl ?_
    have hP9 := hP.sub (ws' := [(h0, .inr (6, [.ref td, .int (zI du)])), (td, .inr (0, [.ref k1, .ref k2, .ref k3, .int (zI n)])), (k3, .inl (ck3, 4, .inl fh))]) [0, 1, 2] rfl
    have hD9 := hD.sub (ws' := [(h0, .inr (6, [.ref td, .int (zI du)])), (td, .inr (0, [.ref k1, .ref k2, .ref k3, .int (zI n)])), (k3, .inl (ck3, 4, .inl fh))]) [0, 1, 2] (by decide +kernel) rfl
    exact W.zret (v := (zI 0)) hx hb hr rfl (fun t ht hW => kQS_of (by omega) ⟨du, n, fh, (Or.inr ⟨by omega, kSgC_n (by omega)⟩), q1, q2, by rw [ht]; exact hP9, hD9⟩ (hS.F ht)) hS.2.2 dX6_takesSign_18
  · refine lv_aload_n hx hb dX6_takesSign_6 rfl (lv_at hl 0 rfl) ?_
    refine va_get (D := D) (ci := 6) (v := .ref td) (C := RX6) (T := TX6) (N := 2) hx hb hts (fun _ h9 => List.mem_cons_of_mem _ (List.mem_append_left _ (List.mem_append_right _ h9))) hown hK hP 0 rfl rfl 0 (by decide) (hts (.fieldLink RX6 12 "FontRuns$TextReader" "told" "LFontRuns$FontRow;") mw_X6_takesSign_w_0) (fun _ h9 => h9) rfl dX6_takesSign_7 ?_
    refine va_get (D := D) (ci := 0) (v := .int (zI n)) (C := RX0) (T := TX0) (N := 4) hx hb hts (fun _ h9 => List.mem_cons_of_mem _ (List.mem_append_right _ h9)) hown hK hP 1 rfl rfl 3 (by decide) (hts (.fieldLink RX6 18 "FontRuns$FontRow" "count" "I") mw_X6_takesSign_w_1) (fun _ h9 => h9) rfl dX6_takesSign_10 ?_
    refine lv_iconst (v := zI 4) hx hb dX6_takesSign_13 rfl ?_
    refine kz_icmp_lt (tgt := 19) hx hb dX6_takesSign_14 (by decide) (by omega) (by omega) (fun c_2 => ?_) (fun c_2 => ?_)
    · refine lv_aload_n hx hb dX6_takesSign_19 rfl (lv_at hl 0 rfl) ?_
      refine va_get (D := D) (ci := 6) (v := .ref td) (C := RX6) (T := TX6) (N := 2) hx hb hts (fun _ h9 => List.mem_cons_of_mem _ (List.mem_append_left _ (List.mem_append_right _ h9))) hown hK hP 0 rfl rfl 0 (by decide) (hts (.fieldLink RX6 12 "FontRuns$TextReader" "told" "LFontRuns$FontRow;") mw_X6_takesSign_w_0) (fun _ h9 => h9) rfl dX6_takesSign_20 ?_
      refine va_get (D := D) (ci := 0) (v := .ref k3) (C := RX0) (T := TX0) (N := 4) hx hb hts (fun _ h9 => List.mem_cons_of_mem _ (List.mem_append_right _ h9)) hown hK hP 1 rfl rfl 2 (by decide) (hts (.fieldLink RX6 51 "FontRuns$FontRow" "has" "[I") mw_X6_takesSign_w_2) (fun _ h9 => h9) rfl dX6_takesSign_23 ?_
      refine lv_aload_n hx hb dX6_takesSign_26 rfl (lv_at hl 0 rfl) ?_
      refine va_get (D := D) (ci := 6) (v := .ref td) (C := RX6) (T := TX6) (N := 2) hx hb hts (fun _ h9 => List.mem_cons_of_mem _ (List.mem_append_left _ (List.mem_append_right _ h9))) hown hK hP 0 rfl rfl 0 (by decide) (hts (.fieldLink RX6 12 "FontRuns$TextReader" "told" "LFontRuns$FontRow;") mw_X6_takesSign_w_0) (fun _ h9 => h9) rfl dX6_takesSign_27 ?_
      refine va_get (D := D) (ci := 0) (v := .int (zI n)) (C := RX0) (T := TX0) (N := 4) hx hb hts (fun _ h9 => List.mem_cons_of_mem _ (List.mem_append_right _ h9)) hown hK hP 1 rfl rfl 3 (by decide) (hts (.fieldLink RX6 18 "FontRuns$FontRow" "count" "I") mw_X6_takesSign_w_1) (fun _ h9 => h9) rfl dX6_takesSign_30 ?_
      refine lv_iconst (v := zI 0) hx hb dX6_takesSign_33 rfl ?_
      refine kz_iast hx hb hK hP hD hS 2 0 rfl rfl (by omega) dX6_takesSign_34 (fun H locs hP hD hS => ?_)
      have hP : va_P D vwCl [(h0, .inr (6, [.ref td, .int (zI du)])), (td, .inr (0, [.ref k1, .ref k2, .ref k3, .int (zI n)])), (k3, .inl (ck3, 4, .inl (upd fh (n).toNat (zI 0))))] H := hP
      have hD : va_D A [(h0, .inr (6, [.ref td, .int (zI du)])), (td, .inr (0, [.ref k1, .ref k2, .ref k3, .int (zI n)])), (k3, .inl (ck3, 4, .inl (upd fh (n).toNat (zI 0))))] := hD
      generalize ef_3 : upd fh (n).toNat (zI 0) = f_3 at hP hD
      refine lv_aload_n hx hb dX6_takesSign_35 rfl (lv_at hl 0 rfl) ?_
      refine va_get (D := D) (ci := 6) (v := .ref td) (C := RX6) (T := TX6) (N := 2) hx hb hts (fun _ h9 => List.mem_cons_of_mem _ (List.mem_append_left _ (List.mem_append_right _ h9))) hown hK hP 0 rfl rfl 0 (by decide) (hts (.fieldLink RX6 12 "FontRuns$TextReader" "told" "LFontRuns$FontRow;") mw_X6_takesSign_w_0) (fun _ h9 => h9) rfl dX6_takesSign_36 ?_
      refine lv_dup hx hb dX6_takesSign_39 rfl ?_
      refine va_get (D := D) (ci := 0) (v := .int (zI n)) (C := RX0) (T := TX0) (N := 4) hx hb hts (fun _ h9 => List.mem_cons_of_mem _ (List.mem_append_right _ h9)) hown hK hP 1 rfl rfl 3 (by decide) (hts (.fieldLink RX6 18 "FontRuns$FontRow" "count" "I") mw_X6_takesSign_w_1) (fun _ h9 => h9) rfl dX6_takesSign_40 ?_
      refine lv_iconst (v := zI 1) hx hb dX6_takesSign_43 rfl ?_
      refine kz_iadd hx hb dX6_takesSign_44 ?_
      refine va_put (D := D) (ci := 0) (v := .int (zI (n + 1))) (ty := .int) (C := RX0) (T := TX0) (N := 4) hx hb hts (fun _ h9 => List.mem_cons_of_mem _ (List.mem_append_right _ h9)) tyX0 tyX0_ok nmX0 hown hK hP hD hS 1 rfl rfl 3 (by decide) (hts (.fieldLink RX6 18 "FontRuns$FontRow" "count" "I") mw_X6_takesSign_w_1) (fun _ h9 => h9) rfl (by decide +kernel) rfl rfl (Nat.le_of_ble_eq_true rfl) dX6_takesSign_45 (fun H locs hP hD hS => ?_)
      have hP : va_P D vwCl [(h0, .inr (6, [.ref td, .int (zI du)])), (td, .inr (0, [.ref k1, .ref k2, .ref k3, .int (zI (n + 1))])), (k3, .inl (ck3, 4, .inl f_3))] H := hP
      have hD : va_D A [(h0, .inr (6, [.ref td, .int (zI du)])), (td, .inr (0, [.ref k1, .ref k2, .ref k3, .int (zI (n + 1))])), (k3, .inl (ck3, 4, .inl f_3))] := hD
      refine lv_aload_n hx hb dX6_takesSign_48 rfl (lv_at hl 0 rfl) ?_
      refine lv_iconst (v := zI 2) hx hb dX6_takesSign_49 rfl ?_
      refine va_put (D := D) (ci := 6) (v := .int (zI 2)) (ty := .int) (C := RX6) (T := TX6) (N := 2) hx hb hts (fun _ h9 => List.mem_cons_of_mem _ (List.mem_append_left _ (List.mem_append_right _ h9))) tyX6 tyX6_ok nmX6 hown hK hP hD hS 0 rfl rfl 1 (by decide) (hts (.fieldLink RX6 22 "FontRuns$TextReader" "due" "I") mw_X6_takesSign_w_3) (fun _ h9 => h9) rfl (by decide +kernel) rfl rfl (Nat.le_of_ble_eq_true rfl) dX6_takesSign_50 (fun H locs hP hD hS => ?_)
      have hP : va_P D vwCl [(h0, .inr (6, [.ref td, .int (zI 2)])), (td, .inr (0, [.ref k1, .ref k2, .ref k3, .int (zI (n + 1))])), (k3, .inl (ck3, 4, .inl f_3))] H := hP
      have hD : va_D A [(h0, .inr (6, [.ref td, .int (zI 2)])), (td, .inr (0, [.ref k1, .ref k2, .ref k3, .int (zI (n + 1))])), (k3, .inl (ck3, 4, .inl f_3))] := hD
      refine lv_iconst (v := zI 1) hx hb dX6_takesSign_53 rfl ?_
      have hP9 := hP.sub (ws' := [(h0, .inr (6, [.ref td, .int (zI 2)])), (td, .inr (0, [.ref k1, .ref k2, .ref k3, .int (zI (n + 1))])), (k3, .inl (ck3, 4, .inl f_3))]) [0, 1, 2] rfl
      have hD9 := hD.sub (ws' := [(h0, .inr (6, [.ref td, .int (zI 2)])), (td, .inr (0, [.ref k1, .ref k2, .ref k3, .int (zI (n + 1))])), (k3, .inl (ck3, 4, .inl f_3))]) [0, 1, 2] (by decide +kernel) rfl
      exact W.zret (v := (zI 1)) hx hb hr rfl (fun t ht hW => kQS_of (by omega) ⟨2, (n + 1), f_3, (Or.inl ⟨by omega, by omega, by omega, by rw [kSgC_y (by omega), ef_3]⟩), (by omega), (by omega), by rw [ht]; exact hP9, hD9⟩ (hS.F ht)) hS.2.2 dX6_takesSign_54
    · refine lv_iconst (v := zI 0) hx hb dX6_takesSign_17 rfl ?_
      have hP9 := hP.sub (ws' := [(h0, .inr (6, [.ref td, .int (zI du)])), (td, .inr (0, [.ref k1, .ref k2, .ref k3, .int (zI n)])), (k3, .inl (ck3, 4, .inl fh))]) [0, 1, 2] rfl
      have hD9 := hD.sub (ws' := [(h0, .inr (6, [.ref td, .int (zI du)])), (td, .inr (0, [.ref k1, .ref k2, .ref k3, .int (zI n)])), (k3, .inl (ck3, 4, .inl fh))]) [0, 1, 2] (by decide +kernel) rfl
      exact W.zret (v := (zI 0)) hx hb hr rfl (fun t ht hW => kQS_of (by omega) ⟨du, n, fh, (Or.inr ⟨by omega, kSgC_n (by omega)⟩), q1, q2, by rw [ht]; exact hP9, hD9⟩ (hS.F ht)) hS.2.2 dX6_takesSign_18
theorem dX6_takesKind_0 : decode cX6_takesKind 0 = .ok (.aload_n 0, 1) := kqo_2a kbl_X6_takesKind (pc := 0) rfl
theorem dX6_takesKind_1 : decode cX6_takesKind 1 = .ok (.getfield 12, 3) := kqo_b4 (x1 := 0) (x2 := 12) kbl_X6_takesKind (pc := 1) rfl rfl
theorem dX6_takesKind_4 : decode cX6_takesKind 4 = .ok (.iload_n 2, 1) := kqo_1c kbl_X6_takesKind (pc := 4) rfl
theorem dX6_takesKind_5 : decode cX6_takesKind 5 = .ok (.invokevirtual 55, 3) := kqo_b6 (x1 := 0) (x2 := 55) kbl_X6_takesKind (pc := 5) rfl rfl
theorem dX6_takesKind_8 : decode cX6_takesKind 8 = .ok (.ifCond .eq 14, 3) := kqo_99 (x1 := 0) (x2 := 14) kbl_X6_takesKind (pc := 8) rfl rfl
theorem dX6_takesKind_11 : decode cX6_takesKind 11 = .ok (.iload_n 1, 1) := kqo_1b kbl_X6_takesKind (pc := 11) rfl
theorem dX6_takesKind_12 : decode cX6_takesKind 12 = .ok (.bipush 65, 2) := kqo_10 (x1 := 65) kbl_X6_takesKind (pc := 12) rfl rfl
theorem dX6_takesKind_14 : decode cX6_takesKind 14 = .ok (.bipush 67, 2) := kqo_10 (x1 := 67) kbl_X6_takesKind (pc := 14) rfl rfl
theorem dX6_takesKind_16 : decode cX6_takesKind 16 = .ok (.invokestatic 58, 3) := kqo_b8 (x1 := 0) (x2 := 58) kbl_X6_takesKind (pc := 16) rfl rfl
theorem dX6_takesKind_19 : decode cX6_takesKind 19 = .ok (.ifCond .ne 5, 3) := kqo_9a (x1 := 0) (x2 := 5) kbl_X6_takesKind (pc := 19) rfl rfl
theorem dX6_takesKind_22 : decode cX6_takesKind 22 = .ok (.iconst 0, 1) := kqo_03 kbl_X6_takesKind (pc := 22) rfl
theorem dX6_takesKind_23 : decode cX6_takesKind 23 = .ok (.ireturn, 1) := kqo_ac kbl_X6_takesKind (pc := 23) rfl
theorem dX6_takesKind_24 : decode cX6_takesKind 24 = .ok (.aload_n 0, 1) := kqo_2a kbl_X6_takesKind (pc := 24) rfl
theorem dX6_takesKind_25 : decode cX6_takesKind 25 = .ok (.getfield 12, 3) := kqo_b4 (x1 := 0) (x2 := 12) kbl_X6_takesKind (pc := 25) rfl rfl
theorem dX6_takesKind_28 : decode cX6_takesKind 28 = .ok (.getfield 62, 3) := kqo_b4 (x1 := 0) (x2 := 62) kbl_X6_takesKind (pc := 28) rfl rfl
theorem dX6_takesKind_31 : decode cX6_takesKind 31 = .ok (.iload_n 2, 1) := kqo_1c kbl_X6_takesKind (pc := 31) rfl
theorem dX6_takesKind_32 : decode cX6_takesKind 32 = .ok (.iload_n 1, 1) := kqo_1b kbl_X6_takesKind (pc := 32) rfl
theorem dX6_takesKind_33 : decode cX6_takesKind 33 = .ok (.bipush 65, 2) := kqo_10 (x1 := 65) kbl_X6_takesKind (pc := 33) rfl rfl
theorem dX6_takesKind_35 : decode cX6_takesKind 35 = .ok (.isub, 1) := kqo_64 kbl_X6_takesKind (pc := 35) rfl
theorem dX6_takesKind_36 : decode cX6_takesKind 36 = .ok (.iastore, 1) := kqo_4f kbl_X6_takesKind (pc := 36) rfl
theorem dX6_takesKind_37 : decode cX6_takesKind 37 = .ok (.aload_n 0, 1) := kqo_2a kbl_X6_takesKind (pc := 37) rfl
theorem dX6_takesKind_38 : decode cX6_takesKind 38 = .ok (.iconst 3, 1) := kqo_06 kbl_X6_takesKind (pc := 38) rfl
theorem dX6_takesKind_39 : decode cX6_takesKind 39 = .ok (.putfield 22, 3) := kqo_b5 (x1 := 0) (x2 := 22) kbl_X6_takesKind (pc := 39) rfl rfl
theorem dX6_takesKind_42 : decode cX6_takesKind 42 = .ok (.iconst 1, 1) := kqo_04 kbl_X6_takesKind (pc := 42) rfl
theorem dX6_takesKind_43 : decode cX6_takesKind 43 = .ok (.ireturn, 1) := kqo_ac kbl_X6_takesKind (pc := 43) rfl
set_option maxRecDepth 20000 in
theorem ggX6_takesKind_X0_isFont : GoodIn wsX6_takesKind wsX0_isFont := goodIn_4 _ (List.forall_mem_cons.mpr ⟨List.mem_cons_of_mem _ (List.mem_append_left _ (List.mem_append_left _ (List.mem_of_getElem? (i := 7) rfl))), List.forall_mem_append.mpr ⟨List.forall_mem_cons.mpr ⟨List.mem_cons_of_mem _ (List.mem_append_left _ (List.mem_append_left _ (List.mem_of_getElem? (i := 8) rfl))), List.forall_mem_cons.mpr ⟨List.mem_cons_of_mem _ (List.mem_append_left _ (List.mem_append_left _ (List.mem_of_getElem? (i := 9) rfl))), List.forall_mem_cons.mpr ⟨List.mem_cons_of_mem _ (List.mem_append_left _ (List.mem_append_left _ (List.mem_of_getElem? (i := 10) rfl))), List.forall_mem_cons.mpr ⟨List.mem_cons_of_mem _ (List.mem_append_left _ (List.mem_append_left _ (List.mem_of_getElem? (i := 11) rfl))), fun _ h9 => absurd h9 List.not_mem_nil⟩⟩⟩⟩, fun w h9 => List.mem_cons_of_mem _ (List.mem_append_right _ (h9))⟩⟩) (by decide +kernel)
set_option maxRecDepth 20000 in
theorem gX6_takesKind_X0_isFont : GoodIn wsX6_takesKind (wsV RX6 55 RX0 yX0_isFont wsX0_isFont) := goodIn_app (goodIn_4 _ (List.forall_mem_cons.mpr ⟨List.mem_cons_of_mem _ (List.mem_append_left _ (List.mem_append_left _ (List.mem_of_getElem? (i := 3) rfl))), List.forall_mem_cons.mpr ⟨List.mem_cons_of_mem _ (List.mem_append_left _ (List.mem_append_left _ (List.mem_of_getElem? (i := 4) rfl))), List.forall_mem_cons.mpr ⟨List.mem_cons_of_mem _ (List.mem_append_left _ (List.mem_append_left _ (List.mem_of_getElem? (i := 5) rfl))), List.forall_mem_cons.mpr ⟨List.mem_cons_of_mem _ (List.mem_append_left _ (List.mem_append_left _ (List.mem_of_getElem? (i := 6) rfl))), fun _ h9 => absurd h9 List.not_mem_nil⟩⟩⟩⟩) (by decide +kernel)) ggX6_takesKind_X0_isFont
set_option maxRecDepth 20000 in
theorem ggX6_takesKind_X8_isWithin : GoodIn wsX6_takesKind wsX8_isWithin := goodIn_4 _ (List.forall_mem_cons.mpr ⟨List.mem_cons_of_mem _ (List.mem_append_left _ (List.mem_append_left _ (List.mem_of_getElem? (i := 11) rfl))), fun _ h9 => absurd h9 List.not_mem_nil⟩) (by decide +kernel)
set_option maxRecDepth 20000 in
theorem gX6_takesKind_X8_isWithin_n58 : GoodIn wsX6_takesKind (wsX8_isWithin) := ggX6_takesKind_X8_isWithin
set_option maxRecDepth 20000 in
theorem mw_X6_takesKind_w_0 : (.fieldLink RX6 12 "FontRuns$TextReader" "told" "LFontRuns$FontRow;" : Cond) ∈ wsX6_takesKind := List.mem_cons_of_mem _ (List.mem_append_left _ (List.mem_append_left _ (List.mem_of_getElem? (i := 0) rfl)))
set_option maxRecDepth 20000 in
theorem mw_X6_takesKind_w_1 : (.initialized RX8 : Cond) ∈ wsX6_takesKind := List.mem_cons_of_mem _ (List.mem_append_left _ (List.mem_append_left _ (List.mem_of_getElem? (i := 10) rfl)))
set_option maxRecDepth 20000 in
theorem mw_X6_takesKind_w_2 : (.static yX8_isWithin : Cond) ∈ wsX6_takesKind := List.mem_cons_of_mem _ (List.mem_append_left _ (List.mem_append_left _ (List.mem_of_getElem? (i := 9) rfl)))
set_option maxRecDepth 20000 in
theorem mw_X6_takesKind_w_3 : (.fieldLink RX6 62 "FontRuns$FontRow" "kind" "[I" : Cond) ∈ wsX6_takesKind := List.mem_cons_of_mem _ (List.mem_append_left _ (List.mem_append_left _ (List.mem_of_getElem? (i := 1) rfl)))
set_option maxRecDepth 20000 in
theorem mw_X6_takesKind_w_4 : (.fieldLink RX6 22 "FontRuns$TextReader" "due" "I" : Cond) ∈ wsX6_takesKind := List.mem_cons_of_mem _ (List.mem_append_left _ (List.mem_append_left _ (List.mem_of_getElem? (i := 2) rfl)))
theorem ax_X6_takesKind_w_0 {e0 e1 e2 : Nat × va_E} : ([1] : List Nat).map (fun i => ([e0, e1, e2] : va_W)[i]?) = ([e1] : va_W).map some := rfl
theorem ax_X6_takesKind_w_1 {e0 e1 e2 : Nat × va_E} : ([0, 1, 2] : List Nat).map (fun i => ([e0, e1, e2] : va_W)[i]?) = ([e0, e1, e2] : va_W).map some := rfl
theorem ax_X6_takesKind_w_2 {e0 e1 e2 : Nat × va_E} : ([] : List Nat).map (fun i => ([e0, e1, e2] : va_W)[i]?) = ([] : va_W).map some := rfl
set_option maxHeartbeats 4000000 in
set_option maxRecDepth 100000 in
theorem c_X6_takesKind_w (l : Launch) (D : va_G) (sz : Nat) (x : Int) (f : Int) (h0 : Nat) (td : Nat) (du : Int) (k1 : Nat) (k2 : Nat) (k3 : Nat) (n : Int) (ck1 : ClassId) (fk : Nat → Int32) (q0 : rg x) (q1 : rg f) (q2 : rg du) (q3 : 0 ≤ n ∧ n ≤ 4) (q4 : f = n - 1) : Met l yX6_takesKind wsX6_takesKind ({ frames := 2, cells := 0, slots := 0, locals := 43 }) (kPre [.ref h0, .int (zI x), .int (zI f)] D [(h0, .inr (6, [.ref td, .int (zI du)])), (td, .inr (0, [.ref k1, .ref k2, .ref k3, .int (zI n)])), (k1, .inl (ck1, 4, .inl fk))] [(ck1, .int)] sz) (kQS (fun rz t => ∃ (ud : Int) (uk : Nat → Int32), ((rz = 1 ∧ ud = 3 ∧ (1 ≤ n ∧ 65 ≤ x ∧ x ≤ 67) ∧ uk = upd fk (n - 1).toNat (zI (x - 65))) ∨ (rz = 0 ∧ ¬ (1 ≤ n ∧ 65 ≤ x ∧ x ≤ 67))) ∧ (rg ud) ∧ va_P D vwCl [(h0, .inr (6, [.ref td, .int (zI ud)])), (td, .inr (0, [.ref k1, .ref k2, .ref k3, .int (zI n)])), (k1, .inl (ck1, 4, .inl uk))] t.heap ∧ va_D (va_A [(h0, .inr (6, [.ref td, .int (zI du)])), (td, .inr (0, [.ref k1, .ref k2, .ref k3, .int (zI n)])), (k1, .inl (ck1, 4, .inl fk))] sz) [(h0, .inr (6, [.ref td, .int (zI ud)])), (td, .inr (0, [.ref k1, .ref k2, .ref k3, .int (zI n)])), (k1, .inl (ck1, 4, .inl uk))]) (va_A [(h0, .inr (6, [.ref td, .int (zI du)])), (td, .inr (0, [.ref k1, .ref k2, .ref k3, .int (zI n)])), (k1, .inl (ck1, 4, .inl fk))] sz)) 0 0 (va_A [(h0, .inr (6, [.ref td, .int (zI du)])), (td, .inr (0, [.ref k1, .ref k2, .ref k3, .int (zI n)])), (k1, .inl (ck1, 4, .inl fk))] sz) := by
  refine Met.ofW (cc := cX6_takesKind) (maxL := 3) (ret := (some .boolean)) (by decide) rfl ?_
  intro p e s m args below meth c s₁ B hml hv
  obtain ⟨rfl, hsz, hP, hK, hD0, hN⟩ := hv
  have hx := B.exec
  have hb := B.bytes
  have hr := B.returns
  have hts := atoms_spec (ws := wsX6_takesKind) B.pre
  have hown : s.vm.findClass RX6 = some m.cls := findClass_of_methodNamed B.named
  have hlocks := B.notSynchronized
  subst hsz
  have hD := hD0.self (sz := s.heap.size)
  generalize hAe : va_A [(h0, .inr (6, [.ref td, .int (zI du)])), (td, .inr (0, [.ref k1, .ref k2, .ref k3, .int (zI n)])), (k1, .inl (ck1, 4, .inl fk))] s.heap.size = A at hD ⊢
  have hA : ∀ q : Nat, s.heap.size ≤ q → A q := fun q h => by rw [← hAe]; exact Or.inr h
  have hS : va_S A s.heap s.heap [] := va_S.rf
  have hP : va_P D vwCl [(h0, .inr (6, [.ref td, .int (zI du)])), (td, .inr (0, [.ref k1, .ref k2, .ref k3, .int (zI n)])), (k1, .inl (ck1, 4, .inl fk))] s.heap := hP
  have hl := lv_entry ([.ref h0, .int (zI x), .int (zI f)]) (n := 3) (Nat.le_of_ble_eq_true rfl)
  rw [lg_entry_eq]
  generalize (lg_sl ([.ref h0, .int (zI x), .int (zI f)]) ++ List.replicate (3 - (lg_sl ([.ref h0, .int (zI x), .int (zI f)])).length) Slot.unset).toArray = ls at hl ⊢
  have hl : lv_has ls 3 [(0, .ref h0), (1, .int (zI x)), (2, .int (zI f))] := hl
  refine lv_aload_n hx hb dX6_takesKind_0 rfl (lv_at hl 0 rfl) ?_
  refine va_get (D := D) (ci := 6) (v := .ref td) (C := RX6) (T := TX6) (N := 2) hx hb hts (fun _ h9 => List.mem_cons_of_mem _ (List.mem_append_left _ (List.mem_append_right _ h9))) hown hK hP 0 rfl rfl 0 (by decide) (hts (.fieldLink RX6 12 "FontRuns$TextReader" "told" "LFontRuns$FontRow;") mw_X6_takesKind_w_0) (fun _ h9 => h9) rfl dX6_takesKind_1 ?_
  refine lv_iload_n hx hb dX6_takesKind_4 rfl (lv_at hl 2 rfl) ?_
  refine k_callR (va_runV (As := [.int (zI f)]) (rest := []) ⟨hx, hb, hml, hown, hts⟩ (c_X0_isFont l D s.heap.size (f := f) (h0 := td) (k1 := k1) (k2 := k2) (k3 := k3) (n := n) q1 q3) (cwV 1 hts gX6_takesKind_X0_isFont rfl rfl rfl (by decide +kernel) ⟨Nat.le_of_ble_eq_true rfl, Nat.le_of_ble_eq_true rfl⟩) (kPreV hP (kD0 hD) hK hN [1] [] ax_X6_takesKind_w_0 rfl (by decide +kernel) 1 0 rfl rfl) rfl rfl hl.1 rfl (lv_room (Nat.le_of_ble_eq_true rfl)) dX6_takesKind_5 ⟨Nat.le_of_ble_eq_true rfl, Nat.le_of_ble_eq_true rfl⟩) ?_
  refine lv_if_eq (tgt := 22) hx hb dX6_takesKind_8 (by decide) (fun c_1 => ?_) (fun c_1 => ?_)
  · have c_1 : ¬ (0 ≤ f ∧ f ≤ n - 1) := b01f c_1
    refine lv_iconst (v := zI 0) hx hb dX6_takesKind_22 rfl ?_
    have hP9 := hP.sub (ws' := [(h0, .inr (6, [.ref td, .int (zI du)])), (td, .inr (0, [.ref k1, .ref k2, .ref k3, .int (zI n)])), (k1, .inl (ck1, 4, .inl fk))]) [0, 1, 2] rfl
    have hD9 := hD.sub (ws' := [(h0, .inr (6, [.ref td, .int (zI du)])), (td, .inr (0, [.ref k1, .ref k2, .ref k3, .int (zI n)])), (k1, .inl (ck1, 4, .inl fk))]) [0, 1, 2] (by decide +kernel) rfl
    exact W.zret (v := (zI 0)) hx hb hr rfl (fun t ht hW => kQS_of (by omega) ⟨du, fk, (Or.inr ⟨by omega, by omega⟩), q2, by rw [ht]; exact hP9, hD9⟩ (hS.F ht)) hS.2.2 dX6_takesKind_23
  · have c_1 : 0 ≤ f ∧ f ≤ n - 1 := b01t c_1
    refine lv_iload_n hx hb dX6_takesKind_11 rfl (lv_at hl 1 rfl) ?_
    refine lv_bipush (v := zI 65) hx hb dX6_takesKind_12 (by decide) ?_
    refine lv_bipush (v := zI 67) hx hb dX6_takesKind_14 (by decide) ?_
    refine k_callR (va_runSN (As := [.int (zI x), .int (zI 65), .int (zI 67)]) (rest := []) ⟨hx, hb, hml, hown, hts⟩ (c_X8_isWithin l D s.heap.size (v := x) (a := 65) (b := 67) q0 (by omega) (by omega)) (⟨va_cnB 3 hts gX6_takesKind_X8_isWithin_n58 rfl rfl rfl (hN.1 (RX6, 58, yX8_isWithin) (by decide +kernel)) (hts (.initialized RX8) mw_X6_takesKind_w_1) (by decide +kernel) ⟨Nat.le_of_ble_eq_true rfl, Nat.le_of_ble_eq_true rfl⟩, (hts (.static yX8_isWithin) mw_X6_takesKind_w_2), trivial⟩) (kPreS hP (kD0 hD) hK hN [] [] ax_X6_takesKind_w_2 rfl (by decide +kernel)) rfl rfl hl.1 rfl (lv_room (Nat.le_of_ble_eq_true rfl)) dX6_takesKind_16 ⟨Nat.le_of_ble_eq_true rfl, Nat.le_of_ble_eq_true rfl⟩) ?_
    refine lv_if_ne (tgt := 24) hx hb dX6_takesKind_19 (by decide) (fun c_2 => ?_) (fun c_2 => ?_)
    · have c_2 : 65 ≤ x ∧ x ≤ 67 := b01t c_2
      refine lv_aload_n hx hb dX6_takesKind_24 rfl (lv_at hl 0 rfl) ?_
      refine va_get (D := D) (ci := 6) (v := .ref td) (C := RX6) (T := TX6) (N := 2) hx hb hts (fun _ h9 => List.mem_cons_of_mem _ (List.mem_append_left _ (List.mem_append_right _ h9))) hown hK hP 0 rfl rfl 0 (by decide) (hts (.fieldLink RX6 12 "FontRuns$TextReader" "told" "LFontRuns$FontRow;") mw_X6_takesKind_w_0) (fun _ h9 => h9) rfl dX6_takesKind_25 ?_
      refine va_get (D := D) (ci := 0) (v := .ref k1) (C := RX0) (T := TX0) (N := 4) hx hb hts (fun _ h9 => List.mem_cons_of_mem _ (List.mem_append_right _ h9)) hown hK hP 1 rfl rfl 0 (by decide) (hts (.fieldLink RX6 62 "FontRuns$FontRow" "kind" "[I") mw_X6_takesKind_w_3) (fun _ h9 => h9) rfl dX6_takesKind_28 ?_
      refine lv_iload_n hx hb dX6_takesKind_31 rfl (lv_at hl 2 rfl) ?_
      refine lv_iload_n hx hb dX6_takesKind_32 rfl (lv_at hl 1 rfl) ?_
      refine lv_bipush (v := zI 65) hx hb dX6_takesKind_33 (by decide) ?_
      refine kz_isub hx hb dX6_takesKind_35 ?_
      refine kz_iast hx hb hK hP hD hS 2 0 rfl rfl (by omega) dX6_takesKind_36 (fun H locs hP hD hS => ?_)
      have hP : va_P D vwCl [(h0, .inr (6, [.ref td, .int (zI du)])), (td, .inr (0, [.ref k1, .ref k2, .ref k3, .int (zI n)])), (k1, .inl (ck1, 4, .inl (upd fk (f).toNat (zI (x - 65)))))] H := hP
      have hD : va_D A [(h0, .inr (6, [.ref td, .int (zI du)])), (td, .inr (0, [.ref k1, .ref k2, .ref k3, .int (zI n)])), (k1, .inl (ck1, 4, .inl (upd fk (f).toNat (zI (x - 65)))))] := hD
      generalize ef_3 : upd fk (f).toNat (zI (x - 65)) = f_3 at hP hD
      refine lv_aload_n hx hb dX6_takesKind_37 rfl (lv_at hl 0 rfl) ?_
      refine lv_iconst (v := zI 3) hx hb dX6_takesKind_38 rfl ?_
      refine va_put (D := D) (ci := 6) (v := .int (zI 3)) (ty := .int) (C := RX6) (T := TX6) (N := 2) hx hb hts (fun _ h9 => List.mem_cons_of_mem _ (List.mem_append_left _ (List.mem_append_right _ h9))) tyX6 tyX6_ok nmX6 hown hK hP hD hS 0 rfl rfl 1 (by decide) (hts (.fieldLink RX6 22 "FontRuns$TextReader" "due" "I") mw_X6_takesKind_w_4) (fun _ h9 => h9) rfl (by decide +kernel) rfl rfl (Nat.le_of_ble_eq_true rfl) dX6_takesKind_39 (fun H locs hP hD hS => ?_)
      have hP : va_P D vwCl [(h0, .inr (6, [.ref td, .int (zI 3)])), (td, .inr (0, [.ref k1, .ref k2, .ref k3, .int (zI n)])), (k1, .inl (ck1, 4, .inl f_3))] H := hP
      have hD : va_D A [(h0, .inr (6, [.ref td, .int (zI 3)])), (td, .inr (0, [.ref k1, .ref k2, .ref k3, .int (zI n)])), (k1, .inl (ck1, 4, .inl f_3))] := hD
      refine lv_iconst (v := zI 1) hx hb dX6_takesKind_42 rfl ?_
      have hP9 := hP.sub (ws' := [(h0, .inr (6, [.ref td, .int (zI 3)])), (td, .inr (0, [.ref k1, .ref k2, .ref k3, .int (zI n)])), (k1, .inl (ck1, 4, .inl f_3))]) [0, 1, 2] rfl
      have hD9 := hD.sub (ws' := [(h0, .inr (6, [.ref td, .int (zI 3)])), (td, .inr (0, [.ref k1, .ref k2, .ref k3, .int (zI n)])), (k1, .inl (ck1, 4, .inl f_3))]) [0, 1, 2] (by decide +kernel) rfl
      exact W.zret (v := (zI 1)) hx hb hr rfl (fun t ht hW => kQS_of (by omega) ⟨3, f_3, (Or.inl ⟨by omega, by omega, by omega, by rw [← ef_3, show f = n - 1 by omega]⟩), (by omega), by rw [ht]; exact hP9, hD9⟩ (hS.F ht)) hS.2.2 dX6_takesKind_43
    · have c_2 : ¬ (65 ≤ x ∧ x ≤ 67) := b01f c_2
      refine lv_iconst (v := zI 0) hx hb dX6_takesKind_22 rfl ?_
      have hP9 := hP.sub (ws' := [(h0, .inr (6, [.ref td, .int (zI du)])), (td, .inr (0, [.ref k1, .ref k2, .ref k3, .int (zI n)])), (k1, .inl (ck1, 4, .inl fk))]) [0, 1, 2] rfl
      have hD9 := hD.sub (ws' := [(h0, .inr (6, [.ref td, .int (zI du)])), (td, .inr (0, [.ref k1, .ref k2, .ref k3, .int (zI n)])), (k1, .inl (ck1, 4, .inl fk))]) [0, 1, 2] (by decide +kernel) rfl
      exact W.zret (v := (zI 0)) hx hb hr rfl (fun t ht hW => kQS_of (by omega) ⟨du, fk, (Or.inr ⟨by omega, by omega⟩), q2, by rw [ht]; exact hP9, hD9⟩ (hS.F ht)) hS.2.2 dX6_takesKind_23
theorem dX6_takesBreadth_0 : decode cX6_takesBreadth 0 = .ok (.aload_n 0, 1) := kqo_2a kbl_X6_takesBreadth (pc := 0) rfl
theorem dX6_takesBreadth_1 : decode cX6_takesBreadth 1 = .ok (.getfield 12, 3) := kqo_b4 (x1 := 0) (x2 := 12) kbl_X6_takesBreadth (pc := 1) rfl rfl
theorem dX6_takesBreadth_4 : decode cX6_takesBreadth 4 = .ok (.iload_n 2, 1) := kqo_1c kbl_X6_takesBreadth (pc := 4) rfl
theorem dX6_takesBreadth_5 : decode cX6_takesBreadth 5 = .ok (.invokevirtual 55, 3) := kqo_b6 (x1 := 0) (x2 := 55) kbl_X6_takesBreadth (pc := 5) rfl rfl
theorem dX6_takesBreadth_8 : decode cX6_takesBreadth 8 = .ok (.ifCond .eq 14, 3) := kqo_99 (x1 := 0) (x2 := 14) kbl_X6_takesBreadth (pc := 8) rfl rfl
theorem dX6_takesBreadth_11 : decode cX6_takesBreadth 11 = .ok (.iload_n 1, 1) := kqo_1b kbl_X6_takesBreadth (pc := 11) rfl
theorem dX6_takesBreadth_12 : decode cX6_takesBreadth 12 = .ok (.bipush 49, 2) := kqo_10 (x1 := 49) kbl_X6_takesBreadth (pc := 12) rfl rfl
theorem dX6_takesBreadth_14 : decode cX6_takesBreadth 14 = .ok (.bipush 57, 2) := kqo_10 (x1 := 57) kbl_X6_takesBreadth (pc := 14) rfl rfl
theorem dX6_takesBreadth_16 : decode cX6_takesBreadth 16 = .ok (.invokestatic 58, 3) := kqo_b8 (x1 := 0) (x2 := 58) kbl_X6_takesBreadth (pc := 16) rfl rfl
theorem dX6_takesBreadth_19 : decode cX6_takesBreadth 19 = .ok (.ifCond .ne 5, 3) := kqo_9a (x1 := 0) (x2 := 5) kbl_X6_takesBreadth (pc := 19) rfl rfl
theorem dX6_takesBreadth_22 : decode cX6_takesBreadth 22 = .ok (.iconst 0, 1) := kqo_03 kbl_X6_takesBreadth (pc := 22) rfl
theorem dX6_takesBreadth_23 : decode cX6_takesBreadth 23 = .ok (.ireturn, 1) := kqo_ac kbl_X6_takesBreadth (pc := 23) rfl
theorem dX6_takesBreadth_24 : decode cX6_takesBreadth 24 = .ok (.aload_n 0, 1) := kqo_2a kbl_X6_takesBreadth (pc := 24) rfl
theorem dX6_takesBreadth_25 : decode cX6_takesBreadth 25 = .ok (.getfield 12, 3) := kqo_b4 (x1 := 0) (x2 := 12) kbl_X6_takesBreadth (pc := 25) rfl rfl
theorem dX6_takesBreadth_28 : decode cX6_takesBreadth 28 = .ok (.getfield 65, 3) := kqo_b4 (x1 := 0) (x2 := 65) kbl_X6_takesBreadth (pc := 28) rfl rfl
theorem dX6_takesBreadth_31 : decode cX6_takesBreadth 31 = .ok (.iload_n 2, 1) := kqo_1c kbl_X6_takesBreadth (pc := 31) rfl
theorem dX6_takesBreadth_32 : decode cX6_takesBreadth 32 = .ok (.iload_n 1, 1) := kqo_1b kbl_X6_takesBreadth (pc := 32) rfl
theorem dX6_takesBreadth_33 : decode cX6_takesBreadth 33 = .ok (.bipush 48, 2) := kqo_10 (x1 := 48) kbl_X6_takesBreadth (pc := 33) rfl rfl
theorem dX6_takesBreadth_35 : decode cX6_takesBreadth 35 = .ok (.isub, 1) := kqo_64 kbl_X6_takesBreadth (pc := 35) rfl
theorem dX6_takesBreadth_36 : decode cX6_takesBreadth 36 = .ok (.iastore, 1) := kqo_4f kbl_X6_takesBreadth (pc := 36) rfl
theorem dX6_takesBreadth_37 : decode cX6_takesBreadth 37 = .ok (.aload_n 0, 1) := kqo_2a kbl_X6_takesBreadth (pc := 37) rfl
theorem dX6_takesBreadth_38 : decode cX6_takesBreadth 38 = .ok (.iconst 4, 1) := kqo_07 kbl_X6_takesBreadth (pc := 38) rfl
theorem dX6_takesBreadth_39 : decode cX6_takesBreadth 39 = .ok (.putfield 22, 3) := kqo_b5 (x1 := 0) (x2 := 22) kbl_X6_takesBreadth (pc := 39) rfl rfl
theorem dX6_takesBreadth_42 : decode cX6_takesBreadth 42 = .ok (.iconst 1, 1) := kqo_04 kbl_X6_takesBreadth (pc := 42) rfl
theorem dX6_takesBreadth_43 : decode cX6_takesBreadth 43 = .ok (.ireturn, 1) := kqo_ac kbl_X6_takesBreadth (pc := 43) rfl
set_option maxRecDepth 20000 in
theorem ggX6_takesBreadth_X0_isFont : GoodIn wsX6_takesBreadth wsX0_isFont := goodIn_4 _ (List.forall_mem_cons.mpr ⟨List.mem_cons_of_mem _ (List.mem_append_left _ (List.mem_append_left _ (List.mem_of_getElem? (i := 7) rfl))), List.forall_mem_append.mpr ⟨List.forall_mem_cons.mpr ⟨List.mem_cons_of_mem _ (List.mem_append_left _ (List.mem_append_left _ (List.mem_of_getElem? (i := 8) rfl))), List.forall_mem_cons.mpr ⟨List.mem_cons_of_mem _ (List.mem_append_left _ (List.mem_append_left _ (List.mem_of_getElem? (i := 9) rfl))), List.forall_mem_cons.mpr ⟨List.mem_cons_of_mem _ (List.mem_append_left _ (List.mem_append_left _ (List.mem_of_getElem? (i := 10) rfl))), List.forall_mem_cons.mpr ⟨List.mem_cons_of_mem _ (List.mem_append_left _ (List.mem_append_left _ (List.mem_of_getElem? (i := 11) rfl))), fun _ h9 => absurd h9 List.not_mem_nil⟩⟩⟩⟩, fun w h9 => List.mem_cons_of_mem _ (List.mem_append_right _ (h9))⟩⟩) (by decide +kernel)
set_option maxRecDepth 20000 in
theorem gX6_takesBreadth_X0_isFont : GoodIn wsX6_takesBreadth (wsV RX6 55 RX0 yX0_isFont wsX0_isFont) := goodIn_app (goodIn_4 _ (List.forall_mem_cons.mpr ⟨List.mem_cons_of_mem _ (List.mem_append_left _ (List.mem_append_left _ (List.mem_of_getElem? (i := 3) rfl))), List.forall_mem_cons.mpr ⟨List.mem_cons_of_mem _ (List.mem_append_left _ (List.mem_append_left _ (List.mem_of_getElem? (i := 4) rfl))), List.forall_mem_cons.mpr ⟨List.mem_cons_of_mem _ (List.mem_append_left _ (List.mem_append_left _ (List.mem_of_getElem? (i := 5) rfl))), List.forall_mem_cons.mpr ⟨List.mem_cons_of_mem _ (List.mem_append_left _ (List.mem_append_left _ (List.mem_of_getElem? (i := 6) rfl))), fun _ h9 => absurd h9 List.not_mem_nil⟩⟩⟩⟩) (by decide +kernel)) ggX6_takesBreadth_X0_isFont
set_option maxRecDepth 20000 in
theorem ggX6_takesBreadth_X8_isWithin : GoodIn wsX6_takesBreadth wsX8_isWithin := goodIn_4 _ (List.forall_mem_cons.mpr ⟨List.mem_cons_of_mem _ (List.mem_append_left _ (List.mem_append_left _ (List.mem_of_getElem? (i := 11) rfl))), fun _ h9 => absurd h9 List.not_mem_nil⟩) (by decide +kernel)
set_option maxRecDepth 20000 in
theorem gX6_takesBreadth_X8_isWithin_n58 : GoodIn wsX6_takesBreadth (wsX8_isWithin) := ggX6_takesBreadth_X8_isWithin
set_option maxRecDepth 20000 in
theorem mw_X6_takesBreadth_w_0 : (.fieldLink RX6 12 "FontRuns$TextReader" "told" "LFontRuns$FontRow;" : Cond) ∈ wsX6_takesBreadth := List.mem_cons_of_mem _ (List.mem_append_left _ (List.mem_append_left _ (List.mem_of_getElem? (i := 0) rfl)))
set_option maxRecDepth 20000 in
theorem mw_X6_takesBreadth_w_1 : (.initialized RX8 : Cond) ∈ wsX6_takesBreadth := List.mem_cons_of_mem _ (List.mem_append_left _ (List.mem_append_left _ (List.mem_of_getElem? (i := 10) rfl)))
set_option maxRecDepth 20000 in
theorem mw_X6_takesBreadth_w_2 : (.static yX8_isWithin : Cond) ∈ wsX6_takesBreadth := List.mem_cons_of_mem _ (List.mem_append_left _ (List.mem_append_left _ (List.mem_of_getElem? (i := 9) rfl)))
set_option maxRecDepth 20000 in
theorem mw_X6_takesBreadth_w_3 : (.fieldLink RX6 65 "FontRuns$FontRow" "breadth" "[I" : Cond) ∈ wsX6_takesBreadth := List.mem_cons_of_mem _ (List.mem_append_left _ (List.mem_append_left _ (List.mem_of_getElem? (i := 1) rfl)))
set_option maxRecDepth 20000 in
theorem mw_X6_takesBreadth_w_4 : (.fieldLink RX6 22 "FontRuns$TextReader" "due" "I" : Cond) ∈ wsX6_takesBreadth := List.mem_cons_of_mem _ (List.mem_append_left _ (List.mem_append_left _ (List.mem_of_getElem? (i := 2) rfl)))
theorem ax_X6_takesBreadth_w_0 {e0 e1 e2 : Nat × va_E} : ([1] : List Nat).map (fun i => ([e0, e1, e2] : va_W)[i]?) = ([e1] : va_W).map some := rfl
theorem ax_X6_takesBreadth_w_1 {e0 e1 e2 : Nat × va_E} : ([0, 1, 2] : List Nat).map (fun i => ([e0, e1, e2] : va_W)[i]?) = ([e0, e1, e2] : va_W).map some := rfl
theorem ax_X6_takesBreadth_w_2 {e0 e1 e2 : Nat × va_E} : ([] : List Nat).map (fun i => ([e0, e1, e2] : va_W)[i]?) = ([] : va_W).map some := rfl
set_option maxHeartbeats 4000000 in
set_option maxRecDepth 100000 in
theorem c_X6_takesBreadth_w (l : Launch) (D : va_G) (sz : Nat) (x : Int) (f : Int) (h0 : Nat) (td : Nat) (du : Int) (k1 : Nat) (k2 : Nat) (k3 : Nat) (n : Int) (ck2 : ClassId) (fb : Nat → Int32) (q0 : rg x) (q1 : rg f) (q2 : rg du) (q3 : 0 ≤ n ∧ n ≤ 4) (q4 : f = n - 1) : Met l yX6_takesBreadth wsX6_takesBreadth ({ frames := 2, cells := 0, slots := 0, locals := 43 }) (kPre [.ref h0, .int (zI x), .int (zI f)] D [(h0, .inr (6, [.ref td, .int (zI du)])), (td, .inr (0, [.ref k1, .ref k2, .ref k3, .int (zI n)])), (k2, .inl (ck2, 4, .inl fb))] [(ck2, .int)] sz) (kQS (fun rz t => ∃ (ud : Int) (ub : Nat → Int32), ((rz = 1 ∧ ud = 4 ∧ (1 ≤ n ∧ 49 ≤ x ∧ x ≤ 57) ∧ ub = upd fb (n - 1).toNat (zI (x - 48))) ∨ (rz = 0 ∧ ¬ (1 ≤ n ∧ 49 ≤ x ∧ x ≤ 57))) ∧ (rg ud) ∧ va_P D vwCl [(h0, .inr (6, [.ref td, .int (zI ud)])), (td, .inr (0, [.ref k1, .ref k2, .ref k3, .int (zI n)])), (k2, .inl (ck2, 4, .inl ub))] t.heap ∧ va_D (va_A [(h0, .inr (6, [.ref td, .int (zI du)])), (td, .inr (0, [.ref k1, .ref k2, .ref k3, .int (zI n)])), (k2, .inl (ck2, 4, .inl fb))] sz) [(h0, .inr (6, [.ref td, .int (zI ud)])), (td, .inr (0, [.ref k1, .ref k2, .ref k3, .int (zI n)])), (k2, .inl (ck2, 4, .inl ub))]) (va_A [(h0, .inr (6, [.ref td, .int (zI du)])), (td, .inr (0, [.ref k1, .ref k2, .ref k3, .int (zI n)])), (k2, .inl (ck2, 4, .inl fb))] sz)) 0 0 (va_A [(h0, .inr (6, [.ref td, .int (zI du)])), (td, .inr (0, [.ref k1, .ref k2, .ref k3, .int (zI n)])), (k2, .inl (ck2, 4, .inl fb))] sz) := by
  refine Met.ofW (cc := cX6_takesBreadth) (maxL := 3) (ret := (some .boolean)) (by decide) rfl ?_
  intro p e s m args below meth c s₁ B hml hv
  obtain ⟨rfl, hsz, hP, hK, hD0, hN⟩ := hv
  have hx := B.exec
  have hb := B.bytes
  have hr := B.returns
  have hts := atoms_spec (ws := wsX6_takesBreadth) B.pre
  have hown : s.vm.findClass RX6 = some m.cls := findClass_of_methodNamed B.named
  have hlocks := B.notSynchronized
  subst hsz
  have hD := hD0.self (sz := s.heap.size)
  generalize hAe : va_A [(h0, .inr (6, [.ref td, .int (zI du)])), (td, .inr (0, [.ref k1, .ref k2, .ref k3, .int (zI n)])), (k2, .inl (ck2, 4, .inl fb))] s.heap.size = A at hD ⊢
  have hA : ∀ q : Nat, s.heap.size ≤ q → A q := fun q h => by rw [← hAe]; exact Or.inr h
  have hS : va_S A s.heap s.heap [] := va_S.rf
  have hP : va_P D vwCl [(h0, .inr (6, [.ref td, .int (zI du)])), (td, .inr (0, [.ref k1, .ref k2, .ref k3, .int (zI n)])), (k2, .inl (ck2, 4, .inl fb))] s.heap := hP
  have hl := lv_entry ([.ref h0, .int (zI x), .int (zI f)]) (n := 3) (Nat.le_of_ble_eq_true rfl)
  rw [lg_entry_eq]
  generalize (lg_sl ([.ref h0, .int (zI x), .int (zI f)]) ++ List.replicate (3 - (lg_sl ([.ref h0, .int (zI x), .int (zI f)])).length) Slot.unset).toArray = ls at hl ⊢
  have hl : lv_has ls 3 [(0, .ref h0), (1, .int (zI x)), (2, .int (zI f))] := hl
  refine lv_aload_n hx hb dX6_takesBreadth_0 rfl (lv_at hl 0 rfl) ?_
  refine va_get (D := D) (ci := 6) (v := .ref td) (C := RX6) (T := TX6) (N := 2) hx hb hts (fun _ h9 => List.mem_cons_of_mem _ (List.mem_append_left _ (List.mem_append_right _ h9))) hown hK hP 0 rfl rfl 0 (by decide) (hts (.fieldLink RX6 12 "FontRuns$TextReader" "told" "LFontRuns$FontRow;") mw_X6_takesBreadth_w_0) (fun _ h9 => h9) rfl dX6_takesBreadth_1 ?_
  refine lv_iload_n hx hb dX6_takesBreadth_4 rfl (lv_at hl 2 rfl) ?_
  refine k_callR (va_runV (As := [.int (zI f)]) (rest := []) ⟨hx, hb, hml, hown, hts⟩ (c_X0_isFont l D s.heap.size (f := f) (h0 := td) (k1 := k1) (k2 := k2) (k3 := k3) (n := n) q1 q3) (cwV 1 hts gX6_takesBreadth_X0_isFont rfl rfl rfl (by decide +kernel) ⟨Nat.le_of_ble_eq_true rfl, Nat.le_of_ble_eq_true rfl⟩) (kPreV hP (kD0 hD) hK hN [1] [] ax_X6_takesBreadth_w_0 rfl (by decide +kernel) 1 0 rfl rfl) rfl rfl hl.1 rfl (lv_room (Nat.le_of_ble_eq_true rfl)) dX6_takesBreadth_5 ⟨Nat.le_of_ble_eq_true rfl, Nat.le_of_ble_eq_true rfl⟩) ?_
  refine lv_if_eq (tgt := 22) hx hb dX6_takesBreadth_8 (by decide) (fun c_1 => ?_) (fun c_1 => ?_)
  · have c_1 : ¬ (0 ≤ f ∧ f ≤ n - 1) := b01f c_1
    refine lv_iconst (v := zI 0) hx hb dX6_takesBreadth_22 rfl ?_
    have hP9 := hP.sub (ws' := [(h0, .inr (6, [.ref td, .int (zI du)])), (td, .inr (0, [.ref k1, .ref k2, .ref k3, .int (zI n)])), (k2, .inl (ck2, 4, .inl fb))]) [0, 1, 2] rfl
    have hD9 := hD.sub (ws' := [(h0, .inr (6, [.ref td, .int (zI du)])), (td, .inr (0, [.ref k1, .ref k2, .ref k3, .int (zI n)])), (k2, .inl (ck2, 4, .inl fb))]) [0, 1, 2] (by decide +kernel) rfl
    exact W.zret (v := (zI 0)) hx hb hr rfl (fun t ht hW => kQS_of (by omega) ⟨du, fb, (Or.inr ⟨by omega, by omega⟩), q2, by rw [ht]; exact hP9, hD9⟩ (hS.F ht)) hS.2.2 dX6_takesBreadth_23
  · have c_1 : 0 ≤ f ∧ f ≤ n - 1 := b01t c_1
    refine lv_iload_n hx hb dX6_takesBreadth_11 rfl (lv_at hl 1 rfl) ?_
    refine lv_bipush (v := zI 49) hx hb dX6_takesBreadth_12 (by decide) ?_
    refine lv_bipush (v := zI 57) hx hb dX6_takesBreadth_14 (by decide) ?_
    refine k_callR (va_runSN (As := [.int (zI x), .int (zI 49), .int (zI 57)]) (rest := []) ⟨hx, hb, hml, hown, hts⟩ (c_X8_isWithin l D s.heap.size (v := x) (a := 49) (b := 57) q0 (by omega) (by omega)) (⟨va_cnB 3 hts gX6_takesBreadth_X8_isWithin_n58 rfl rfl rfl (hN.1 (RX6, 58, yX8_isWithin) (by decide +kernel)) (hts (.initialized RX8) mw_X6_takesBreadth_w_1) (by decide +kernel) ⟨Nat.le_of_ble_eq_true rfl, Nat.le_of_ble_eq_true rfl⟩, (hts (.static yX8_isWithin) mw_X6_takesBreadth_w_2), trivial⟩) (kPreS hP (kD0 hD) hK hN [] [] ax_X6_takesBreadth_w_2 rfl (by decide +kernel)) rfl rfl hl.1 rfl (lv_room (Nat.le_of_ble_eq_true rfl)) dX6_takesBreadth_16 ⟨Nat.le_of_ble_eq_true rfl, Nat.le_of_ble_eq_true rfl⟩) ?_
    refine lv_if_ne (tgt := 24) hx hb dX6_takesBreadth_19 (by decide) (fun c_2 => ?_) (fun c_2 => ?_)
    · have c_2 : 49 ≤ x ∧ x ≤ 57 := b01t c_2
      refine lv_aload_n hx hb dX6_takesBreadth_24 rfl (lv_at hl 0 rfl) ?_
      refine va_get (D := D) (ci := 6) (v := .ref td) (C := RX6) (T := TX6) (N := 2) hx hb hts (fun _ h9 => List.mem_cons_of_mem _ (List.mem_append_left _ (List.mem_append_right _ h9))) hown hK hP 0 rfl rfl 0 (by decide) (hts (.fieldLink RX6 12 "FontRuns$TextReader" "told" "LFontRuns$FontRow;") mw_X6_takesBreadth_w_0) (fun _ h9 => h9) rfl dX6_takesBreadth_25 ?_
      refine va_get (D := D) (ci := 0) (v := .ref k2) (C := RX0) (T := TX0) (N := 4) hx hb hts (fun _ h9 => List.mem_cons_of_mem _ (List.mem_append_right _ h9)) hown hK hP 1 rfl rfl 1 (by decide) (hts (.fieldLink RX6 65 "FontRuns$FontRow" "breadth" "[I") mw_X6_takesBreadth_w_3) (fun _ h9 => h9) rfl dX6_takesBreadth_28 ?_
      refine lv_iload_n hx hb dX6_takesBreadth_31 rfl (lv_at hl 2 rfl) ?_
      refine lv_iload_n hx hb dX6_takesBreadth_32 rfl (lv_at hl 1 rfl) ?_
      refine lv_bipush (v := zI 48) hx hb dX6_takesBreadth_33 (by decide) ?_
      refine kz_isub hx hb dX6_takesBreadth_35 ?_
      refine kz_iast hx hb hK hP hD hS 2 0 rfl rfl (by omega) dX6_takesBreadth_36 (fun H locs hP hD hS => ?_)
      have hP : va_P D vwCl [(h0, .inr (6, [.ref td, .int (zI du)])), (td, .inr (0, [.ref k1, .ref k2, .ref k3, .int (zI n)])), (k2, .inl (ck2, 4, .inl (upd fb (f).toNat (zI (x - 48)))))] H := hP
      have hD : va_D A [(h0, .inr (6, [.ref td, .int (zI du)])), (td, .inr (0, [.ref k1, .ref k2, .ref k3, .int (zI n)])), (k2, .inl (ck2, 4, .inl (upd fb (f).toNat (zI (x - 48)))))] := hD
      generalize ef_3 : upd fb (f).toNat (zI (x - 48)) = f_3 at hP hD
      refine lv_aload_n hx hb dX6_takesBreadth_37 rfl (lv_at hl 0 rfl) ?_
      refine lv_iconst (v := zI 4) hx hb dX6_takesBreadth_38 rfl ?_
      refine va_put (D := D) (ci := 6) (v := .int (zI 4)) (ty := .int) (C := RX6) (T := TX6) (N := 2) hx hb hts (fun _ h9 => List.mem_cons_of_mem _ (List.mem_append_left _ (List.mem_append_right _ h9))) tyX6 tyX6_ok nmX6 hown hK hP hD hS 0 rfl rfl 1 (by decide) (hts (.fieldLink RX6 22 "FontRuns$TextReader" "due" "I") mw_X6_takesBreadth_w_4) (fun _ h9 => h9) rfl (by decide +kernel) rfl rfl (Nat.le_of_ble_eq_true rfl) dX6_takesBreadth_39 (fun H locs hP hD hS => ?_)
      have hP : va_P D vwCl [(h0, .inr (6, [.ref td, .int (zI 4)])), (td, .inr (0, [.ref k1, .ref k2, .ref k3, .int (zI n)])), (k2, .inl (ck2, 4, .inl f_3))] H := hP
      have hD : va_D A [(h0, .inr (6, [.ref td, .int (zI 4)])), (td, .inr (0, [.ref k1, .ref k2, .ref k3, .int (zI n)])), (k2, .inl (ck2, 4, .inl f_3))] := hD
      refine lv_iconst (v := zI 1) hx hb dX6_takesBreadth_42 rfl ?_
      have hP9 := hP.sub (ws' := [(h0, .inr (6, [.ref td, .int (zI 4)])), (td, .inr (0, [.ref k1, .ref k2, .ref k3, .int (zI n)])), (k2, .inl (ck2, 4, .inl f_3))]) [0, 1, 2] rfl
      have hD9 := hD.sub (ws' := [(h0, .inr (6, [.ref td, .int (zI 4)])), (td, .inr (0, [.ref k1, .ref k2, .ref k3, .int (zI n)])), (k2, .inl (ck2, 4, .inl f_3))]) [0, 1, 2] (by decide +kernel) rfl
      exact W.zret (v := (zI 1)) hx hb hr rfl (fun t ht hW => kQS_of (by omega) ⟨4, f_3, (Or.inl ⟨by omega, by omega, by omega, by rw [← ef_3, show f = n - 1 by omega]⟩), (by omega), by rw [ht]; exact hP9, hD9⟩ (hS.F ht)) hS.2.2 dX6_takesBreadth_43
    · have c_2 : ¬ (49 ≤ x ∧ x ≤ 57) := b01f c_2
      refine lv_iconst (v := zI 0) hx hb dX6_takesBreadth_22 rfl ?_
      have hP9 := hP.sub (ws' := [(h0, .inr (6, [.ref td, .int (zI du)])), (td, .inr (0, [.ref k1, .ref k2, .ref k3, .int (zI n)])), (k2, .inl (ck2, 4, .inl fb))]) [0, 1, 2] rfl
      have hD9 := hD.sub (ws' := [(h0, .inr (6, [.ref td, .int (zI du)])), (td, .inr (0, [.ref k1, .ref k2, .ref k3, .int (zI n)])), (k2, .inl (ck2, 4, .inl fb))]) [0, 1, 2] (by decide +kernel) rfl
      exact W.zret (v := (zI 0)) hx hb hr rfl (fun t ht hW => kQS_of (by omega) ⟨du, fb, (Or.inr ⟨by omega, by omega⟩), q2, by rw [ht]; exact hP9, hD9⟩ (hS.F ht)) hS.2.2 dX6_takesBreadth_23
theorem dX6_takesLetter_0 : decode cX6_takesLetter 0 = .ok (.aload_n 0, 1) := kqo_2a kbl_X6_takesLetter (pc := 0) rfl
theorem dX6_takesLetter_1 : decode cX6_takesLetter 1 = .ok (.getfield 12, 3) := kqo_b4 (x1 := 0) (x2 := 12) kbl_X6_takesLetter (pc := 1) rfl rfl
theorem dX6_takesLetter_4 : decode cX6_takesLetter 4 = .ok (.iload_n 2, 1) := kqo_1c kbl_X6_takesLetter (pc := 4) rfl
theorem dX6_takesLetter_5 : decode cX6_takesLetter 5 = .ok (.invokevirtual 55, 3) := kqo_b6 (x1 := 0) (x2 := 55) kbl_X6_takesLetter (pc := 5) rfl rfl
theorem dX6_takesLetter_8 : decode cX6_takesLetter 8 = .ok (.ifCond .eq 14, 3) := kqo_99 (x1 := 0) (x2 := 14) kbl_X6_takesLetter (pc := 8) rfl rfl
theorem dX6_takesLetter_11 : decode cX6_takesLetter 11 = .ok (.iload_n 1, 1) := kqo_1b kbl_X6_takesLetter (pc := 11) rfl
theorem dX6_takesLetter_12 : decode cX6_takesLetter 12 = .ok (.bipush 97, 2) := kqo_10 (x1 := 97) kbl_X6_takesLetter (pc := 12) rfl rfl
theorem dX6_takesLetter_14 : decode cX6_takesLetter 14 = .ok (.bipush 112, 2) := kqo_10 (x1 := 112) kbl_X6_takesLetter (pc := 14) rfl rfl
theorem dX6_takesLetter_16 : decode cX6_takesLetter 16 = .ok (.invokestatic 58, 3) := kqo_b8 (x1 := 0) (x2 := 58) kbl_X6_takesLetter (pc := 16) rfl rfl
theorem dX6_takesLetter_19 : decode cX6_takesLetter 19 = .ok (.ifCond .ne 5, 3) := kqo_9a (x1 := 0) (x2 := 5) kbl_X6_takesLetter (pc := 19) rfl rfl
theorem dX6_takesLetter_22 : decode cX6_takesLetter 22 = .ok (.iconst 0, 1) := kqo_03 kbl_X6_takesLetter (pc := 22) rfl
theorem dX6_takesLetter_23 : decode cX6_takesLetter 23 = .ok (.ireturn, 1) := kqo_ac kbl_X6_takesLetter (pc := 23) rfl
theorem dX6_takesLetter_24 : decode cX6_takesLetter 24 = .ok (.iconst 1, 1) := kqo_04 kbl_X6_takesLetter (pc := 24) rfl
theorem dX6_takesLetter_25 : decode cX6_takesLetter 25 = .ok (.iload_n 1, 1) := kqo_1b kbl_X6_takesLetter (pc := 25) rfl
theorem dX6_takesLetter_26 : decode cX6_takesLetter 26 = .ok (.bipush 97, 2) := kqo_10 (x1 := 97) kbl_X6_takesLetter (pc := 26) rfl rfl
theorem dX6_takesLetter_28 : decode cX6_takesLetter 28 = .ok (.isub, 1) := kqo_64 kbl_X6_takesLetter (pc := 28) rfl
theorem dX6_takesLetter_29 : decode cX6_takesLetter 29 = .ok (.ishl, 1) := kqo_78 kbl_X6_takesLetter (pc := 29) rfl
theorem dX6_takesLetter_30 : decode cX6_takesLetter 30 = .ok (.istore_n 3, 1) := kqo_3e kbl_X6_takesLetter (pc := 30) rfl
theorem dX6_takesLetter_31 : decode cX6_takesLetter 31 = .ok (.aload_n 0, 1) := kqo_2a kbl_X6_takesLetter (pc := 31) rfl
theorem dX6_takesLetter_32 : decode cX6_takesLetter 32 = .ok (.getfield 12, 3) := kqo_b4 (x1 := 0) (x2 := 12) kbl_X6_takesLetter (pc := 32) rfl rfl
theorem dX6_takesLetter_35 : decode cX6_takesLetter 35 = .ok (.getfield 51, 3) := kqo_b4 (x1 := 0) (x2 := 51) kbl_X6_takesLetter (pc := 35) rfl rfl
theorem dX6_takesLetter_38 : decode cX6_takesLetter 38 = .ok (.iload_n 2, 1) := kqo_1c kbl_X6_takesLetter (pc := 38) rfl
theorem dX6_takesLetter_39 : decode cX6_takesLetter 39 = .ok (.iaload, 1) := kqo_2e kbl_X6_takesLetter (pc := 39) rfl
theorem dX6_takesLetter_40 : decode cX6_takesLetter 40 = .ok (.iload_n 3, 1) := kqo_1d kbl_X6_takesLetter (pc := 40) rfl
theorem dX6_takesLetter_41 : decode cX6_takesLetter 41 = .ok (.iand, 1) := kqo_7e kbl_X6_takesLetter (pc := 41) rfl
theorem dX6_takesLetter_42 : decode cX6_takesLetter 42 = .ok (.ifCond .ne 20, 3) := kqo_9a (x1 := 0) (x2 := 20) kbl_X6_takesLetter (pc := 42) rfl rfl
theorem dX6_takesLetter_45 : decode cX6_takesLetter 45 = .ok (.aload_n 0, 1) := kqo_2a kbl_X6_takesLetter (pc := 45) rfl
theorem dX6_takesLetter_46 : decode cX6_takesLetter 46 = .ok (.getfield 12, 3) := kqo_b4 (x1 := 0) (x2 := 12) kbl_X6_takesLetter (pc := 46) rfl rfl
theorem dX6_takesLetter_49 : decode cX6_takesLetter 49 = .ok (.getfield 51, 3) := kqo_b4 (x1 := 0) (x2 := 51) kbl_X6_takesLetter (pc := 49) rfl rfl
theorem dX6_takesLetter_52 : decode cX6_takesLetter 52 = .ok (.iload_n 2, 1) := kqo_1c kbl_X6_takesLetter (pc := 52) rfl
theorem dX6_takesLetter_53 : decode cX6_takesLetter 53 = .ok (.iaload, 1) := kqo_2e kbl_X6_takesLetter (pc := 53) rfl
theorem dX6_takesLetter_54 : decode cX6_takesLetter 54 = .ok (.invokestatic 68, 3) := kqo_b8 (x1 := 0) (x2 := 68) kbl_X6_takesLetter (pc := 54) rfl rfl
theorem dX6_takesLetter_57 : decode cX6_takesLetter 57 = .ok (.bipush 8, 2) := kqo_10 (x1 := 8) kbl_X6_takesLetter (pc := 57) rfl rfl
theorem dX6_takesLetter_59 : decode cX6_takesLetter 59 = .ok (.if_icmp .lt 5, 3) := kqo_a1 (x1 := 0) (x2 := 5) kbl_X6_takesLetter (pc := 59) rfl rfl
theorem dX6_takesLetter_62 : decode cX6_takesLetter 62 = .ok (.iconst 0, 1) := kqo_03 kbl_X6_takesLetter (pc := 62) rfl
theorem dX6_takesLetter_63 : decode cX6_takesLetter 63 = .ok (.ireturn, 1) := kqo_ac kbl_X6_takesLetter (pc := 63) rfl
theorem dX6_takesLetter_64 : decode cX6_takesLetter 64 = .ok (.aload_n 0, 1) := kqo_2a kbl_X6_takesLetter (pc := 64) rfl
theorem dX6_takesLetter_65 : decode cX6_takesLetter 65 = .ok (.getfield 12, 3) := kqo_b4 (x1 := 0) (x2 := 12) kbl_X6_takesLetter (pc := 65) rfl rfl
theorem dX6_takesLetter_68 : decode cX6_takesLetter 68 = .ok (.getfield 51, 3) := kqo_b4 (x1 := 0) (x2 := 51) kbl_X6_takesLetter (pc := 68) rfl rfl
theorem dX6_takesLetter_71 : decode cX6_takesLetter 71 = .ok (.iload_n 2, 1) := kqo_1c kbl_X6_takesLetter (pc := 71) rfl
theorem dX6_takesLetter_72 : decode cX6_takesLetter 72 = .ok (.dup2, 1) := kqo_5c kbl_X6_takesLetter (pc := 72) rfl
theorem dX6_takesLetter_73 : decode cX6_takesLetter 73 = .ok (.iaload, 1) := kqo_2e kbl_X6_takesLetter (pc := 73) rfl
theorem dX6_takesLetter_74 : decode cX6_takesLetter 74 = .ok (.iload_n 3, 1) := kqo_1d kbl_X6_takesLetter (pc := 74) rfl
theorem dX6_takesLetter_75 : decode cX6_takesLetter 75 = .ok (.ior, 1) := kqo_80 kbl_X6_takesLetter (pc := 75) rfl
theorem dX6_takesLetter_76 : decode cX6_takesLetter 76 = .ok (.iastore, 1) := kqo_4f kbl_X6_takesLetter (pc := 76) rfl
theorem dX6_takesLetter_77 : decode cX6_takesLetter 77 = .ok (.aload_n 0, 1) := kqo_2a kbl_X6_takesLetter (pc := 77) rfl
theorem dX6_takesLetter_78 : decode cX6_takesLetter 78 = .ok (.iconst 5, 1) := kqo_08 kbl_X6_takesLetter (pc := 78) rfl
theorem dX6_takesLetter_79 : decode cX6_takesLetter 79 = .ok (.putfield 22, 3) := kqo_b5 (x1 := 0) (x2 := 22) kbl_X6_takesLetter (pc := 79) rfl rfl
theorem dX6_takesLetter_82 : decode cX6_takesLetter 82 = .ok (.iconst 1, 1) := kqo_04 kbl_X6_takesLetter (pc := 82) rfl
theorem dX6_takesLetter_83 : decode cX6_takesLetter 83 = .ok (.ireturn, 1) := kqo_ac kbl_X6_takesLetter (pc := 83) rfl
set_option maxRecDepth 20000 in
theorem ggX6_takesLetter_J6_bitCount_0f7a4 : GoodIn wsX6_takesLetter wsJ6_bitCount_0f7a4 := goodIn_4 _ (List.forall_mem_cons.mpr ⟨List.mem_cons_of_mem _ (List.mem_append_left _ (List.mem_append_left _ (List.mem_of_getElem? (i := 15) rfl))), List.forall_mem_cons.mpr ⟨List.mem_cons_of_mem _ (List.mem_append_left _ (List.mem_append_left _ (List.mem_of_getElem? (i := 16) rfl))), List.forall_mem_cons.mpr ⟨List.mem_cons_of_mem _ (List.mem_append_left _ (List.mem_append_left _ (List.mem_of_getElem? (i := 17) rfl))), List.forall_mem_cons.mpr ⟨List.mem_cons_of_mem _ (List.mem_append_left _ (List.mem_append_left _ (List.mem_of_getElem? (i := 18) rfl))), fun _ h9 => absurd h9 List.not_mem_nil⟩⟩⟩⟩) (by decide +kernel)
set_option maxRecDepth 20000 in
theorem gX6_takesLetter_J6_bitCount_0f7a4 : GoodIn wsX6_takesLetter (va_wsS RX6 68 yJ6_bitCount_0f7a4 wsJ6_bitCount_0f7a4) := goodIn_app (goodIn_4 _ (List.forall_mem_cons.mpr ⟨List.mem_cons_of_mem _ (List.mem_append_left _ (List.mem_append_left _ (List.mem_of_getElem? (i := 12) rfl))), List.forall_mem_cons.mpr ⟨List.mem_cons_of_mem _ (List.mem_append_left _ (List.mem_append_left _ (List.mem_of_getElem? (i := 13) rfl))), List.forall_mem_cons.mpr ⟨List.mem_cons_of_mem _ (List.mem_append_left _ (List.mem_append_left _ (List.mem_of_getElem? (i := 14) rfl))), fun _ h9 => absurd h9 List.not_mem_nil⟩⟩⟩) (by decide +kernel)) ggX6_takesLetter_J6_bitCount_0f7a4
set_option maxRecDepth 20000 in
theorem ggX6_takesLetter_X0_isFont : GoodIn wsX6_takesLetter wsX0_isFont := goodIn_4 _ (List.forall_mem_cons.mpr ⟨List.mem_cons_of_mem _ (List.mem_append_left _ (List.mem_append_left _ (List.mem_of_getElem? (i := 7) rfl))), List.forall_mem_append.mpr ⟨List.forall_mem_cons.mpr ⟨List.mem_cons_of_mem _ (List.mem_append_left _ (List.mem_append_left _ (List.mem_of_getElem? (i := 8) rfl))), List.forall_mem_cons.mpr ⟨List.mem_cons_of_mem _ (List.mem_append_left _ (List.mem_append_left _ (List.mem_of_getElem? (i := 9) rfl))), List.forall_mem_cons.mpr ⟨List.mem_cons_of_mem _ (List.mem_append_left _ (List.mem_append_left _ (List.mem_of_getElem? (i := 10) rfl))), List.forall_mem_cons.mpr ⟨List.mem_cons_of_mem _ (List.mem_append_left _ (List.mem_append_left _ (List.mem_of_getElem? (i := 11) rfl))), fun _ h9 => absurd h9 List.not_mem_nil⟩⟩⟩⟩, fun w h9 => List.mem_cons_of_mem _ (List.mem_append_right _ (h9))⟩⟩) (by decide +kernel)
set_option maxRecDepth 20000 in
theorem gX6_takesLetter_X0_isFont : GoodIn wsX6_takesLetter (wsV RX6 55 RX0 yX0_isFont wsX0_isFont) := goodIn_app (goodIn_4 _ (List.forall_mem_cons.mpr ⟨List.mem_cons_of_mem _ (List.mem_append_left _ (List.mem_append_left _ (List.mem_of_getElem? (i := 3) rfl))), List.forall_mem_cons.mpr ⟨List.mem_cons_of_mem _ (List.mem_append_left _ (List.mem_append_left _ (List.mem_of_getElem? (i := 4) rfl))), List.forall_mem_cons.mpr ⟨List.mem_cons_of_mem _ (List.mem_append_left _ (List.mem_append_left _ (List.mem_of_getElem? (i := 5) rfl))), List.forall_mem_cons.mpr ⟨List.mem_cons_of_mem _ (List.mem_append_left _ (List.mem_append_left _ (List.mem_of_getElem? (i := 6) rfl))), fun _ h9 => absurd h9 List.not_mem_nil⟩⟩⟩⟩) (by decide +kernel)) ggX6_takesLetter_X0_isFont
set_option maxRecDepth 20000 in
theorem ggX6_takesLetter_X8_isWithin : GoodIn wsX6_takesLetter wsX8_isWithin := goodIn_4 _ (List.forall_mem_cons.mpr ⟨List.mem_cons_of_mem _ (List.mem_append_left _ (List.mem_append_left _ (List.mem_of_getElem? (i := 11) rfl))), fun _ h9 => absurd h9 List.not_mem_nil⟩) (by decide +kernel)
set_option maxRecDepth 20000 in
theorem gX6_takesLetter_X8_isWithin_n58 : GoodIn wsX6_takesLetter (wsX8_isWithin) := ggX6_takesLetter_X8_isWithin
set_option maxRecDepth 20000 in
theorem mw_X6_takesLetter_w_0 : (.fieldLink RX6 12 "FontRuns$TextReader" "told" "LFontRuns$FontRow;" : Cond) ∈ wsX6_takesLetter := List.mem_cons_of_mem _ (List.mem_append_left _ (List.mem_append_left _ (List.mem_of_getElem? (i := 0) rfl)))
set_option maxRecDepth 20000 in
theorem mw_X6_takesLetter_w_1 : (.initialized RX8 : Cond) ∈ wsX6_takesLetter := List.mem_cons_of_mem _ (List.mem_append_left _ (List.mem_append_left _ (List.mem_of_getElem? (i := 10) rfl)))
set_option maxRecDepth 20000 in
theorem mw_X6_takesLetter_w_2 : (.static yX8_isWithin : Cond) ∈ wsX6_takesLetter := List.mem_cons_of_mem _ (List.mem_append_left _ (List.mem_append_left _ (List.mem_of_getElem? (i := 9) rfl)))
set_option maxRecDepth 20000 in
theorem mw_X6_takesLetter_w_3 : (.fieldLink RX6 51 "FontRuns$FontRow" "has" "[I" : Cond) ∈ wsX6_takesLetter := List.mem_cons_of_mem _ (List.mem_append_left _ (List.mem_append_left _ (List.mem_of_getElem? (i := 1) rfl)))
set_option maxRecDepth 20000 in
theorem mw_X6_takesLetter_w_4 : (.fieldLink RX6 22 "FontRuns$TextReader" "due" "I" : Cond) ∈ wsX6_takesLetter := List.mem_cons_of_mem _ (List.mem_append_left _ (List.mem_append_left _ (List.mem_of_getElem? (i := 2) rfl)))
theorem ax_X6_takesLetter_w_0 {e0 e1 e2 : Nat × va_E} : ([1] : List Nat).map (fun i => ([e0, e1, e2] : va_W)[i]?) = ([e1] : va_W).map some := rfl
theorem ax_X6_takesLetter_w_1 {e0 e1 e2 : Nat × va_E} : ([0, 1, 2] : List Nat).map (fun i => ([e0, e1, e2] : va_W)[i]?) = ([e0, e1, e2] : va_W).map some := rfl
theorem ax_X6_takesLetter_w_2 {e0 e1 e2 : Nat × va_E} : ([] : List Nat).map (fun i => ([e0, e1, e2] : va_W)[i]?) = ([] : va_W).map some := rfl
set_option maxHeartbeats 4000000 in
set_option maxRecDepth 100000 in
theorem c_X6_takesLetter_w (l : Launch) (D : va_G) (sz : Nat) (x : Int) (f : Int) (h0 : Nat) (td : Nat) (du : Int) (k1 : Nat) (k2 : Nat) (k3 : Nat) (n : Int) (ck3 : ClassId) (fh : Nat → Int32) (q0 : rg x) (q1 : rg f) (q2 : rg du) (q3 : 0 ≤ n ∧ n ≤ 4) (q4 : f = n - 1) (q5 : kHb fh n) : Met l yX6_takesLetter wsX6_takesLetter ({ frames := 2, cells := 0, slots := 0, locals := 43 }) (kPre [.ref h0, .int (zI x), .int (zI f)] D [(h0, .inr (6, [.ref td, .int (zI du)])), (td, .inr (0, [.ref k1, .ref k2, .ref k3, .int (zI n)])), (k3, .inl (ck3, 4, .inl fh))] [(ck3, .int)] sz) (kQS (fun rz t => ∃ (ud : Int) (uh : Nat → Int32), ((rz = 1 ∧ ud = 5 ∧ kLtC n fh x = some uh) ∨ (rz = 0 ∧ kLtC n fh x = none)) ∧ (rg ud) ∧ va_P D vwCl [(h0, .inr (6, [.ref td, .int (zI ud)])), (td, .inr (0, [.ref k1, .ref k2, .ref k3, .int (zI n)])), (k3, .inl (ck3, 4, .inl uh))] t.heap ∧ va_D (va_A [(h0, .inr (6, [.ref td, .int (zI du)])), (td, .inr (0, [.ref k1, .ref k2, .ref k3, .int (zI n)])), (k3, .inl (ck3, 4, .inl fh))] sz) [(h0, .inr (6, [.ref td, .int (zI ud)])), (td, .inr (0, [.ref k1, .ref k2, .ref k3, .int (zI n)])), (k3, .inl (ck3, 4, .inl uh))]) (va_A [(h0, .inr (6, [.ref td, .int (zI du)])), (td, .inr (0, [.ref k1, .ref k2, .ref k3, .int (zI n)])), (k3, .inl (ck3, 4, .inl fh))] sz)) 0 0 (va_A [(h0, .inr (6, [.ref td, .int (zI du)])), (td, .inr (0, [.ref k1, .ref k2, .ref k3, .int (zI n)])), (k3, .inl (ck3, 4, .inl fh))] sz) := by
  refine Met.ofW (cc := cX6_takesLetter) (maxL := 4) (ret := (some .boolean)) (by decide) rfl ?_
  intro p e s m args below meth c s₁ B hml hv
  obtain ⟨rfl, hsz, hP, hK, hD0, hN⟩ := hv
  have hx := B.exec
  have hb := B.bytes
  have hr := B.returns
  have hts := atoms_spec (ws := wsX6_takesLetter) B.pre
  have hown : s.vm.findClass RX6 = some m.cls := findClass_of_methodNamed B.named
  have hlocks := B.notSynchronized
  subst hsz
  have hD := hD0.self (sz := s.heap.size)
  generalize hAe : va_A [(h0, .inr (6, [.ref td, .int (zI du)])), (td, .inr (0, [.ref k1, .ref k2, .ref k3, .int (zI n)])), (k3, .inl (ck3, 4, .inl fh))] s.heap.size = A at hD ⊢
  have hA : ∀ q : Nat, s.heap.size ≤ q → A q := fun q h => by rw [← hAe]; exact Or.inr h
  have hS : va_S A s.heap s.heap [] := va_S.rf
  have hP : va_P D vwCl [(h0, .inr (6, [.ref td, .int (zI du)])), (td, .inr (0, [.ref k1, .ref k2, .ref k3, .int (zI n)])), (k3, .inl (ck3, 4, .inl fh))] s.heap := hP
  have hl := lv_entry ([.ref h0, .int (zI x), .int (zI f)]) (n := 4) (Nat.le_of_ble_eq_true rfl)
  rw [lg_entry_eq]
  generalize (lg_sl ([.ref h0, .int (zI x), .int (zI f)]) ++ List.replicate (4 - (lg_sl ([.ref h0, .int (zI x), .int (zI f)])).length) Slot.unset).toArray = ls at hl ⊢
  have hl : lv_has ls 4 [(0, .ref h0), (1, .int (zI x)), (2, .int (zI f))] := hl
  refine lv_aload_n hx hb dX6_takesLetter_0 rfl (lv_at hl 0 rfl) ?_
  refine va_get (D := D) (ci := 6) (v := .ref td) (C := RX6) (T := TX6) (N := 2) hx hb hts (fun _ h9 => List.mem_cons_of_mem _ (List.mem_append_left _ (List.mem_append_right _ h9))) hown hK hP 0 rfl rfl 0 (by decide) (hts (.fieldLink RX6 12 "FontRuns$TextReader" "told" "LFontRuns$FontRow;") mw_X6_takesLetter_w_0) (fun _ h9 => h9) rfl dX6_takesLetter_1 ?_
  refine lv_iload_n hx hb dX6_takesLetter_4 rfl (lv_at hl 2 rfl) ?_
  refine k_callR (va_runV (As := [.int (zI f)]) (rest := []) ⟨hx, hb, hml, hown, hts⟩ (c_X0_isFont l D s.heap.size (f := f) (h0 := td) (k1 := k1) (k2 := k2) (k3 := k3) (n := n) q1 q3) (cwV 1 hts gX6_takesLetter_X0_isFont rfl rfl rfl (by decide +kernel) ⟨Nat.le_of_ble_eq_true rfl, Nat.le_of_ble_eq_true rfl⟩) (kPreV hP (kD0 hD) hK hN [1] [] ax_X6_takesLetter_w_0 rfl (by decide +kernel) 1 0 rfl rfl) rfl rfl hl.1 rfl (lv_room (Nat.le_of_ble_eq_true rfl)) dX6_takesLetter_5 ⟨Nat.le_of_ble_eq_true rfl, Nat.le_of_ble_eq_true rfl⟩) ?_
  refine lv_if_eq (tgt := 22) hx hb dX6_takesLetter_8 (by decide) (fun c_1 => ?_) (fun c_1 => ?_)
  · have c_1 : ¬ (0 ≤ f ∧ f ≤ n - 1) := b01f c_1
    refine lv_iconst (v := zI 0) hx hb dX6_takesLetter_22 rfl ?_
    have hP9 := hP.sub (ws' := [(h0, .inr (6, [.ref td, .int (zI du)])), (td, .inr (0, [.ref k1, .ref k2, .ref k3, .int (zI n)])), (k3, .inl (ck3, 4, .inl fh))]) [0, 1, 2] rfl
    have hD9 := hD.sub (ws' := [(h0, .inr (6, [.ref td, .int (zI du)])), (td, .inr (0, [.ref k1, .ref k2, .ref k3, .int (zI n)])), (k3, .inl (ck3, 4, .inl fh))]) [0, 1, 2] (by decide +kernel) rfl
    exact W.zret (v := (zI 0)) hx hb hr rfl (fun t ht hW => kQS_of (by omega) ⟨du, fh, (Or.inr ⟨by omega, kLtC_n (by omega)⟩), q2, by rw [ht]; exact hP9, hD9⟩ (hS.F ht)) hS.2.2 dX6_takesLetter_23
  · have c_1 : 0 ≤ f ∧ f ≤ n - 1 := b01t c_1
    refine lv_iload_n hx hb dX6_takesLetter_11 rfl (lv_at hl 1 rfl) ?_
    refine lv_bipush (v := zI 97) hx hb dX6_takesLetter_12 (by decide) ?_
    refine lv_bipush (v := zI 112) hx hb dX6_takesLetter_14 (by decide) ?_
    refine k_callR (va_runSN (As := [.int (zI x), .int (zI 97), .int (zI 112)]) (rest := []) ⟨hx, hb, hml, hown, hts⟩ (c_X8_isWithin l D s.heap.size (v := x) (a := 97) (b := 112) q0 (by omega) (by omega)) (⟨va_cnB 3 hts gX6_takesLetter_X8_isWithin_n58 rfl rfl rfl (hN.1 (RX6, 58, yX8_isWithin) (by decide +kernel)) (hts (.initialized RX8) mw_X6_takesLetter_w_1) (by decide +kernel) ⟨Nat.le_of_ble_eq_true rfl, Nat.le_of_ble_eq_true rfl⟩, (hts (.static yX8_isWithin) mw_X6_takesLetter_w_2), trivial⟩) (kPreS hP (kD0 hD) hK hN [] [] ax_X6_takesLetter_w_2 rfl (by decide +kernel)) rfl rfl hl.1 rfl (lv_room (Nat.le_of_ble_eq_true rfl)) dX6_takesLetter_16 ⟨Nat.le_of_ble_eq_true rfl, Nat.le_of_ble_eq_true rfl⟩) ?_
    refine lv_if_ne (tgt := 24) hx hb dX6_takesLetter_19 (by decide) (fun c_2 => ?_) (fun c_2 => ?_)
    · have c_2 : 97 ≤ x ∧ x ≤ 112 := b01t c_2
      refine lv_iconst (v := zI 1) hx hb dX6_takesLetter_24 rfl ?_
      refine lv_iload_n hx hb dX6_takesLetter_25 rfl (lv_at hl 1 rfl) ?_
      refine lv_bipush (v := zI 97) hx hb dX6_takesLetter_26 (by decide) ?_
      refine kz_isub hx hb dX6_takesLetter_28 ?_
      refine lv_ishl hx hb dX6_takesLetter_29 ?_
      refine kz_any (fun z_3 rz_3 ez_3 => ?_)
      refine lv_istore_n (lv' := [(3, .int (zI z_3)), (0, .ref h0), (1, .int (zI x)), (2, .int (zI f))]) hx hb dX6_takesLetter_30 rfl hl (by decide) rfl (fun ls hl => ?_)
      refine lv_aload_n hx hb dX6_takesLetter_31 rfl (lv_at hl 1 rfl) ?_
      refine va_get (D := D) (ci := 6) (v := .ref td) (C := RX6) (T := TX6) (N := 2) hx hb hts (fun _ h9 => List.mem_cons_of_mem _ (List.mem_append_left _ (List.mem_append_right _ h9))) hown hK hP 0 rfl rfl 0 (by decide) (hts (.fieldLink RX6 12 "FontRuns$TextReader" "told" "LFontRuns$FontRow;") mw_X6_takesLetter_w_0) (fun _ h9 => h9) rfl dX6_takesLetter_32 ?_
      refine va_get (D := D) (ci := 0) (v := .ref k3) (C := RX0) (T := TX0) (N := 4) hx hb hts (fun _ h9 => List.mem_cons_of_mem _ (List.mem_append_right _ h9)) hown hK hP 1 rfl rfl 2 (by decide) (hts (.fieldLink RX6 51 "FontRuns$FontRow" "has" "[I") mw_X6_takesLetter_w_3) (fun _ h9 => h9) rfl dX6_takesLetter_35 ?_
      refine lv_iload_n hx hb dX6_takesLetter_38 rfl (lv_at hl 3 rfl) ?_
      refine kz_iald hx hb hK hP 2 0 rfl rfl (by omega) dX6_takesLetter_39 (fun z_4 rz_4 ez_4 => ?_)
      refine lv_iload_n hx hb dX6_takesLetter_40 rfl (lv_at hl 0 rfl) ?_
      refine lv_iand hx hb dX6_takesLetter_41 ?_
      refine kz_any (fun z_5 rz_5 ez_5 => ?_)
      refine kz_if_ne (tgt := 62) hx hb dX6_takesLetter_42 (by decide) (by omega) (fun c_6 => ?_) (fun c_6 => ?_)
      · refine lv_iconst (v := zI 0) hx hb dX6_takesLetter_62 rfl ?_
        have hP9 := hP.sub (ws' := [(h0, .inr (6, [.ref td, .int (zI du)])), (td, .inr (0, [.ref k1, .ref k2, .ref k3, .int (zI n)])), (k3, .inl (ck3, 4, .inl fh))]) [0, 1, 2] rfl
        have hD9 := hD.sub (ws' := [(h0, .inr (6, [.ref td, .int (zI du)])), (td, .inr (0, [.ref k1, .ref k2, .ref k3, .int (zI n)])), (k3, .inl (ck3, 4, .inl fh))]) [0, 1, 2] (by decide +kernel) rfl
        exact W.zret (v := (zI 0)) hx hb hr rfl (fun t ht hW => kQS_of (by omega) ⟨du, fh, (Or.inr ⟨by omega, kLtC_b2 (by omega) (by omega) ez_3 ez_4 rz_5 ez_5 (by omega)⟩), q2, by rw [ht]; exact hP9, hD9⟩ (hS.F ht)) hS.2.2 dX6_takesLetter_63
      · refine lv_aload_n hx hb dX6_takesLetter_45 rfl (lv_at hl 1 rfl) ?_
        refine va_get (D := D) (ci := 6) (v := .ref td) (C := RX6) (T := TX6) (N := 2) hx hb hts (fun _ h9 => List.mem_cons_of_mem _ (List.mem_append_left _ (List.mem_append_right _ h9))) hown hK hP 0 rfl rfl 0 (by decide) (hts (.fieldLink RX6 12 "FontRuns$TextReader" "told" "LFontRuns$FontRow;") mw_X6_takesLetter_w_0) (fun _ h9 => h9) rfl dX6_takesLetter_46 ?_
        refine va_get (D := D) (ci := 0) (v := .ref k3) (C := RX0) (T := TX0) (N := 4) hx hb hts (fun _ h9 => List.mem_cons_of_mem _ (List.mem_append_right _ h9)) hown hK hP 1 rfl rfl 2 (by decide) (hts (.fieldLink RX6 51 "FontRuns$FontRow" "has" "[I") mw_X6_takesLetter_w_3) (fun _ h9 => h9) rfl dX6_takesLetter_49 ?_
        refine lv_iload_n hx hb dX6_takesLetter_52 rfl (lv_at hl 3 rfl) ?_
        refine kz_iald hx hb hK hP 2 0 rfl rfl (by omega) dX6_takesLetter_53 (fun z_7 rz_7 ez_7 => ?_)
        have q9 : z_4 = z_7 := (zI_eq rz_4 rz_7).mp (ez_4.symm.trans ez_7)
        subst q9
        refine k_callR (va_runS (As := [.int (zI z_4)]) (rest := []) ⟨hx, hb, hml, hown, hts⟩ (c_J6_bitCount_0f7a4_w l D s.heap.size (x := z_4) (by omega)) (va_cwS 1 hts gX6_takesLetter_J6_bitCount_0f7a4 rfl rfl rfl (by decide +kernel) ⟨Nat.le_of_ble_eq_true rfl, Nat.le_of_ble_eq_true rfl⟩) (kPreS hP (kD0 hD) hK hN [] [] ax_X6_takesLetter_w_2 rfl (by decide +kernel)) rfl rfl hl.1 rfl (lv_room (Nat.le_of_ble_eq_true rfl)) dX6_takesLetter_54 ⟨Nat.le_of_ble_eq_true rfl, Nat.le_of_ble_eq_true rfl⟩) ?_
        refine kz_any (fun z_8 rz_8 ez_8 => ?_)
        refine lv_bipush (v := zI 8) hx hb dX6_takesLetter_57 (by decide) ?_
        refine kz_icmp_lt (tgt := 64) hx hb dX6_takesLetter_59 (by decide) (by omega) (by omega) (fun c_9 => ?_) (fun c_9 => ?_)
        · refine lv_aload_n hx hb dX6_takesLetter_64 rfl (lv_at hl 1 rfl) ?_
          refine va_get (D := D) (ci := 6) (v := .ref td) (C := RX6) (T := TX6) (N := 2) hx hb hts (fun _ h9 => List.mem_cons_of_mem _ (List.mem_append_left _ (List.mem_append_right _ h9))) hown hK hP 0 rfl rfl 0 (by decide) (hts (.fieldLink RX6 12 "FontRuns$TextReader" "told" "LFontRuns$FontRow;") mw_X6_takesLetter_w_0) (fun _ h9 => h9) rfl dX6_takesLetter_65 ?_
          refine va_get (D := D) (ci := 0) (v := .ref k3) (C := RX0) (T := TX0) (N := 4) hx hb hts (fun _ h9 => List.mem_cons_of_mem _ (List.mem_append_right _ h9)) hown hK hP 1 rfl rfl 2 (by decide) (hts (.fieldLink RX6 51 "FontRuns$FontRow" "has" "[I") mw_X6_takesLetter_w_3) (fun _ h9 => h9) rfl dX6_takesLetter_68 ?_
          refine lv_iload_n hx hb dX6_takesLetter_71 rfl (lv_at hl 3 rfl) ?_
          refine lv_dup2_11 hx hb dX6_takesLetter_72 rfl rfl ?_
          refine kz_iald hx hb hK hP 2 0 rfl rfl (by omega) dX6_takesLetter_73 (fun z_10 rz_10 ez_10 => ?_)
          have q9 : z_4 = z_10 := (zI_eq rz_4 rz_10).mp (ez_4.symm.trans ez_10)
          subst q9
          refine lv_iload_n hx hb dX6_takesLetter_74 rfl (lv_at hl 0 rfl) ?_
          refine lv_ior hx hb dX6_takesLetter_75 ?_
          refine kz_any (fun z_11 rz_11 ez_11 => ?_)
          refine kz_iast hx hb hK hP hD hS 2 0 rfl rfl (by omega) dX6_takesLetter_76 (fun H locs hP hD hS => ?_)
          have hP : va_P D vwCl [(h0, .inr (6, [.ref td, .int (zI du)])), (td, .inr (0, [.ref k1, .ref k2, .ref k3, .int (zI n)])), (k3, .inl (ck3, 4, .inl (upd fh (f).toNat (zI z_11))))] H := hP
          have hD : va_D A [(h0, .inr (6, [.ref td, .int (zI du)])), (td, .inr (0, [.ref k1, .ref k2, .ref k3, .int (zI n)])), (k3, .inl (ck3, 4, .inl (upd fh (f).toNat (zI z_11))))] := hD
          generalize ef_12 : upd fh (f).toNat (zI z_11) = f_12 at hP hD
          refine lv_aload_n hx hb dX6_takesLetter_77 rfl (lv_at hl 1 rfl) ?_
          refine lv_iconst (v := zI 5) hx hb dX6_takesLetter_78 rfl ?_
          refine va_put (D := D) (ci := 6) (v := .int (zI 5)) (ty := .int) (C := RX6) (T := TX6) (N := 2) hx hb hts (fun _ h9 => List.mem_cons_of_mem _ (List.mem_append_left _ (List.mem_append_right _ h9))) tyX6 tyX6_ok nmX6 hown hK hP hD hS 0 rfl rfl 1 (by decide) (hts (.fieldLink RX6 22 "FontRuns$TextReader" "due" "I") mw_X6_takesLetter_w_4) (fun _ h9 => h9) rfl (by decide +kernel) rfl rfl (Nat.le_of_ble_eq_true rfl) dX6_takesLetter_79 (fun H locs hP hD hS => ?_)
          have hP : va_P D vwCl [(h0, .inr (6, [.ref td, .int (zI 5)])), (td, .inr (0, [.ref k1, .ref k2, .ref k3, .int (zI n)])), (k3, .inl (ck3, 4, .inl f_12))] H := hP
          have hD : va_D A [(h0, .inr (6, [.ref td, .int (zI 5)])), (td, .inr (0, [.ref k1, .ref k2, .ref k3, .int (zI n)])), (k3, .inl (ck3, 4, .inl f_12))] := hD
          refine lv_iconst (v := zI 1) hx hb dX6_takesLetter_82 rfl ?_
          have hP9 := hP.sub (ws' := [(h0, .inr (6, [.ref td, .int (zI 5)])), (td, .inr (0, [.ref k1, .ref k2, .ref k3, .int (zI n)])), (k3, .inl (ck3, 4, .inl f_12))]) [0, 1, 2] rfl
          have hD9 := hD.sub (ws' := [(h0, .inr (6, [.ref td, .int (zI 5)])), (td, .inr (0, [.ref k1, .ref k2, .ref k3, .int (zI n)])), (k3, .inl (ck3, 4, .inl f_12))]) [0, 1, 2] (by decide +kernel) rfl
          exact W.zret (v := (zI 1)) hx hb hr rfl (fun t ht hW => kQS_of (by omega) ⟨5, f_12, (Or.inl ⟨by omega, by omega, kLtC_y2 q5 (by omega) (by omega) (by omega) ez_3 rz_4 ez_4 rz_5 ez_5 (by omega) rz_8 ez_8 (by omega) ez_11 ef_12⟩), (by omega), by rw [ht]; exact hP9, hD9⟩ (hS.F ht)) hS.2.2 dX6_takesLetter_83
        · refine lv_iconst (v := zI 0) hx hb dX6_takesLetter_62 rfl ?_
          have hP9 := hP.sub (ws' := [(h0, .inr (6, [.ref td, .int (zI du)])), (td, .inr (0, [.ref k1, .ref k2, .ref k3, .int (zI n)])), (k3, .inl (ck3, 4, .inl fh))]) [0, 1, 2] rfl
          have hD9 := hD.sub (ws' := [(h0, .inr (6, [.ref td, .int (zI du)])), (td, .inr (0, [.ref k1, .ref k2, .ref k3, .int (zI n)])), (k3, .inl (ck3, 4, .inl fh))]) [0, 1, 2] (by decide +kernel) rfl
          exact W.zret (v := (zI 0)) hx hb hr rfl (fun t ht hW => kQS_of (by omega) ⟨du, fh, (Or.inr ⟨by omega, kLtC_82 q5 (by omega) (by omega) rz_4 ez_4 rz_8 ez_8 (by omega)⟩), q2, by rw [ht]; exact hP9, hD9⟩ (hS.F ht)) hS.2.2 dX6_takesLetter_63
    · have c_2 : ¬ (97 ≤ x ∧ x ≤ 112) := b01f c_2
      refine lv_iconst (v := zI 0) hx hb dX6_takesLetter_22 rfl ?_
      have hP9 := hP.sub (ws' := [(h0, .inr (6, [.ref td, .int (zI du)])), (td, .inr (0, [.ref k1, .ref k2, .ref k3, .int (zI n)])), (k3, .inl (ck3, 4, .inl fh))]) [0, 1, 2] rfl
      have hD9 := hD.sub (ws' := [(h0, .inr (6, [.ref td, .int (zI du)])), (td, .inr (0, [.ref k1, .ref k2, .ref k3, .int (zI n)])), (k3, .inl (ck3, 4, .inl fh))]) [0, 1, 2] (by decide +kernel) rfl
      exact W.zret (v := (zI 0)) hx hb hr rfl (fun t ht hW => kQS_of (by omega) ⟨du, fh, (Or.inr ⟨by omega, kLtC_n (by omega)⟩), q2, by rw [ht]; exact hP9, hD9⟩ (hS.F ht)) hS.2.2 dX6_takesLetter_23
theorem dX6_goesOnWith_0 : decode cX6_goesOnWith 0 = .ok (.aload_n 0, 1) := kqo_2a kbl_X6_goesOnWith (pc := 0) rfl
theorem dX6_goesOnWith_1 : decode cX6_goesOnWith 1 = .ok (.getfield 22, 3) := kqo_b4 (x1 := 0) (x2 := 22) kbl_X6_goesOnWith (pc := 1) rfl rfl
theorem dX6_goesOnWith_4 : decode cX6_goesOnWith 4 = .ok (.tableswitch 93 0 4 #[36, 42, 48, 63, 78], 36) := by decide +kernel
theorem dX6_goesOnWith_40 : decode cX6_goesOnWith 40 = .ok (.aload_n 0, 1) := kqo_2a kbl_X6_goesOnWith (pc := 40) rfl
theorem dX6_goesOnWith_41 : decode cX6_goesOnWith 41 = .ok (.iload_n 1, 1) := kqo_1b kbl_X6_goesOnWith (pc := 41) rfl
theorem dX6_goesOnWith_42 : decode cX6_goesOnWith 42 = .ok (.invokevirtual 35, 3) := kqo_b6 (x1 := 0) (x2 := 35) kbl_X6_goesOnWith (pc := 42) rfl rfl
theorem dX6_goesOnWith_45 : decode cX6_goesOnWith 45 = .ok (.ireturn, 1) := kqo_ac kbl_X6_goesOnWith (pc := 45) rfl
theorem dX6_goesOnWith_46 : decode cX6_goesOnWith 46 = .ok (.aload_n 0, 1) := kqo_2a kbl_X6_goesOnWith (pc := 46) rfl
theorem dX6_goesOnWith_47 : decode cX6_goesOnWith 47 = .ok (.iload_n 1, 1) := kqo_1b kbl_X6_goesOnWith (pc := 47) rfl
theorem dX6_goesOnWith_48 : decode cX6_goesOnWith 48 = .ok (.invokevirtual 38, 3) := kqo_b6 (x1 := 0) (x2 := 38) kbl_X6_goesOnWith (pc := 48) rfl rfl
theorem dX6_goesOnWith_51 : decode cX6_goesOnWith 51 = .ok (.ireturn, 1) := kqo_ac kbl_X6_goesOnWith (pc := 51) rfl
theorem dX6_goesOnWith_52 : decode cX6_goesOnWith 52 = .ok (.aload_n 0, 1) := kqo_2a kbl_X6_goesOnWith (pc := 52) rfl
theorem dX6_goesOnWith_53 : decode cX6_goesOnWith 53 = .ok (.iload_n 1, 1) := kqo_1b kbl_X6_goesOnWith (pc := 53) rfl
theorem dX6_goesOnWith_54 : decode cX6_goesOnWith 54 = .ok (.aload_n 0, 1) := kqo_2a kbl_X6_goesOnWith (pc := 54) rfl
theorem dX6_goesOnWith_55 : decode cX6_goesOnWith 55 = .ok (.getfield 12, 3) := kqo_b4 (x1 := 0) (x2 := 12) kbl_X6_goesOnWith (pc := 55) rfl rfl
theorem dX6_goesOnWith_58 : decode cX6_goesOnWith 58 = .ok (.getfield 18, 3) := kqo_b4 (x1 := 0) (x2 := 18) kbl_X6_goesOnWith (pc := 58) rfl rfl
theorem dX6_goesOnWith_61 : decode cX6_goesOnWith 61 = .ok (.iconst 1, 1) := kqo_04 kbl_X6_goesOnWith (pc := 61) rfl
theorem dX6_goesOnWith_62 : decode cX6_goesOnWith 62 = .ok (.isub, 1) := kqo_64 kbl_X6_goesOnWith (pc := 62) rfl
theorem dX6_goesOnWith_63 : decode cX6_goesOnWith 63 = .ok (.invokevirtual 41, 3) := kqo_b6 (x1 := 0) (x2 := 41) kbl_X6_goesOnWith (pc := 63) rfl rfl
theorem dX6_goesOnWith_66 : decode cX6_goesOnWith 66 = .ok (.ireturn, 1) := kqo_ac kbl_X6_goesOnWith (pc := 66) rfl
theorem dX6_goesOnWith_67 : decode cX6_goesOnWith 67 = .ok (.aload_n 0, 1) := kqo_2a kbl_X6_goesOnWith (pc := 67) rfl
theorem dX6_goesOnWith_68 : decode cX6_goesOnWith 68 = .ok (.iload_n 1, 1) := kqo_1b kbl_X6_goesOnWith (pc := 68) rfl
theorem dX6_goesOnWith_69 : decode cX6_goesOnWith 69 = .ok (.aload_n 0, 1) := kqo_2a kbl_X6_goesOnWith (pc := 69) rfl
theorem dX6_goesOnWith_70 : decode cX6_goesOnWith 70 = .ok (.getfield 12, 3) := kqo_b4 (x1 := 0) (x2 := 12) kbl_X6_goesOnWith (pc := 70) rfl rfl
theorem dX6_goesOnWith_73 : decode cX6_goesOnWith 73 = .ok (.getfield 18, 3) := kqo_b4 (x1 := 0) (x2 := 18) kbl_X6_goesOnWith (pc := 73) rfl rfl
theorem dX6_goesOnWith_76 : decode cX6_goesOnWith 76 = .ok (.iconst 1, 1) := kqo_04 kbl_X6_goesOnWith (pc := 76) rfl
theorem dX6_goesOnWith_77 : decode cX6_goesOnWith 77 = .ok (.isub, 1) := kqo_64 kbl_X6_goesOnWith (pc := 77) rfl
theorem dX6_goesOnWith_78 : decode cX6_goesOnWith 78 = .ok (.invokevirtual 45, 3) := kqo_b6 (x1 := 0) (x2 := 45) kbl_X6_goesOnWith (pc := 78) rfl rfl
theorem dX6_goesOnWith_81 : decode cX6_goesOnWith 81 = .ok (.ireturn, 1) := kqo_ac kbl_X6_goesOnWith (pc := 81) rfl
theorem dX6_goesOnWith_82 : decode cX6_goesOnWith 82 = .ok (.aload_n 0, 1) := kqo_2a kbl_X6_goesOnWith (pc := 82) rfl
theorem dX6_goesOnWith_83 : decode cX6_goesOnWith 83 = .ok (.iload_n 1, 1) := kqo_1b kbl_X6_goesOnWith (pc := 83) rfl
theorem dX6_goesOnWith_84 : decode cX6_goesOnWith 84 = .ok (.aload_n 0, 1) := kqo_2a kbl_X6_goesOnWith (pc := 84) rfl
theorem dX6_goesOnWith_85 : decode cX6_goesOnWith 85 = .ok (.getfield 12, 3) := kqo_b4 (x1 := 0) (x2 := 12) kbl_X6_goesOnWith (pc := 85) rfl rfl
theorem dX6_goesOnWith_88 : decode cX6_goesOnWith 88 = .ok (.getfield 18, 3) := kqo_b4 (x1 := 0) (x2 := 18) kbl_X6_goesOnWith (pc := 88) rfl rfl
theorem dX6_goesOnWith_91 : decode cX6_goesOnWith 91 = .ok (.iconst 1, 1) := kqo_04 kbl_X6_goesOnWith (pc := 91) rfl
theorem dX6_goesOnWith_92 : decode cX6_goesOnWith 92 = .ok (.isub, 1) := kqo_64 kbl_X6_goesOnWith (pc := 92) rfl
theorem dX6_goesOnWith_93 : decode cX6_goesOnWith 93 = .ok (.invokevirtual 48, 3) := kqo_b6 (x1 := 0) (x2 := 48) kbl_X6_goesOnWith (pc := 93) rfl rfl
theorem dX6_goesOnWith_96 : decode cX6_goesOnWith 96 = .ok (.ireturn, 1) := kqo_ac kbl_X6_goesOnWith (pc := 96) rfl
theorem dX6_goesOnWith_97 : decode cX6_goesOnWith 97 = .ok (.iload_n 1, 1) := kqo_1b kbl_X6_goesOnWith (pc := 97) rfl
theorem dX6_goesOnWith_98 : decode cX6_goesOnWith 98 = .ok (.bipush 59, 2) := kqo_10 (x1 := 59) kbl_X6_goesOnWith (pc := 98) rfl rfl
theorem dX6_goesOnWith_100 : decode cX6_goesOnWith 100 = .ok (.if_icmp .ne 11, 3) := kqo_a0 (x1 := 0) (x2 := 11) kbl_X6_goesOnWith (pc := 100) rfl rfl
theorem dX6_goesOnWith_103 : decode cX6_goesOnWith 103 = .ok (.aload_n 0, 1) := kqo_2a kbl_X6_goesOnWith (pc := 103) rfl
theorem dX6_goesOnWith_104 : decode cX6_goesOnWith 104 = .ok (.iload_n 1, 1) := kqo_1b kbl_X6_goesOnWith (pc := 104) rfl
theorem dX6_goesOnWith_105 : decode cX6_goesOnWith 105 = .ok (.invokevirtual 38, 3) := kqo_b6 (x1 := 0) (x2 := 38) kbl_X6_goesOnWith (pc := 105) rfl rfl
theorem dX6_goesOnWith_108 : decode cX6_goesOnWith 108 = .ok (.goto 17, 3) := kqo_a7 (x1 := 0) (x2 := 17) kbl_X6_goesOnWith (pc := 108) rfl rfl
theorem dX6_goesOnWith_111 : decode cX6_goesOnWith 111 = .ok (.aload_n 0, 1) := kqo_2a kbl_X6_goesOnWith (pc := 111) rfl
theorem dX6_goesOnWith_112 : decode cX6_goesOnWith 112 = .ok (.iload_n 1, 1) := kqo_1b kbl_X6_goesOnWith (pc := 112) rfl
theorem dX6_goesOnWith_113 : decode cX6_goesOnWith 113 = .ok (.aload_n 0, 1) := kqo_2a kbl_X6_goesOnWith (pc := 113) rfl
theorem dX6_goesOnWith_114 : decode cX6_goesOnWith 114 = .ok (.getfield 12, 3) := kqo_b4 (x1 := 0) (x2 := 12) kbl_X6_goesOnWith (pc := 114) rfl rfl
theorem dX6_goesOnWith_117 : decode cX6_goesOnWith 117 = .ok (.getfield 18, 3) := kqo_b4 (x1 := 0) (x2 := 18) kbl_X6_goesOnWith (pc := 117) rfl rfl
theorem dX6_goesOnWith_120 : decode cX6_goesOnWith 120 = .ok (.iconst 1, 1) := kqo_04 kbl_X6_goesOnWith (pc := 120) rfl
theorem dX6_goesOnWith_121 : decode cX6_goesOnWith 121 = .ok (.isub, 1) := kqo_64 kbl_X6_goesOnWith (pc := 121) rfl
theorem dX6_goesOnWith_122 : decode cX6_goesOnWith 122 = .ok (.invokevirtual 48, 3) := kqo_b6 (x1 := 0) (x2 := 48) kbl_X6_goesOnWith (pc := 122) rfl rfl
theorem dX6_goesOnWith_125 : decode cX6_goesOnWith 125 = .ok (.ireturn, 1) := kqo_ac kbl_X6_goesOnWith (pc := 125) rfl
set_option maxRecDepth 20000 in
theorem ggX6_goesOnWith_X6_takesBreadth : GoodIn wsX6_goesOnWith wsX6_takesBreadth := goodIn_4 _ (List.forall_mem_cons.mpr ⟨List.mem_cons_of_mem _ (List.mem_append_left _ (List.mem_append_left _ (List.mem_append_right _ (List.mem_of_getElem? (i := 6) rfl)))), List.forall_mem_append.mpr ⟨List.forall_mem_append.mpr ⟨List.forall_mem_cons.mpr ⟨List.mem_cons_of_mem _ (List.mem_append_left _ (List.mem_append_left _ (List.mem_append_left _ (List.mem_of_getElem? (i := 1) rfl)))), List.forall_mem_cons.mpr ⟨List.mem_cons_of_mem _ (List.mem_append_left _ (List.mem_append_left _ (List.mem_append_right _ (List.mem_of_getElem? (i := 7) rfl)))), List.forall_mem_cons.mpr ⟨List.mem_cons_of_mem _ (List.mem_append_left _ (List.mem_append_left _ (List.mem_append_left _ (List.mem_of_getElem? (i := 0) rfl)))), List.forall_mem_cons.mpr ⟨List.mem_cons_of_mem _ (List.mem_append_left _ (List.mem_append_left _ (List.mem_append_left _ (List.mem_of_getElem? (i := 18) rfl)))), List.forall_mem_cons.mpr ⟨List.mem_cons_of_mem _ (List.mem_append_left _ (List.mem_append_left _ (List.mem_append_left _ (List.mem_of_getElem? (i := 19) rfl)))), List.forall_mem_cons.mpr ⟨List.mem_cons_of_mem _ (List.mem_append_left _ (List.mem_append_left _ (List.mem_append_left _ (List.mem_of_getElem? (i := 20) rfl)))), List.forall_mem_cons.mpr ⟨List.mem_cons_of_mem _ (List.mem_append_left _ (List.mem_append_left _ (List.mem_append_left _ (List.mem_of_getElem? (i := 21) rfl)))), List.forall_mem_cons.mpr ⟨List.mem_cons_of_mem _ (List.mem_append_left _ (List.mem_append_left _ (List.mem_append_left _ (List.mem_of_getElem? (i := 22) rfl)))), List.forall_mem_cons.mpr ⟨List.mem_cons_of_mem _ (List.mem_append_left _ (List.mem_append_left _ (List.mem_append_left _ (List.mem_of_getElem? (i := 23) rfl)))), List.forall_mem_cons.mpr ⟨List.mem_cons_of_mem _ (List.mem_append_left _ (List.mem_append_left _ (List.mem_append_right _ (List.mem_of_getElem? (i := 0) rfl)))), List.forall_mem_cons.mpr ⟨List.mem_cons_of_mem _ (List.mem_append_left _ (List.mem_append_left _ (List.mem_append_right _ (List.mem_of_getElem? (i := 1) rfl)))), List.forall_mem_cons.mpr ⟨List.mem_cons_of_mem _ (List.mem_append_left _ (List.mem_append_left _ (List.mem_append_right _ (List.mem_of_getElem? (i := 2) rfl)))), fun _ h9 => absurd h9 List.not_mem_nil⟩⟩⟩⟩⟩⟩⟩⟩⟩⟩⟩⟩, fun w h9 => List.mem_cons_of_mem _ (List.mem_append_left _ (List.mem_append_right _ (h9)))⟩, fun w h9 => List.mem_cons_of_mem _ (List.mem_append_right _ (h9))⟩⟩) (by decide +kernel)
set_option maxRecDepth 20000 in
theorem gX6_goesOnWith_X6_takesBreadth : GoodIn wsX6_goesOnWith (wsV RX6 45 RX6 yX6_takesBreadth wsX6_takesBreadth) := goodIn_app (goodIn_4 _ (List.forall_mem_cons.mpr ⟨List.mem_cons_of_mem _ (List.mem_append_left _ (List.mem_append_left _ (List.mem_append_right _ (List.mem_of_getElem? (i := 3) rfl)))), List.forall_mem_cons.mpr ⟨List.mem_cons_of_mem _ (List.mem_append_left _ (List.mem_append_left _ (List.mem_append_right _ (List.mem_of_getElem? (i := 4) rfl)))), List.forall_mem_cons.mpr ⟨List.mem_cons_of_mem _ (List.mem_append_left _ (List.mem_append_left _ (List.mem_append_right _ (List.mem_of_getElem? (i := 5) rfl)))), List.forall_mem_cons.mpr ⟨List.mem_cons_of_mem _ (List.mem_append_left _ (List.mem_append_left _ (List.mem_append_left _ (List.mem_of_getElem? (i := 6) rfl)))), fun _ h9 => absurd h9 List.not_mem_nil⟩⟩⟩⟩) (by decide +kernel)) ggX6_goesOnWith_X6_takesBreadth
set_option maxRecDepth 20000 in
theorem ggX6_goesOnWith_X6_takesHead : GoodIn wsX6_goesOnWith wsX6_takesHead := goodIn_4 _ (List.forall_mem_cons.mpr ⟨List.mem_cons_of_mem _ (List.mem_append_left _ (List.mem_append_left _ (List.mem_append_left _ (List.mem_of_getElem? (i := 7) rfl)))), List.forall_mem_append.mpr ⟨List.forall_mem_cons.mpr ⟨List.mem_cons_of_mem _ (List.mem_append_left _ (List.mem_append_left _ (List.mem_append_left _ (List.mem_of_getElem? (i := 0) rfl)))), fun _ h9 => absurd h9 List.not_mem_nil⟩, fun w h9 => List.mem_cons_of_mem _ (List.mem_append_left _ (List.mem_append_right _ (h9)))⟩⟩) (by decide +kernel)
set_option maxRecDepth 20000 in
theorem gX6_goesOnWith_X6_takesHead : GoodIn wsX6_goesOnWith (wsV RX6 35 RX6 yX6_takesHead wsX6_takesHead) := goodIn_app (goodIn_4 _ (List.forall_mem_cons.mpr ⟨List.mem_cons_of_mem _ (List.mem_append_left _ (List.mem_append_left _ (List.mem_append_left _ (List.mem_of_getElem? (i := 3) rfl)))), List.forall_mem_cons.mpr ⟨List.mem_cons_of_mem _ (List.mem_append_left _ (List.mem_append_left _ (List.mem_append_left _ (List.mem_of_getElem? (i := 4) rfl)))), List.forall_mem_cons.mpr ⟨List.mem_cons_of_mem _ (List.mem_append_left _ (List.mem_append_left _ (List.mem_append_left _ (List.mem_of_getElem? (i := 5) rfl)))), List.forall_mem_cons.mpr ⟨List.mem_cons_of_mem _ (List.mem_append_left _ (List.mem_append_left _ (List.mem_append_left _ (List.mem_of_getElem? (i := 6) rfl)))), fun _ h9 => absurd h9 List.not_mem_nil⟩⟩⟩⟩) (by decide +kernel)) ggX6_goesOnWith_X6_takesHead
set_option maxRecDepth 20000 in
theorem ggX6_goesOnWith_X6_takesKind : GoodIn wsX6_goesOnWith wsX6_takesKind := goodIn_4 _ (List.forall_mem_cons.mpr ⟨List.mem_cons_of_mem _ (List.mem_append_left _ (List.mem_append_left _ (List.mem_append_left _ (List.mem_of_getElem? (i := 16) rfl)))), List.forall_mem_append.mpr ⟨List.forall_mem_append.mpr ⟨List.forall_mem_cons.mpr ⟨List.mem_cons_of_mem _ (List.mem_append_left _ (List.mem_append_left _ (List.mem_append_left _ (List.mem_of_getElem? (i := 1) rfl)))), List.forall_mem_cons.mpr ⟨List.mem_cons_of_mem _ (List.mem_append_left _ (List.mem_append_left _ (List.mem_append_left _ (List.mem_of_getElem? (i := 17) rfl)))), List.forall_mem_cons.mpr ⟨List.mem_cons_of_mem _ (List.mem_append_left _ (List.mem_append_left _ (List.mem_append_left _ (List.mem_of_getElem? (i := 0) rfl)))), List.forall_mem_cons.mpr ⟨List.mem_cons_of_mem _ (List.mem_append_left _ (List.mem_append_left _ (List.mem_append_left _ (List.mem_of_getElem? (i := 18) rfl)))), List.forall_mem_cons.mpr ⟨List.mem_cons_of_mem _ (List.mem_append_left _ (List.mem_append_left _ (List.mem_append_left _ (List.mem_of_getElem? (i := 19) rfl)))), List.forall_mem_cons.mpr ⟨List.mem_cons_of_mem _ (List.mem_append_left _ (List.mem_append_left _ (List.mem_append_left _ (List.mem_of_getElem? (i := 20) rfl)))), List.forall_mem_cons.mpr ⟨List.mem_cons_of_mem _ (List.mem_append_left _ (List.mem_append_left _ (List.mem_append_left _ (List.mem_of_getElem? (i := 21) rfl)))), List.forall_mem_cons.mpr ⟨List.mem_cons_of_mem _ (List.mem_append_left _ (List.mem_append_left _ (List.mem_append_left _ (List.mem_of_getElem? (i := 22) rfl)))), List.forall_mem_cons.mpr ⟨List.mem_cons_of_mem _ (List.mem_append_left _ (List.mem_append_left _ (List.mem_append_left _ (List.mem_of_getElem? (i := 23) rfl)))), List.forall_mem_cons.mpr ⟨List.mem_cons_of_mem _ (List.mem_append_left _ (List.mem_append_left _ (List.mem_append_right _ (List.mem_of_getElem? (i := 0) rfl)))), List.forall_mem_cons.mpr ⟨List.mem_cons_of_mem _ (List.mem_append_left _ (List.mem_append_left _ (List.mem_append_right _ (List.mem_of_getElem? (i := 1) rfl)))), List.forall_mem_cons.mpr ⟨List.mem_cons_of_mem _ (List.mem_append_left _ (List.mem_append_left _ (List.mem_append_right _ (List.mem_of_getElem? (i := 2) rfl)))), fun _ h9 => absurd h9 List.not_mem_nil⟩⟩⟩⟩⟩⟩⟩⟩⟩⟩⟩⟩, fun w h9 => List.mem_cons_of_mem _ (List.mem_append_left _ (List.mem_append_right _ (h9)))⟩, fun w h9 => List.mem_cons_of_mem _ (List.mem_append_right _ (h9))⟩⟩) (by decide +kernel)
set_option maxRecDepth 20000 in
theorem gX6_goesOnWith_X6_takesKind : GoodIn wsX6_goesOnWith (wsV RX6 41 RX6 yX6_takesKind wsX6_takesKind) := goodIn_app (goodIn_4 _ (List.forall_mem_cons.mpr ⟨List.mem_cons_of_mem _ (List.mem_append_left _ (List.mem_append_left _ (List.mem_append_left _ (List.mem_of_getElem? (i := 13) rfl)))), List.forall_mem_cons.mpr ⟨List.mem_cons_of_mem _ (List.mem_append_left _ (List.mem_append_left _ (List.mem_append_left _ (List.mem_of_getElem? (i := 14) rfl)))), List.forall_mem_cons.mpr ⟨List.mem_cons_of_mem _ (List.mem_append_left _ (List.mem_append_left _ (List.mem_append_left _ (List.mem_of_getElem? (i := 15) rfl)))), List.forall_mem_cons.mpr ⟨List.mem_cons_of_mem _ (List.mem_append_left _ (List.mem_append_left _ (List.mem_append_left _ (List.mem_of_getElem? (i := 6) rfl)))), fun _ h9 => absurd h9 List.not_mem_nil⟩⟩⟩⟩) (by decide +kernel)) ggX6_goesOnWith_X6_takesKind
set_option maxRecDepth 20000 in
theorem ggX6_goesOnWith_X6_takesLetter : GoodIn wsX6_goesOnWith wsX6_takesLetter := goodIn_4 _ (List.forall_mem_cons.mpr ⟨List.mem_cons_of_mem _ (List.mem_append_left _ (List.mem_append_left _ (List.mem_append_right _ (List.mem_of_getElem? (i := 11) rfl)))), List.forall_mem_append.mpr ⟨List.forall_mem_append.mpr ⟨List.forall_mem_cons.mpr ⟨List.mem_cons_of_mem _ (List.mem_append_left _ (List.mem_append_left _ (List.mem_append_left _ (List.mem_of_getElem? (i := 1) rfl)))), List.forall_mem_cons.mpr ⟨List.mem_cons_of_mem _ (List.mem_append_left _ (List.mem_append_left _ (List.mem_append_left _ (List.mem_of_getElem? (i := 12) rfl)))), List.forall_mem_cons.mpr ⟨List.mem_cons_of_mem _ (List.mem_append_left _ (List.mem_append_left _ (List.mem_append_left _ (List.mem_of_getElem? (i := 0) rfl)))), List.forall_mem_cons.mpr ⟨List.mem_cons_of_mem _ (List.mem_append_left _ (List.mem_append_left _ (List.mem_append_left _ (List.mem_of_getElem? (i := 18) rfl)))), List.forall_mem_cons.mpr ⟨List.mem_cons_of_mem _ (List.mem_append_left _ (List.mem_append_left _ (List.mem_append_left _ (List.mem_of_getElem? (i := 19) rfl)))), List.forall_mem_cons.mpr ⟨List.mem_cons_of_mem _ (List.mem_append_left _ (List.mem_append_left _ (List.mem_append_left _ (List.mem_of_getElem? (i := 20) rfl)))), List.forall_mem_cons.mpr ⟨List.mem_cons_of_mem _ (List.mem_append_left _ (List.mem_append_left _ (List.mem_append_left _ (List.mem_of_getElem? (i := 21) rfl)))), List.forall_mem_cons.mpr ⟨List.mem_cons_of_mem _ (List.mem_append_left _ (List.mem_append_left _ (List.mem_append_left _ (List.mem_of_getElem? (i := 22) rfl)))), List.forall_mem_cons.mpr ⟨List.mem_cons_of_mem _ (List.mem_append_left _ (List.mem_append_left _ (List.mem_append_left _ (List.mem_of_getElem? (i := 23) rfl)))), List.forall_mem_cons.mpr ⟨List.mem_cons_of_mem _ (List.mem_append_left _ (List.mem_append_left _ (List.mem_append_right _ (List.mem_of_getElem? (i := 0) rfl)))), List.forall_mem_cons.mpr ⟨List.mem_cons_of_mem _ (List.mem_append_left _ (List.mem_append_left _ (List.mem_append_right _ (List.mem_of_getElem? (i := 1) rfl)))), List.forall_mem_cons.mpr ⟨List.mem_cons_of_mem _ (List.mem_append_left _ (List.mem_append_left _ (List.mem_append_right _ (List.mem_of_getElem? (i := 2) rfl)))), List.forall_mem_cons.mpr ⟨List.mem_cons_of_mem _ (List.mem_append_left _ (List.mem_append_left _ (List.mem_append_right _ (List.mem_of_getElem? (i := 12) rfl)))), List.forall_mem_cons.mpr ⟨List.mem_cons_of_mem _ (List.mem_append_left _ (List.mem_append_left _ (List.mem_append_right _ (List.mem_of_getElem? (i := 13) rfl)))), List.forall_mem_cons.mpr ⟨List.mem_cons_of_mem _ (List.mem_append_left _ (List.mem_append_left _ (List.mem_append_right _ (List.mem_of_getElem? (i := 14) rfl)))), List.forall_mem_cons.mpr ⟨List.mem_cons_of_mem _ (List.mem_append_left _ (List.mem_append_left _ (List.mem_append_right _ (List.mem_of_getElem? (i := 15) rfl)))), List.forall_mem_cons.mpr ⟨List.mem_cons_of_mem _ (List.mem_append_left _ (List.mem_append_left _ (List.mem_append_right _ (List.mem_of_getElem? (i := 16) rfl)))), List.forall_mem_cons.mpr ⟨List.mem_cons_of_mem _ (List.mem_append_left _ (List.mem_append_left _ (List.mem_append_right _ (List.mem_of_getElem? (i := 17) rfl)))), List.forall_mem_cons.mpr ⟨List.mem_cons_of_mem _ (List.mem_append_left _ (List.mem_append_left _ (List.mem_append_right _ (List.mem_of_getElem? (i := 18) rfl)))), fun _ h9 => absurd h9 List.not_mem_nil⟩⟩⟩⟩⟩⟩⟩⟩⟩⟩⟩⟩⟩⟩⟩⟩⟩⟩⟩, fun w h9 => List.mem_cons_of_mem _ (List.mem_append_left _ (List.mem_append_right _ (h9)))⟩, fun w h9 => List.mem_cons_of_mem _ (List.mem_append_right _ (h9))⟩⟩) (by decide +kernel)
set_option maxRecDepth 20000 in
theorem gX6_goesOnWith_X6_takesLetter : GoodIn wsX6_goesOnWith (wsV RX6 48 RX6 yX6_takesLetter wsX6_takesLetter) := goodIn_app (goodIn_4 _ (List.forall_mem_cons.mpr ⟨List.mem_cons_of_mem _ (List.mem_append_left _ (List.mem_append_left _ (List.mem_append_right _ (List.mem_of_getElem? (i := 8) rfl)))), List.forall_mem_cons.mpr ⟨List.mem_cons_of_mem _ (List.mem_append_left _ (List.mem_append_left _ (List.mem_append_right _ (List.mem_of_getElem? (i := 9) rfl)))), List.forall_mem_cons.mpr ⟨List.mem_cons_of_mem _ (List.mem_append_left _ (List.mem_append_left _ (List.mem_append_right _ (List.mem_of_getElem? (i := 10) rfl)))), List.forall_mem_cons.mpr ⟨List.mem_cons_of_mem _ (List.mem_append_left _ (List.mem_append_left _ (List.mem_append_left _ (List.mem_of_getElem? (i := 6) rfl)))), fun _ h9 => absurd h9 List.not_mem_nil⟩⟩⟩⟩) (by decide +kernel)) ggX6_goesOnWith_X6_takesLetter
set_option maxRecDepth 20000 in
theorem ggX6_goesOnWith_X6_takesSign : GoodIn wsX6_goesOnWith wsX6_takesSign := goodIn_4 _ (List.forall_mem_cons.mpr ⟨List.mem_cons_of_mem _ (List.mem_append_left _ (List.mem_append_left _ (List.mem_append_left _ (List.mem_of_getElem? (i := 11) rfl)))), List.forall_mem_append.mpr ⟨List.forall_mem_append.mpr ⟨List.forall_mem_cons.mpr ⟨List.mem_cons_of_mem _ (List.mem_append_left _ (List.mem_append_left _ (List.mem_append_left _ (List.mem_of_getElem? (i := 1) rfl)))), List.forall_mem_cons.mpr ⟨List.mem_cons_of_mem _ (List.mem_append_left _ (List.mem_append_left _ (List.mem_append_left _ (List.mem_of_getElem? (i := 2) rfl)))), List.forall_mem_cons.mpr ⟨List.mem_cons_of_mem _ (List.mem_append_left _ (List.mem_append_left _ (List.mem_append_left _ (List.mem_of_getElem? (i := 12) rfl)))), List.forall_mem_cons.mpr ⟨List.mem_cons_of_mem _ (List.mem_append_left _ (List.mem_append_left _ (List.mem_append_left _ (List.mem_of_getElem? (i := 0) rfl)))), fun _ h9 => absurd h9 List.not_mem_nil⟩⟩⟩⟩, fun w h9 => List.mem_cons_of_mem _ (List.mem_append_left _ (List.mem_append_right _ (h9)))⟩, fun w h9 => List.mem_cons_of_mem _ (List.mem_append_right _ (h9))⟩⟩) (by decide +kernel)
set_option maxRecDepth 20000 in
theorem gX6_goesOnWith_X6_takesSign : GoodIn wsX6_goesOnWith (wsV RX6 38 RX6 yX6_takesSign wsX6_takesSign) := goodIn_app (goodIn_4 _ (List.forall_mem_cons.mpr ⟨List.mem_cons_of_mem _ (List.mem_append_left _ (List.mem_append_left _ (List.mem_append_left _ (List.mem_of_getElem? (i := 8) rfl)))), List.forall_mem_cons.mpr ⟨List.mem_cons_of_mem _ (List.mem_append_left _ (List.mem_append_left _ (List.mem_append_left _ (List.mem_of_getElem? (i := 9) rfl)))), List.forall_mem_cons.mpr ⟨List.mem_cons_of_mem _ (List.mem_append_left _ (List.mem_append_left _ (List.mem_append_left _ (List.mem_of_getElem? (i := 10) rfl)))), List.forall_mem_cons.mpr ⟨List.mem_cons_of_mem _ (List.mem_append_left _ (List.mem_append_left _ (List.mem_append_left _ (List.mem_of_getElem? (i := 6) rfl)))), fun _ h9 => absurd h9 List.not_mem_nil⟩⟩⟩⟩) (by decide +kernel)) ggX6_goesOnWith_X6_takesSign
set_option maxRecDepth 20000 in
theorem mw_X6_goesOnWith_w_0 : (.fieldLink RX6 22 "FontRuns$TextReader" "due" "I" : Cond) ∈ wsX6_goesOnWith := List.mem_cons_of_mem _ (List.mem_append_left _ (List.mem_append_left _ (List.mem_append_left _ (List.mem_of_getElem? (i := 0) rfl))))
set_option maxRecDepth 20000 in
theorem mw_X6_goesOnWith_w_1 : (.fieldLink RX6 12 "FontRuns$TextReader" "told" "LFontRuns$FontRow;" : Cond) ∈ wsX6_goesOnWith := List.mem_cons_of_mem _ (List.mem_append_left _ (List.mem_append_left _ (List.mem_append_left _ (List.mem_of_getElem? (i := 1) rfl))))
set_option maxRecDepth 20000 in
theorem mw_X6_goesOnWith_w_2 : (.fieldLink RX6 18 "FontRuns$FontRow" "count" "I" : Cond) ∈ wsX6_goesOnWith := List.mem_cons_of_mem _ (List.mem_append_left _ (List.mem_append_left _ (List.mem_append_left _ (List.mem_of_getElem? (i := 2) rfl))))
theorem ax_X6_goesOnWith_w_0 {e0 e1 e2 e3 e4 : Nat × va_E} : ([0] : List Nat).map (fun i => ([e0, e1, e2, e3, e4] : va_W)[i]?) = ([e0] : va_W).map some := rfl
theorem ax_X6_goesOnWith_w_1 {e0 e1 e2 e3 e4 : Nat × va_E} : ([1, 2, 3, 4] : List Nat).map (fun i => ([e0, e1, e2, e3, e4] : va_W)[i]?) = ([e1, e2, e3, e4] : va_W).map some := rfl
theorem ax_X6_goesOnWith_w_2 {D : va_G} {cl : List vw_C} {H : Heap} {e0 e1 e2 e3 f0 : Nat × va_E} (h : va_P D cl ((([e0, e1, e2, e3] : va_W) ++ ([f0] : va_W))) H) : va_P D cl (([e0, e1, e2, e3, f0] : va_W)) H := h
theorem ax_X6_goesOnWith_w_3 {A : Nat → Prop} {e0 e1 e2 e3 f0 : Nat × va_E} (h : va_D A ((([e0, e1, e2, e3] : va_W) ++ ([f0] : va_W)))) : va_D A (([e0, e1, e2, e3, f0] : va_W)) := h
theorem ax_X6_goesOnWith_w_4 {e0 e1 e2 e3 e4 : Nat × va_E} : ([4, 0, 1, 2, 3] : List Nat).map (fun i => ([e0, e1, e2, e3, e4] : va_W)[i]?) = ([e4, e0, e1, e2, e3] : va_W).map some := rfl
theorem ax_X6_goesOnWith_w_5 {e0 e1 e2 e3 e4 : Nat × va_E} : ([0, 1, 4] : List Nat).map (fun i => ([e0, e1, e2, e3, e4] : va_W)[i]?) = ([e0, e1, e4] : va_W).map some := rfl
theorem ax_X6_goesOnWith_w_6 {e0 e1 e2 e3 e4 : Nat × va_E} : ([2, 3] : List Nat).map (fun i => ([e0, e1, e2, e3, e4] : va_W)[i]?) = ([e2, e3] : va_W).map some := rfl
theorem ax_X6_goesOnWith_w_7 {D : va_G} {cl : List vw_C} {H : Heap} {e0 e1 f0 f1 f2 : Nat × va_E} (h : va_P D cl ((([e0, e1] : va_W) ++ ([f0, f1, f2] : va_W))) H) : va_P D cl (([e0, e1, f0, f1, f2] : va_W)) H := h
theorem ax_X6_goesOnWith_w_8 {A : Nat → Prop} {e0 e1 f0 f1 f2 : Nat × va_E} (h : va_D A ((([e0, e1] : va_W) ++ ([f0, f1, f2] : va_W)))) : va_D A (([e0, e1, f0, f1, f2] : va_W)) := h
theorem ax_X6_goesOnWith_w_9 {e0 e1 e2 e3 e4 : Nat × va_E} : ([2, 3, 0, 1, 4] : List Nat).map (fun i => ([e0, e1, e2, e3, e4] : va_W)[i]?) = ([e2, e3, e0, e1, e4] : va_W).map some := rfl
theorem ax_X6_goesOnWith_w_10 {e0 e1 e2 e3 e4 : Nat × va_E} : ([0, 1, 2] : List Nat).map (fun i => ([e0, e1, e2, e3, e4] : va_W)[i]?) = ([e0, e1, e2] : va_W).map some := rfl
theorem ax_X6_goesOnWith_w_11 {e0 e1 e2 e3 e4 : Nat × va_E} : ([3, 4] : List Nat).map (fun i => ([e0, e1, e2, e3, e4] : va_W)[i]?) = ([e3, e4] : va_W).map some := rfl
theorem ax_X6_goesOnWith_w_12 {e0 e1 e2 e3 e4 : Nat × va_E} : ([2, 3, 4, 0, 1] : List Nat).map (fun i => ([e0, e1, e2, e3, e4] : va_W)[i]?) = ([e2, e3, e4, e0, e1] : va_W).map some := rfl
theorem ax_X6_goesOnWith_w_13 {e0 e1 e2 e3 e4 : Nat × va_E} : ([0, 1, 3] : List Nat).map (fun i => ([e0, e1, e2, e3, e4] : va_W)[i]?) = ([e0, e1, e3] : va_W).map some := rfl
theorem ax_X6_goesOnWith_w_14 {e0 e1 e2 e3 e4 : Nat × va_E} : ([2, 4] : List Nat).map (fun i => ([e0, e1, e2, e3, e4] : va_W)[i]?) = ([e2, e4] : va_W).map some := rfl
theorem ax_X6_goesOnWith_w_15 {e0 e1 e2 e3 e4 : Nat × va_E} : ([2, 3, 0, 4, 1] : List Nat).map (fun i => ([e0, e1, e2, e3, e4] : va_W)[i]?) = ([e2, e3, e0, e4, e1] : va_W).map some := rfl
set_option maxHeartbeats 4000000 in
set_option maxRecDepth 100000 in
theorem c_X6_goesOnWith_w (l : Launch) (D : va_G) (sz : Nat) (x : Int) (h0 : Nat) (td : Nat) (du : Int) (k1 : Nat) (k2 : Nat) (k3 : Nat) (n : Int) (ck1 : ClassId) (fk : Nat → Int32) (ck2 : ClassId) (fb : Nat → Int32) (ck3 : ClassId) (fh : Nat → Int32) (q0 : rg x) (q1 : 0 ≤ du ∧ du ≤ 5) (q2 : 0 ≤ n ∧ n ≤ 4) (q3 : kHb fh n) : Met l yX6_goesOnWith wsX6_goesOnWith ({ frames := 3, cells := 0, slots := 0, locals := 66 }) (kPre [.ref h0, .int (zI x)] D [(h0, .inr (6, [.ref td, .int (zI du)])), (td, .inr (0, [.ref k1, .ref k2, .ref k3, .int (zI n)])), (k1, .inl (ck1, 4, .inl fk)), (k2, .inl (ck2, 4, .inl fb)), (k3, .inl (ck3, 4, .inl fh))] [(ck1, .int), (ck2, .int), (ck3, .int)] sz) (kQS (fun rz t => ∃ (ud : Int) (un : Int) (uk : Nat → Int32) (ub : Nat → Int32) (uh : Nat → Int32), (kGw du n fk fb fh x rz (ud, un, uk, ub, uh)) ∧ (rz = 0 ∨ rz = 1) ∧ (rg ud) ∧ (0 ≤ un ∧ un ≤ 4) ∧ va_P D vwCl [(h0, .inr (6, [.ref td, .int (zI ud)])), (td, .inr (0, [.ref k1, .ref k2, .ref k3, .int (zI un)])), (k1, .inl (ck1, 4, .inl uk)), (k2, .inl (ck2, 4, .inl ub)), (k3, .inl (ck3, 4, .inl uh))] t.heap ∧ va_D (va_A [(h0, .inr (6, [.ref td, .int (zI du)])), (td, .inr (0, [.ref k1, .ref k2, .ref k3, .int (zI n)])), (k1, .inl (ck1, 4, .inl fk)), (k2, .inl (ck2, 4, .inl fb)), (k3, .inl (ck3, 4, .inl fh))] sz) [(h0, .inr (6, [.ref td, .int (zI ud)])), (td, .inr (0, [.ref k1, .ref k2, .ref k3, .int (zI un)])), (k1, .inl (ck1, 4, .inl uk)), (k2, .inl (ck2, 4, .inl ub)), (k3, .inl (ck3, 4, .inl uh))]) (va_A [(h0, .inr (6, [.ref td, .int (zI du)])), (td, .inr (0, [.ref k1, .ref k2, .ref k3, .int (zI n)])), (k1, .inl (ck1, 4, .inl fk)), (k2, .inl (ck2, 4, .inl fb)), (k3, .inl (ck3, 4, .inl fh))] sz)) 0 0 (va_A [(h0, .inr (6, [.ref td, .int (zI du)])), (td, .inr (0, [.ref k1, .ref k2, .ref k3, .int (zI n)])), (k1, .inl (ck1, 4, .inl fk)), (k2, .inl (ck2, 4, .inl fb)), (k3, .inl (ck3, 4, .inl fh))] sz) := by
  refine Met.ofW (cc := cX6_goesOnWith) (maxL := 2) (ret := (some .boolean)) (by decide) rfl ?_
  intro p e s m args below meth c s₁ B hml hv
  obtain ⟨rfl, hsz, hP, hK, hD0, hN⟩ := hv
  have hx := B.exec
  have hb := B.bytes
  have hr := B.returns
  have hts := atoms_spec (ws := wsX6_goesOnWith) B.pre
  have hown : s.vm.findClass RX6 = some m.cls := findClass_of_methodNamed B.named
  have hlocks := B.notSynchronized
  subst hsz
  have hD := hD0.self (sz := s.heap.size)
  generalize hAe : va_A [(h0, .inr (6, [.ref td, .int (zI du)])), (td, .inr (0, [.ref k1, .ref k2, .ref k3, .int (zI n)])), (k1, .inl (ck1, 4, .inl fk)), (k2, .inl (ck2, 4, .inl fb)), (k3, .inl (ck3, 4, .inl fh))] s.heap.size = A at hD ⊢
  have hA : ∀ q : Nat, s.heap.size ≤ q → A q := fun q h => by rw [← hAe]; exact Or.inr h
  have hS : va_S A s.heap s.heap [] := va_S.rf
  have hP : va_P D vwCl [(h0, .inr (6, [.ref td, .int (zI du)])), (td, .inr (0, [.ref k1, .ref k2, .ref k3, .int (zI n)])), (k1, .inl (ck1, 4, .inl fk)), (k2, .inl (ck2, 4, .inl fb)), (k3, .inl (ck3, 4, .inl fh))] s.heap := hP
  have hl := lv_entry ([.ref h0, .int (zI x)]) (n := 2) (Nat.le_of_ble_eq_true rfl)
  rw [lg_entry_eq]
  generalize (lg_sl ([.ref h0, .int (zI x)]) ++ List.replicate (2 - (lg_sl ([.ref h0, .int (zI x)])).length) Slot.unset).toArray = ls at hl ⊢
  have hl : lv_has ls 2 [(0, .ref h0), (1, .int (zI x))] := hl
  refine lv_aload_n hx hb dX6_goesOnWith_0 rfl (lv_at hl 0 rfl) ?_
  refine va_get (D := D) (ci := 6) (v := .int (zI du)) (C := RX6) (T := TX6) (N := 2) hx hb hts (fun _ h9 => List.mem_cons_of_mem _ (List.mem_append_left _ (List.mem_append_right _ h9))) hown hK hP 0 rfl rfl 1 (by decide) (hts (.fieldLink RX6 22 "FontRuns$TextReader" "due" "I") mw_X6_goesOnWith_w_0) (fun _ h9 => h9) rfl dX6_goesOnWith_1 ?_
  rcases (show du = 0 ∨ du = 1 ∨ du = 2 ∨ du = 3 ∨ du = 4 ∨ (¬ du = 0 ∧ ¬ du = 1 ∧ ¬ du = 2 ∧ ¬ du = 3 ∧ ¬ du = 4) from by omega) with c_1 | c_1 | c_1 | c_1 | c_1 | c_1
  · refine kz_tabIn (tgt := 40) (off := 36) hx hb dX6_goesOnWith_4 0 (by omega) (by decide) (by decide) (by decide) (by decide) (by decide) ?_
    refine lv_aload_n hx hb dX6_goesOnWith_40 rfl (lv_at hl 0 rfl) ?_
    refine lv_iload_n hx hb dX6_goesOnWith_41 rfl (lv_at hl 1 rfl) ?_
    have hFc := va_free (wc := [(h0, .inr (6, [.ref td, .int (zI du)]))]) hD hS hA [0] ax_X6_goesOnWith_w_0
    refine va_calli (va_runV (As := [.int (zI x)]) (rest := []) ⟨hx, hb, hml, hown, hts⟩ (c_X6_takesHead_w l D s.heap.size (x := x) (h0 := h0) (td := td) (du := du) q0) (cwV 1 hts gX6_goesOnWith_X6_takesHead rfl rfl rfl (by decide +kernel) ⟨Nat.le_of_ble_eq_true rfl, Nat.le_of_ble_eq_true rfl⟩) (kPreV hP (kD0 hD) hK hN [0] [] ax_X6_goesOnWith_w_0 rfl (by decide +kernel) 0 6 rfl rfl) rfl rfl hl.1 rfl (lv_room (Nat.le_of_ble_eq_true rfl)) dX6_goesOnWith_42 ⟨Nat.le_of_ble_eq_true rfl, Nat.le_of_ble_eq_true rfl⟩) hS (fun q _ h => hFc q h) hFc (fun r u t H1 locs ht hvm hw hB hz1 hk1 hS => ?_)
    obtain ⟨z_3, e9⟩ : ∃ z, z = u := ⟨_, rfl⟩
    subst e9
    obtain ⟨rfl, rz_3⟩ := hw
    refine Exists.elim hB (fun ud_2 hB1 => ?_)
    have h_4 := hB1.1
    have hP1 := hB1.2.1
    have hD1 := hB1.2.2
    clear hB hB1
    rw [ht] at hP1
    obtain ⟨hP, hD⟩ := va_join (wr := [(td, .inr (0, [.ref k1, .ref k2, .ref k3, .int (zI n)])), (k1, .inl (ck1, 4, .inl fk)), (k2, .inl (ck2, 4, .inl fb)), (k3, .inl (ck3, 4, .inl fh))]) (w1 := [(h0, .inr (6, [.ref td, .int (zI ud_2)]))]) hP hD [0] [1, 2, 3, 4] ax_X6_goesOnWith_w_0 ax_X6_goesOnWith_w_1 (by decide +kernel) (by decide +kernel) hk1 hFc hP1 hD1
    have hP := ax_X6_goesOnWith_w_2 hP
    have hD := ax_X6_goesOnWith_w_3 hD
    generalize H1 = H at hP hS ⊢
    have hP : va_P D vwCl [(td, .inr (0, [.ref k1, .ref k2, .ref k3, .int (zI n)])), (k1, .inl (ck1, 4, .inl fk)), (k2, .inl (ck2, 4, .inl fb)), (k3, .inl (ck3, 4, .inl fh)), (h0, .inr (6, [.ref td, .int (zI ud_2)]))] H := hP
    have hD : va_D A [(td, .inr (0, [.ref k1, .ref k2, .ref k3, .int (zI n)])), (k1, .inl (ck1, 4, .inl fk)), (k2, .inl (ck2, 4, .inl fb)), (k3, .inl (ck3, 4, .inl fh)), (h0, .inr (6, [.ref td, .int (zI ud_2)]))] := hD
    have hP9 := hP.sub (ws' := [(h0, .inr (6, [.ref td, .int (zI ud_2)])), (td, .inr (0, [.ref k1, .ref k2, .ref k3, .int (zI n)])), (k1, .inl (ck1, 4, .inl fk)), (k2, .inl (ck2, 4, .inl fb)), (k3, .inl (ck3, 4, .inl fh))]) [4, 0, 1, 2, 3] rfl
    have hD9 := hD.sub (ws' := [(h0, .inr (6, [.ref td, .int (zI ud_2)])), (td, .inr (0, [.ref k1, .ref k2, .ref k3, .int (zI n)])), (k1, .inl (ck1, 4, .inl fk)), (k2, .inl (ck2, 4, .inl fb)), (k3, .inl (ck3, 4, .inl fh))]) [4, 0, 1, 2, 3] (by decide +kernel) rfl
    exact W.zret (v := (zI z_3)) hx hb hr (kbz (by omega)) (fun t ht hW => kQS_of (by omega) ⟨ud_2, n, fk, fb, fh, (kGw_0 (by omega) h_4), (by omega), (by omega), q2, by rw [ht]; exact hP9, hD9⟩ (hS.F ht)) hS.2.2 dX6_goesOnWith_45
  · refine kz_tabIn (tgt := 46) (off := 42) hx hb dX6_goesOnWith_4 1 (by omega) (by decide) (by decide) (by decide) (by decide) (by decide) ?_
    refine lv_aload_n hx hb dX6_goesOnWith_46 rfl (lv_at hl 0 rfl) ?_
    refine lv_iload_n hx hb dX6_goesOnWith_47 rfl (lv_at hl 1 rfl) ?_
    have hFc := va_free (wc := [(h0, .inr (6, [.ref td, .int (zI du)])), (td, .inr (0, [.ref k1, .ref k2, .ref k3, .int (zI n)])), (k3, .inl (ck3, 4, .inl fh))]) hD hS hA [0, 1, 4] ax_X6_goesOnWith_w_5
    refine va_calli (va_runV (As := [.int (zI x)]) (rest := []) ⟨hx, hb, hml, hown, hts⟩ (c_X6_takesSign_w l D s.heap.size (x := x) (h0 := h0) (td := td) (du := du) (k1 := k1) (k2 := k2) (k3 := k3) (n := n) (ck3 := ck3) (fh := fh) q0 (by omega) q2) (cwV 1 hts gX6_goesOnWith_X6_takesSign rfl rfl rfl (by decide +kernel) ⟨Nat.le_of_ble_eq_true rfl, Nat.le_of_ble_eq_true rfl⟩) (kPreV hP (kD0 hD) hK hN [0, 1, 4] [2] ax_X6_goesOnWith_w_5 rfl (by decide +kernel) 0 6 rfl rfl) rfl rfl hl.1 rfl (lv_room (Nat.le_of_ble_eq_true rfl)) dX6_goesOnWith_48 ⟨Nat.le_of_ble_eq_true rfl, Nat.le_of_ble_eq_true rfl⟩) hS (fun q _ h => hFc q h) hFc (fun r u t H1 locs ht hvm hw hB hz1 hk1 hS => ?_)
    obtain ⟨z_8, e9⟩ : ∃ z, z = u := ⟨_, rfl⟩
    subst e9
    obtain ⟨rfl, rz_8⟩ := hw
    refine Exists.elim hB (fun ud_5 hB1 => Exists.elim hB1 (fun un_6 hB2 => Exists.elim hB2 (fun uh_7 hB3 => ?_)))
    have h_9 := hB3.1
    have h_10 := hB3.2.1
    have h_11 := hB3.2.2.1
    have hP1 := hB3.2.2.2.1
    have hD1 := hB3.2.2.2.2
    clear hB hB1 hB2 hB3
    rw [ht] at hP1
    obtain ⟨hP, hD⟩ := va_join (wr := [(k1, .inl (ck1, 4, .inl fk)), (k2, .inl (ck2, 4, .inl fb))]) (w1 := [(h0, .inr (6, [.ref td, .int (zI ud_5)])), (td, .inr (0, [.ref k1, .ref k2, .ref k3, .int (zI un_6)])), (k3, .inl (ck3, 4, .inl uh_7))]) hP hD [0, 1, 4] [2, 3] ax_X6_goesOnWith_w_5 ax_X6_goesOnWith_w_6 (by decide +kernel) (by decide +kernel) hk1 hFc hP1 hD1
    have hP := ax_X6_goesOnWith_w_7 hP
    have hD := ax_X6_goesOnWith_w_8 hD
    generalize H1 = H at hP hS ⊢
    have hP : va_P D vwCl [(k1, .inl (ck1, 4, .inl fk)), (k2, .inl (ck2, 4, .inl fb)), (h0, .inr (6, [.ref td, .int (zI ud_5)])), (td, .inr (0, [.ref k1, .ref k2, .ref k3, .int (zI un_6)])), (k3, .inl (ck3, 4, .inl uh_7))] H := hP
    have hD : va_D A [(k1, .inl (ck1, 4, .inl fk)), (k2, .inl (ck2, 4, .inl fb)), (h0, .inr (6, [.ref td, .int (zI ud_5)])), (td, .inr (0, [.ref k1, .ref k2, .ref k3, .int (zI un_6)])), (k3, .inl (ck3, 4, .inl uh_7))] := hD
    have hP9 := hP.sub (ws' := [(h0, .inr (6, [.ref td, .int (zI ud_5)])), (td, .inr (0, [.ref k1, .ref k2, .ref k3, .int (zI un_6)])), (k1, .inl (ck1, 4, .inl fk)), (k2, .inl (ck2, 4, .inl fb)), (k3, .inl (ck3, 4, .inl uh_7))]) [2, 3, 0, 1, 4] rfl
    have hD9 := hD.sub (ws' := [(h0, .inr (6, [.ref td, .int (zI ud_5)])), (td, .inr (0, [.ref k1, .ref k2, .ref k3, .int (zI un_6)])), (k1, .inl (ck1, 4, .inl fk)), (k2, .inl (ck2, 4, .inl fb)), (k3, .inl (ck3, 4, .inl uh_7))]) [2, 3, 0, 1, 4] (by decide +kernel) rfl
    exact W.zret (v := (zI z_8)) hx hb hr (kbz (by omega)) (fun t ht hW => kQS_of (by omega) ⟨ud_5, un_6, fk, fb, uh_7, (kGw_1 (by omega) h_9), (by omega), h_10, h_11, by rw [ht]; exact hP9, hD9⟩ (hS.F ht)) hS.2.2 dX6_goesOnWith_51
  · refine kz_tabIn (tgt := 52) (off := 48) hx hb dX6_goesOnWith_4 2 (by omega) (by decide) (by decide) (by decide) (by decide) (by decide) ?_
    refine lv_aload_n hx hb dX6_goesOnWith_52 rfl (lv_at hl 0 rfl) ?_
    refine lv_iload_n hx hb dX6_goesOnWith_53 rfl (lv_at hl 1 rfl) ?_
    refine lv_aload_n hx hb dX6_goesOnWith_54 rfl (lv_at hl 0 rfl) ?_
    refine va_get (D := D) (ci := 6) (v := .ref td) (C := RX6) (T := TX6) (N := 2) hx hb hts (fun _ h9 => List.mem_cons_of_mem _ (List.mem_append_left _ (List.mem_append_right _ h9))) hown hK hP 0 rfl rfl 0 (by decide) (hts (.fieldLink RX6 12 "FontRuns$TextReader" "told" "LFontRuns$FontRow;") mw_X6_goesOnWith_w_1) (fun _ h9 => h9) rfl dX6_goesOnWith_55 ?_
    refine va_get (D := D) (ci := 0) (v := .int (zI n)) (C := RX0) (T := TX0) (N := 4) hx hb hts (fun _ h9 => List.mem_cons_of_mem _ (List.mem_append_right _ h9)) hown hK hP 1 rfl rfl 3 (by decide) (hts (.fieldLink RX6 18 "FontRuns$FontRow" "count" "I") mw_X6_goesOnWith_w_2) (fun _ h9 => h9) rfl dX6_goesOnWith_58 ?_
    refine lv_iconst (v := zI 1) hx hb dX6_goesOnWith_61 rfl ?_
    refine kz_isub hx hb dX6_goesOnWith_62 ?_
    have hFc := va_free (wc := [(h0, .inr (6, [.ref td, .int (zI du)])), (td, .inr (0, [.ref k1, .ref k2, .ref k3, .int (zI n)])), (k1, .inl (ck1, 4, .inl fk))]) hD hS hA [0, 1, 2] ax_X6_goesOnWith_w_10
    refine va_calli (va_runV (As := [.int (zI x), .int (zI (n - 1))]) (rest := []) ⟨hx, hb, hml, hown, hts⟩ (c_X6_takesKind_w l D s.heap.size (x := x) (f := (n - 1)) (h0 := h0) (td := td) (du := du) (k1 := k1) (k2 := k2) (k3 := k3) (n := n) (ck1 := ck1) (fk := fk) q0 (by omega) (by omega) q2 (by omega)) (cwV 2 hts gX6_goesOnWith_X6_takesKind rfl rfl rfl (by decide +kernel) ⟨Nat.le_of_ble_eq_true rfl, Nat.le_of_ble_eq_true rfl⟩) (kPreV hP (kD0 hD) hK hN [0, 1, 2] [0] ax_X6_goesOnWith_w_10 rfl (by decide +kernel) 0 6 rfl rfl) rfl rfl hl.1 rfl (lv_room (Nat.le_of_ble_eq_true rfl)) dX6_goesOnWith_63 ⟨Nat.le_of_ble_eq_true rfl, Nat.le_of_ble_eq_true rfl⟩) hS (fun q _ h => hFc q h) hFc (fun r u t H1 locs ht hvm hw hB hz1 hk1 hS => ?_)
    obtain ⟨z_14, e9⟩ : ∃ z, z = u := ⟨_, rfl⟩
    subst e9
    obtain ⟨rfl, rz_14⟩ := hw
    refine Exists.elim hB (fun ud_12 hB1 => Exists.elim hB1 (fun uk_13 hB2 => ?_))
    have h_15 := hB2.1
    have h_16 := hB2.2.1
    have hP1 := hB2.2.2.1
    have hD1 := hB2.2.2.2
    clear hB hB1 hB2
    rw [ht] at hP1
    obtain ⟨hP, hD⟩ := va_join (wr := [(k2, .inl (ck2, 4, .inl fb)), (k3, .inl (ck3, 4, .inl fh))]) (w1 := [(h0, .inr (6, [.ref td, .int (zI ud_12)])), (td, .inr (0, [.ref k1, .ref k2, .ref k3, .int (zI n)])), (k1, .inl (ck1, 4, .inl uk_13))]) hP hD [0, 1, 2] [3, 4] ax_X6_goesOnWith_w_10 ax_X6_goesOnWith_w_11 (by decide +kernel) (by decide +kernel) hk1 hFc hP1 hD1
    have hP := ax_X6_goesOnWith_w_7 hP
    have hD := ax_X6_goesOnWith_w_8 hD
    generalize H1 = H at hP hS ⊢
    have hP : va_P D vwCl [(k2, .inl (ck2, 4, .inl fb)), (k3, .inl (ck3, 4, .inl fh)), (h0, .inr (6, [.ref td, .int (zI ud_12)])), (td, .inr (0, [.ref k1, .ref k2, .ref k3, .int (zI n)])), (k1, .inl (ck1, 4, .inl uk_13))] H := hP
    have hD : va_D A [(k2, .inl (ck2, 4, .inl fb)), (k3, .inl (ck3, 4, .inl fh)), (h0, .inr (6, [.ref td, .int (zI ud_12)])), (td, .inr (0, [.ref k1, .ref k2, .ref k3, .int (zI n)])), (k1, .inl (ck1, 4, .inl uk_13))] := hD
    have hP9 := hP.sub (ws' := [(h0, .inr (6, [.ref td, .int (zI ud_12)])), (td, .inr (0, [.ref k1, .ref k2, .ref k3, .int (zI n)])), (k1, .inl (ck1, 4, .inl uk_13)), (k2, .inl (ck2, 4, .inl fb)), (k3, .inl (ck3, 4, .inl fh))]) [2, 3, 4, 0, 1] rfl
    have hD9 := hD.sub (ws' := [(h0, .inr (6, [.ref td, .int (zI ud_12)])), (td, .inr (0, [.ref k1, .ref k2, .ref k3, .int (zI n)])), (k1, .inl (ck1, 4, .inl uk_13)), (k2, .inl (ck2, 4, .inl fb)), (k3, .inl (ck3, 4, .inl fh))]) [2, 3, 4, 0, 1] (by decide +kernel) rfl
    exact W.zret (v := (zI z_14)) hx hb hr (kbz (by omega)) (fun t ht hW => kQS_of (by omega) ⟨ud_12, n, uk_13, fb, fh, (kGw_2 (by omega) h_15), (by omega), h_16, q2, by rw [ht]; exact hP9, hD9⟩ (hS.F ht)) hS.2.2 dX6_goesOnWith_66
  · refine kz_tabIn (tgt := 67) (off := 63) hx hb dX6_goesOnWith_4 3 (by omega) (by decide) (by decide) (by decide) (by decide) (by decide) ?_
    refine lv_aload_n hx hb dX6_goesOnWith_67 rfl (lv_at hl 0 rfl) ?_
    refine lv_iload_n hx hb dX6_goesOnWith_68 rfl (lv_at hl 1 rfl) ?_
    refine lv_aload_n hx hb dX6_goesOnWith_69 rfl (lv_at hl 0 rfl) ?_
    refine va_get (D := D) (ci := 6) (v := .ref td) (C := RX6) (T := TX6) (N := 2) hx hb hts (fun _ h9 => List.mem_cons_of_mem _ (List.mem_append_left _ (List.mem_append_right _ h9))) hown hK hP 0 rfl rfl 0 (by decide) (hts (.fieldLink RX6 12 "FontRuns$TextReader" "told" "LFontRuns$FontRow;") mw_X6_goesOnWith_w_1) (fun _ h9 => h9) rfl dX6_goesOnWith_70 ?_
    refine va_get (D := D) (ci := 0) (v := .int (zI n)) (C := RX0) (T := TX0) (N := 4) hx hb hts (fun _ h9 => List.mem_cons_of_mem _ (List.mem_append_right _ h9)) hown hK hP 1 rfl rfl 3 (by decide) (hts (.fieldLink RX6 18 "FontRuns$FontRow" "count" "I") mw_X6_goesOnWith_w_2) (fun _ h9 => h9) rfl dX6_goesOnWith_73 ?_
    refine lv_iconst (v := zI 1) hx hb dX6_goesOnWith_76 rfl ?_
    refine kz_isub hx hb dX6_goesOnWith_77 ?_
    have hFc := va_free (wc := [(h0, .inr (6, [.ref td, .int (zI du)])), (td, .inr (0, [.ref k1, .ref k2, .ref k3, .int (zI n)])), (k2, .inl (ck2, 4, .inl fb))]) hD hS hA [0, 1, 3] ax_X6_goesOnWith_w_13
    refine va_calli (va_runV (As := [.int (zI x), .int (zI (n - 1))]) (rest := []) ⟨hx, hb, hml, hown, hts⟩ (c_X6_takesBreadth_w l D s.heap.size (x := x) (f := (n - 1)) (h0 := h0) (td := td) (du := du) (k1 := k1) (k2 := k2) (k3 := k3) (n := n) (ck2 := ck2) (fb := fb) q0 (by omega) (by omega) q2 (by omega)) (cwV 2 hts gX6_goesOnWith_X6_takesBreadth rfl rfl rfl (by decide +kernel) ⟨Nat.le_of_ble_eq_true rfl, Nat.le_of_ble_eq_true rfl⟩) (kPreV hP (kD0 hD) hK hN [0, 1, 3] [1] ax_X6_goesOnWith_w_13 rfl (by decide +kernel) 0 6 rfl rfl) rfl rfl hl.1 rfl (lv_room (Nat.le_of_ble_eq_true rfl)) dX6_goesOnWith_78 ⟨Nat.le_of_ble_eq_true rfl, Nat.le_of_ble_eq_true rfl⟩) hS (fun q _ h => hFc q h) hFc (fun r u t H1 locs ht hvm hw hB hz1 hk1 hS => ?_)
    obtain ⟨z_19, e9⟩ : ∃ z, z = u := ⟨_, rfl⟩
    subst e9
    obtain ⟨rfl, rz_19⟩ := hw
    refine Exists.elim hB (fun ud_17 hB1 => Exists.elim hB1 (fun ub_18 hB2 => ?_))
    have h_20 := hB2.1
    have h_21 := hB2.2.1
    have hP1 := hB2.2.2.1
    have hD1 := hB2.2.2.2
    clear hB hB1 hB2
    rw [ht] at hP1
    obtain ⟨hP, hD⟩ := va_join (wr := [(k1, .inl (ck1, 4, .inl fk)), (k3, .inl (ck3, 4, .inl fh))]) (w1 := [(h0, .inr (6, [.ref td, .int (zI ud_17)])), (td, .inr (0, [.ref k1, .ref k2, .ref k3, .int (zI n)])), (k2, .inl (ck2, 4, .inl ub_18))]) hP hD [0, 1, 3] [2, 4] ax_X6_goesOnWith_w_13 ax_X6_goesOnWith_w_14 (by decide +kernel) (by decide +kernel) hk1 hFc hP1 hD1
    have hP := ax_X6_goesOnWith_w_7 hP
    have hD := ax_X6_goesOnWith_w_8 hD
    generalize H1 = H at hP hS ⊢
    have hP : va_P D vwCl [(k1, .inl (ck1, 4, .inl fk)), (k3, .inl (ck3, 4, .inl fh)), (h0, .inr (6, [.ref td, .int (zI ud_17)])), (td, .inr (0, [.ref k1, .ref k2, .ref k3, .int (zI n)])), (k2, .inl (ck2, 4, .inl ub_18))] H := hP
    have hD : va_D A [(k1, .inl (ck1, 4, .inl fk)), (k3, .inl (ck3, 4, .inl fh)), (h0, .inr (6, [.ref td, .int (zI ud_17)])), (td, .inr (0, [.ref k1, .ref k2, .ref k3, .int (zI n)])), (k2, .inl (ck2, 4, .inl ub_18))] := hD
    have hP9 := hP.sub (ws' := [(h0, .inr (6, [.ref td, .int (zI ud_17)])), (td, .inr (0, [.ref k1, .ref k2, .ref k3, .int (zI n)])), (k1, .inl (ck1, 4, .inl fk)), (k2, .inl (ck2, 4, .inl ub_18)), (k3, .inl (ck3, 4, .inl fh))]) [2, 3, 0, 4, 1] rfl
    have hD9 := hD.sub (ws' := [(h0, .inr (6, [.ref td, .int (zI ud_17)])), (td, .inr (0, [.ref k1, .ref k2, .ref k3, .int (zI n)])), (k1, .inl (ck1, 4, .inl fk)), (k2, .inl (ck2, 4, .inl ub_18)), (k3, .inl (ck3, 4, .inl fh))]) [2, 3, 0, 4, 1] (by decide +kernel) rfl
    exact W.zret (v := (zI z_19)) hx hb hr (kbz (by omega)) (fun t ht hW => kQS_of (by omega) ⟨ud_17, n, fk, ub_18, fh, (kGw_3 (by omega) h_20), (by omega), h_21, q2, by rw [ht]; exact hP9, hD9⟩ (hS.F ht)) hS.2.2 dX6_goesOnWith_81
  · refine kz_tabIn (tgt := 82) (off := 78) hx hb dX6_goesOnWith_4 4 (by omega) (by decide) (by decide) (by decide) (by decide) (by decide) ?_
    refine lv_aload_n hx hb dX6_goesOnWith_82 rfl (lv_at hl 0 rfl) ?_
    refine lv_iload_n hx hb dX6_goesOnWith_83 rfl (lv_at hl 1 rfl) ?_
    refine lv_aload_n hx hb dX6_goesOnWith_84 rfl (lv_at hl 0 rfl) ?_
    refine va_get (D := D) (ci := 6) (v := .ref td) (C := RX6) (T := TX6) (N := 2) hx hb hts (fun _ h9 => List.mem_cons_of_mem _ (List.mem_append_left _ (List.mem_append_right _ h9))) hown hK hP 0 rfl rfl 0 (by decide) (hts (.fieldLink RX6 12 "FontRuns$TextReader" "told" "LFontRuns$FontRow;") mw_X6_goesOnWith_w_1) (fun _ h9 => h9) rfl dX6_goesOnWith_85 ?_
    refine va_get (D := D) (ci := 0) (v := .int (zI n)) (C := RX0) (T := TX0) (N := 4) hx hb hts (fun _ h9 => List.mem_cons_of_mem _ (List.mem_append_right _ h9)) hown hK hP 1 rfl rfl 3 (by decide) (hts (.fieldLink RX6 18 "FontRuns$FontRow" "count" "I") mw_X6_goesOnWith_w_2) (fun _ h9 => h9) rfl dX6_goesOnWith_88 ?_
    refine lv_iconst (v := zI 1) hx hb dX6_goesOnWith_91 rfl ?_
    refine kz_isub hx hb dX6_goesOnWith_92 ?_
    have hFc := va_free (wc := [(h0, .inr (6, [.ref td, .int (zI du)])), (td, .inr (0, [.ref k1, .ref k2, .ref k3, .int (zI n)])), (k3, .inl (ck3, 4, .inl fh))]) hD hS hA [0, 1, 4] ax_X6_goesOnWith_w_5
    refine va_calli (va_runV (As := [.int (zI x), .int (zI (n - 1))]) (rest := []) ⟨hx, hb, hml, hown, hts⟩ (c_X6_takesLetter_w l D s.heap.size (x := x) (f := (n - 1)) (h0 := h0) (td := td) (du := du) (k1 := k1) (k2 := k2) (k3 := k3) (n := n) (ck3 := ck3) (fh := fh) q0 (by omega) (by omega) q2 (by omega) q3) (cwV 2 hts gX6_goesOnWith_X6_takesLetter rfl rfl rfl (by decide +kernel) ⟨Nat.le_of_ble_eq_true rfl, Nat.le_of_ble_eq_true rfl⟩) (kPreV hP (kD0 hD) hK hN [0, 1, 4] [2] ax_X6_goesOnWith_w_5 rfl (by decide +kernel) 0 6 rfl rfl) rfl rfl hl.1 rfl (lv_room (Nat.le_of_ble_eq_true rfl)) dX6_goesOnWith_93 ⟨Nat.le_of_ble_eq_true rfl, Nat.le_of_ble_eq_true rfl⟩) hS (fun q _ h => hFc q h) hFc (fun r u t H1 locs ht hvm hw hB hz1 hk1 hS => ?_)
    obtain ⟨z_24, e9⟩ : ∃ z, z = u := ⟨_, rfl⟩
    subst e9
    obtain ⟨rfl, rz_24⟩ := hw
    refine Exists.elim hB (fun ud_22 hB1 => Exists.elim hB1 (fun uh_23 hB2 => ?_))
    have h_25 := hB2.1
    have h_26 := hB2.2.1
    have hP1 := hB2.2.2.1
    have hD1 := hB2.2.2.2
    clear hB hB1 hB2
    rw [ht] at hP1
    obtain ⟨hP, hD⟩ := va_join (wr := [(k1, .inl (ck1, 4, .inl fk)), (k2, .inl (ck2, 4, .inl fb))]) (w1 := [(h0, .inr (6, [.ref td, .int (zI ud_22)])), (td, .inr (0, [.ref k1, .ref k2, .ref k3, .int (zI n)])), (k3, .inl (ck3, 4, .inl uh_23))]) hP hD [0, 1, 4] [2, 3] ax_X6_goesOnWith_w_5 ax_X6_goesOnWith_w_6 (by decide +kernel) (by decide +kernel) hk1 hFc hP1 hD1
    have hP := ax_X6_goesOnWith_w_7 hP
    have hD := ax_X6_goesOnWith_w_8 hD
    generalize H1 = H at hP hS ⊢
    have hP : va_P D vwCl [(k1, .inl (ck1, 4, .inl fk)), (k2, .inl (ck2, 4, .inl fb)), (h0, .inr (6, [.ref td, .int (zI ud_22)])), (td, .inr (0, [.ref k1, .ref k2, .ref k3, .int (zI n)])), (k3, .inl (ck3, 4, .inl uh_23))] H := hP
    have hD : va_D A [(k1, .inl (ck1, 4, .inl fk)), (k2, .inl (ck2, 4, .inl fb)), (h0, .inr (6, [.ref td, .int (zI ud_22)])), (td, .inr (0, [.ref k1, .ref k2, .ref k3, .int (zI n)])), (k3, .inl (ck3, 4, .inl uh_23))] := hD
    have hP9 := hP.sub (ws' := [(h0, .inr (6, [.ref td, .int (zI ud_22)])), (td, .inr (0, [.ref k1, .ref k2, .ref k3, .int (zI n)])), (k1, .inl (ck1, 4, .inl fk)), (k2, .inl (ck2, 4, .inl fb)), (k3, .inl (ck3, 4, .inl uh_23))]) [2, 3, 0, 1, 4] rfl
    have hD9 := hD.sub (ws' := [(h0, .inr (6, [.ref td, .int (zI ud_22)])), (td, .inr (0, [.ref k1, .ref k2, .ref k3, .int (zI n)])), (k1, .inl (ck1, 4, .inl fk)), (k2, .inl (ck2, 4, .inl fb)), (k3, .inl (ck3, 4, .inl uh_23))]) [2, 3, 0, 1, 4] (by decide +kernel) rfl
    exact W.zret (v := (zI z_24)) hx hb hr (kbz (by omega)) (fun t ht hW => kQS_of (by omega) ⟨ud_22, n, fk, fb, uh_23, (kGw_4 (by omega) h_25), (by omega), h_26, q2, by rw [ht]; exact hP9, hD9⟩ (hS.F ht)) hS.2.2 dX6_goesOnWith_96
  · refine kz_tabOut (tgt := 97) hx hb dX6_goesOnWith_4 (by omega) (by omega) (by decide) ?_
    refine lv_iload_n hx hb dX6_goesOnWith_97 rfl (lv_at hl 1 rfl) ?_
    refine lv_bipush (v := zI 59) hx hb dX6_goesOnWith_98 (by decide) ?_
    refine kz_icmp_ne (tgt := 111) hx hb dX6_goesOnWith_100 (by decide) (by omega) (by omega) (fun c_27 => ?_) (fun c_27 => ?_)
    · refine lv_aload_n hx hb dX6_goesOnWith_111 rfl (lv_at hl 0 rfl) ?_
      refine lv_iload_n hx hb dX6_goesOnWith_112 rfl (lv_at hl 1 rfl) ?_
      refine lv_aload_n hx hb dX6_goesOnWith_113 rfl (lv_at hl 0 rfl) ?_
      refine va_get (D := D) (ci := 6) (v := .ref td) (C := RX6) (T := TX6) (N := 2) hx hb hts (fun _ h9 => List.mem_cons_of_mem _ (List.mem_append_left _ (List.mem_append_right _ h9))) hown hK hP 0 rfl rfl 0 (by decide) (hts (.fieldLink RX6 12 "FontRuns$TextReader" "told" "LFontRuns$FontRow;") mw_X6_goesOnWith_w_1) (fun _ h9 => h9) rfl dX6_goesOnWith_114 ?_
      refine va_get (D := D) (ci := 0) (v := .int (zI n)) (C := RX0) (T := TX0) (N := 4) hx hb hts (fun _ h9 => List.mem_cons_of_mem _ (List.mem_append_right _ h9)) hown hK hP 1 rfl rfl 3 (by decide) (hts (.fieldLink RX6 18 "FontRuns$FontRow" "count" "I") mw_X6_goesOnWith_w_2) (fun _ h9 => h9) rfl dX6_goesOnWith_117 ?_
      refine lv_iconst (v := zI 1) hx hb dX6_goesOnWith_120 rfl ?_
      refine kz_isub hx hb dX6_goesOnWith_121 ?_
      have hFc := va_free (wc := [(h0, .inr (6, [.ref td, .int (zI du)])), (td, .inr (0, [.ref k1, .ref k2, .ref k3, .int (zI n)])), (k3, .inl (ck3, 4, .inl fh))]) hD hS hA [0, 1, 4] ax_X6_goesOnWith_w_5
      refine va_calli (va_runV (As := [.int (zI x), .int (zI (n - 1))]) (rest := []) ⟨hx, hb, hml, hown, hts⟩ (c_X6_takesLetter_w l D s.heap.size (x := x) (f := (n - 1)) (h0 := h0) (td := td) (du := du) (k1 := k1) (k2 := k2) (k3 := k3) (n := n) (ck3 := ck3) (fh := fh) q0 (by omega) (by omega) q2 (by omega) q3) (cwV 2 hts gX6_goesOnWith_X6_takesLetter rfl rfl rfl (by decide +kernel) ⟨Nat.le_of_ble_eq_true rfl, Nat.le_of_ble_eq_true rfl⟩) (kPreV hP (kD0 hD) hK hN [0, 1, 4] [2] ax_X6_goesOnWith_w_5 rfl (by decide +kernel) 0 6 rfl rfl) rfl rfl hl.1 rfl (lv_room (Nat.le_of_ble_eq_true rfl)) dX6_goesOnWith_122 ⟨Nat.le_of_ble_eq_true rfl, Nat.le_of_ble_eq_true rfl⟩) hS (fun q _ h => hFc q h) hFc (fun r u t H1 locs ht hvm hw hB hz1 hk1 hS => ?_)
      obtain ⟨z_30, e9⟩ : ∃ z, z = u := ⟨_, rfl⟩
      subst e9
      obtain ⟨rfl, rz_30⟩ := hw
      refine Exists.elim hB (fun ud_28 hB1 => Exists.elim hB1 (fun uh_29 hB2 => ?_))
      have h_31 := hB2.1
      have h_32 := hB2.2.1
      have hP1 := hB2.2.2.1
      have hD1 := hB2.2.2.2
      clear hB hB1 hB2
      rw [ht] at hP1
      obtain ⟨hP, hD⟩ := va_join (wr := [(k1, .inl (ck1, 4, .inl fk)), (k2, .inl (ck2, 4, .inl fb))]) (w1 := [(h0, .inr (6, [.ref td, .int (zI ud_28)])), (td, .inr (0, [.ref k1, .ref k2, .ref k3, .int (zI n)])), (k3, .inl (ck3, 4, .inl uh_29))]) hP hD [0, 1, 4] [2, 3] ax_X6_goesOnWith_w_5 ax_X6_goesOnWith_w_6 (by decide +kernel) (by decide +kernel) hk1 hFc hP1 hD1
      have hP := ax_X6_goesOnWith_w_7 hP
      have hD := ax_X6_goesOnWith_w_8 hD
      generalize H1 = H at hP hS ⊢
      have hP : va_P D vwCl [(k1, .inl (ck1, 4, .inl fk)), (k2, .inl (ck2, 4, .inl fb)), (h0, .inr (6, [.ref td, .int (zI ud_28)])), (td, .inr (0, [.ref k1, .ref k2, .ref k3, .int (zI n)])), (k3, .inl (ck3, 4, .inl uh_29))] H := hP
      have hD : va_D A [(k1, .inl (ck1, 4, .inl fk)), (k2, .inl (ck2, 4, .inl fb)), (h0, .inr (6, [.ref td, .int (zI ud_28)])), (td, .inr (0, [.ref k1, .ref k2, .ref k3, .int (zI n)])), (k3, .inl (ck3, 4, .inl uh_29))] := hD
      have hP9 := hP.sub (ws' := [(h0, .inr (6, [.ref td, .int (zI ud_28)])), (td, .inr (0, [.ref k1, .ref k2, .ref k3, .int (zI n)])), (k1, .inl (ck1, 4, .inl fk)), (k2, .inl (ck2, 4, .inl fb)), (k3, .inl (ck3, 4, .inl uh_29))]) [2, 3, 0, 1, 4] rfl
      have hD9 := hD.sub (ws' := [(h0, .inr (6, [.ref td, .int (zI ud_28)])), (td, .inr (0, [.ref k1, .ref k2, .ref k3, .int (zI n)])), (k1, .inl (ck1, 4, .inl fk)), (k2, .inl (ck2, 4, .inl fb)), (k3, .inl (ck3, 4, .inl uh_29))]) [2, 3, 0, 1, 4] (by decide +kernel) rfl
      exact W.zret (v := (zI z_30)) hx hb hr (kbz (by omega)) (fun t ht hW => kQS_of (by omega) ⟨ud_28, n, fk, fb, uh_29, (kGw_5l (by omega) (by omega) h_31), (by omega), h_32, q2, by rw [ht]; exact hP9, hD9⟩ (hS.F ht)) hS.2.2 dX6_goesOnWith_125
    · refine lv_aload_n hx hb dX6_goesOnWith_103 rfl (lv_at hl 0 rfl) ?_
      refine lv_iload_n hx hb dX6_goesOnWith_104 rfl (lv_at hl 1 rfl) ?_
      have hFc := va_free (wc := [(h0, .inr (6, [.ref td, .int (zI du)])), (td, .inr (0, [.ref k1, .ref k2, .ref k3, .int (zI n)])), (k3, .inl (ck3, 4, .inl fh))]) hD hS hA [0, 1, 4] ax_X6_goesOnWith_w_5
      refine va_calli (va_runV (As := [.int (zI x)]) (rest := []) ⟨hx, hb, hml, hown, hts⟩ (c_X6_takesSign_w l D s.heap.size (x := x) (h0 := h0) (td := td) (du := du) (k1 := k1) (k2 := k2) (k3 := k3) (n := n) (ck3 := ck3) (fh := fh) q0 (by omega) q2) (cwV 1 hts gX6_goesOnWith_X6_takesSign rfl rfl rfl (by decide +kernel) ⟨Nat.le_of_ble_eq_true rfl, Nat.le_of_ble_eq_true rfl⟩) (kPreV hP (kD0 hD) hK hN [0, 1, 4] [2] ax_X6_goesOnWith_w_5 rfl (by decide +kernel) 0 6 rfl rfl) rfl rfl hl.1 rfl (lv_room (Nat.le_of_ble_eq_true rfl)) dX6_goesOnWith_105 ⟨Nat.le_of_ble_eq_true rfl, Nat.le_of_ble_eq_true rfl⟩) hS (fun q _ h => hFc q h) hFc (fun r u t H1 locs ht hvm hw hB hz1 hk1 hS => ?_)
      obtain ⟨z_36, e9⟩ : ∃ z, z = u := ⟨_, rfl⟩
      subst e9
      obtain ⟨rfl, rz_36⟩ := hw
      refine Exists.elim hB (fun ud_33 hB1 => Exists.elim hB1 (fun un_34 hB2 => Exists.elim hB2 (fun uh_35 hB3 => ?_)))
      have h_37 := hB3.1
      have h_38 := hB3.2.1
      have h_39 := hB3.2.2.1
      have hP1 := hB3.2.2.2.1
      have hD1 := hB3.2.2.2.2
      clear hB hB1 hB2 hB3
      rw [ht] at hP1
      obtain ⟨hP, hD⟩ := va_join (wr := [(k1, .inl (ck1, 4, .inl fk)), (k2, .inl (ck2, 4, .inl fb))]) (w1 := [(h0, .inr (6, [.ref td, .int (zI ud_33)])), (td, .inr (0, [.ref k1, .ref k2, .ref k3, .int (zI un_34)])), (k3, .inl (ck3, 4, .inl uh_35))]) hP hD [0, 1, 4] [2, 3] ax_X6_goesOnWith_w_5 ax_X6_goesOnWith_w_6 (by decide +kernel) (by decide +kernel) hk1 hFc hP1 hD1
      have hP := ax_X6_goesOnWith_w_7 hP
      have hD := ax_X6_goesOnWith_w_8 hD
      generalize H1 = H at hP hS ⊢
      have hP : va_P D vwCl [(k1, .inl (ck1, 4, .inl fk)), (k2, .inl (ck2, 4, .inl fb)), (h0, .inr (6, [.ref td, .int (zI ud_33)])), (td, .inr (0, [.ref k1, .ref k2, .ref k3, .int (zI un_34)])), (k3, .inl (ck3, 4, .inl uh_35))] H := hP
      have hD : va_D A [(k1, .inl (ck1, 4, .inl fk)), (k2, .inl (ck2, 4, .inl fb)), (h0, .inr (6, [.ref td, .int (zI ud_33)])), (td, .inr (0, [.ref k1, .ref k2, .ref k3, .int (zI un_34)])), (k3, .inl (ck3, 4, .inl uh_35))] := hD
      refine lv_goto (tgt := 125) hx hb dX6_goesOnWith_108 (by decide) ?_
      have hP9 := hP.sub (ws' := [(h0, .inr (6, [.ref td, .int (zI ud_33)])), (td, .inr (0, [.ref k1, .ref k2, .ref k3, .int (zI un_34)])), (k1, .inl (ck1, 4, .inl fk)), (k2, .inl (ck2, 4, .inl fb)), (k3, .inl (ck3, 4, .inl uh_35))]) [2, 3, 0, 1, 4] rfl
      have hD9 := hD.sub (ws' := [(h0, .inr (6, [.ref td, .int (zI ud_33)])), (td, .inr (0, [.ref k1, .ref k2, .ref k3, .int (zI un_34)])), (k1, .inl (ck1, 4, .inl fk)), (k2, .inl (ck2, 4, .inl fb)), (k3, .inl (ck3, 4, .inl uh_35))]) [2, 3, 0, 1, 4] (by decide +kernel) rfl
      exact W.zret (v := (zI z_36)) hx hb hr (kbz (by omega)) (fun t ht hW => kQS_of (by omega) ⟨ud_33, un_34, fk, fb, uh_35, (kGw_5s (by omega) (by omega) h_37), (by omega), h_38, h_39, by rw [ht]; exact hP9, hD9⟩ (hS.F ht)) hS.2.2 dX6_goesOnWith_125
theorem dX6_firstFault_0 : decode cX6_firstFault 0 = .ok (.aload_n 0, 1) := kqo_2a kbl_X6_firstFault (pc := 0) rfl
theorem dX6_firstFault_1 : decode cX6_firstFault 1 = .ok (.getfield 12, 3) := kqo_b4 (x1 := 0) (x2 := 12) kbl_X6_firstFault (pc := 1) rfl rfl
theorem dX6_firstFault_4 : decode cX6_firstFault 4 = .ok (.iconst 0, 1) := kqo_03 kbl_X6_firstFault (pc := 4) rfl
theorem dX6_firstFault_5 : decode cX6_firstFault 5 = .ok (.putfield 18, 3) := kqo_b5 (x1 := 0) (x2 := 18) kbl_X6_firstFault (pc := 5) rfl rfl
theorem dX6_firstFault_8 : decode cX6_firstFault 8 = .ok (.aload_n 0, 1) := kqo_2a kbl_X6_firstFault (pc := 8) rfl
theorem dX6_firstFault_9 : decode cX6_firstFault 9 = .ok (.iconst 0, 1) := kqo_03 kbl_X6_firstFault (pc := 9) rfl
theorem dX6_firstFault_10 : decode cX6_firstFault 10 = .ok (.putfield 22, 3) := kqo_b5 (x1 := 0) (x2 := 22) kbl_X6_firstFault (pc := 10) rfl rfl
theorem dX6_firstFault_13 : decode cX6_firstFault 13 = .ok (.iconst 0, 1) := kqo_03 kbl_X6_firstFault (pc := 13) rfl
theorem dX6_firstFault_14 : decode cX6_firstFault 14 = .ok (.istore 4, 2) := kqo_36 (x1 := 4) kbl_X6_firstFault (pc := 14) rfl rfl
theorem dX6_firstFault_16 : decode cX6_firstFault 16 = .ok (.iload 4, 2) := kqo_15 (x1 := 4) kbl_X6_firstFault (pc := 16) rfl rfl
theorem dX6_firstFault_18 : decode cX6_firstFault 18 = .ok (.iload_n 3, 1) := kqo_1d kbl_X6_firstFault (pc := 18) rfl
theorem dX6_firstFault_19 : decode cX6_firstFault 19 = .ok (.if_icmp .ge 27, 3) := kqo_a2 (x1 := 0) (x2 := 27) kbl_X6_firstFault (pc := 19) rfl rfl
theorem dX6_firstFault_22 : decode cX6_firstFault 22 = .ok (.aload_n 0, 1) := kqo_2a kbl_X6_firstFault (pc := 22) rfl
theorem dX6_firstFault_23 : decode cX6_firstFault 23 = .ok (.aload_n 1, 1) := kqo_2b kbl_X6_firstFault (pc := 23) rfl
theorem dX6_firstFault_24 : decode cX6_firstFault 24 = .ok (.iload_n 2, 1) := kqo_1c kbl_X6_firstFault (pc := 24) rfl
theorem dX6_firstFault_25 : decode cX6_firstFault 25 = .ok (.iload 4, 2) := kqo_15 (x1 := 4) kbl_X6_firstFault (pc := 25) rfl rfl
theorem dX6_firstFault_27 : decode cX6_firstFault 27 = .ok (.iadd, 1) := kqo_60 kbl_X6_firstFault (pc := 27) rfl
theorem dX6_firstFault_28 : decode cX6_firstFault 28 = .ok (.invokevirtual 25, 3) := kqo_b6 (x1 := 0) (x2 := 25) kbl_X6_firstFault (pc := 28) rfl rfl
theorem dX6_firstFault_31 : decode cX6_firstFault 31 = .ok (.invokevirtual 31, 3) := kqo_b6 (x1 := 0) (x2 := 31) kbl_X6_firstFault (pc := 31) rfl rfl
theorem dX6_firstFault_34 : decode cX6_firstFault 34 = .ok (.ifCond .ne 6, 3) := kqo_9a (x1 := 0) (x2 := 6) kbl_X6_firstFault (pc := 34) rfl rfl
theorem dX6_firstFault_37 : decode cX6_firstFault 37 = .ok (.iload 4, 2) := kqo_15 (x1 := 4) kbl_X6_firstFault (pc := 37) rfl rfl
theorem dX6_firstFault_39 : decode cX6_firstFault 39 = .ok (.ireturn, 1) := kqo_ac kbl_X6_firstFault (pc := 39) rfl
theorem dX6_firstFault_40 : decode cX6_firstFault 40 = .ok (.iinc 4 1, 3) := kqo_84 (x1 := 4) (x2 := 1) kbl_X6_firstFault (pc := 40) rfl rfl
theorem dX6_firstFault_43 : decode cX6_firstFault 43 = .ok (.goto (-27), 3) := kqo_a7 (x1 := 255) (x2 := 229) kbl_X6_firstFault (pc := 43) rfl rfl
theorem dX6_firstFault_46 : decode cX6_firstFault 46 = .ok (.aload_n 0, 1) := kqo_2a kbl_X6_firstFault (pc := 46) rfl
theorem dX6_firstFault_47 : decode cX6_firstFault 47 = .ok (.getfield 22, 3) := kqo_b4 (x1 := 0) (x2 := 22) kbl_X6_firstFault (pc := 47) rfl rfl
theorem dX6_firstFault_50 : decode cX6_firstFault 50 = .ok (.iconst 5, 1) := kqo_08 kbl_X6_firstFault (pc := 50) rfl
theorem dX6_firstFault_51 : decode cX6_firstFault 51 = .ok (.if_icmp .ne 8, 3) := kqo_a0 (x1 := 0) (x2 := 8) kbl_X6_firstFault (pc := 51) rfl rfl
theorem dX6_firstFault_54 : decode cX6_firstFault 54 = .ok (.bipush (-9), 2) := kqo_10 (x1 := 247) kbl_X6_firstFault (pc := 54) rfl rfl
theorem dX6_firstFault_56 : decode cX6_firstFault 56 = .ok (.goto 4, 3) := kqo_a7 (x1 := 0) (x2 := 4) kbl_X6_firstFault (pc := 56) rfl rfl
theorem dX6_firstFault_59 : decode cX6_firstFault 59 = .ok (.iload_n 3, 1) := kqo_1d kbl_X6_firstFault (pc := 59) rfl
theorem dX6_firstFault_60 : decode cX6_firstFault 60 = .ok (.ireturn, 1) := kqo_ac kbl_X6_firstFault (pc := 60) rfl
set_option maxRecDepth 20000 in
theorem ggX6_firstFault_X5_at : GoodIn wsX6_firstFault wsX5_at := goodIn_4 _ (List.forall_mem_cons.mpr ⟨List.mem_cons_of_mem _ (List.mem_append_left _ (List.mem_append_left _ (List.mem_append_left _ (List.mem_append_left _ (List.mem_of_getElem? (i := 7) rfl))))), List.forall_mem_append.mpr ⟨List.forall_mem_cons.mpr ⟨List.mem_cons_of_mem _ (List.mem_append_left _ (List.mem_append_left _ (List.mem_append_left _ (List.mem_append_left _ (List.mem_of_getElem? (i := 8) rfl))))), List.forall_mem_cons.mpr ⟨List.mem_cons_of_mem _ (List.mem_append_left _ (List.mem_append_left _ (List.mem_append_left _ (List.mem_append_left _ (List.mem_of_getElem? (i := 9) rfl))))), List.forall_mem_cons.mpr ⟨List.mem_cons_of_mem _ (List.mem_append_left _ (List.mem_append_left _ (List.mem_append_left _ (List.mem_append_left _ (List.mem_of_getElem? (i := 10) rfl))))), List.forall_mem_cons.mpr ⟨List.mem_cons_of_mem _ (List.mem_append_left _ (List.mem_append_left _ (List.mem_append_left _ (List.mem_append_left _ (List.mem_of_getElem? (i := 11) rfl))))), List.forall_mem_cons.mpr ⟨List.mem_cons_of_mem _ (List.mem_append_left _ (List.mem_append_left _ (List.mem_append_left _ (List.mem_append_left _ (List.mem_of_getElem? (i := 6) rfl))))), List.forall_mem_cons.mpr ⟨List.mem_cons_of_mem _ (List.mem_append_left _ (List.mem_append_left _ (List.mem_append_left _ (List.mem_append_left _ (List.mem_of_getElem? (i := 12) rfl))))), List.forall_mem_cons.mpr ⟨List.mem_cons_of_mem _ (List.mem_append_left _ (List.mem_append_left _ (List.mem_append_left _ (List.mem_append_left _ (List.mem_of_getElem? (i := 13) rfl))))), List.forall_mem_cons.mpr ⟨List.mem_cons_of_mem _ (List.mem_append_left _ (List.mem_append_left _ (List.mem_append_left _ (List.mem_append_left _ (List.mem_of_getElem? (i := 14) rfl))))), List.forall_mem_cons.mpr ⟨List.mem_cons_of_mem _ (List.mem_append_left _ (List.mem_append_left _ (List.mem_append_left _ (List.mem_append_left _ (List.mem_of_getElem? (i := 15) rfl))))), List.forall_mem_cons.mpr ⟨List.mem_cons_of_mem _ (List.mem_append_left _ (List.mem_append_left _ (List.mem_append_left _ (List.mem_append_left _ (List.mem_of_getElem? (i := 16) rfl))))), List.forall_mem_cons.mpr ⟨List.mem_cons_of_mem _ (List.mem_append_left _ (List.mem_append_left _ (List.mem_append_left _ (List.mem_append_left _ (List.mem_of_getElem? (i := 17) rfl))))), fun _ h9 => absurd h9 List.not_mem_nil⟩⟩⟩⟩⟩⟩⟩⟩⟩⟩⟩, fun w h9 => List.mem_cons_of_mem _ (List.mem_append_right _ (h9))⟩⟩) (by decide +kernel)
set_option maxRecDepth 20000 in
theorem gX6_firstFault_X5_at : GoodIn wsX6_firstFault (wsV RX6 25 RX5 yX5_at wsX5_at) := goodIn_app (goodIn_4 _ (List.forall_mem_cons.mpr ⟨List.mem_cons_of_mem _ (List.mem_append_left _ (List.mem_append_left _ (List.mem_append_left _ (List.mem_append_left _ (List.mem_of_getElem? (i := 3) rfl))))), List.forall_mem_cons.mpr ⟨List.mem_cons_of_mem _ (List.mem_append_left _ (List.mem_append_left _ (List.mem_append_left _ (List.mem_append_left _ (List.mem_of_getElem? (i := 4) rfl))))), List.forall_mem_cons.mpr ⟨List.mem_cons_of_mem _ (List.mem_append_left _ (List.mem_append_left _ (List.mem_append_left _ (List.mem_append_left _ (List.mem_of_getElem? (i := 5) rfl))))), List.forall_mem_cons.mpr ⟨List.mem_cons_of_mem _ (List.mem_append_left _ (List.mem_append_left _ (List.mem_append_left _ (List.mem_append_left _ (List.mem_of_getElem? (i := 6) rfl))))), fun _ h9 => absurd h9 List.not_mem_nil⟩⟩⟩⟩) (by decide +kernel)) ggX6_firstFault_X5_at
set_option maxRecDepth 20000 in
theorem ggX6_firstFault_X6_goesOnWith : GoodIn wsX6_firstFault wsX6_goesOnWith := goodIn_4 _ (List.forall_mem_cons.mpr ⟨List.mem_cons_of_mem _ (List.mem_append_left _ (List.mem_append_left _ (List.mem_append_left _ (List.mem_append_left _ (List.mem_of_getElem? (i := 22) rfl))))), List.forall_mem_append.mpr ⟨List.forall_mem_append.mpr ⟨List.forall_mem_append.mpr ⟨List.forall_mem_cons.mpr ⟨List.mem_cons_of_mem _ (List.mem_append_left _ (List.mem_append_left _ (List.mem_append_left _ (List.mem_append_left _ (List.mem_of_getElem? (i := 2) rfl))))), List.forall_mem_cons.mpr ⟨List.mem_cons_of_mem _ (List.mem_append_left _ (List.mem_append_left _ (List.mem_append_left _ (List.mem_append_left _ (List.mem_of_getElem? (i := 0) rfl))))), List.forall_mem_cons.mpr ⟨List.mem_cons_of_mem _ (List.mem_append_left _ (List.mem_append_left _ (List.mem_append_left _ (List.mem_append_left _ (List.mem_of_getElem? (i := 1) rfl))))), List.forall_mem_cons.mpr ⟨List.mem_cons_of_mem _ (List.mem_append_left _ (List.mem_append_left _ (List.mem_append_left _ (List.mem_append_left _ (List.mem_of_getElem? (i := 23) rfl))))), List.forall_mem_cons.mpr ⟨List.mem_cons_of_mem _ (List.mem_append_left _ (List.mem_append_left _ (List.mem_append_left _ (List.mem_append_right _ (List.mem_append_left _ (List.mem_of_getElem? (i := 0) rfl)))))), List.forall_mem_cons.mpr ⟨List.mem_cons_of_mem _ (List.mem_append_left _ (List.mem_append_left _ (List.mem_append_left _ (List.mem_append_right _ (List.mem_append_left _ (List.mem_of_getElem? (i := 1) rfl)))))), List.forall_mem_cons.mpr ⟨List.mem_cons_of_mem _ (List.mem_append_left _ (List.mem_append_left _ (List.mem_append_left _ (List.mem_append_left _ (List.mem_of_getElem? (i := 21) rfl))))), List.forall_mem_cons.mpr ⟨List.mem_cons_of_mem _ (List.mem_append_left _ (List.mem_append_left _ (List.mem_append_left _ (List.mem_append_right _ (List.mem_append_left _ (List.mem_of_getElem? (i := 2) rfl)))))), List.forall_mem_cons.mpr ⟨List.mem_cons_of_mem _ (List.mem_append_left _ (List.mem_append_left _ (List.mem_append_left _ (List.mem_append_right _ (List.mem_append_left _ (List.mem_of_getElem? (i := 3) rfl)))))), List.forall_mem_cons.mpr ⟨List.mem_cons_of_mem _ (List.mem_append_left _ (List.mem_append_left _ (List.mem_append_left _ (List.mem_append_right _ (List.mem_append_left _ (List.mem_of_getElem? (i := 4) rfl)))))), List.forall_mem_cons.mpr ⟨List.mem_cons_of_mem _ (List.mem_append_left _ (List.mem_append_left _ (List.mem_append_left _ (List.mem_append_right _ (List.mem_append_left _ (List.mem_of_getElem? (i := 5) rfl)))))), List.forall_mem_cons.mpr ⟨List.mem_cons_of_mem _ (List.mem_append_left _ (List.mem_append_left _ (List.mem_append_left _ (List.mem_append_right _ (List.mem_append_left _ (List.mem_of_getElem? (i := 6) rfl)))))), List.forall_mem_cons.mpr ⟨List.mem_cons_of_mem _ (List.mem_append_left _ (List.mem_append_left _ (List.mem_append_left _ (List.mem_append_right _ (List.mem_append_left _ (List.mem_of_getElem? (i := 7) rfl)))))), List.forall_mem_cons.mpr ⟨List.mem_cons_of_mem _ (List.mem_append_left _ (List.mem_append_left _ (List.mem_append_left _ (List.mem_append_right _ (List.mem_append_left _ (List.mem_of_getElem? (i := 8) rfl)))))), List.forall_mem_cons.mpr ⟨List.mem_cons_of_mem _ (List.mem_append_left _ (List.mem_append_left _ (List.mem_append_left _ (List.mem_append_right _ (List.mem_append_left _ (List.mem_of_getElem? (i := 9) rfl)))))), List.forall_mem_cons.mpr ⟨List.mem_cons_of_mem _ (List.mem_append_left _ (List.mem_append_left _ (List.mem_append_left _ (List.mem_append_right _ (List.mem_append_left _ (List.mem_of_getElem? (i := 10) rfl)))))), List.forall_mem_cons.mpr ⟨List.mem_cons_of_mem _ (List.mem_append_left _ (List.mem_append_left _ (List.mem_append_left _ (List.mem_append_right _ (List.mem_append_left _ (List.mem_of_getElem? (i := 11) rfl)))))), List.forall_mem_cons.mpr ⟨List.mem_cons_of_mem _ (List.mem_append_left _ (List.mem_append_left _ (List.mem_append_left _ (List.mem_append_right _ (List.mem_append_left _ (List.mem_of_getElem? (i := 12) rfl)))))), List.forall_mem_cons.mpr ⟨List.mem_cons_of_mem _ (List.mem_append_left _ (List.mem_append_left _ (List.mem_append_left _ (List.mem_append_right _ (List.mem_append_left _ (List.mem_of_getElem? (i := 13) rfl)))))), List.forall_mem_cons.mpr ⟨List.mem_cons_of_mem _ (List.mem_append_left _ (List.mem_append_left _ (List.mem_append_left _ (List.mem_append_right _ (List.mem_append_left _ (List.mem_of_getElem? (i := 14) rfl)))))), List.forall_mem_cons.mpr ⟨List.mem_cons_of_mem _ (List.mem_append_left _ (List.mem_append_left _ (List.mem_append_left _ (List.mem_append_right _ (List.mem_append_left _ (List.mem_of_getElem? (i := 15) rfl)))))), List.forall_mem_cons.mpr ⟨List.mem_cons_of_mem _ (List.mem_append_left _ (List.mem_append_left _ (List.mem_append_left _ (List.mem_append_right _ (List.mem_append_left _ (List.mem_of_getElem? (i := 16) rfl)))))), List.forall_mem_cons.mpr ⟨List.mem_cons_of_mem _ (List.mem_append_left _ (List.mem_append_left _ (List.mem_append_left _ (List.mem_append_right _ (List.mem_append_left _ (List.mem_of_getElem? (i := 17) rfl)))))), List.forall_mem_cons.mpr ⟨List.mem_cons_of_mem _ (List.mem_append_left _ (List.mem_append_left _ (List.mem_append_left _ (List.mem_append_right _ (List.mem_append_left _ (List.mem_of_getElem? (i := 18) rfl)))))), fun _ h9 => absurd h9 List.not_mem_nil⟩⟩⟩⟩⟩⟩⟩⟩⟩⟩⟩⟩⟩⟩⟩⟩⟩⟩⟩⟩⟩⟩⟩⟩, List.forall_mem_cons.mpr ⟨List.mem_cons_of_mem _ (List.mem_append_left _ (List.mem_append_left _ (List.mem_append_left _ (List.mem_append_left _ (List.mem_of_getElem? (i := 15) rfl))))), List.forall_mem_cons.mpr ⟨List.mem_cons_of_mem _ (List.mem_append_left _ (List.mem_append_left _ (List.mem_append_left _ (List.mem_append_left _ (List.mem_of_getElem? (i := 16) rfl))))), List.forall_mem_cons.mpr ⟨List.mem_cons_of_mem _ (List.mem_append_left _ (List.mem_append_left _ (List.mem_append_left _ (List.mem_append_left _ (List.mem_of_getElem? (i := 17) rfl))))), List.forall_mem_cons.mpr ⟨List.mem_cons_of_mem _ (List.mem_append_left _ (List.mem_append_left _ (List.mem_append_left _ (List.mem_append_right _ (List.mem_append_left _ (List.mem_of_getElem? (i := 19) rfl)))))), List.forall_mem_cons.mpr ⟨List.mem_cons_of_mem _ (List.mem_append_left _ (List.mem_append_left _ (List.mem_append_left _ (List.mem_append_right _ (List.mem_append_left _ (List.mem_of_getElem? (i := 20) rfl)))))), List.forall_mem_cons.mpr ⟨List.mem_cons_of_mem _ (List.mem_append_left _ (List.mem_append_left _ (List.mem_append_left _ (List.mem_append_right _ (List.mem_append_left _ (List.mem_of_getElem? (i := 21) rfl)))))), List.forall_mem_cons.mpr ⟨List.mem_cons_of_mem _ (List.mem_append_left _ (List.mem_append_left _ (List.mem_append_left _ (List.mem_append_right _ (List.mem_append_left _ (List.mem_of_getElem? (i := 22) rfl)))))), List.forall_mem_cons.mpr ⟨List.mem_cons_of_mem _ (List.mem_append_left _ (List.mem_append_left _ (List.mem_append_left _ (List.mem_append_right _ (List.mem_append_left _ (List.mem_of_getElem? (i := 23) rfl)))))), List.forall_mem_cons.mpr ⟨List.mem_cons_of_mem _ (List.mem_append_left _ (List.mem_append_left _ (List.mem_append_left _ (List.mem_append_right _ (List.mem_append_right _ (List.mem_of_getElem? (i := 0) rfl)))))), List.forall_mem_cons.mpr ⟨List.mem_cons_of_mem _ (List.mem_append_left _ (List.mem_append_left _ (List.mem_append_left _ (List.mem_append_right _ (List.mem_append_right _ (List.mem_of_getElem? (i := 1) rfl)))))), List.forall_mem_cons.mpr ⟨List.mem_cons_of_mem _ (List.mem_append_left _ (List.mem_append_left _ (List.mem_append_left _ (List.mem_append_right _ (List.mem_append_right _ (List.mem_of_getElem? (i := 2) rfl)))))), List.forall_mem_cons.mpr ⟨List.mem_cons_of_mem _ (List.mem_append_left _ (List.mem_append_left _ (List.mem_append_left _ (List.mem_append_right _ (List.mem_append_right _ (List.mem_of_getElem? (i := 3) rfl)))))), List.forall_mem_cons.mpr ⟨List.mem_cons_of_mem _ (List.mem_append_left _ (List.mem_append_left _ (List.mem_append_left _ (List.mem_append_right _ (List.mem_append_right _ (List.mem_of_getElem? (i := 4) rfl)))))), List.forall_mem_cons.mpr ⟨List.mem_cons_of_mem _ (List.mem_append_left _ (List.mem_append_left _ (List.mem_append_left _ (List.mem_append_right _ (List.mem_append_right _ (List.mem_of_getElem? (i := 5) rfl)))))), List.forall_mem_cons.mpr ⟨List.mem_cons_of_mem _ (List.mem_append_left _ (List.mem_append_left _ (List.mem_append_left _ (List.mem_append_right _ (List.mem_append_right _ (List.mem_of_getElem? (i := 6) rfl)))))), List.forall_mem_cons.mpr ⟨List.mem_cons_of_mem _ (List.mem_append_left _ (List.mem_append_left _ (List.mem_append_left _ (List.mem_append_right _ (List.mem_append_right _ (List.mem_of_getElem? (i := 7) rfl)))))), List.forall_mem_cons.mpr ⟨List.mem_cons_of_mem _ (List.mem_append_left _ (List.mem_append_left _ (List.mem_append_left _ (List.mem_append_right _ (List.mem_append_right _ (List.mem_of_getElem? (i := 8) rfl)))))), List.forall_mem_cons.mpr ⟨List.mem_cons_of_mem _ (List.mem_append_left _ (List.mem_append_left _ (List.mem_append_left _ (List.mem_append_right _ (List.mem_append_right _ (List.mem_of_getElem? (i := 9) rfl)))))), List.forall_mem_cons.mpr ⟨List.mem_cons_of_mem _ (List.mem_append_left _ (List.mem_append_left _ (List.mem_append_left _ (List.mem_append_right _ (List.mem_append_right _ (List.mem_of_getElem? (i := 10) rfl)))))), fun _ h9 => absurd h9 List.not_mem_nil⟩⟩⟩⟩⟩⟩⟩⟩⟩⟩⟩⟩⟩⟩⟩⟩⟩⟩⟩⟩, fun w h9 => List.mem_cons_of_mem _ (List.mem_append_left _ (List.mem_append_left _ (List.mem_append_right _ (h9))))⟩, fun w h9 => List.mem_cons_of_mem _ (List.mem_append_left _ (List.mem_append_right _ (h9)))⟩⟩) (by decide +kernel)
set_option maxRecDepth 20000 in
theorem gX6_firstFault_X6_goesOnWith : GoodIn wsX6_firstFault (wsV RX6 31 RX6 yX6_goesOnWith wsX6_goesOnWith) := goodIn_app (goodIn_4 _ (List.forall_mem_cons.mpr ⟨List.mem_cons_of_mem _ (List.mem_append_left _ (List.mem_append_left _ (List.mem_append_left _ (List.mem_append_left _ (List.mem_of_getElem? (i := 18) rfl))))), List.forall_mem_cons.mpr ⟨List.mem_cons_of_mem _ (List.mem_append_left _ (List.mem_append_left _ (List.mem_append_left _ (List.mem_append_left _ (List.mem_of_getElem? (i := 19) rfl))))), List.forall_mem_cons.mpr ⟨List.mem_cons_of_mem _ (List.mem_append_left _ (List.mem_append_left _ (List.mem_append_left _ (List.mem_append_left _ (List.mem_of_getElem? (i := 20) rfl))))), List.forall_mem_cons.mpr ⟨List.mem_cons_of_mem _ (List.mem_append_left _ (List.mem_append_left _ (List.mem_append_left _ (List.mem_append_left _ (List.mem_of_getElem? (i := 21) rfl))))), fun _ h9 => absurd h9 List.not_mem_nil⟩⟩⟩⟩) (by decide +kernel)) ggX6_firstFault_X6_goesOnWith
set_option maxRecDepth 20000 in
theorem mw_X6_firstFault_w_0 : (.fieldLink RX6 12 "FontRuns$TextReader" "told" "LFontRuns$FontRow;" : Cond) ∈ wsX6_firstFault := List.mem_cons_of_mem _ (List.mem_append_left _ (List.mem_append_left _ (List.mem_append_left _ (List.mem_append_left _ (List.mem_of_getElem? (i := 0) rfl)))))
set_option maxRecDepth 20000 in
theorem mw_X6_firstFault_w_1 : (.fieldLink RX6 18 "FontRuns$FontRow" "count" "I" : Cond) ∈ wsX6_firstFault := List.mem_cons_of_mem _ (List.mem_append_left _ (List.mem_append_left _ (List.mem_append_left _ (List.mem_append_left _ (List.mem_of_getElem? (i := 1) rfl)))))
set_option maxRecDepth 20000 in
theorem mw_X6_firstFault_w_2 : (.fieldLink RX6 22 "FontRuns$TextReader" "due" "I" : Cond) ∈ wsX6_firstFault := List.mem_cons_of_mem _ (List.mem_append_left _ (List.mem_append_left _ (List.mem_append_left _ (List.mem_append_left _ (List.mem_of_getElem? (i := 2) rfl)))))
theorem ax_X6_firstFault_w_0 {e0 e1 e2 e3 e4 e5 e6 : Nat × va_E} : ([0, 1, 2, 3, 4, 5, 6] : List Nat).map (fun i => ([e0, e1, e2, e3, e4, e5, e6] : va_W)[i]?) = ([e0, e1, e2, e3, e4, e5, e6] : va_W).map some := rfl
theorem ax_X6_firstFault_w_1 {e0 e1 e2 e3 e4 e5 e6 : Nat × va_E} : ([5, 6] : List Nat).map (fun i => ([e0, e1, e2, e3, e4, e5, e6] : va_W)[i]?) = ([e5, e6] : va_W).map some := rfl
theorem ax_X6_firstFault_w_2 {e0 e1 e2 e3 e4 e5 e6 : Nat × va_E} : ([0, 1, 2, 3, 4] : List Nat).map (fun i => ([e0, e1, e2, e3, e4, e5, e6] : va_W)[i]?) = ([e0, e1, e2, e3, e4] : va_W).map some := rfl
theorem ax_X6_firstFault_w_3 {D : va_G} {cl : List vw_C} {H : Heap} {e0 e1 f0 f1 f2 f3 f4 : Nat × va_E} (h : va_P D cl ((([e0, e1] : va_W) ++ ([f0, f1, f2, f3, f4] : va_W))) H) : va_P D cl (([e0, e1, f0, f1, f2, f3, f4] : va_W)) H := h
theorem ax_X6_firstFault_w_4 {A : Nat → Prop} {e0 e1 f0 f1 f2 f3 f4 : Nat × va_E} (h : va_D A ((([e0, e1] : va_W) ++ ([f0, f1, f2, f3, f4] : va_W)))) : va_D A (([e0, e1, f0, f1, f2, f3, f4] : va_W)) := h
theorem ax_X6_firstFault_w_5 {e0 e1 e2 e3 e4 e5 e6 : Nat × va_E} : ([2, 3, 4, 5, 6, 0, 1] : List Nat).map (fun i => ([e0, e1, e2, e3, e4, e5, e6] : va_W)[i]?) = ([e2, e3, e4, e5, e6, e0, e1] : va_W).map some := rfl
set_option maxHeartbeats 4000000 in
set_option maxRecDepth 100000 in
theorem c_X6_firstFault_w (l : Launch) (D : va_G) (sz : Nat) (ro : Nat) (i : Int) (k : Int) (h0 : Nat) (td : Nat) (du : Int) (k1 : Nat) (k2 : Nat) (k3 : Nat) (n : Int) (ck1 : ClassId) (fk : Nat → Int32) (ck2 : ClassId) (fb : Nat → Int32) (ck3 : ClassId) (fh : Nat → Int32) (r1 : Nat) (th : Int) (la : Int) (sz0 : Int) (cr1 : ClassId) (fr : Nat → Int32) (q0 : 0 ≤ i ∧ 0 ≤ k ∧ i + k ≤ sz0) (q1 : th = 1) (q2 : rg du) (q3 : 0 ≤ n ∧ n ≤ 4) (q4 : th = 0 ∨ th = 1) (q5 : rg la) (q6 : 0 ≤ sz0 ∧ sz0 ≤ 60) : Met l yX6_firstFault wsX6_firstFault ({ frames := 4, cells := 0, slots := 0, locals := 87 }) (kPre [.ref h0, .ref ro, .int (zI i), .int (zI k)] D [(h0, .inr (6, [.ref td, .int (zI du)])), (td, .inr (0, [.ref k1, .ref k2, .ref k3, .int (zI n)])), (k1, .inl (ck1, 4, .inl fk)), (k2, .inl (ck2, 4, .inl fb)), (k3, .inl (ck3, 4, .inl fh)), (ro, .inr (5, [.ref r1, .int (zI th), .int (zI la), .int (zI sz0)])), (r1, .inl (cr1, 60, .inl fr))] [(ck1, .int), (ck2, .int), (ck3, .int), (cr1, .int)] sz) (kQS (fun rz t => ∃ (ud : Int) (un : Int) (uk : Nat → Int32) (ub : Nat → Int32) (uh : Nat → Int32), (rg ud) ∧ (0 ≤ un ∧ un ≤ 4) ∧ (kFf (kCd fr i) fk fb fh k rz un uk ub uh) ∧ (rz = -9 ∨ (0 ≤ rz ∧ rz ≤ k)) ∧ va_P D vwCl [(h0, .inr (6, [.ref td, .int (zI ud)])), (td, .inr (0, [.ref k1, .ref k2, .ref k3, .int (zI un)])), (k1, .inl (ck1, 4, .inl uk)), (k2, .inl (ck2, 4, .inl ub)), (k3, .inl (ck3, 4, .inl uh)), (ro, .inr (5, [.ref r1, .int (zI th), .int (zI la), .int (zI sz0)])), (r1, .inl (cr1, 60, .inl fr))] t.heap ∧ va_D (va_A [(h0, .inr (6, [.ref td, .int (zI du)])), (td, .inr (0, [.ref k1, .ref k2, .ref k3, .int (zI n)])), (k1, .inl (ck1, 4, .inl fk)), (k2, .inl (ck2, 4, .inl fb)), (k3, .inl (ck3, 4, .inl fh)), (ro, .inr (5, [.ref r1, .int (zI th), .int (zI la), .int (zI sz0)])), (r1, .inl (cr1, 60, .inl fr))] sz) [(h0, .inr (6, [.ref td, .int (zI ud)])), (td, .inr (0, [.ref k1, .ref k2, .ref k3, .int (zI un)])), (k1, .inl (ck1, 4, .inl uk)), (k2, .inl (ck2, 4, .inl ub)), (k3, .inl (ck3, 4, .inl uh)), (ro, .inr (5, [.ref r1, .int (zI th), .int (zI la), .int (zI sz0)])), (r1, .inl (cr1, 60, .inl fr))]) (va_A [(h0, .inr (6, [.ref td, .int (zI du)])), (td, .inr (0, [.ref k1, .ref k2, .ref k3, .int (zI n)])), (k1, .inl (ck1, 4, .inl fk)), (k2, .inl (ck2, 4, .inl fb)), (k3, .inl (ck3, 4, .inl fh)), (ro, .inr (5, [.ref r1, .int (zI th), .int (zI la), .int (zI sz0)])), (r1, .inl (cr1, 60, .inl fr))] sz)) 0 0 (va_A [(h0, .inr (6, [.ref td, .int (zI du)])), (td, .inr (0, [.ref k1, .ref k2, .ref k3, .int (zI n)])), (k1, .inl (ck1, 4, .inl fk)), (k2, .inl (ck2, 4, .inl fb)), (k3, .inl (ck3, 4, .inl fh)), (ro, .inr (5, [.ref r1, .int (zI th), .int (zI la), .int (zI sz0)])), (r1, .inl (cr1, 60, .inl fr))] sz) := by
  refine Met.ofW (cc := cX6_firstFault) (maxL := 5) (ret := (some .int)) (by decide) rfl ?_
  intro p e s m args below meth c s₁ B hml hv
  obtain ⟨rfl, hsz, hP, hK, hD0, hN⟩ := hv
  have hx := B.exec
  have hb := B.bytes
  have hr := B.returns
  have hts := atoms_spec (ws := wsX6_firstFault) B.pre
  have hown : s.vm.findClass RX6 = some m.cls := findClass_of_methodNamed B.named
  have hlocks := B.notSynchronized
  subst hsz
  have hD := hD0.self (sz := s.heap.size)
  generalize hAe : va_A [(h0, .inr (6, [.ref td, .int (zI du)])), (td, .inr (0, [.ref k1, .ref k2, .ref k3, .int (zI n)])), (k1, .inl (ck1, 4, .inl fk)), (k2, .inl (ck2, 4, .inl fb)), (k3, .inl (ck3, 4, .inl fh)), (ro, .inr (5, [.ref r1, .int (zI th), .int (zI la), .int (zI sz0)])), (r1, .inl (cr1, 60, .inl fr))] s.heap.size = A at hD ⊢
  have hA : ∀ q : Nat, s.heap.size ≤ q → A q := fun q h => by rw [← hAe]; exact Or.inr h
  have hS : va_S A s.heap s.heap [] := va_S.rf
  have hP : va_P D vwCl [(h0, .inr (6, [.ref td, .int (zI du)])), (td, .inr (0, [.ref k1, .ref k2, .ref k3, .int (zI n)])), (k1, .inl (ck1, 4, .inl fk)), (k2, .inl (ck2, 4, .inl fb)), (k3, .inl (ck3, 4, .inl fh)), (ro, .inr (5, [.ref r1, .int (zI th), .int (zI la), .int (zI sz0)])), (r1, .inl (cr1, 60, .inl fr))] s.heap := hP
  have hl := lv_entry ([.ref h0, .ref ro, .int (zI i), .int (zI k)]) (n := 5) (Nat.le_of_ble_eq_true rfl)
  rw [lg_entry_eq]
  generalize (lg_sl ([.ref h0, .ref ro, .int (zI i), .int (zI k)]) ++ List.replicate (5 - (lg_sl ([.ref h0, .ref ro, .int (zI i), .int (zI k)])).length) Slot.unset).toArray = ls at hl ⊢
  have hl : lv_has ls 5 [(0, .ref h0), (1, .ref ro), (2, .int (zI i)), (3, .int (zI k))] := hl
  refine lv_aload_n hx hb dX6_firstFault_0 rfl (lv_at hl 0 rfl) ?_
  refine va_get (D := D) (ci := 6) (v := .ref td) (C := RX6) (T := TX6) (N := 2) hx hb hts (fun _ h9 => List.mem_cons_of_mem _ (List.mem_append_left _ (List.mem_append_left _ (List.mem_append_right _ h9)))) hown hK hP 0 rfl rfl 0 (by decide) (hts (.fieldLink RX6 12 "FontRuns$TextReader" "told" "LFontRuns$FontRow;") mw_X6_firstFault_w_0) (fun _ h9 => h9) rfl dX6_firstFault_1 ?_
  refine lv_iconst (v := zI 0) hx hb dX6_firstFault_4 rfl ?_
  refine va_put (D := D) (ci := 0) (v := .int (zI 0)) (ty := .int) (C := RX0) (T := TX0) (N := 4) hx hb hts (fun _ h9 => List.mem_cons_of_mem _ (List.mem_append_left _ (List.mem_append_right _ h9))) tyX0 tyX0_ok nmX0 hown hK hP hD hS 1 rfl rfl 3 (by decide) (hts (.fieldLink RX6 18 "FontRuns$FontRow" "count" "I") mw_X6_firstFault_w_1) (fun _ h9 => h9) rfl (by decide +kernel) rfl rfl (Nat.le_of_ble_eq_true rfl) dX6_firstFault_5 (fun H locs hP hD hS => ?_)
  have hP : va_P D vwCl [(h0, .inr (6, [.ref td, .int (zI du)])), (td, .inr (0, [.ref k1, .ref k2, .ref k3, .int (zI 0)])), (k1, .inl (ck1, 4, .inl fk)), (k2, .inl (ck2, 4, .inl fb)), (k3, .inl (ck3, 4, .inl fh)), (ro, .inr (5, [.ref r1, .int (zI th), .int (zI la), .int (zI sz0)])), (r1, .inl (cr1, 60, .inl fr))] H := hP
  have hD : va_D A [(h0, .inr (6, [.ref td, .int (zI du)])), (td, .inr (0, [.ref k1, .ref k2, .ref k3, .int (zI 0)])), (k1, .inl (ck1, 4, .inl fk)), (k2, .inl (ck2, 4, .inl fb)), (k3, .inl (ck3, 4, .inl fh)), (ro, .inr (5, [.ref r1, .int (zI th), .int (zI la), .int (zI sz0)])), (r1, .inl (cr1, 60, .inl fr))] := hD
  refine lv_aload_n hx hb dX6_firstFault_8 rfl (lv_at hl 0 rfl) ?_
  refine lv_iconst (v := zI 0) hx hb dX6_firstFault_9 rfl ?_
  refine va_put (D := D) (ci := 6) (v := .int (zI 0)) (ty := .int) (C := RX6) (T := TX6) (N := 2) hx hb hts (fun _ h9 => List.mem_cons_of_mem _ (List.mem_append_left _ (List.mem_append_left _ (List.mem_append_right _ h9)))) tyX6 tyX6_ok nmX6 hown hK hP hD hS 0 rfl rfl 1 (by decide) (hts (.fieldLink RX6 22 "FontRuns$TextReader" "due" "I") mw_X6_firstFault_w_2) (fun _ h9 => h9) rfl (by decide +kernel) rfl rfl (Nat.le_of_ble_eq_true rfl) dX6_firstFault_10 (fun H locs hP hD hS => ?_)
  have hP : va_P D vwCl [(h0, .inr (6, [.ref td, .int (zI 0)])), (td, .inr (0, [.ref k1, .ref k2, .ref k3, .int (zI 0)])), (k1, .inl (ck1, 4, .inl fk)), (k2, .inl (ck2, 4, .inl fb)), (k3, .inl (ck3, 4, .inl fh)), (ro, .inr (5, [.ref r1, .int (zI th), .int (zI la), .int (zI sz0)])), (r1, .inl (cr1, 60, .inl fr))] H := hP
  have hD : va_D A [(h0, .inr (6, [.ref td, .int (zI 0)])), (td, .inr (0, [.ref k1, .ref k2, .ref k3, .int (zI 0)])), (k1, .inl (ck1, 4, .inl fk)), (k2, .inl (ck2, 4, .inl fb)), (k3, .inl (ck3, 4, .inl fh)), (ro, .inr (5, [.ref r1, .int (zI th), .int (zI la), .int (zI sz0)])), (r1, .inl (cr1, 60, .inl fr))] := hD
  refine lv_iconst (v := zI 0) hx hb dX6_firstFault_13 rfl ?_
  refine lv_istore (lv' := [(4, .int (zI 0)), (0, .ref h0), (1, .ref ro), (2, .int (zI i)), (3, .int (zI k))]) hx hb dX6_firstFault_14 hl (by decide) rfl (fun ls hl => ?_)
  refine k_loopM (I := fun n9 H locs ls => ∃ (jk : Int) (jd : Int) (jn : Int) (ja : Nat → Int32) (jb : Nat → Int32) (jc : Nat → Int32), n9 = (k - jk).toNat ∧ (0 ≤ jk ∧ jk ≤ k) ∧ (kGo (kCd fr i) fk fb fh (kNa jk) = some (jd, jn, ja, jb, jc)) ∧ va_P D vwCl [(h0, .inr (6, [.ref td, .int (zI jd)])), (td, .inr (0, [.ref k1, .ref k2, .ref k3, .int (zI jn)])), (k1, .inl (ck1, 4, .inl ja)), (k2, .inl (ck2, 4, .inl jb)), (k3, .inl (ck3, 4, .inl jc)), (ro, .inr (5, [.ref r1, .int (zI th), .int (zI la), .int (zI sz0)])), (r1, .inl (cr1, 60, .inl fr))] H ∧ va_D A [(h0, .inr (6, [.ref td, .int (zI jd)])), (td, .inr (0, [.ref k1, .ref k2, .ref k3, .int (zI jn)])), (k1, .inl (ck1, 4, .inl ja)), (k2, .inl (ck2, 4, .inl jb)), (k3, .inl (ck3, 4, .inl jc)), (ro, .inr (5, [.ref r1, .int (zI th), .int (zI la), .int (zI sz0)])), (r1, .inl (cr1, 60, .inl fr))] ∧ va_S A s.heap H locs ∧ lv_has ls 5 [(4, .int (zI jk)), (0, .ref h0), (1, .ref ro), (2, .int (zI i)), (3, .int (zI k))]) ?_ _ ⟨0, 0, 0, fk, fb, fh, rfl, (by omega), kGo_0, hP, hD, hS, hl⟩
  intro n16 ih16 H locs ls hI
  obtain ⟨jk, jd, jn, ja, jb, jc, en16, v_160, v_161, hP, hD, hS, hl⟩ := hI
  have o9 := kGo_b v_161
  have o1 := o9.1
  have o2 := o9.2.1
  refine lv_iload hx hb dX6_firstFault_16 (lv_at hl 0 rfl) ?_
  refine lv_iload_n hx hb dX6_firstFault_18 rfl (lv_at hl 4 rfl) ?_
  refine kz_icmp_ge (tgt := 46) hx hb dX6_firstFault_19 (by decide) (by omega) (by omega) (fun c_1 => ?_) (fun c_1 => ?_)
  · refine lv_aload_n hx hb dX6_firstFault_46 rfl (lv_at hl 1 rfl) ?_
    refine va_get (D := D) (ci := 6) (v := .int (zI jd)) (C := RX6) (T := TX6) (N := 2) hx hb hts (fun _ h9 => List.mem_cons_of_mem _ (List.mem_append_left _ (List.mem_append_left _ (List.mem_append_right _ h9)))) hown hK hP 0 rfl rfl 1 (by decide) (hts (.fieldLink RX6 22 "FontRuns$TextReader" "due" "I") mw_X6_firstFault_w_2) (fun _ h9 => h9) rfl dX6_firstFault_47 ?_
    refine lv_iconst (v := zI 5) hx hb dX6_firstFault_50 rfl ?_
    refine kz_icmp_ne (tgt := 59) hx hb dX6_firstFault_51 (by decide) (by omega) (by omega) (fun c_2 => ?_) (fun c_2 => ?_)
    · refine lv_iload_n hx hb dX6_firstFault_59 rfl (lv_at hl 4 rfl) ?_
      have hP9 := hP.sub (ws' := [(h0, .inr (6, [.ref td, .int (zI jd)])), (td, .inr (0, [.ref k1, .ref k2, .ref k3, .int (zI jn)])), (k1, .inl (ck1, 4, .inl ja)), (k2, .inl (ck2, 4, .inl jb)), (k3, .inl (ck3, 4, .inl jc)), (ro, .inr (5, [.ref r1, .int (zI th), .int (zI la), .int (zI sz0)])), (r1, .inl (cr1, 60, .inl fr))]) [0, 1, 2, 3, 4, 5, 6] rfl
      have hD9 := hD.sub (ws' := [(h0, .inr (6, [.ref td, .int (zI jd)])), (td, .inr (0, [.ref k1, .ref k2, .ref k3, .int (zI jn)])), (k1, .inl (ck1, 4, .inl ja)), (k2, .inl (ck2, 4, .inl jb)), (k3, .inl (ck3, 4, .inl jc)), (ro, .inr (5, [.ref r1, .int (zI th), .int (zI la), .int (zI sz0)])), (r1, .inl (cr1, 60, .inl fr))]) [0, 1, 2, 3, 4, 5, 6] (by decide +kernel) rfl
      exact W.iret (v := (zI k)) hx hb hr (fun t ht hW => kQS_of (by omega) ⟨jd, jn, ja, jb, jc, (by omega), (by omega), (kFf_3 v_161 (by omega) (by omega) (by omega) (by omega)), (by omega), by rw [ht]; exact hP9, hD9⟩ (hS.F ht)) hS.2.2 dX6_firstFault_60
    · refine lv_bipush (v := zI (-9)) hx hb dX6_firstFault_54 (by decide) ?_
      refine lv_goto (tgt := 60) hx hb dX6_firstFault_56 (by decide) ?_
      have hP9 := hP.sub (ws' := [(h0, .inr (6, [.ref td, .int (zI jd)])), (td, .inr (0, [.ref k1, .ref k2, .ref k3, .int (zI jn)])), (k1, .inl (ck1, 4, .inl ja)), (k2, .inl (ck2, 4, .inl jb)), (k3, .inl (ck3, 4, .inl jc)), (ro, .inr (5, [.ref r1, .int (zI th), .int (zI la), .int (zI sz0)])), (r1, .inl (cr1, 60, .inl fr))]) [0, 1, 2, 3, 4, 5, 6] rfl
      have hD9 := hD.sub (ws' := [(h0, .inr (6, [.ref td, .int (zI jd)])), (td, .inr (0, [.ref k1, .ref k2, .ref k3, .int (zI jn)])), (k1, .inl (ck1, 4, .inl ja)), (k2, .inl (ck2, 4, .inl jb)), (k3, .inl (ck3, 4, .inl jc)), (ro, .inr (5, [.ref r1, .int (zI th), .int (zI la), .int (zI sz0)])), (r1, .inl (cr1, 60, .inl fr))]) [0, 1, 2, 3, 4, 5, 6] (by decide +kernel) rfl
      exact W.iret (v := (zI (-9))) hx hb hr (fun t ht hW => kQS_of (by omega) ⟨jd, jn, ja, jb, jc, (by omega), (by omega), (kFf_2 v_161 (by omega) (by omega) (by omega)), (by omega), by rw [ht]; exact hP9, hD9⟩ (hS.F ht)) hS.2.2 dX6_firstFault_60
  · refine lv_aload_n hx hb dX6_firstFault_22 rfl (lv_at hl 1 rfl) ?_
    refine lv_aload_n hx hb dX6_firstFault_23 rfl (lv_at hl 2 rfl) ?_
    refine lv_iload_n hx hb dX6_firstFault_24 rfl (lv_at hl 3 rfl) ?_
    refine lv_iload hx hb dX6_firstFault_25 (lv_at hl 0 rfl) ?_
    refine kz_iadd hx hb dX6_firstFault_27 ?_
    refine k_callR (va_runV (As := [.int (zI (i + jk))]) (rest := [.ref h0]) ⟨hx, hb, hml, hown, hts⟩ (c_X5_at_v l D H.size (i := (i + jk)) (h0 := ro) (r1 := r1) (th := th) (la := la) (n := sz0) (cr1 := cr1) (fr := fr) (by omega) q4 q5 q6) (cwV 1 hts gX6_firstFault_X5_at rfl rfl rfl (by decide +kernel) ⟨Nat.le_of_ble_eq_true rfl, Nat.le_of_ble_eq_true rfl⟩) (kPreV hP (kD0 hD) hK hN [5, 6] [3] ax_X6_firstFault_w_1 rfl (by decide +kernel) 5 5 rfl rfl) rfl rfl hl.1 rfl (lv_room (Nat.le_of_ble_eq_true rfl)) dX6_firstFault_28 ⟨Nat.le_of_ble_eq_true rfl, Nat.le_of_ble_eq_true rfl⟩) ?_
    refine kz_any (fun z_3 rz_3 ez_3 => ?_)
    have hFc := va_free (wc := [(h0, .inr (6, [.ref td, .int (zI jd)])), (td, .inr (0, [.ref k1, .ref k2, .ref k3, .int (zI jn)])), (k1, .inl (ck1, 4, .inl ja)), (k2, .inl (ck2, 4, .inl jb)), (k3, .inl (ck3, 4, .inl jc))]) hD hS hA [0, 1, 2, 3, 4] ax_X6_firstFault_w_2
    refine va_calli (va_runV (As := [.int (zI z_3)]) (rest := []) ⟨hx, hb, hml, hown, hts⟩ (c_X6_goesOnWith_w l D H.size (x := z_3) (h0 := h0) (td := td) (du := jd) (k1 := k1) (k2 := k2) (k3 := k3) (n := jn) (ck1 := ck1) (fk := ja) (ck2 := ck2) (fb := jb) (ck3 := ck3) (fh := jc) (by omega) (by omega) (by omega) o9.2.2) (cwV 1 hts gX6_firstFault_X6_goesOnWith rfl rfl rfl (by decide +kernel) ⟨Nat.le_of_ble_eq_true rfl, Nat.le_of_ble_eq_true rfl⟩) (kPreV hP (kD0 hD) hK hN [0, 1, 2, 3, 4] [0, 1, 2] ax_X6_firstFault_w_2 rfl (by decide +kernel) 0 6 rfl rfl) rfl rfl hl.1 rfl (lv_room (Nat.le_of_ble_eq_true rfl)) dX6_firstFault_31 ⟨Nat.le_of_ble_eq_true rfl, Nat.le_of_ble_eq_true rfl⟩) hS (fun q _ h => hFc q h) hFc (fun r u t H1 locs ht hvm hw hB hz1 hk1 hS => ?_)
    obtain ⟨z_9, e9⟩ : ∃ z, z = u := ⟨_, rfl⟩
    subst e9
    obtain ⟨rfl, rz_9⟩ := hw
    refine Exists.elim hB (fun ud_4 hB1 => Exists.elim hB1 (fun un_5 hB2 => Exists.elim hB2 (fun uk_6 hB3 => Exists.elim hB3 (fun ub_7 hB4 => Exists.elim hB4 (fun uh_8 hB5 => ?_)))))
    have h_10 := hB5.1
    have h_11 := hB5.2.1
    have h_12 := hB5.2.2.1
    have h_13 := hB5.2.2.2.1
    have hP1 := hB5.2.2.2.2.1
    have hD1 := hB5.2.2.2.2.2
    clear hB hB1 hB2 hB3 hB4 hB5
    rw [ht] at hP1
    obtain ⟨hP, hD⟩ := va_join (wr := [(ro, .inr (5, [.ref r1, .int (zI th), .int (zI la), .int (zI sz0)])), (r1, .inl (cr1, 60, .inl fr))]) (w1 := [(h0, .inr (6, [.ref td, .int (zI ud_4)])), (td, .inr (0, [.ref k1, .ref k2, .ref k3, .int (zI un_5)])), (k1, .inl (ck1, 4, .inl uk_6)), (k2, .inl (ck2, 4, .inl ub_7)), (k3, .inl (ck3, 4, .inl uh_8))]) hP hD [0, 1, 2, 3, 4] [5, 6] ax_X6_firstFault_w_2 ax_X6_firstFault_w_1 (by decide +kernel) (by decide +kernel) hk1 hFc hP1 hD1
    have hP := ax_X6_firstFault_w_3 hP
    have hD := ax_X6_firstFault_w_4 hD
    generalize H1 = H at hP hS ⊢
    have hP : va_P D vwCl [(ro, .inr (5, [.ref r1, .int (zI th), .int (zI la), .int (zI sz0)])), (r1, .inl (cr1, 60, .inl fr)), (h0, .inr (6, [.ref td, .int (zI ud_4)])), (td, .inr (0, [.ref k1, .ref k2, .ref k3, .int (zI un_5)])), (k1, .inl (ck1, 4, .inl uk_6)), (k2, .inl (ck2, 4, .inl ub_7)), (k3, .inl (ck3, 4, .inl uh_8))] H := hP
    have hD : va_D A [(ro, .inr (5, [.ref r1, .int (zI th), .int (zI la), .int (zI sz0)])), (r1, .inl (cr1, 60, .inl fr)), (h0, .inr (6, [.ref td, .int (zI ud_4)])), (td, .inr (0, [.ref k1, .ref k2, .ref k3, .int (zI un_5)])), (k1, .inl (ck1, 4, .inl uk_6)), (k2, .inl (ck2, 4, .inl ub_7)), (k3, .inl (ck3, 4, .inl uh_8))] := hD
    refine kz_if_ne (tgt := 40) hx hb dX6_firstFault_34 (by decide) (by omega) (fun c_14 => ?_) (fun c_14 => ?_)
    · refine lv_iinc (v := (zI (jk + 1))) (lv' := [(4, .int (zI (jk + 1))), (0, .ref h0), (1, .ref ro), (2, .int (zI i)), (3, .int (zI k))]) hx hb dX6_firstFault_40 hl (k := 0) rfl (kz_inc _ 1) (by decide) rfl (fun ls hl => ?_)
      refine lv_goto (tgt := 16) hx hb dX6_firstFault_43 (by decide) ?_
      exact ih16 _ (by omega) _ _ _ ⟨(jk + 1), ud_4, un_5, uk_6, ub_7, uh_8, rfl, (by omega), (kGo_st v_161 (by omega) ez_3 rz_3 (by omega) h_10 (by omega)), (hP.sub [2, 3, 4, 5, 6, 0, 1] rfl), (hD.sub [2, 3, 4, 5, 6, 0, 1] (by decide) rfl), hS, lv_sub hl [0, 1, 2, 3, 4] rfl⟩
    · refine lv_iload hx hb dX6_firstFault_37 (lv_at hl 0 rfl) ?_
      have hP9 := hP.sub (ws' := [(h0, .inr (6, [.ref td, .int (zI ud_4)])), (td, .inr (0, [.ref k1, .ref k2, .ref k3, .int (zI un_5)])), (k1, .inl (ck1, 4, .inl uk_6)), (k2, .inl (ck2, 4, .inl ub_7)), (k3, .inl (ck3, 4, .inl uh_8)), (ro, .inr (5, [.ref r1, .int (zI th), .int (zI la), .int (zI sz0)])), (r1, .inl (cr1, 60, .inl fr))]) [2, 3, 4, 5, 6, 0, 1] rfl
      have hD9 := hD.sub (ws' := [(h0, .inr (6, [.ref td, .int (zI ud_4)])), (td, .inr (0, [.ref k1, .ref k2, .ref k3, .int (zI un_5)])), (k1, .inl (ck1, 4, .inl uk_6)), (k2, .inl (ck2, 4, .inl ub_7)), (k3, .inl (ck3, 4, .inl uh_8)), (ro, .inr (5, [.ref r1, .int (zI th), .int (zI la), .int (zI sz0)])), (r1, .inl (cr1, 60, .inl fr))]) [2, 3, 4, 5, 6, 0, 1] (by decide +kernel) rfl
      exact W.iret (v := (zI jk)) hx hb hr (fun t ht hW => kQS_of (by omega) ⟨ud_4, un_5, uk_6, ub_7, uh_8, h_12, h_13, (kFf_1 v_161 (by omega) ez_3 rz_3 (by omega) h_10 (by omega)), (by omega), by rw [ht]; exact hP9, hD9⟩ (hS.F ht)) hS.2.2 dX6_firstFault_39
set_option maxRecDepth 20000 in
theorem mw_X0_takeFrom_w_0 : (.fieldLink RX0 21 "FontRuns$FontRow" "count" "I" : Cond) ∈ wsX0_takeFrom := List.mem_cons_of_mem _ (List.mem_append_left _ (List.mem_of_getElem? (i := 0) rfl))
set_option maxRecDepth 20000 in
theorem mw_X0_takeFrom_w_1 : (.fieldLink RX0 9 "FontRuns$FontRow" "kind" "[I" : Cond) ∈ wsX0_takeFrom := List.mem_cons_of_mem _ (List.mem_append_left _ (List.mem_of_getElem? (i := 1) rfl))
set_option maxRecDepth 20000 in
theorem mw_X0_takeFrom_w_2 : (.fieldLink RX0 15 "FontRuns$FontRow" "breadth" "[I" : Cond) ∈ wsX0_takeFrom := List.mem_cons_of_mem _ (List.mem_append_left _ (List.mem_of_getElem? (i := 2) rfl))
set_option maxRecDepth 20000 in
theorem mw_X0_takeFrom_w_3 : (.fieldLink RX0 18 "FontRuns$FontRow" "has" "[I" : Cond) ∈ wsX0_takeFrom := List.mem_cons_of_mem _ (List.mem_append_left _ (List.mem_of_getElem? (i := 3) rfl))
theorem ax_X0_takeFrom_w_0 {e0 e1 e2 e3 e4 e5 e6 e7 : Nat × va_E} : ([0, 1, 2, 3, 4, 5, 6, 7] : List Nat).map (fun i => ([e0, e1, e2, e3, e4, e5, e6, e7] : va_W)[i]?) = ([e0, e1, e2, e3, e4, e5, e6, e7] : va_W).map some := rfl
set_option maxHeartbeats 4000000 in
set_option maxRecDepth 100000 in
theorem c_X0_takeFrom_w (l : Launch) (D : va_G) (sz : Nat) (h1 : Nat) (h0 : Nat) (k1 : Nat) (k2 : Nat) (k3 : Nat) (n : Int) (ck1 : ClassId) (fk : Nat → Int32) (ck2 : ClassId) (fb : Nat → Int32) (ck3 : ClassId) (fh : Nat → Int32) (m1 : Nat) (m2 : Nat) (m3 : Nat) (n2 : Int) (cm1 : ClassId) (gk : Nat → Int32) (cm2 : ClassId) (gb : Nat → Int32) (cm3 : ClassId) (gh : Nat → Int32) (q0 : 0 ≤ n2 ∧ n2 ≤ 4) : Met l yX0_takeFrom wsX0_takeFrom ({ frames := 0, cells := 0, slots := 0, locals := 0 }) (kPre [.ref h0, .ref h1] D [(h0, .inr (0, [.ref k1, .ref k2, .ref k3, .int (zI n)])), (k1, .inl (ck1, 4, .inl fk)), (k2, .inl (ck2, 4, .inl fb)), (k3, .inl (ck3, 4, .inl fh)), (h1, .inr (0, [.ref m1, .ref m2, .ref m3, .int (zI n2)])), (m1, .inl (cm1, 4, .inl gk)), (m2, .inl (cm2, 4, .inl gb)), (m3, .inl (cm3, 4, .inl gh))] [(ck1, .int), (ck2, .int), (ck3, .int), (cm1, .int), (cm2, .int), (cm3, .int)] sz) (kQV (fun t => ∃ (un : Int) (uk : Nat → Int32) (ub : Nat → Int32) (uh : Nat → Int32), (un = n2) ∧ (kEq uk gk 4) ∧ (kEq ub gb 4) ∧ (kEq uh gh 4) ∧ va_P D vwCl [(h0, .inr (0, [.ref k1, .ref k2, .ref k3, .int (zI un)])), (k1, .inl (ck1, 4, .inl uk)), (k2, .inl (ck2, 4, .inl ub)), (k3, .inl (ck3, 4, .inl uh)), (h1, .inr (0, [.ref m1, .ref m2, .ref m3, .int (zI n2)])), (m1, .inl (cm1, 4, .inl gk)), (m2, .inl (cm2, 4, .inl gb)), (m3, .inl (cm3, 4, .inl gh))] t.heap ∧ va_D (va_A [(h0, .inr (0, [.ref k1, .ref k2, .ref k3, .int (zI n)])), (k1, .inl (ck1, 4, .inl fk)), (k2, .inl (ck2, 4, .inl fb)), (k3, .inl (ck3, 4, .inl fh)), (h1, .inr (0, [.ref m1, .ref m2, .ref m3, .int (zI n2)])), (m1, .inl (cm1, 4, .inl gk)), (m2, .inl (cm2, 4, .inl gb)), (m3, .inl (cm3, 4, .inl gh))] sz) [(h0, .inr (0, [.ref k1, .ref k2, .ref k3, .int (zI un)])), (k1, .inl (ck1, 4, .inl uk)), (k2, .inl (ck2, 4, .inl ub)), (k3, .inl (ck3, 4, .inl uh)), (h1, .inr (0, [.ref m1, .ref m2, .ref m3, .int (zI n2)])), (m1, .inl (cm1, 4, .inl gk)), (m2, .inl (cm2, 4, .inl gb)), (m3, .inl (cm3, 4, .inl gh))]) (va_A [(h0, .inr (0, [.ref k1, .ref k2, .ref k3, .int (zI n)])), (k1, .inl (ck1, 4, .inl fk)), (k2, .inl (ck2, 4, .inl fb)), (k3, .inl (ck3, 4, .inl fh)), (h1, .inr (0, [.ref m1, .ref m2, .ref m3, .int (zI n2)])), (m1, .inl (cm1, 4, .inl gk)), (m2, .inl (cm2, 4, .inl gb)), (m3, .inl (cm3, 4, .inl gh))] sz)) 0 0 (va_A [(h0, .inr (0, [.ref k1, .ref k2, .ref k3, .int (zI n)])), (k1, .inl (ck1, 4, .inl fk)), (k2, .inl (ck2, 4, .inl fb)), (k3, .inl (ck3, 4, .inl fh)), (h1, .inr (0, [.ref m1, .ref m2, .ref m3, .int (zI n2)])), (m1, .inl (cm1, 4, .inl gk)), (m2, .inl (cm2, 4, .inl gb)), (m3, .inl (cm3, 4, .inl gh))] sz) := by
  refine Met.ofW (cc := cX0_takeFrom) (maxL := 3) (ret := none) (by decide) rfl ?_
  intro p e s m args below meth c s₁ B hml hv
  obtain ⟨rfl, hsz, hP, hK, hD0, hN⟩ := hv
  have hx := B.exec
  have hb := B.bytes
  have hr := B.returns
  have hts := atoms_spec (ws := wsX0_takeFrom) B.pre
  have hown : s.vm.findClass RX0 = some m.cls := findClass_of_methodNamed B.named
  have hlocks := B.notSynchronized
  subst hsz
  have hD := hD0.self (sz := s.heap.size)
  generalize hAe : va_A [(h0, .inr (0, [.ref k1, .ref k2, .ref k3, .int (zI n)])), (k1, .inl (ck1, 4, .inl fk)), (k2, .inl (ck2, 4, .inl fb)), (k3, .inl (ck3, 4, .inl fh)), (h1, .inr (0, [.ref m1, .ref m2, .ref m3, .int (zI n2)])), (m1, .inl (cm1, 4, .inl gk)), (m2, .inl (cm2, 4, .inl gb)), (m3, .inl (cm3, 4, .inl gh))] s.heap.size = A at hD ⊢
  have hA : ∀ q : Nat, s.heap.size ≤ q → A q := fun q h => by rw [← hAe]; exact Or.inr h
  have hS : va_S A s.heap s.heap [] := va_S.rf
  have hP : va_P D vwCl [(h0, .inr (0, [.ref k1, .ref k2, .ref k3, .int (zI n)])), (k1, .inl (ck1, 4, .inl fk)), (k2, .inl (ck2, 4, .inl fb)), (k3, .inl (ck3, 4, .inl fh)), (h1, .inr (0, [.ref m1, .ref m2, .ref m3, .int (zI n2)])), (m1, .inl (cm1, 4, .inl gk)), (m2, .inl (cm2, 4, .inl gb)), (m3, .inl (cm3, 4, .inl gh))] s.heap := hP
  have hl := lv_entry ([.ref h0, .ref h1]) (n := 3) (Nat.le_of_ble_eq_true rfl)
  rw [lg_entry_eq]
  generalize (lg_sl ([.ref h0, .ref h1]) ++ List.replicate (3 - (lg_sl ([.ref h0, .ref h1])).length) Slot.unset).toArray = ls at hl ⊢
  have hl : lv_has ls 3 [(0, .ref h0), (1, .ref h1)] := hl
  refine lv_aload_n hx hb dX0_takeFrom_0 rfl (lv_at hl 0 rfl) ?_
  refine lv_aload_n hx hb dX0_takeFrom_1 rfl (lv_at hl 1 rfl) ?_
  refine va_get (D := D) (ci := 0) (v := .int (zI n2)) (C := RX0) (T := TX0) (N := 4) hx hb hts (fun _ h9 => List.mem_cons_of_mem _ (List.mem_append_right _ h9)) hown hK hP 4 rfl rfl 3 (by decide) (hts (.fieldLink RX0 21 "FontRuns$FontRow" "count" "I") mw_X0_takeFrom_w_0) (fun _ h9 => h9) rfl dX0_takeFrom_2 ?_
  refine va_put (D := D) (ci := 0) (v := .int (zI n2)) (ty := .int) (C := RX0) (T := TX0) (N := 4) hx hb hts (fun _ h9 => List.mem_cons_of_mem _ (List.mem_append_right _ h9)) tyX0 tyX0_ok nmX0 hown hK hP hD hS 0 rfl rfl 3 (by decide) (hts (.fieldLink RX0 21 "FontRuns$FontRow" "count" "I") mw_X0_takeFrom_w_0) (fun _ h9 => h9) rfl (by decide +kernel) rfl rfl (Nat.le_of_ble_eq_true rfl) dX0_takeFrom_5 (fun H locs hP hD hS => ?_)
  have hP : va_P D vwCl [(h0, .inr (0, [.ref k1, .ref k2, .ref k3, .int (zI n2)])), (k1, .inl (ck1, 4, .inl fk)), (k2, .inl (ck2, 4, .inl fb)), (k3, .inl (ck3, 4, .inl fh)), (h1, .inr (0, [.ref m1, .ref m2, .ref m3, .int (zI n2)])), (m1, .inl (cm1, 4, .inl gk)), (m2, .inl (cm2, 4, .inl gb)), (m3, .inl (cm3, 4, .inl gh))] H := hP
  have hD : va_D A [(h0, .inr (0, [.ref k1, .ref k2, .ref k3, .int (zI n2)])), (k1, .inl (ck1, 4, .inl fk)), (k2, .inl (ck2, 4, .inl fb)), (k3, .inl (ck3, 4, .inl fh)), (h1, .inr (0, [.ref m1, .ref m2, .ref m3, .int (zI n2)])), (m1, .inl (cm1, 4, .inl gk)), (m2, .inl (cm2, 4, .inl gb)), (m3, .inl (cm3, 4, .inl gh))] := hD
  refine lv_iconst (v := zI 0) hx hb dX0_takeFrom_8 rfl ?_
  refine lv_istore_n (lv' := [(2, .int (zI 0)), (0, .ref h0), (1, .ref h1)]) hx hb dX0_takeFrom_9 rfl hl (by decide) rfl (fun ls hl => ?_)
  refine k_loopM (I := fun n9 H locs ls => ∃ (jk : Int) (ja : Nat → Int32) (jb : Nat → Int32) (jc : Nat → Int32), n9 = (4 - jk).toNat ∧ (0 ≤ jk ∧ jk ≤ 4) ∧ (kEq ja gk jk) ∧ (kEq jb gb jk) ∧ (kEq jc gh jk) ∧ va_P D vwCl [(h0, .inr (0, [.ref k1, .ref k2, .ref k3, .int (zI n2)])), (k1, .inl (ck1, 4, .inl ja)), (k2, .inl (ck2, 4, .inl jb)), (k3, .inl (ck3, 4, .inl jc)), (h1, .inr (0, [.ref m1, .ref m2, .ref m3, .int (zI n2)])), (m1, .inl (cm1, 4, .inl gk)), (m2, .inl (cm2, 4, .inl gb)), (m3, .inl (cm3, 4, .inl gh))] H ∧ va_D A [(h0, .inr (0, [.ref k1, .ref k2, .ref k3, .int (zI n2)])), (k1, .inl (ck1, 4, .inl ja)), (k2, .inl (ck2, 4, .inl jb)), (k3, .inl (ck3, 4, .inl jc)), (h1, .inr (0, [.ref m1, .ref m2, .ref m3, .int (zI n2)])), (m1, .inl (cm1, 4, .inl gk)), (m2, .inl (cm2, 4, .inl gb)), (m3, .inl (cm3, 4, .inl gh))] ∧ va_S A s.heap H locs ∧ lv_has ls 3 [(2, .int (zI jk)), (0, .ref h0), (1, .ref h1)]) ?_ _ ⟨0, fk, fb, fh, rfl, (by omega), kEq_0, kEq_0, kEq_0, hP, hD, hS, hl⟩
  intro n10 ih10 H locs ls hI
  obtain ⟨jk, ja, jb, jc, en10, v_100, v_101, v_102, v_103, hP, hD, hS, hl⟩ := hI
  refine lv_iload_n hx hb dX0_takeFrom_10 rfl (lv_at hl 0 rfl) ?_
  refine lv_iconst (v := zI 4) hx hb dX0_takeFrom_11 rfl ?_
  refine kz_icmp_ge (tgt := 57) hx hb dX0_takeFrom_12 (by decide) (by omega) (by omega) (fun c_1 => ?_) (fun c_1 => ?_)
  · have hP9 := hP.sub (ws' := [(h0, .inr (0, [.ref k1, .ref k2, .ref k3, .int (zI n2)])), (k1, .inl (ck1, 4, .inl ja)), (k2, .inl (ck2, 4, .inl jb)), (k3, .inl (ck3, 4, .inl jc)), (h1, .inr (0, [.ref m1, .ref m2, .ref m3, .int (zI n2)])), (m1, .inl (cm1, 4, .inl gk)), (m2, .inl (cm2, 4, .inl gb)), (m3, .inl (cm3, 4, .inl gh))]) [0, 1, 2, 3, 4, 5, 6, 7] rfl
    have hD9 := hD.sub (ws' := [(h0, .inr (0, [.ref k1, .ref k2, .ref k3, .int (zI n2)])), (k1, .inl (ck1, 4, .inl ja)), (k2, .inl (ck2, 4, .inl jb)), (k3, .inl (ck3, 4, .inl jc)), (h1, .inr (0, [.ref m1, .ref m2, .ref m3, .int (zI n2)])), (m1, .inl (cm1, 4, .inl gk)), (m2, .inl (cm2, 4, .inl gb)), (m3, .inl (cm3, 4, .inl gh))]) [0, 1, 2, 3, 4, 5, 6, 7] (by decide +kernel) rfl
    exact W.vret hx hb hr (fun t ht hW => kQV_of ⟨n2, ja, jb, jc, (by omega), (kEq_le v_101 (by omega)), (kEq_le v_102 (by omega)), (kEq_le v_103 (by omega)), by rw [ht]; exact hP9, hD9⟩ (hS.F ht)) hS.2.2 dX0_takeFrom_57
  · refine lv_aload_n hx hb dX0_takeFrom_15 rfl (lv_at hl 1 rfl) ?_
    refine va_get (D := D) (ci := 0) (v := .ref k1) (C := RX0) (T := TX0) (N := 4) hx hb hts (fun _ h9 => List.mem_cons_of_mem _ (List.mem_append_right _ h9)) hown hK hP 0 rfl rfl 0 (by decide) (hts (.fieldLink RX0 9 "FontRuns$FontRow" "kind" "[I") mw_X0_takeFrom_w_1) (fun _ h9 => h9) rfl dX0_takeFrom_16 ?_
    refine lv_iload_n hx hb dX0_takeFrom_19 rfl (lv_at hl 0 rfl) ?_
    refine lv_aload_n hx hb dX0_takeFrom_20 rfl (lv_at hl 2 rfl) ?_
    refine va_get (D := D) (ci := 0) (v := .ref m1) (C := RX0) (T := TX0) (N := 4) hx hb hts (fun _ h9 => List.mem_cons_of_mem _ (List.mem_append_right _ h9)) hown hK hP 4 rfl rfl 0 (by decide) (hts (.fieldLink RX0 9 "FontRuns$FontRow" "kind" "[I") mw_X0_takeFrom_w_1) (fun _ h9 => h9) rfl dX0_takeFrom_21 ?_
    refine lv_iload_n hx hb dX0_takeFrom_24 rfl (lv_at hl 0 rfl) ?_
    refine kz_iald hx hb hK hP 5 3 rfl rfl (by omega) dX0_takeFrom_25 (fun z_2 rz_2 ez_2 => ?_)
    refine kz_iast hx hb hK hP hD hS 1 0 rfl rfl (by omega) dX0_takeFrom_26 (fun H locs hP hD hS => ?_)
    have hP : va_P D vwCl [(h0, .inr (0, [.ref k1, .ref k2, .ref k3, .int (zI n2)])), (k1, .inl (ck1, 4, .inl (upd ja (jk).toNat (zI z_2)))), (k2, .inl (ck2, 4, .inl jb)), (k3, .inl (ck3, 4, .inl jc)), (h1, .inr (0, [.ref m1, .ref m2, .ref m3, .int (zI n2)])), (m1, .inl (cm1, 4, .inl gk)), (m2, .inl (cm2, 4, .inl gb)), (m3, .inl (cm3, 4, .inl gh))] H := hP
    have hD : va_D A [(h0, .inr (0, [.ref k1, .ref k2, .ref k3, .int (zI n2)])), (k1, .inl (ck1, 4, .inl (upd ja (jk).toNat (zI z_2)))), (k2, .inl (ck2, 4, .inl jb)), (k3, .inl (ck3, 4, .inl jc)), (h1, .inr (0, [.ref m1, .ref m2, .ref m3, .int (zI n2)])), (m1, .inl (cm1, 4, .inl gk)), (m2, .inl (cm2, 4, .inl gb)), (m3, .inl (cm3, 4, .inl gh))] := hD
    generalize ef_3 : upd ja (jk).toNat (zI z_2) = f_3 at hP hD
    refine lv_aload_n hx hb dX0_takeFrom_27 rfl (lv_at hl 1 rfl) ?_
    refine va_get (D := D) (ci := 0) (v := .ref k2) (C := RX0) (T := TX0) (N := 4) hx hb hts (fun _ h9 => List.mem_cons_of_mem _ (List.mem_append_right _ h9)) hown hK hP 0 rfl rfl 1 (by decide) (hts (.fieldLink RX0 15 "FontRuns$FontRow" "breadth" "[I") mw_X0_takeFrom_w_2) (fun _ h9 => h9) rfl dX0_takeFrom_28 ?_
    refine lv_iload_n hx hb dX0_takeFrom_31 rfl (lv_at hl 0 rfl) ?_
    refine lv_aload_n hx hb dX0_takeFrom_32 rfl (lv_at hl 2 rfl) ?_
    refine va_get (D := D) (ci := 0) (v := .ref m2) (C := RX0) (T := TX0) (N := 4) hx hb hts (fun _ h9 => List.mem_cons_of_mem _ (List.mem_append_right _ h9)) hown hK hP 4 rfl rfl 1 (by decide) (hts (.fieldLink RX0 15 "FontRuns$FontRow" "breadth" "[I") mw_X0_takeFrom_w_2) (fun _ h9 => h9) rfl dX0_takeFrom_33 ?_
    refine lv_iload_n hx hb dX0_takeFrom_36 rfl (lv_at hl 0 rfl) ?_
    refine kz_iald hx hb hK hP 6 4 rfl rfl (by omega) dX0_takeFrom_37 (fun z_4 rz_4 ez_4 => ?_)
    refine kz_iast hx hb hK hP hD hS 2 1 rfl rfl (by omega) dX0_takeFrom_38 (fun H locs hP hD hS => ?_)
    have hP : va_P D vwCl [(h0, .inr (0, [.ref k1, .ref k2, .ref k3, .int (zI n2)])), (k1, .inl (ck1, 4, .inl f_3)), (k2, .inl (ck2, 4, .inl (upd jb (jk).toNat (zI z_4)))), (k3, .inl (ck3, 4, .inl jc)), (h1, .inr (0, [.ref m1, .ref m2, .ref m3, .int (zI n2)])), (m1, .inl (cm1, 4, .inl gk)), (m2, .inl (cm2, 4, .inl gb)), (m3, .inl (cm3, 4, .inl gh))] H := hP
    have hD : va_D A [(h0, .inr (0, [.ref k1, .ref k2, .ref k3, .int (zI n2)])), (k1, .inl (ck1, 4, .inl f_3)), (k2, .inl (ck2, 4, .inl (upd jb (jk).toNat (zI z_4)))), (k3, .inl (ck3, 4, .inl jc)), (h1, .inr (0, [.ref m1, .ref m2, .ref m3, .int (zI n2)])), (m1, .inl (cm1, 4, .inl gk)), (m2, .inl (cm2, 4, .inl gb)), (m3, .inl (cm3, 4, .inl gh))] := hD
    generalize ef_5 : upd jb (jk).toNat (zI z_4) = f_5 at hP hD
    refine lv_aload_n hx hb dX0_takeFrom_39 rfl (lv_at hl 1 rfl) ?_
    refine va_get (D := D) (ci := 0) (v := .ref k3) (C := RX0) (T := TX0) (N := 4) hx hb hts (fun _ h9 => List.mem_cons_of_mem _ (List.mem_append_right _ h9)) hown hK hP 0 rfl rfl 2 (by decide) (hts (.fieldLink RX0 18 "FontRuns$FontRow" "has" "[I") mw_X0_takeFrom_w_3) (fun _ h9 => h9) rfl dX0_takeFrom_40 ?_
    refine lv_iload_n hx hb dX0_takeFrom_43 rfl (lv_at hl 0 rfl) ?_
    refine lv_aload_n hx hb dX0_takeFrom_44 rfl (lv_at hl 2 rfl) ?_
    refine va_get (D := D) (ci := 0) (v := .ref m3) (C := RX0) (T := TX0) (N := 4) hx hb hts (fun _ h9 => List.mem_cons_of_mem _ (List.mem_append_right _ h9)) hown hK hP 4 rfl rfl 2 (by decide) (hts (.fieldLink RX0 18 "FontRuns$FontRow" "has" "[I") mw_X0_takeFrom_w_3) (fun _ h9 => h9) rfl dX0_takeFrom_45 ?_
    refine lv_iload_n hx hb dX0_takeFrom_48 rfl (lv_at hl 0 rfl) ?_
    refine kz_iald hx hb hK hP 7 5 rfl rfl (by omega) dX0_takeFrom_49 (fun z_6 rz_6 ez_6 => ?_)
    refine kz_iast hx hb hK hP hD hS 3 2 rfl rfl (by omega) dX0_takeFrom_50 (fun H locs hP hD hS => ?_)
    have hP : va_P D vwCl [(h0, .inr (0, [.ref k1, .ref k2, .ref k3, .int (zI n2)])), (k1, .inl (ck1, 4, .inl f_3)), (k2, .inl (ck2, 4, .inl f_5)), (k3, .inl (ck3, 4, .inl (upd jc (jk).toNat (zI z_6)))), (h1, .inr (0, [.ref m1, .ref m2, .ref m3, .int (zI n2)])), (m1, .inl (cm1, 4, .inl gk)), (m2, .inl (cm2, 4, .inl gb)), (m3, .inl (cm3, 4, .inl gh))] H := hP
    have hD : va_D A [(h0, .inr (0, [.ref k1, .ref k2, .ref k3, .int (zI n2)])), (k1, .inl (ck1, 4, .inl f_3)), (k2, .inl (ck2, 4, .inl f_5)), (k3, .inl (ck3, 4, .inl (upd jc (jk).toNat (zI z_6)))), (h1, .inr (0, [.ref m1, .ref m2, .ref m3, .int (zI n2)])), (m1, .inl (cm1, 4, .inl gk)), (m2, .inl (cm2, 4, .inl gb)), (m3, .inl (cm3, 4, .inl gh))] := hD
    generalize ef_7 : upd jc (jk).toNat (zI z_6) = f_7 at hP hD
    refine lv_iinc (v := (zI (jk + 1))) (lv' := [(2, .int (zI (jk + 1))), (0, .ref h0), (1, .ref h1)]) hx hb dX0_takeFrom_51 hl (k := 0) rfl (kz_inc _ 1) (by decide) rfl (fun ls hl => ?_)
    refine lv_goto (tgt := 10) hx hb dX0_takeFrom_54 (by decide) ?_
    exact ih10 _ (by omega) _ _ _ ⟨(jk + 1), f_3, f_5, f_7, rfl, (by omega), (kEq_s v_101 (by omega) ez_2 ef_3), (kEq_s v_102 (by omega) ez_4 ef_5), (kEq_s v_103 (by omega) ez_6 ef_7), hP, hD, hS, lv_sub hl [0, 1, 2] rfl⟩
set_option maxRecDepth 20000 in
theorem mw_X1_begin_w_0 : (.methodLink RX1 15 Lib.Math.min.name : Cond) ∈ wsX1_begin := List.mem_cons_of_mem _ (List.mem_append_left _ (List.mem_of_getElem? (i := 0) rfl))
set_option maxRecDepth 20000 in
theorem mw_X1_begin_w_1 : (.static Lib.Math.min.name : Cond) ∈ wsX1_begin := List.mem_cons_of_mem _ (List.mem_append_left _ (List.mem_of_getElem? (i := 1) rfl))
set_option maxRecDepth 20000 in
theorem mw_X1_begin_w_2 : (.initialized "java/lang/Math" : Cond) ∈ wsX1_begin := List.mem_cons_of_mem _ (List.mem_append_left _ (List.mem_of_getElem? (i := 2) rfl))
set_option maxRecDepth 20000 in
theorem mw_X1_begin_w_3 : (.code Lib.Math.min.name Lib.Math.min.code 2 (some .int) : Cond) ∈ wsX1_begin := List.mem_cons_of_mem _ (List.mem_append_left _ (List.mem_of_getElem? (i := 3) rfl))
set_option maxRecDepth 20000 in
theorem mw_X1_begin_w_4 : (.fieldLink RX1 21 "FontRuns$Preference" "count" "I" : Cond) ∈ wsX1_begin := List.mem_cons_of_mem _ (List.mem_append_left _ (List.mem_of_getElem? (i := 4) rfl))
set_option maxRecDepth 20000 in
theorem mw_X1_begin_w_5 : (.fieldLink RX1 9 "FontRuns$Preference" "row" "[I" : Cond) ∈ wsX1_begin := List.mem_cons_of_mem _ (List.mem_append_left _ (List.mem_of_getElem? (i := 5) rfl))
theorem ax_X1_begin_w_0 {e0 e1 : Nat × va_E} : ([0, 1] : List Nat).map (fun i => ([e0, e1] : va_W)[i]?) = ([e0, e1] : va_W).map some := rfl
set_option maxHeartbeats 4000000 in
set_option maxRecDepth 100000 in
theorem c_X1_begin_w (l : Launch) (D : va_G) (sz : Nat) (k : Int) (h0 : Nat) (r1 : Nat) (n : Int) (cr1 : ClassId) (fr : Nat → Int32) (q0 : 0 ≤ k ∧ k ≤ 4) (q1 : kPr fr) : Met l yX1_begin wsX1_begin ({ frames := 1, cells := 0, slots := 0, locals := 21 }) (kPre [.ref h0, .int (zI k)] D [(h0, .inr (1, [.ref r1, .int (zI n)])), (r1, .inl (cr1, 4, .inl fr))] [(cr1, .int)] sz) (kQV (fun t => ∃ (un : Int) (uf : Nat → Int32), (0 ≤ un ∧ un ≤ 4) ∧ (kPr uf) ∧ (un = k) ∧ (kId uf k) ∧ va_P D vwCl [(h0, .inr (1, [.ref r1, .int (zI un)])), (r1, .inl (cr1, 4, .inl uf))] t.heap ∧ va_D (va_A [(h0, .inr (1, [.ref r1, .int (zI n)])), (r1, .inl (cr1, 4, .inl fr))] sz) [(h0, .inr (1, [.ref r1, .int (zI un)])), (r1, .inl (cr1, 4, .inl uf))]) (va_A [(h0, .inr (1, [.ref r1, .int (zI n)])), (r1, .inl (cr1, 4, .inl fr))] sz)) 0 0 (va_A [(h0, .inr (1, [.ref r1, .int (zI n)])), (r1, .inl (cr1, 4, .inl fr))] sz) := by
  refine Met.ofW (cc := cX1_begin) (maxL := 3) (ret := none) (by decide) rfl ?_
  intro p e s m args below meth c s₁ B hml hv
  obtain ⟨rfl, hsz, hP, hK, hD0, hN⟩ := hv
  have hx := B.exec
  have hb := B.bytes
  have hr := B.returns
  have hts := atoms_spec (ws := wsX1_begin) B.pre
  have hown : s.vm.findClass RX1 = some m.cls := findClass_of_methodNamed B.named
  have hlocks := B.notSynchronized
  subst hsz
  have hD := hD0.self (sz := s.heap.size)
  generalize hAe : va_A [(h0, .inr (1, [.ref r1, .int (zI n)])), (r1, .inl (cr1, 4, .inl fr))] s.heap.size = A at hD ⊢
  have hA : ∀ q : Nat, s.heap.size ≤ q → A q := fun q h => by rw [← hAe]; exact Or.inr h
  have hS : va_S A s.heap s.heap [] := va_S.rf
  have hP : va_P D vwCl [(h0, .inr (1, [.ref r1, .int (zI n)])), (r1, .inl (cr1, 4, .inl fr))] s.heap := hP
  have hl := lv_entry ([.ref h0, .int (zI k)]) (n := 3) (Nat.le_of_ble_eq_true rfl)
  rw [lg_entry_eq]
  generalize (lg_sl ([.ref h0, .int (zI k)]) ++ List.replicate (3 - (lg_sl ([.ref h0, .int (zI k)])).length) Slot.unset).toArray = ls at hl ⊢
  have hl : lv_has ls 3 [(0, .ref h0), (1, .int (zI k))] := hl
  refine lv_aload_n hx hb dX1_begin_0 rfl (lv_at hl 0 rfl) ?_
  refine lv_iload_n hx hb dX1_begin_1 rfl (lv_at hl 1 rfl) ?_
  refine lv_iconst (v := zI 4) hx hb dX1_begin_2 rfl ?_
  refine kz_min hx hb (by rw [hml]; exact hl.1.symm) hown (hts (.methodLink RX1 15 Lib.Math.min.name) mw_X1_begin_w_0) (hts (.static Lib.Math.min.name) mw_X1_begin_w_1) (hts (.initialized "java/lang/Math") mw_X1_begin_w_2) (hts (.code Lib.Math.min.name Lib.Math.min.code 2 (some .int)) mw_X1_begin_w_3) (Nat.le_of_ble_eq_true rfl) (Nat.le_of_ble_eq_true rfl) (Nat.le_of_ble_eq_true rfl) (Nat.le_of_ble_eq_true rfl) (by omega) (by omega) dX1_begin_3 (fun z_1 rz_1 ez_1 => ?_)
  refine va_put (D := D) (ci := 1) (v := .int (zI z_1)) (ty := .int) (C := RX1) (T := TX1) (N := 2) hx hb hts (fun _ h9 => List.mem_cons_of_mem _ (List.mem_append_right _ h9)) tyX1 tyX1_ok nmX1 hown hK hP hD hS 0 rfl rfl 1 (by decide) (hts (.fieldLink RX1 21 "FontRuns$Preference" "count" "I") mw_X1_begin_w_4) (fun _ h9 => h9) rfl (by decide +kernel) rfl rfl (Nat.le_of_ble_eq_true rfl) dX1_begin_6 (fun H locs hP hD hS => ?_)
  have hP : va_P D vwCl [(h0, .inr (1, [.ref r1, .int (zI z_1)])), (r1, .inl (cr1, 4, .inl fr))] H := hP
  have hD : va_D A [(h0, .inr (1, [.ref r1, .int (zI z_1)])), (r1, .inl (cr1, 4, .inl fr))] := hD
  refine lv_iconst (v := zI 0) hx hb dX1_begin_9 rfl ?_
  refine lv_istore_n (lv' := [(2, .int (zI 0)), (0, .ref h0), (1, .int (zI k))]) hx hb dX1_begin_10 rfl hl (by decide) rfl (fun ls hl => ?_)
  refine k_loopM (I := fun n9 H locs ls => ∃ (jk : Int) (ja : Nat → Int32), n9 = (4 - jk).toNat ∧ (0 ≤ jk ∧ jk ≤ 4) ∧ (kPr ja) ∧ (kId ja jk) ∧ va_P D vwCl [(h0, .inr (1, [.ref r1, .int (zI z_1)])), (r1, .inl (cr1, 4, .inl ja))] H ∧ va_D A [(h0, .inr (1, [.ref r1, .int (zI z_1)])), (r1, .inl (cr1, 4, .inl ja))] ∧ va_S A s.heap H locs ∧ lv_has ls 3 [(2, .int (zI jk)), (0, .ref h0), (1, .int (zI k))]) ?_ _ ⟨0, fr, rfl, (by omega), q1, kId_0, hP, hD, hS, hl⟩
  intro n11 ih11 H locs ls hI
  obtain ⟨jk, ja, en11, v_110, v_111, v_112, hP, hD, hS, hl⟩ := hI
  refine lv_iload_n hx hb dX1_begin_11 rfl (lv_at hl 0 rfl) ?_
  refine lv_aload_n hx hb dX1_begin_12 rfl (lv_at hl 1 rfl) ?_
  refine va_get (D := D) (ci := 1) (v := .int (zI z_1)) (C := RX1) (T := TX1) (N := 2) hx hb hts (fun _ h9 => List.mem_cons_of_mem _ (List.mem_append_right _ h9)) hown hK hP 0 rfl rfl 1 (by decide) (hts (.fieldLink RX1 21 "FontRuns$Preference" "count" "I") mw_X1_begin_w_4) (fun _ h9 => h9) rfl dX1_begin_13 ?_
  refine kz_icmp_ge (tgt := 32) hx hb dX1_begin_16 (by decide) (by omega) (by omega) (fun c_2 => ?_) (fun c_2 => ?_)
  · have hP9 := hP.sub (ws' := [(h0, .inr (1, [.ref r1, .int (zI z_1)])), (r1, .inl (cr1, 4, .inl ja))]) [0, 1] rfl
    have hD9 := hD.sub (ws' := [(h0, .inr (1, [.ref r1, .int (zI z_1)])), (r1, .inl (cr1, 4, .inl ja))]) [0, 1] (by decide +kernel) rfl
    exact W.vret hx hb hr (fun t ht hW => kQV_of ⟨z_1, ja, (by omega), v_111, (by omega), (kId_le v_112 (by omega)), by rw [ht]; exact hP9, hD9⟩ (hS.F ht)) hS.2.2 dX1_begin_32
  · refine lv_aload_n hx hb dX1_begin_19 rfl (lv_at hl 1 rfl) ?_
    refine va_get (D := D) (ci := 1) (v := .ref r1) (C := RX1) (T := TX1) (N := 2) hx hb hts (fun _ h9 => List.mem_cons_of_mem _ (List.mem_append_right _ h9)) hown hK hP 0 rfl rfl 0 (by decide) (hts (.fieldLink RX1 9 "FontRuns$Preference" "row" "[I") mw_X1_begin_w_5) (fun _ h9 => h9) rfl dX1_begin_20 ?_
    refine lv_iload_n hx hb dX1_begin_23 rfl (lv_at hl 0 rfl) ?_
    refine lv_iload_n hx hb dX1_begin_24 rfl (lv_at hl 0 rfl) ?_
    refine kz_iast hx hb hK hP hD hS 1 0 rfl rfl (by omega) dX1_begin_25 (fun H locs hP hD hS => ?_)
    have hP : va_P D vwCl [(h0, .inr (1, [.ref r1, .int (zI z_1)])), (r1, .inl (cr1, 4, .inl (upd ja (jk).toNat (zI jk))))] H := hP
    have hD : va_D A [(h0, .inr (1, [.ref r1, .int (zI z_1)])), (r1, .inl (cr1, 4, .inl (upd ja (jk).toNat (zI jk))))] := hD
    have k_4 : kPr (upd ja (jk).toNat (zI jk)) := kPr_upd v_111 (by omega) (by omega)
    generalize ef_3 : upd ja (jk).toNat (zI jk) = f_3 at hP hD k_4
    refine lv_iinc (v := (zI (jk + 1))) (lv' := [(2, .int (zI (jk + 1))), (0, .ref h0), (1, .int (zI k))]) hx hb dX1_begin_26 hl (k := 0) rfl (kz_inc _ 1) (by decide) rfl (fun ls hl => ?_)
    refine lv_goto (tgt := 11) hx hb dX1_begin_29 (by decide) ?_
    exact ih11 _ (by omega) _ _ _ ⟨(jk + 1), f_3, rfl, (by omega), k_4, (kId_s v_112 (by omega) ef_3), hP, hD, hS, lv_sub hl [0, 1, 2] rfl⟩
set_option maxRecDepth 20000 in
theorem mw_X1_placeOf_w_0 : (.fieldLink RX1 21 "FontRuns$Preference" "count" "I" : Cond) ∈ wsX1_placeOf := List.mem_cons_of_mem _ (List.mem_append_left _ (List.mem_of_getElem? (i := 0) rfl))
set_option maxRecDepth 20000 in
theorem mw_X1_placeOf_w_1 : (.fieldLink RX1 9 "FontRuns$Preference" "row" "[I" : Cond) ∈ wsX1_placeOf := List.mem_cons_of_mem _ (List.mem_append_left _ (List.mem_of_getElem? (i := 1) rfl))
set_option maxHeartbeats 4000000 in
set_option maxRecDepth 100000 in
theorem c_X1_placeOf_w (l : Launch) (D : va_G) (sz : Nat) (f : Int) (h0 : Nat) (r1 : Nat) (n : Int) (cr1 : ClassId) (fr : Nat → Int32) (q0 : rg f) (q1 : 0 ≤ n ∧ n ≤ 4) (q2 : kPr fr) : Met l yX1_placeOf wsX1_placeOf ({ frames := 0, cells := 0, slots := 0, locals := 0 }) (kPre [.ref h0, .int (zI f)] D [(h0, .inr (1, [.ref r1, .int (zI n)])), (r1, .inl (cr1, 4, .inl fr))] [(cr1, .int)] sz) (QcP (fun rz => (rz = -9 ∨ (0 ≤ rz ∧ rz ≤ n - 1 ∧ 0 ≤ f ∧ f ≤ 3)) ∧ kPl fr n f rz)) 0 0 (fun _ => False) := by
  refine Met.ofW (cc := cX1_placeOf) (maxL := 3) (ret := (some .int)) (by decide) rfl ?_
  intro p e s m args below meth c s₁ B hml hv
  obtain ⟨rfl, hsz, hP, hK, hD0, hN⟩ := hv
  have hx := B.exec
  have hb := B.bytes
  have hr := B.returns
  have hts := atoms_spec (ws := wsX1_placeOf) B.pre
  have hown : s.vm.findClass RX1 = some m.cls := findClass_of_methodNamed B.named
  have hlocks := B.notSynchronized
  subst hsz
  have hD := hD0
  have hP : va_P D vwCl [(h0, .inr (1, [.ref r1, .int (zI n)])), (r1, .inl (cr1, 4, .inl fr))] s.heap := hP
  have hl := lv_entry ([.ref h0, .int (zI f)]) (n := 3) (Nat.le_of_ble_eq_true rfl)
  rw [lg_entry_eq]
  generalize (lg_sl ([.ref h0, .int (zI f)]) ++ List.replicate (3 - (lg_sl ([.ref h0, .int (zI f)])).length) Slot.unset).toArray = ls at hl ⊢
  have hl : lv_has ls 3 [(0, .ref h0), (1, .int (zI f))] := hl
  refine lv_iconst (v := zI 0) hx hb dX1_placeOf_0 rfl ?_
  refine lv_istore_n (lv' := [(2, .int (zI 0)), (0, .ref h0), (1, .int (zI f))]) hx hb dX1_placeOf_1 rfl hl (by decide) rfl (fun ls hl => ?_)
  refine k_loopM (I := fun n9 H locs ls => ∃ (jk : Int), n9 = (n - jk).toNat ∧ (0 ≤ jk ∧ jk ≤ n) ∧ (kNo fr f jk) ∧ H = s.heap ∧ locs = [] ∧ lv_has ls 3 [(2, .int (zI jk)), (0, .ref h0), (1, .int (zI f))]) ?_ _ ⟨0, rfl, (by omega), kNo_0, rfl, rfl, hl⟩
  intro n2 ih2 H locs ls hI
  obtain ⟨jk, en2, v_20, v_21, eH, eL, hl⟩ := hI
  subst eH
  subst eL
  refine lv_iload_n hx hb dX1_placeOf_2 rfl (lv_at hl 0 rfl) ?_
  refine lv_aload_n hx hb dX1_placeOf_3 rfl (lv_at hl 1 rfl) ?_
  refine va_get (D := D) (ci := 1) (v := .int (zI n)) (C := RX1) (T := TX1) (N := 2) hx hb hts (fun _ h9 => List.mem_cons_of_mem _ (List.mem_append_right _ h9)) hown hK hP 0 rfl rfl 1 (by decide) (hts (.fieldLink RX1 21 "FontRuns$Preference" "count" "I") mw_X1_placeOf_w_0) (fun _ h9 => h9) rfl dX1_placeOf_4 ?_
  refine kz_icmp_ge (tgt := 28) hx hb dX1_placeOf_7 (by decide) (by omega) (by omega) (fun c_1 => ?_) (fun c_1 => ?_)
  · refine lv_bipush (v := zI (-9)) hx hb dX1_placeOf_28 (by decide) ?_
    exact W.iret (v := (zI (-9))) hx hb hr (fun t ht hW => QcP_of (by omega) ⟨by omega, kPl_1 v_21 (by omega) rfl⟩ ht) (fun _ h9 => by cases h9) dX1_placeOf_30
  · refine lv_aload_n hx hb dX1_placeOf_10 rfl (lv_at hl 1 rfl) ?_
    refine va_get (D := D) (ci := 1) (v := .ref r1) (C := RX1) (T := TX1) (N := 2) hx hb hts (fun _ h9 => List.mem_cons_of_mem _ (List.mem_append_right _ h9)) hown hK hP 0 rfl rfl 0 (by decide) (hts (.fieldLink RX1 9 "FontRuns$Preference" "row" "[I") mw_X1_placeOf_w_1) (fun _ h9 => h9) rfl dX1_placeOf_11 ?_
    refine lv_iload_n hx hb dX1_placeOf_14 rfl (lv_at hl 0 rfl) ?_
    refine kz_iald hx hb hK hP 1 0 rfl rfl (by omega) dX1_placeOf_15 (fun z_2 rz_2 ez_2 => ?_)
    have bz_2 := kPr_at q2 (by omega) rz_2 ez_2
    refine lv_iload_n hx hb dX1_placeOf_16 rfl (lv_at hl 2 rfl) ?_
    refine kz_icmp_ne (tgt := 22) hx hb dX1_placeOf_17 (by decide) (by omega) (by omega) (fun c_3 => ?_) (fun c_3 => ?_)
    · refine lv_iinc (v := (zI (jk + 1))) (lv' := [(2, .int (zI (jk + 1))), (0, .ref h0), (1, .int (zI f))]) hx hb dX1_placeOf_22 hl (k := 0) rfl (kz_inc _ 1) (by decide) rfl (fun ls hl => ?_)
      refine lv_goto (tgt := 2) hx hb dX1_placeOf_25 (by decide) ?_
      exact ih2 _ (by omega) _ _ _ ⟨(jk + 1), rfl, (by omega), (kNo_s v_21 (by omega) rz_2 (by omega) ez_2 (by omega)), rfl, rfl, lv_sub hl [0, 1, 2] rfl⟩
    · refine lv_iload_n hx hb dX1_placeOf_20 rfl (lv_at hl 0 rfl) ?_
      exact W.iret (v := (zI jk)) hx hb hr (fun t ht hW => QcP_of (by omega) ⟨by omega, kPl_2 v_21 (by omega) ez_2 (by omega)⟩ ht) (fun _ h9 => by cases h9) dX1_placeOf_21
set_option maxRecDepth 20000 in
theorem mw_X1_lead_w_0 : (.fieldLink RX1 9 "FontRuns$Preference" "row" "[I" : Cond) ∈ wsX1_lead := List.mem_cons_of_mem _ (List.mem_append_left _ (List.mem_of_getElem? (i := 0) rfl))
theorem ax_X1_lead_w_0 {e0 e1 : Nat × va_E} : ([0, 1] : List Nat).map (fun i => ([e0, e1] : va_W)[i]?) = ([e0, e1] : va_W).map some := rfl
set_option maxHeartbeats 4000000 in
set_option maxRecDepth 100000 in
theorem c_X1_lead_w (l : Launch) (D : va_G) (sz : Nat) (f : Int) (h0 : Nat) (r1 : Nat) (n : Int) (cr1 : ClassId) (fr : Nat → Int32) (q0 : rg f) (q1 : 0 ≤ n ∧ n ≤ 4) (q2 : kPr fr) : Met l yX1_lead wsX1_lead ({ frames := 1, cells := 0, slots := 0, locals := 22 }) (kPre [.ref h0, .int (zI f)] D [(h0, .inr (1, [.ref r1, .int (zI n)])), (r1, .inl (cr1, 4, .inl fr))] [(cr1, .int)] sz) (kQS (fun rz t => ∃ (uf : Nat → Int32), (kPr uf) ∧ (rz = 0 ∨ rz = 1) ∧ (kLd fr n f uf rz) ∧ va_P D vwCl [(h0, .inr (1, [.ref r1, .int (zI n)])), (r1, .inl (cr1, 4, .inl uf))] t.heap ∧ va_D (va_A [(h0, .inr (1, [.ref r1, .int (zI n)])), (r1, .inl (cr1, 4, .inl fr))] sz) [(h0, .inr (1, [.ref r1, .int (zI n)])), (r1, .inl (cr1, 4, .inl uf))]) (va_A [(h0, .inr (1, [.ref r1, .int (zI n)])), (r1, .inl (cr1, 4, .inl fr))] sz)) 0 0 (va_A [(h0, .inr (1, [.ref r1, .int (zI n)])), (r1, .inl (cr1, 4, .inl fr))] sz) := by
  refine Met.ofW (cc := cX1_lead) (maxL := 4) (ret := (some .boolean)) (by decide) rfl ?_
  intro p e s m args below meth c s₁ B hml hv
  obtain ⟨rfl, hsz, hP, hK, hD0, hN⟩ := hv
  have hx := B.exec
  have hb := B.bytes
  have hr := B.returns
  have hts := atoms_spec (ws := wsX1_lead) B.pre
  have hown : s.vm.findClass RX1 = some m.cls := findClass_of_methodNamed B.named
  have hlocks := B.notSynchronized
  subst hsz
  have hD := hD0.self (sz := s.heap.size)
  generalize hAe : va_A [(h0, .inr (1, [.ref r1, .int (zI n)])), (r1, .inl (cr1, 4, .inl fr))] s.heap.size = A at hD ⊢
  have hA : ∀ q : Nat, s.heap.size ≤ q → A q := fun q h => by rw [← hAe]; exact Or.inr h
  have hS : va_S A s.heap s.heap [] := va_S.rf
  have hP : va_P D vwCl [(h0, .inr (1, [.ref r1, .int (zI n)])), (r1, .inl (cr1, 4, .inl fr))] s.heap := hP
  have hl := lv_entry ([.ref h0, .int (zI f)]) (n := 4) (Nat.le_of_ble_eq_true rfl)
  rw [lg_entry_eq]
  generalize (lg_sl ([.ref h0, .int (zI f)]) ++ List.replicate (4 - (lg_sl ([.ref h0, .int (zI f)])).length) Slot.unset).toArray = ls at hl ⊢
  have hl : lv_has ls 4 [(0, .ref h0), (1, .int (zI f))] := hl
  refine lv_aload_n hx hb dX1_lead_0 rfl (lv_at hl 0 rfl) ?_
  refine lv_iload_n hx hb dX1_lead_1 rfl (lv_at hl 1 rfl) ?_
  refine k_callP (va_runV (As := [.int (zI f)]) (rest := []) ⟨hx, hb, hml, hown, hts⟩ (c_X1_placeOf_w l D s.heap.size (f := f) (h0 := h0) (r1 := r1) (n := n) (cr1 := cr1) (fr := fr) q0 q1 q2) (cwV 1 hts gX1_lead_X1_placeOf rfl rfl rfl (by decide +kernel) ⟨Nat.le_of_ble_eq_true rfl, Nat.le_of_ble_eq_true rfl⟩) (kPreV hP (kD0 hD) hK hN [0, 1] [0] ax_X1_lead_w_0 rfl (by decide +kernel) 0 1 rfl rfl) rfl rfl hl.1 rfl (lv_room (Nat.le_of_ble_eq_true rfl)) dX1_lead_2 ⟨Nat.le_of_ble_eq_true rfl, Nat.le_of_ble_eq_true rfl⟩) (fun z_1 rz_1 h_2 => ?_)
  refine lv_istore_n (lv' := [(2, .int (zI z_1)), (0, .ref h0), (1, .int (zI f))]) hx hb dX1_lead_5 rfl hl (by decide) rfl (fun ls hl => ?_)
  refine lv_iload_n hx hb dX1_lead_6 rfl (lv_at hl 0 rfl) ?_
  refine lv_bipush (v := zI (-9)) hx hb dX1_lead_7 (by decide) ?_
  refine kz_icmp_ne (tgt := 14) hx hb dX1_lead_9 (by decide) (by omega) (by omega) (fun c_3 => ?_) (fun c_3 => ?_)
  · refine lv_iload_n hx hb dX1_lead_14 rfl (lv_at hl 0 rfl) ?_
    refine lv_istore_n (lv' := [(3, .int (zI z_1)), (2, .int (zI z_1)), (0, .ref h0), (1, .int (zI f))]) hx hb dX1_lead_15 rfl hl (by decide) rfl (fun ls hl => ?_)
    refine k_loopM (I := fun n9 H locs ls => ∃ (jk : Int) (ja : Nat → Int32), n9 = (jk).toNat ∧ (0 ≤ jk ∧ jk ≤ z_1) ∧ (kPr ja) ∧ (ja = kMv fr z_1 jk) ∧ va_P D vwCl [(h0, .inr (1, [.ref r1, .int (zI n)])), (r1, .inl (cr1, 4, .inl ja))] H ∧ va_D A [(h0, .inr (1, [.ref r1, .int (zI n)])), (r1, .inl (cr1, 4, .inl ja))] ∧ va_S A s.heap H locs ∧ lv_has ls 4 [(3, .int (zI jk)), (2, .int (zI z_1)), (0, .ref h0), (1, .int (zI f))]) ?_ _ ⟨z_1, fr, rfl, (by omega), q2, (kMv_0 _ _).symm, hP, hD, hS, hl⟩
    intro n16 ih16 H locs ls hI
    obtain ⟨jk, ja, en16, v_160, v_161, v_162, hP, hD, hS, hl⟩ := hI
    refine lv_iload_n hx hb dX1_lead_16 rfl (lv_at hl 0 rfl) ?_
    refine kz_if_le (tgt := 40) hx hb dX1_lead_17 (by decide) (by omega) (fun c_4 => ?_) (fun c_4 => ?_)
    · refine lv_aload_n hx hb dX1_lead_40 rfl (lv_at hl 2 rfl) ?_
      refine va_get (D := D) (ci := 1) (v := .ref r1) (C := RX1) (T := TX1) (N := 2) hx hb hts (fun _ h9 => List.mem_cons_of_mem _ (List.mem_append_right _ h9)) hown hK hP 0 rfl rfl 0 (by decide) (hts (.fieldLink RX1 9 "FontRuns$Preference" "row" "[I") mw_X1_lead_w_0) (fun _ h9 => h9) rfl dX1_lead_41 ?_
      refine lv_iconst (v := zI 0) hx hb dX1_lead_44 rfl ?_
      refine lv_iload_n hx hb dX1_lead_45 rfl (lv_at hl 3 rfl) ?_
      refine kz_iast hx hb hK hP hD hS 1 0 rfl rfl (by omega) dX1_lead_46 (fun H locs hP hD hS => ?_)
      have hP : va_P D vwCl [(h0, .inr (1, [.ref r1, .int (zI n)])), (r1, .inl (cr1, 4, .inl (upd ja (0 : Int).toNat (zI f))))] H := hP
      have hD : va_D A [(h0, .inr (1, [.ref r1, .int (zI n)])), (r1, .inl (cr1, 4, .inl (upd ja (0 : Int).toNat (zI f))))] := hD
      have k_6 : kPr (upd ja (0 : Int).toNat (zI f)) := kPr_upd v_161 (by omega) (by omega)
      generalize ef_5 : upd ja (0 : Int).toNat (zI f) = f_5 at hP hD k_6
      refine lv_iconst (v := zI 1) hx hb dX1_lead_47 rfl ?_
      have hP9 := hP.sub (ws' := [(h0, .inr (1, [.ref r1, .int (zI n)])), (r1, .inl (cr1, 4, .inl f_5))]) [0, 1] rfl
      have hD9 := hD.sub (ws' := [(h0, .inr (1, [.ref r1, .int (zI n)])), (r1, .inl (cr1, 4, .inl f_5))]) [0, 1] (by decide +kernel) rfl
      exact W.zret (v := (zI 1)) hx hb hr rfl (fun t ht hW => kQS_of (by omega) ⟨f_5, k_6, (by omega), (kLd_2 h_2.2 (by omega) (by omega) v_162 (by omega) ef_5), by rw [ht]; exact hP9, hD9⟩ (hS.F ht)) hS.2.2 dX1_lead_48
    · refine lv_aload_n hx hb dX1_lead_20 rfl (lv_at hl 2 rfl) ?_
      refine va_get (D := D) (ci := 1) (v := .ref r1) (C := RX1) (T := TX1) (N := 2) hx hb hts (fun _ h9 => List.mem_cons_of_mem _ (List.mem_append_right _ h9)) hown hK hP 0 rfl rfl 0 (by decide) (hts (.fieldLink RX1 9 "FontRuns$Preference" "row" "[I") mw_X1_lead_w_0) (fun _ h9 => h9) rfl dX1_lead_21 ?_
      refine lv_iload_n hx hb dX1_lead_24 rfl (lv_at hl 0 rfl) ?_
      refine lv_aload_n hx hb dX1_lead_25 rfl (lv_at hl 2 rfl) ?_
      refine va_get (D := D) (ci := 1) (v := .ref r1) (C := RX1) (T := TX1) (N := 2) hx hb hts (fun _ h9 => List.mem_cons_of_mem _ (List.mem_append_right _ h9)) hown hK hP 0 rfl rfl 0 (by decide) (hts (.fieldLink RX1 9 "FontRuns$Preference" "row" "[I") mw_X1_lead_w_0) (fun _ h9 => h9) rfl dX1_lead_26 ?_
      refine lv_iload_n hx hb dX1_lead_29 rfl (lv_at hl 0 rfl) ?_
      refine lv_iconst (v := zI 1) hx hb dX1_lead_30 rfl ?_
      refine kz_isub hx hb dX1_lead_31 ?_
      refine kz_iald hx hb hK hP 1 0 rfl rfl (by omega) dX1_lead_32 (fun z_7 rz_7 ez_7 => ?_)
      have bz_7 := kPr_at v_161 (by omega) rz_7 ez_7
      refine kz_iast hx hb hK hP hD hS 1 0 rfl rfl (by omega) dX1_lead_33 (fun H locs hP hD hS => ?_)
      have hP : va_P D vwCl [(h0, .inr (1, [.ref r1, .int (zI n)])), (r1, .inl (cr1, 4, .inl (upd ja (jk).toNat (zI z_7))))] H := hP
      have hD : va_D A [(h0, .inr (1, [.ref r1, .int (zI n)])), (r1, .inl (cr1, 4, .inl (upd ja (jk).toNat (zI z_7))))] := hD
      have k_9 : kPr (upd ja (jk).toNat (zI z_7)) := kPr_upd v_161 (by omega) (by omega)
      generalize ef_8 : upd ja (jk).toNat (zI z_7) = f_8 at hP hD k_9
      refine lv_iinc (v := (zI (jk - 1))) (lv' := [(3, .int (zI (jk - 1))), (2, .int (zI z_1)), (0, .ref h0), (1, .int (zI f))]) hx hb dX1_lead_34 hl (k := 0) rfl (kz_dec _ 1) (by decide) rfl (fun ls hl => ?_)
      refine lv_goto (tgt := 16) hx hb dX1_lead_37 (by decide) ?_
      exact ih16 _ (by omega) _ _ _ ⟨(jk - 1), f_8, rfl, (by omega), k_9, (by rw [← ef_8, v_162]; exact kMv_1 fr (by omega) (by rw [← v_162]; exact ez_7)), hP, hD, hS, lv_sub hl [0, 1, 2, 3] rfl⟩
  · refine lv_iconst (v := zI 0) hx hb dX1_lead_12 rfl ?_
    have hP9 := hP.sub (ws' := [(h0, .inr (1, [.ref r1, .int (zI n)])), (r1, .inl (cr1, 4, .inl fr))]) [0, 1] rfl
    have hD9 := hD.sub (ws' := [(h0, .inr (1, [.ref r1, .int (zI n)])), (r1, .inl (cr1, 4, .inl fr))]) [0, 1] (by decide +kernel) rfl
    exact W.zret (v := (zI 0)) hx hb hr rfl (fun t ht hW => kQS_of (by omega) ⟨fr, q2, (by omega), (kLd_1 h_2.2 (by omega) (by omega)), by rw [ht]; exact hP9, hD9⟩ (hS.F ht)) hS.2.2 dX1_lead_13
theorem dX3_keep_0 : decode cX3_keep 0 = .ok (.iconst 4, 1) := kqo_07 kbl_X3_keep (pc := 0) rfl
theorem dX3_keep_1 : decode cX3_keep 1 = .ok (.istore_n 2, 1) := kqo_3d kbl_X3_keep (pc := 1) rfl
theorem dX3_keep_2 : decode cX3_keep 2 = .ok (.iload_n 2, 1) := kqo_1c kbl_X3_keep (pc := 2) rfl
theorem dX3_keep_3 : decode cX3_keep 3 = .ok (.ifCond .le 23, 3) := kqo_9e (x1 := 0) (x2 := 23) kbl_X3_keep (pc := 3) rfl rfl
theorem dX3_keep_6 : decode cX3_keep 6 = .ok (.aload_n 0, 1) := kqo_2a kbl_X3_keep (pc := 6) rfl
theorem dX3_keep_7 : decode cX3_keep 7 = .ok (.getfield 9, 3) := kqo_b4 (x1 := 0) (x2 := 9) kbl_X3_keep (pc := 7) rfl rfl
theorem dX3_keep_10 : decode cX3_keep 10 = .ok (.iload_n 2, 1) := kqo_1c kbl_X3_keep (pc := 10) rfl
theorem dX3_keep_11 : decode cX3_keep 11 = .ok (.aload_n 0, 1) := kqo_2a kbl_X3_keep (pc := 11) rfl
theorem dX3_keep_12 : decode cX3_keep 12 = .ok (.getfield 9, 3) := kqo_b4 (x1 := 0) (x2 := 9) kbl_X3_keep (pc := 12) rfl rfl
theorem dX3_keep_15 : decode cX3_keep 15 = .ok (.iload_n 2, 1) := kqo_1c kbl_X3_keep (pc := 15) rfl
theorem dX3_keep_16 : decode cX3_keep 16 = .ok (.iconst 1, 1) := kqo_04 kbl_X3_keep (pc := 16) rfl
theorem dX3_keep_17 : decode cX3_keep 17 = .ok (.isub, 1) := kqo_64 kbl_X3_keep (pc := 17) rfl
theorem dX3_keep_18 : decode cX3_keep 18 = .ok (.iaload, 1) := kqo_2e kbl_X3_keep (pc := 18) rfl
theorem dX3_keep_19 : decode cX3_keep 19 = .ok (.iastore, 1) := kqo_4f kbl_X3_keep (pc := 19) rfl
theorem dX3_keep_20 : decode cX3_keep 20 = .ok (.iinc 2 (-1), 3) := kqo_84 (x1 := 2) (x2 := 255) kbl_X3_keep (pc := 20) rfl rfl
theorem dX3_keep_23 : decode cX3_keep 23 = .ok (.goto (-21), 3) := kqo_a7 (x1 := 255) (x2 := 235) kbl_X3_keep (pc := 23) rfl rfl
theorem dX3_keep_26 : decode cX3_keep 26 = .ok (.aload_n 0, 1) := kqo_2a kbl_X3_keep (pc := 26) rfl
theorem dX3_keep_27 : decode cX3_keep 27 = .ok (.getfield 9, 3) := kqo_b4 (x1 := 0) (x2 := 9) kbl_X3_keep (pc := 27) rfl rfl
theorem dX3_keep_30 : decode cX3_keep 30 = .ok (.iconst 0, 1) := kqo_03 kbl_X3_keep (pc := 30) rfl
theorem dX3_keep_31 : decode cX3_keep 31 = .ok (.iload_n 1, 1) := kqo_1b kbl_X3_keep (pc := 31) rfl
theorem dX3_keep_32 : decode cX3_keep 32 = .ok (.iastore, 1) := kqo_4f kbl_X3_keep (pc := 32) rfl
theorem dX3_keep_33 : decode cX3_keep 33 = .ok (.aload_n 0, 1) := kqo_2a kbl_X3_keep (pc := 33) rfl
theorem dX3_keep_34 : decode cX3_keep 34 = .ok (.aload_n 0, 1) := kqo_2a kbl_X3_keep (pc := 34) rfl
theorem dX3_keep_35 : decode cX3_keep 35 = .ok (.getfield 15, 3) := kqo_b4 (x1 := 0) (x2 := 15) kbl_X3_keep (pc := 35) rfl rfl
theorem dX3_keep_38 : decode cX3_keep 38 = .ok (.iconst 1, 1) := kqo_04 kbl_X3_keep (pc := 38) rfl
theorem dX3_keep_39 : decode cX3_keep 39 = .ok (.iadd, 1) := kqo_60 kbl_X3_keep (pc := 39) rfl
theorem dX3_keep_40 : decode cX3_keep 40 = .ok (.iconst 5, 1) := kqo_08 kbl_X3_keep (pc := 40) rfl
theorem dX3_keep_41 : decode cX3_keep 41 = .ok (.invokestatic 19, 3) := kqo_b8 (x1 := 0) (x2 := 19) kbl_X3_keep (pc := 41) rfl rfl
theorem dX3_keep_44 : decode cX3_keep 44 = .ok (.putfield 15, 3) := kqo_b5 (x1 := 0) (x2 := 15) kbl_X3_keep (pc := 44) rfl rfl
theorem dX3_keep_47 : decode cX3_keep 47 = .ok (.return_, 1) := kqo_b1 kbl_X3_keep (pc := 47) rfl
set_option maxRecDepth 20000 in
theorem mw_X3_keep_w_0 : (.fieldLink RX3 9 "FontRuns$Recent" "row" "[I" : Cond) ∈ wsX3_keep := List.mem_cons_of_mem _ (List.mem_append_left _ (List.mem_of_getElem? (i := 0) rfl))
set_option maxRecDepth 20000 in
theorem mw_X3_keep_w_1 : (.fieldLink RX3 15 "FontRuns$Recent" "count" "I" : Cond) ∈ wsX3_keep := List.mem_cons_of_mem _ (List.mem_append_left _ (List.mem_of_getElem? (i := 1) rfl))
set_option maxRecDepth 20000 in
theorem mw_X3_keep_w_2 : (.methodLink RX3 19 Lib.Math.min.name : Cond) ∈ wsX3_keep := List.mem_cons_of_mem _ (List.mem_append_left _ (List.mem_of_getElem? (i := 2) rfl))
set_option maxRecDepth 20000 in
theorem mw_X3_keep_w_3 : (.static Lib.Math.min.name : Cond) ∈ wsX3_keep := List.mem_cons_of_mem _ (List.mem_append_left _ (List.mem_of_getElem? (i := 3) rfl))
set_option maxRecDepth 20000 in
theorem mw_X3_keep_w_4 : (.initialized "java/lang/Math" : Cond) ∈ wsX3_keep := List.mem_cons_of_mem _ (List.mem_append_left _ (List.mem_of_getElem? (i := 4) rfl))
set_option maxRecDepth 20000 in
theorem mw_X3_keep_w_5 : (.code Lib.Math.min.name Lib.Math.min.code 2 (some .int) : Cond) ∈ wsX3_keep := List.mem_cons_of_mem _ (List.mem_append_left _ (List.mem_of_getElem? (i := 5) rfl))
theorem ax_X3_keep_w_0 {e0 e1 : Nat × va_E} : ([0, 1] : List Nat).map (fun i => ([e0, e1] : va_W)[i]?) = ([e0, e1] : va_W).map some := rfl
set_option maxHeartbeats 4000000 in
set_option maxRecDepth 100000 in
theorem c_X3_keep_w (l : Launch) (D : va_G) (sz : Nat) (f : Int) (h0 : Nat) (r1 : Nat) (n : Int) (cr1 : ClassId) (fr : Nat → Int32) (q0 : rg f) (q1 : 0 ≤ n ∧ n ≤ 5) : Met l yX3_keep wsX3_keep ({ frames := 1, cells := 0, slots := 0, locals := 21 }) (kPre [.ref h0, .int (zI f)] D [(h0, .inr (3, [.ref r1, .int (zI n)])), (r1, .inl (cr1, 5, .inl fr))] [(cr1, .int)] sz) (kQV (fun t => ∃ (un : Int) (uf : Nat → Int32), (0 ≤ un ∧ un ≤ 5) ∧ ((n ≤ 4 ∧ un = n + 1) ∨ (n = 5 ∧ un = 5)) ∧ (uf = upd (kMv fr 4 0) 0 (zI f)) ∧ va_P D vwCl [(h0, .inr (3, [.ref r1, .int (zI un)])), (r1, .inl (cr1, 5, .inl uf))] t.heap ∧ va_D (va_A [(h0, .inr (3, [.ref r1, .int (zI n)])), (r1, .inl (cr1, 5, .inl fr))] sz) [(h0, .inr (3, [.ref r1, .int (zI un)])), (r1, .inl (cr1, 5, .inl uf))]) (va_A [(h0, .inr (3, [.ref r1, .int (zI n)])), (r1, .inl (cr1, 5, .inl fr))] sz)) 0 0 (va_A [(h0, .inr (3, [.ref r1, .int (zI n)])), (r1, .inl (cr1, 5, .inl fr))] sz) := by
  refine Met.ofW (cc := cX3_keep) (maxL := 3) (ret := none) (by decide) rfl ?_
  intro p e s m args below meth c s₁ B hml hv
  obtain ⟨rfl, hsz, hP, hK, hD0, hN⟩ := hv
  have hx := B.exec
  have hb := B.bytes
  have hr := B.returns
  have hts := atoms_spec (ws := wsX3_keep) B.pre
  have hown : s.vm.findClass RX3 = some m.cls := findClass_of_methodNamed B.named
  have hlocks := B.notSynchronized
  subst hsz
  have hD := hD0.self (sz := s.heap.size)
  generalize hAe : va_A [(h0, .inr (3, [.ref r1, .int (zI n)])), (r1, .inl (cr1, 5, .inl fr))] s.heap.size = A at hD ⊢
  have hA : ∀ q : Nat, s.heap.size ≤ q → A q := fun q h => by rw [← hAe]; exact Or.inr h
  have hS : va_S A s.heap s.heap [] := va_S.rf
  have hP : va_P D vwCl [(h0, .inr (3, [.ref r1, .int (zI n)])), (r1, .inl (cr1, 5, .inl fr))] s.heap := hP
  have hl := lv_entry ([.ref h0, .int (zI f)]) (n := 3) (Nat.le_of_ble_eq_true rfl)
  rw [lg_entry_eq]
  generalize (lg_sl ([.ref h0, .int (zI f)]) ++ List.replicate (3 - (lg_sl ([.ref h0, .int (zI f)])).length) Slot.unset).toArray = ls at hl ⊢
  have hl : lv_has ls 3 [(0, .ref h0), (1, .int (zI f))] := hl
  refine lv_iconst (v := zI 4) hx hb dX3_keep_0 rfl ?_
  refine lv_istore_n (lv' := [(2, .int (zI 4)), (0, .ref h0), (1, .int (zI f))]) hx hb dX3_keep_1 rfl hl (by decide) rfl (fun ls hl => ?_)
  refine k_loopM (I := fun n9 H locs ls => ∃ (jk : Int) (ja : Nat → Int32), n9 = (jk).toNat ∧ (0 ≤ jk ∧ jk ≤ 4) ∧ (ja = kMv fr 4 jk) ∧ va_P D vwCl [(h0, .inr (3, [.ref r1, .int (zI n)])), (r1, .inl (cr1, 5, .inl ja))] H ∧ va_D A [(h0, .inr (3, [.ref r1, .int (zI n)])), (r1, .inl (cr1, 5, .inl ja))] ∧ va_S A s.heap H locs ∧ lv_has ls 3 [(2, .int (zI jk)), (0, .ref h0), (1, .int (zI f))]) ?_ _ ⟨4, fr, rfl, (by omega), (kMv_0 _ _).symm, hP, hD, hS, hl⟩
  intro n2 ih2 H locs ls hI
  obtain ⟨jk, ja, en2, v_20, v_21, hP, hD, hS, hl⟩ := hI
  refine lv_iload_n hx hb dX3_keep_2 rfl (lv_at hl 0 rfl) ?_
  refine kz_if_le (tgt := 26) hx hb dX3_keep_3 (by decide) (by omega) (fun c_1 => ?_) (fun c_1 => ?_)
  · refine lv_aload_n hx hb dX3_keep_26 rfl (lv_at hl 1 rfl) ?_
    refine va_get (D := D) (ci := 3) (v := .ref r1) (C := RX3) (T := TX3) (N := 2) hx hb hts (fun _ h9 => List.mem_cons_of_mem _ (List.mem_append_right _ h9)) hown hK hP 0 rfl rfl 0 (by decide) (hts (.fieldLink RX3 9 "FontRuns$Recent" "row" "[I") mw_X3_keep_w_0) (fun _ h9 => h9) rfl dX3_keep_27 ?_
    refine lv_iconst (v := zI 0) hx hb dX3_keep_30 rfl ?_
    refine lv_iload_n hx hb dX3_keep_31 rfl (lv_at hl 2 rfl) ?_
    refine kz_iast hx hb hK hP hD hS 1 0 rfl rfl (by omega) dX3_keep_32 (fun H locs hP hD hS => ?_)
    have hP : va_P D vwCl [(h0, .inr (3, [.ref r1, .int (zI n)])), (r1, .inl (cr1, 5, .inl (upd ja (0 : Int).toNat (zI f))))] H := hP
    have hD : va_D A [(h0, .inr (3, [.ref r1, .int (zI n)])), (r1, .inl (cr1, 5, .inl (upd ja (0 : Int).toNat (zI f))))] := hD
    generalize ef_2 : upd ja (0 : Int).toNat (zI f) = f_2 at hP hD
    refine lv_aload_n hx hb dX3_keep_33 rfl (lv_at hl 1 rfl) ?_
    refine lv_aload_n hx hb dX3_keep_34 rfl (lv_at hl 1 rfl) ?_
    refine va_get (D := D) (ci := 3) (v := .int (zI n)) (C := RX3) (T := TX3) (N := 2) hx hb hts (fun _ h9 => List.mem_cons_of_mem _ (List.mem_append_right _ h9)) hown hK hP 0 rfl rfl 1 (by decide) (hts (.fieldLink RX3 15 "FontRuns$Recent" "count" "I") mw_X3_keep_w_1) (fun _ h9 => h9) rfl dX3_keep_35 ?_
    refine lv_iconst (v := zI 1) hx hb dX3_keep_38 rfl ?_
    refine kz_iadd hx hb dX3_keep_39 ?_
    refine lv_iconst (v := zI 5) hx hb dX3_keep_40 rfl ?_
    refine kz_min hx hb (by rw [hml]; exact hl.1.symm) hown (hts (.methodLink RX3 19 Lib.Math.min.name) mw_X3_keep_w_2) (hts (.static Lib.Math.min.name) mw_X3_keep_w_3) (hts (.initialized "java/lang/Math") mw_X3_keep_w_4) (hts (.code Lib.Math.min.name Lib.Math.min.code 2 (some .int)) mw_X3_keep_w_5) (Nat.le_of_ble_eq_true rfl) (Nat.le_of_ble_eq_true rfl) (Nat.le_of_ble_eq_true rfl) (Nat.le_of_ble_eq_true rfl) (by omega) (by omega) dX3_keep_41 (fun z_3 rz_3 ez_3 => ?_)
    refine va_put (D := D) (ci := 3) (v := .int (zI z_3)) (ty := .int) (C := RX3) (T := TX3) (N := 2) hx hb hts (fun _ h9 => List.mem_cons_of_mem _ (List.mem_append_right _ h9)) tyX3 tyX3_ok nmX3 hown hK hP hD hS 0 rfl rfl 1 (by decide) (hts (.fieldLink RX3 15 "FontRuns$Recent" "count" "I") mw_X3_keep_w_1) (fun _ h9 => h9) rfl (by decide +kernel) rfl rfl (Nat.le_of_ble_eq_true rfl) dX3_keep_44 (fun H locs hP hD hS => ?_)
    have hP : va_P D vwCl [(h0, .inr (3, [.ref r1, .int (zI z_3)])), (r1, .inl (cr1, 5, .inl f_2))] H := hP
    have hD : va_D A [(h0, .inr (3, [.ref r1, .int (zI z_3)])), (r1, .inl (cr1, 5, .inl f_2))] := hD
    have hP9 := hP.sub (ws' := [(h0, .inr (3, [.ref r1, .int (zI z_3)])), (r1, .inl (cr1, 5, .inl f_2))]) [0, 1] rfl
    have hD9 := hD.sub (ws' := [(h0, .inr (3, [.ref r1, .int (zI z_3)])), (r1, .inl (cr1, 5, .inl f_2))]) [0, 1] (by decide +kernel) rfl
    exact W.vret hx hb hr (fun t ht hW => kQV_of ⟨z_3, f_2, (by omega), (by omega), (kMvE ef_2 v_21 (by omega)), by rw [ht]; exact hP9, hD9⟩ (hS.F ht)) hS.2.2 dX3_keep_47
  · refine lv_aload_n hx hb dX3_keep_6 rfl (lv_at hl 1 rfl) ?_
    refine va_get (D := D) (ci := 3) (v := .ref r1) (C := RX3) (T := TX3) (N := 2) hx hb hts (fun _ h9 => List.mem_cons_of_mem _ (List.mem_append_right _ h9)) hown hK hP 0 rfl rfl 0 (by decide) (hts (.fieldLink RX3 9 "FontRuns$Recent" "row" "[I") mw_X3_keep_w_0) (fun _ h9 => h9) rfl dX3_keep_7 ?_
    refine lv_iload_n hx hb dX3_keep_10 rfl (lv_at hl 0 rfl) ?_
    refine lv_aload_n hx hb dX3_keep_11 rfl (lv_at hl 1 rfl) ?_
    refine va_get (D := D) (ci := 3) (v := .ref r1) (C := RX3) (T := TX3) (N := 2) hx hb hts (fun _ h9 => List.mem_cons_of_mem _ (List.mem_append_right _ h9)) hown hK hP 0 rfl rfl 0 (by decide) (hts (.fieldLink RX3 9 "FontRuns$Recent" "row" "[I") mw_X3_keep_w_0) (fun _ h9 => h9) rfl dX3_keep_12 ?_
    refine lv_iload_n hx hb dX3_keep_15 rfl (lv_at hl 0 rfl) ?_
    refine lv_iconst (v := zI 1) hx hb dX3_keep_16 rfl ?_
    refine kz_isub hx hb dX3_keep_17 ?_
    refine kz_iald hx hb hK hP 1 0 rfl rfl (by omega) dX3_keep_18 (fun z_4 rz_4 ez_4 => ?_)
    refine kz_iast hx hb hK hP hD hS 1 0 rfl rfl (by omega) dX3_keep_19 (fun H locs hP hD hS => ?_)
    have hP : va_P D vwCl [(h0, .inr (3, [.ref r1, .int (zI n)])), (r1, .inl (cr1, 5, .inl (upd ja (jk).toNat (zI z_4))))] H := hP
    have hD : va_D A [(h0, .inr (3, [.ref r1, .int (zI n)])), (r1, .inl (cr1, 5, .inl (upd ja (jk).toNat (zI z_4))))] := hD
    generalize ef_5 : upd ja (jk).toNat (zI z_4) = f_5 at hP hD
    refine lv_iinc (v := (zI (jk - 1))) (lv' := [(2, .int (zI (jk - 1))), (0, .ref h0), (1, .int (zI f))]) hx hb dX3_keep_20 hl (k := 0) rfl (kz_dec _ 1) (by decide) rfl (fun ls hl => ?_)
    refine lv_goto (tgt := 2) hx hb dX3_keep_23 (by decide) ?_
    exact ih2 _ (by omega) _ _ _ ⟨(jk - 1), f_5, rfl, (by omega), (by rw [← ef_5, v_21]; exact kMv_1 fr (by omega) (by rw [← v_21]; exact ez_4)), hP, hD, hS, lv_sub hl [0, 1, 2] rfl⟩
set_option maxRecDepth 20000 in
theorem mw_X7_add_w_0 : (.fieldLink RX7 15 "FontRuns$Writing" "count" "I" : Cond) ∈ wsX7_add := List.mem_cons_of_mem _ (List.mem_append_left _ (List.mem_of_getElem? (i := 0) rfl))
set_option maxRecDepth 20000 in
theorem mw_X7_add_w_1 : (.initialized RX8 : Cond) ∈ wsX7_add := List.mem_cons_of_mem _ (List.mem_append_left _ (List.mem_of_getElem? (i := 3) rfl))
set_option maxRecDepth 20000 in
theorem mw_X7_add_w_2 : (.static yX8_isWithin : Cond) ∈ wsX7_add := List.mem_cons_of_mem _ (List.mem_append_left _ (List.mem_of_getElem? (i := 2) rfl))
set_option maxRecDepth 20000 in
theorem mw_X7_add_w_3 : (.fieldLink RX7 9 "FontRuns$Writing" "row" "[I" : Cond) ∈ wsX7_add := List.mem_cons_of_mem _ (List.mem_append_left _ (List.mem_of_getElem? (i := 1) rfl))
theorem ax_X7_add_w_0 {e0 e1 : Nat × va_E} : ([] : List Nat).map (fun i => ([e0, e1] : va_W)[i]?) = ([] : va_W).map some := rfl
theorem ax_X7_add_w_1 {e0 e1 : Nat × va_E} : ([0, 1] : List Nat).map (fun i => ([e0, e1] : va_W)[i]?) = ([e0, e1] : va_W).map some := rfl
set_option maxHeartbeats 4000000 in
set_option maxRecDepth 100000 in
theorem c_X7_add_w (l : Launch) (D : va_G) (sz : Nat) (x : Int) (h0 : Nat) (r1 : Nat) (n : Int) (cr1 : ClassId) (fr : Nat → Int32) (q0 : rg x) (q1 : 0 ≤ n ∧ n ≤ 24) : Met l yX7_add wsX7_add ({ frames := 1, cells := 0, slots := 0, locals := 22 }) (kPre [.ref h0, .int (zI x)] D [(h0, .inr (7, [.ref r1, .int (zI n)])), (r1, .inl (cr1, 24, .inl fr))] [(cr1, .int)] sz) (kQS (fun rz t => ∃ (un : Int) (uf : Nat → Int32), (0 ≤ un ∧ un ≤ 24) ∧ (rz = 0 ∨ rz = 1) ∧ ((n < 24 ∧ rz = 1 ∧ un = n + 1 ∧ uf = upd fr n.toNat (zI x)) ∨ (24 ≤ n ∧ rz = 0 ∧ un = n ∧ uf = fr)) ∧ va_P D vwCl [(h0, .inr (7, [.ref r1, .int (zI un)])), (r1, .inl (cr1, 24, .inl uf))] t.heap ∧ va_D (va_A [(h0, .inr (7, [.ref r1, .int (zI n)])), (r1, .inl (cr1, 24, .inl fr))] sz) [(h0, .inr (7, [.ref r1, .int (zI un)])), (r1, .inl (cr1, 24, .inl uf))]) (va_A [(h0, .inr (7, [.ref r1, .int (zI n)])), (r1, .inl (cr1, 24, .inl fr))] sz)) 0 0 (va_A [(h0, .inr (7, [.ref r1, .int (zI n)])), (r1, .inl (cr1, 24, .inl fr))] sz) := by
  refine Met.ofW (cc := cX7_add) (maxL := 2) (ret := (some .boolean)) (by decide) rfl ?_
  intro p e s m args below meth c s₁ B hml hv
  obtain ⟨rfl, hsz, hP, hK, hD0, hN⟩ := hv
  have hx := B.exec
  have hb := B.bytes
  have hr := B.returns
  have hts := atoms_spec (ws := wsX7_add) B.pre
  have hown : s.vm.findClass RX7 = some m.cls := findClass_of_methodNamed B.named
  have hlocks := B.notSynchronized
  subst hsz
  have hD := hD0.self (sz := s.heap.size)
  generalize hAe : va_A [(h0, .inr (7, [.ref r1, .int (zI n)])), (r1, .inl (cr1, 24, .inl fr))] s.heap.size = A at hD ⊢
  have hA : ∀ q : Nat, s.heap.size ≤ q → A q := fun q h => by rw [← hAe]; exact Or.inr h
  have hS : va_S A s.heap s.heap [] := va_S.rf
  have hP : va_P D vwCl [(h0, .inr (7, [.ref r1, .int (zI n)])), (r1, .inl (cr1, 24, .inl fr))] s.heap := hP
  have hl := lv_entry ([.ref h0, .int (zI x)]) (n := 2) (Nat.le_of_ble_eq_true rfl)
  rw [lg_entry_eq]
  generalize (lg_sl ([.ref h0, .int (zI x)]) ++ List.replicate (2 - (lg_sl ([.ref h0, .int (zI x)])).length) Slot.unset).toArray = ls at hl ⊢
  have hl : lv_has ls 2 [(0, .ref h0), (1, .int (zI x))] := hl
  refine lv_aload_n hx hb dX7_add_0 rfl (lv_at hl 0 rfl) ?_
  refine va_get (D := D) (ci := 7) (v := .int (zI n)) (C := RX7) (T := TX7) (N := 2) hx hb hts (fun _ h9 => List.mem_cons_of_mem _ (List.mem_append_right _ h9)) hown hK hP 0 rfl rfl 1 (by decide) (hts (.fieldLink RX7 15 "FontRuns$Writing" "count" "I") mw_X7_add_w_0) (fun _ h9 => h9) rfl dX7_add_1 ?_
  refine lv_iconst (v := zI 0) hx hb dX7_add_4 rfl ?_
  refine lv_bipush (v := zI 23) hx hb dX7_add_5 (by decide) ?_
  refine k_callR (va_runSN (As := [.int (zI n), .int (zI 0), .int (zI 23)]) (rest := []) ⟨hx, hb, hml, hown, hts⟩ (c_X8_isWithin l D s.heap.size (v := n) (a := 0) (b := 23) (by omega) (by omega) (by omega)) (⟨va_cnB 3 hts gX7_add_X8_isWithin_n19 rfl rfl rfl (hN.1 (RX7, 19, yX8_isWithin) (by decide +kernel)) (hts (.initialized RX8) mw_X7_add_w_1) (by decide +kernel) ⟨Nat.le_of_ble_eq_true rfl, Nat.le_of_ble_eq_true rfl⟩, (hts (.static yX8_isWithin) mw_X7_add_w_2), trivial⟩) (kPreS hP (kD0 hD) hK hN [] [] ax_X7_add_w_0 rfl (by decide +kernel)) rfl rfl hl.1 rfl (lv_room (Nat.le_of_ble_eq_true rfl)) dX7_add_7 ⟨Nat.le_of_ble_eq_true rfl, Nat.le_of_ble_eq_true rfl⟩) ?_
  refine lv_if_ne (tgt := 15) hx hb dX7_add_10 (by decide) (fun c_1 => ?_) (fun c_1 => ?_)
  · have c_1 : 0 ≤ n ∧ n ≤ 23 := b01t c_1
    refine lv_aload_n hx hb dX7_add_15 rfl (lv_at hl 0 rfl) ?_
    refine va_get (D := D) (ci := 7) (v := .ref r1) (C := RX7) (T := TX7) (N := 2) hx hb hts (fun _ h9 => List.mem_cons_of_mem _ (List.mem_append_right _ h9)) hown hK hP 0 rfl rfl 0 (by decide) (hts (.fieldLink RX7 9 "FontRuns$Writing" "row" "[I") mw_X7_add_w_3) (fun _ h9 => h9) rfl dX7_add_16 ?_
    refine lv_aload_n hx hb dX7_add_19 rfl (lv_at hl 0 rfl) ?_
    refine va_get (D := D) (ci := 7) (v := .int (zI n)) (C := RX7) (T := TX7) (N := 2) hx hb hts (fun _ h9 => List.mem_cons_of_mem _ (List.mem_append_right _ h9)) hown hK hP 0 rfl rfl 1 (by decide) (hts (.fieldLink RX7 15 "FontRuns$Writing" "count" "I") mw_X7_add_w_0) (fun _ h9 => h9) rfl dX7_add_20 ?_
    refine lv_iload_n hx hb dX7_add_23 rfl (lv_at hl 1 rfl) ?_
    refine kz_iast hx hb hK hP hD hS 1 0 rfl rfl (by omega) dX7_add_24 (fun H locs hP hD hS => ?_)
    have hP : va_P D vwCl [(h0, .inr (7, [.ref r1, .int (zI n)])), (r1, .inl (cr1, 24, .inl (upd fr (n).toNat (zI x))))] H := hP
    have hD : va_D A [(h0, .inr (7, [.ref r1, .int (zI n)])), (r1, .inl (cr1, 24, .inl (upd fr (n).toNat (zI x))))] := hD
    generalize ef_2 : upd fr (n).toNat (zI x) = f_2 at hP hD
    refine lv_aload_n hx hb dX7_add_25 rfl (lv_at hl 0 rfl) ?_
    refine lv_dup hx hb dX7_add_26 rfl ?_
    refine va_get (D := D) (ci := 7) (v := .int (zI n)) (C := RX7) (T := TX7) (N := 2) hx hb hts (fun _ h9 => List.mem_cons_of_mem _ (List.mem_append_right _ h9)) hown hK hP 0 rfl rfl 1 (by decide) (hts (.fieldLink RX7 15 "FontRuns$Writing" "count" "I") mw_X7_add_w_0) (fun _ h9 => h9) rfl dX7_add_27 ?_
    refine lv_iconst (v := zI 1) hx hb dX7_add_30 rfl ?_
    refine kz_iadd hx hb dX7_add_31 ?_
    refine va_put (D := D) (ci := 7) (v := .int (zI (n + 1))) (ty := .int) (C := RX7) (T := TX7) (N := 2) hx hb hts (fun _ h9 => List.mem_cons_of_mem _ (List.mem_append_right _ h9)) tyX7 tyX7_ok nmX7 hown hK hP hD hS 0 rfl rfl 1 (by decide) (hts (.fieldLink RX7 15 "FontRuns$Writing" "count" "I") mw_X7_add_w_0) (fun _ h9 => h9) rfl (by decide +kernel) rfl rfl (Nat.le_of_ble_eq_true rfl) dX7_add_32 (fun H locs hP hD hS => ?_)
    have hP : va_P D vwCl [(h0, .inr (7, [.ref r1, .int (zI (n + 1))])), (r1, .inl (cr1, 24, .inl f_2))] H := hP
    have hD : va_D A [(h0, .inr (7, [.ref r1, .int (zI (n + 1))])), (r1, .inl (cr1, 24, .inl f_2))] := hD
    refine lv_iconst (v := zI 1) hx hb dX7_add_35 rfl ?_
    have hP9 := hP.sub (ws' := [(h0, .inr (7, [.ref r1, .int (zI (n + 1))])), (r1, .inl (cr1, 24, .inl f_2))]) [0, 1] rfl
    have hD9 := hD.sub (ws' := [(h0, .inr (7, [.ref r1, .int (zI (n + 1))])), (r1, .inl (cr1, 24, .inl f_2))]) [0, 1] (by decide +kernel) rfl
    exact W.zret (v := (zI 1)) hx hb hr rfl (fun t ht hW => kQS_of (by omega) ⟨(n + 1), f_2, (by omega), (by omega), (Or.inl ⟨by omega, by omega, by omega, by first | exact ef_2.symm | rfl⟩), by rw [ht]; exact hP9, hD9⟩ (hS.F ht)) hS.2.2 dX7_add_36
  · have c_1 : ¬ (0 ≤ n ∧ n ≤ 23) := b01f c_1
    refine lv_iconst (v := zI 0) hx hb dX7_add_13 rfl ?_
    have hP9 := hP.sub (ws' := [(h0, .inr (7, [.ref r1, .int (zI n)])), (r1, .inl (cr1, 24, .inl fr))]) [0, 1] rfl
    have hD9 := hD.sub (ws' := [(h0, .inr (7, [.ref r1, .int (zI n)])), (r1, .inl (cr1, 24, .inl fr))]) [0, 1] (by decide +kernel) rfl
    exact W.zret (v := (zI 0)) hx hb hr rfl (fun t ht hW => kQS_of (by omega) ⟨n, fr, q1, (by omega), (Or.inr ⟨by omega, by omega, by omega, rfl⟩), by rw [ht]; exact hP9, hD9⟩ (hS.F ht)) hS.2.2 dX7_add_14
set_option maxRecDepth 20000 in
theorem mw_X7_drop_w_0 : (.fieldLink RX7 15 "FontRuns$Writing" "count" "I" : Cond) ∈ wsX7_drop := List.mem_cons_of_mem _ (List.mem_append_left _ (List.mem_of_getElem? (i := 0) rfl))
set_option maxRecDepth 20000 in
theorem mw_X7_drop_w_1 : (.initialized RX8 : Cond) ∈ wsX7_drop := List.mem_cons_of_mem _ (List.mem_append_left _ (List.mem_of_getElem? (i := 2) rfl))
set_option maxRecDepth 20000 in
theorem mw_X7_drop_w_2 : (.static yX8_isWithin : Cond) ∈ wsX7_drop := List.mem_cons_of_mem _ (List.mem_append_left _ (List.mem_of_getElem? (i := 1) rfl))
theorem ax_X7_drop_w_0 {e0 : Nat × va_E} : ([] : List Nat).map (fun i => ([e0] : va_W)[i]?) = ([] : va_W).map some := rfl
theorem ax_X7_drop_w_1 {e0 : Nat × va_E} : ([0] : List Nat).map (fun i => ([e0] : va_W)[i]?) = ([e0] : va_W).map some := rfl
set_option maxHeartbeats 4000000 in
set_option maxRecDepth 100000 in
theorem c_X7_drop_w (l : Launch) (D : va_G) (sz : Nat) (x : Int) (h0 : Nat) (r1 : Nat) (n : Int) (q0 : rg x) (q1 : 0 ≤ n ∧ n ≤ 24) : Met l yX7_drop wsX7_drop ({ frames := 1, cells := 0, slots := 0, locals := 22 }) (kPre [.ref h0, .int (zI x)] D [(h0, .inr (7, [.ref r1, .int (zI n)]))] [] sz) (kQS (fun rz t => ∃ (un : Int), (0 ≤ un ∧ un ≤ 24) ∧ (rz = 0 ∨ rz = 1) ∧ ((0 ≤ x ∧ x ≤ n ∧ rz = 1 ∧ un = n - x) ∨ (¬ (0 ≤ x ∧ x ≤ n) ∧ rz = 0 ∧ un = n)) ∧ va_P D vwCl [(h0, .inr (7, [.ref r1, .int (zI un)]))] t.heap ∧ va_D (va_A [(h0, .inr (7, [.ref r1, .int (zI n)]))] sz) [(h0, .inr (7, [.ref r1, .int (zI un)]))]) (va_A [(h0, .inr (7, [.ref r1, .int (zI n)]))] sz)) 0 0 (va_A [(h0, .inr (7, [.ref r1, .int (zI n)]))] sz) := by
  refine Met.ofW (cc := cX7_drop) (maxL := 2) (ret := (some .boolean)) (by decide) rfl ?_
  intro p e s m args below meth c s₁ B hml hv
  obtain ⟨rfl, hsz, hP, hK, hD0, hN⟩ := hv
  have hx := B.exec
  have hb := B.bytes
  have hr := B.returns
  have hts := atoms_spec (ws := wsX7_drop) B.pre
  have hown : s.vm.findClass RX7 = some m.cls := findClass_of_methodNamed B.named
  have hlocks := B.notSynchronized
  subst hsz
  have hD := hD0.self (sz := s.heap.size)
  generalize hAe : va_A [(h0, .inr (7, [.ref r1, .int (zI n)]))] s.heap.size = A at hD ⊢
  have hA : ∀ q : Nat, s.heap.size ≤ q → A q := fun q h => by rw [← hAe]; exact Or.inr h
  have hS : va_S A s.heap s.heap [] := va_S.rf
  have hP : va_P D vwCl [(h0, .inr (7, [.ref r1, .int (zI n)]))] s.heap := hP
  have hl := lv_entry ([.ref h0, .int (zI x)]) (n := 2) (Nat.le_of_ble_eq_true rfl)
  rw [lg_entry_eq]
  generalize (lg_sl ([.ref h0, .int (zI x)]) ++ List.replicate (2 - (lg_sl ([.ref h0, .int (zI x)])).length) Slot.unset).toArray = ls at hl ⊢
  have hl : lv_has ls 2 [(0, .ref h0), (1, .int (zI x))] := hl
  refine lv_iload_n hx hb dX7_drop_0 rfl (lv_at hl 1 rfl) ?_
  refine lv_iconst (v := zI 0) hx hb dX7_drop_1 rfl ?_
  refine lv_aload_n hx hb dX7_drop_2 rfl (lv_at hl 0 rfl) ?_
  refine va_get (D := D) (ci := 7) (v := .int (zI n)) (C := RX7) (T := TX7) (N := 2) hx hb hts (fun _ h9 => List.mem_cons_of_mem _ (List.mem_append_right _ h9)) hown hK hP 0 rfl rfl 1 (by decide) (hts (.fieldLink RX7 15 "FontRuns$Writing" "count" "I") mw_X7_drop_w_0) (fun _ h9 => h9) rfl dX7_drop_3 ?_
  refine k_callR (va_runSN (As := [.int (zI x), .int (zI 0), .int (zI n)]) (rest := []) ⟨hx, hb, hml, hown, hts⟩ (c_X8_isWithin l D s.heap.size (v := x) (a := 0) (b := n) q0 (by omega) (by omega)) (⟨va_cnB 3 hts gX7_drop_X8_isWithin_n19 rfl rfl rfl (hN.1 (RX7, 19, yX8_isWithin) (by decide +kernel)) (hts (.initialized RX8) mw_X7_drop_w_1) (by decide +kernel) ⟨Nat.le_of_ble_eq_true rfl, Nat.le_of_ble_eq_true rfl⟩, (hts (.static yX8_isWithin) mw_X7_drop_w_2), trivial⟩) (kPreS hP (kD0 hD) hK hN [] [] ax_X7_drop_w_0 rfl (by decide +kernel)) rfl rfl hl.1 rfl (lv_room (Nat.le_of_ble_eq_true rfl)) dX7_drop_6 ⟨Nat.le_of_ble_eq_true rfl, Nat.le_of_ble_eq_true rfl⟩) ?_
  refine lv_if_ne (tgt := 14) hx hb dX7_drop_9 (by decide) (fun c_1 => ?_) (fun c_1 => ?_)
  · have c_1 : 0 ≤ x ∧ x ≤ n := b01t c_1
    refine lv_aload_n hx hb dX7_drop_14 rfl (lv_at hl 0 rfl) ?_
    refine lv_dup hx hb dX7_drop_15 rfl ?_
    refine va_get (D := D) (ci := 7) (v := .int (zI n)) (C := RX7) (T := TX7) (N := 2) hx hb hts (fun _ h9 => List.mem_cons_of_mem _ (List.mem_append_right _ h9)) hown hK hP 0 rfl rfl 1 (by decide) (hts (.fieldLink RX7 15 "FontRuns$Writing" "count" "I") mw_X7_drop_w_0) (fun _ h9 => h9) rfl dX7_drop_16 ?_
    refine lv_iload_n hx hb dX7_drop_19 rfl (lv_at hl 1 rfl) ?_
    refine kz_isub hx hb dX7_drop_20 ?_
    refine va_put (D := D) (ci := 7) (v := .int (zI (n - x))) (ty := .int) (C := RX7) (T := TX7) (N := 2) hx hb hts (fun _ h9 => List.mem_cons_of_mem _ (List.mem_append_right _ h9)) tyX7 tyX7_ok nmX7 hown hK hP hD hS 0 rfl rfl 1 (by decide) (hts (.fieldLink RX7 15 "FontRuns$Writing" "count" "I") mw_X7_drop_w_0) (fun _ h9 => h9) rfl (by decide +kernel) rfl rfl (Nat.le_of_ble_eq_true rfl) dX7_drop_21 (fun H locs hP hD hS => ?_)
    have hP : va_P D vwCl [(h0, .inr (7, [.ref r1, .int (zI (n - x))]))] H := hP
    have hD : va_D A [(h0, .inr (7, [.ref r1, .int (zI (n - x))]))] := hD
    refine lv_iconst (v := zI 1) hx hb dX7_drop_24 rfl ?_
    have hP9 := hP.sub (ws' := [(h0, .inr (7, [.ref r1, .int (zI (n - x))]))]) [0] rfl
    have hD9 := hD.sub (ws' := [(h0, .inr (7, [.ref r1, .int (zI (n - x))]))]) [0] (by decide +kernel) rfl
    exact W.zret (v := (zI 1)) hx hb hr rfl (fun t ht hW => kQS_of (by omega) ⟨(n - x), (by omega), (by omega), (by omega), by rw [ht]; exact hP9, hD9⟩ (hS.F ht)) hS.2.2 dX7_drop_25
  · have c_1 : ¬ (0 ≤ x ∧ x ≤ n) := b01f c_1
    refine lv_iconst (v := zI 0) hx hb dX7_drop_12 rfl ?_
    have hP9 := hP.sub (ws' := [(h0, .inr (7, [.ref r1, .int (zI n)]))]) [0] rfl
    have hD9 := hD.sub (ws' := [(h0, .inr (7, [.ref r1, .int (zI n)]))]) [0] (by decide +kernel) rfl
    exact W.zret (v := (zI 0)) hx hb hr rfl (fun t ht hW => kQS_of (by omega) ⟨n, q1, (by omega), (by omega), by rw [ht]; exact hP9, hD9⟩ (hS.F ht)) hS.2.2 dX7_drop_13
set_option maxHeartbeats 4000000 in
set_option maxRecDepth 100000 in
theorem c_X8_stepOf_w (l : Launch) (D : va_G) (sz : Nat) (k : Int) (b : Int) (q0 : rg k) (q1 : rg b) : Met l yX8_stepOf wsX8_stepOf ({ frames := 0, cells := 0, slots := 0, locals := 0 }) (kPre [.int (zI k), .int (zI b)] D [] [] sz) (QcP (fun rz => zI rz = kStX (zI k) (zI b))) 0 0 (fun _ => False) := by
  refine Met.ofW (cc := cX8_stepOf) (maxL := 2) (ret := (some .int)) (by decide) rfl ?_
  intro p e s m args below meth c s₁ B hml hv
  obtain ⟨rfl, hsz, hP, hK, hD0, hN⟩ := hv
  have hx := B.exec
  have hb := B.bytes
  have hr := B.returns
  have hts := atoms_spec (ws := wsX8_stepOf) B.pre
  have hown : s.vm.findClass RX8 = some m.cls := findClass_of_methodNamed B.named
  have hlocks := B.notSynchronized
  subst hsz
  have hD := hD0
  have hP : va_P D vwCl [] s.heap := hP
  have hl := lv_entry ([.int (zI k), .int (zI b)]) (n := 2) (Nat.le_of_ble_eq_true rfl)
  rw [lg_entry_eq]
  generalize (lg_sl ([.int (zI k), .int (zI b)]) ++ List.replicate (2 - (lg_sl ([.int (zI k), .int (zI b)])).length) Slot.unset).toArray = ls at hl ⊢
  have hl : lv_has ls 2 [(0, .int (zI k)), (1, .int (zI b))] := hl
  refine lv_iload_n hx hb dX8_stepOf_0 rfl (lv_at hl 0 rfl) ?_
  rcases (show k = 1 ∨ k = 2 ∨ (¬ k = 1 ∧ ¬ k = 2) from by omega) with c_1 | c_1 | c_1
  · refine kz_look (tgt := 32) (off := 31) hx hb dX8_stepOf_1 (by decide) (by omega) (by show Op.lookupswitch.offset [(1, 31), (2, 27)] 35 k = 31; rw [Op.lookupswitch.offset_cons, Op.lookupswitch.offset_cons, Op.lookupswitch.offset_nil]; (repeat' split) <;> omega) (by decide) ?_
    refine lv_iload_n hx hb dX8_stepOf_32 rfl (lv_at hl 1 rfl) ?_
    refine lv_iconst (v := zI 1) hx hb dX8_stepOf_33 rfl ?_
    refine kz_iadd hx hb dX8_stepOf_34 ?_
    refine kz_any (fun z_2 rz_2 ez_2 => ?_)
    exact W.iret (v := (zI z_2)) hx hb hr (fun t ht hW => QcP_of (by omega) (by first | exact kStX_2 (by omega) ez_2 | exact kStX_1 (by omega) ez_2 | exact kStX_0 (by omega) (by omega) ez_2) ht) (fun _ h9 => by cases h9) dX8_stepOf_35
  · refine kz_look (tgt := 28) (off := 27) hx hb dX8_stepOf_1 (by decide) (by omega) (by show Op.lookupswitch.offset [(1, 31), (2, 27)] 35 k = 27; rw [Op.lookupswitch.offset_cons, Op.lookupswitch.offset_cons, Op.lookupswitch.offset_nil]; (repeat' split) <;> omega) (by decide) ?_
    refine lv_iconst (v := zI 2) hx hb dX8_stepOf_28 rfl ?_
    refine lv_iload_n hx hb dX8_stepOf_29 rfl (lv_at hl 1 rfl) ?_
    refine kz_imul hx hb dX8_stepOf_30 ?_
    refine kz_any (fun z_3 rz_3 ez_3 => ?_)
    exact W.iret (v := (zI z_3)) hx hb hr (fun t ht hW => QcP_of (by omega) (by first | exact kStX_2 (by omega) ez_3 | exact kStX_1 (by omega) ez_3 | exact kStX_0 (by omega) (by omega) ez_3) ht) (fun _ h9 => by cases h9) dX8_stepOf_31
  · refine kz_look (tgt := 36) (off := 35) hx hb dX8_stepOf_1 (by decide) (by omega) (by show Op.lookupswitch.offset [(1, 31), (2, 27)] 35 k = 35; rw [Op.lookupswitch.offset_cons, Op.lookupswitch.offset_cons, Op.lookupswitch.offset_nil]; (repeat' split) <;> omega) (by decide) ?_
    refine lv_iload_n hx hb dX8_stepOf_36 rfl (lv_at hl 1 rfl) ?_
    refine kz_any (fun z_4 rz_4 ez_4 => ?_)
    exact W.iret (v := (zI z_4)) hx hb hr (fun t ht hW => QcP_of (by omega) (by first | exact kStX_2 (by omega) ez_4 | exact kStX_1 (by omega) ez_4 | exact kStX_0 (by omega) (by omega) ez_4) ht) (fun _ h9 => by cases h9) dX8_stepOf_37
set_option maxRecDepth 20000 in
theorem mw_X0_step_w_0 : (.fieldLink RX0 9 "FontRuns$FontRow" "kind" "[I" : Cond) ∈ wsX0_step := List.mem_cons_of_mem _ (List.mem_append_left _ (List.mem_of_getElem? (i := 0) rfl))
set_option maxRecDepth 20000 in
theorem mw_X0_step_w_1 : (.fieldLink RX0 15 "FontRuns$FontRow" "breadth" "[I" : Cond) ∈ wsX0_step := List.mem_cons_of_mem _ (List.mem_append_left _ (List.mem_of_getElem? (i := 1) rfl))
set_option maxRecDepth 20000 in
theorem mw_X0_step_w_2 : (.initialized RX8 : Cond) ∈ wsX0_step := List.mem_cons_of_mem _ (List.mem_append_left _ (List.mem_of_getElem? (i := 9) rfl))
set_option maxRecDepth 20000 in
theorem mw_X0_step_w_3 : (.static yX8_stepOf : Cond) ∈ wsX0_step := List.mem_cons_of_mem _ (List.mem_append_left _ (List.mem_of_getElem? (i := 11) rfl))
theorem ax_X0_step_w_0 {e0 e1 e2 : Nat × va_E} : ([0] : List Nat).map (fun i => ([e0, e1, e2] : va_W)[i]?) = ([e0] : va_W).map some := rfl
theorem ax_X0_step_w_1 {e0 e1 e2 : Nat × va_E} : ([] : List Nat).map (fun i => ([e0, e1, e2] : va_W)[i]?) = ([] : va_W).map some := rfl
set_option maxHeartbeats 4000000 in
set_option maxRecDepth 100000 in
theorem c_X0_step_w (l : Launch) (D : va_G) (sz : Nat) (f : Int) (h0 : Nat) (k1 : Nat) (k2 : Nat) (k3 : Nat) (n : Int) (ck1 : ClassId) (fk : Nat → Int32) (ck2 : ClassId) (fb : Nat → Int32) (q0 : rg f) (q1 : 0 ≤ n ∧ n ≤ 4) : Met l yX0_step wsX0_step ({ frames := 2, cells := 0, slots := 0, locals := 43 }) (kPre [.ref h0, .int (zI f)] D [(h0, .inr (0, [.ref k1, .ref k2, .ref k3, .int (zI n)])), (k1, .inl (ck1, 4, .inl fk)), (k2, .inl (ck2, 4, .inl fb))] [(ck1, .int), (ck2, .int)] sz) (QcP (fun rz => (0 ≤ f ∧ f ≤ n - 1) → zI rz = kStX (fk f.toNat) (fb f.toNat))) 0 0 (fun _ => False) := by
  refine Met.ofW (cc := cX0_step) (maxL := 2) (ret := (some .int)) (by decide) rfl ?_
  intro p e s m args below meth c s₁ B hml hv
  obtain ⟨rfl, hsz, hP, hK, hD0, hN⟩ := hv
  have hx := B.exec
  have hb := B.bytes
  have hr := B.returns
  have hts := atoms_spec (ws := wsX0_step) B.pre
  have hown : s.vm.findClass RX0 = some m.cls := findClass_of_methodNamed B.named
  have hlocks := B.notSynchronized
  subst hsz
  have hD := hD0
  have hP : va_P D vwCl [(h0, .inr (0, [.ref k1, .ref k2, .ref k3, .int (zI n)])), (k1, .inl (ck1, 4, .inl fk)), (k2, .inl (ck2, 4, .inl fb))] s.heap := hP
  have hl := lv_entry ([.ref h0, .int (zI f)]) (n := 2) (Nat.le_of_ble_eq_true rfl)
  rw [lg_entry_eq]
  generalize (lg_sl ([.ref h0, .int (zI f)]) ++ List.replicate (2 - (lg_sl ([.ref h0, .int (zI f)])).length) Slot.unset).toArray = ls at hl ⊢
  have hl : lv_has ls 2 [(0, .ref h0), (1, .int (zI f))] := hl
  refine lv_aload_n hx hb dX0_step_0 rfl (lv_at hl 0 rfl) ?_
  refine lv_iload_n hx hb dX0_step_1 rfl (lv_at hl 1 rfl) ?_
  refine k_callR (va_runV (As := [.int (zI f)]) (rest := []) ⟨hx, hb, hml, hown, hts⟩ (c_X0_isFont l D s.heap.size (f := f) (h0 := h0) (k1 := k1) (k2 := k2) (k3 := k3) (n := n) q0 q1) (cwV 1 hts gX0_step_X0_isFont rfl rfl rfl (by decide +kernel) ⟨Nat.le_of_ble_eq_true rfl, Nat.le_of_ble_eq_true rfl⟩) (kPreV hP (kD0 hD) hK hN [0] [] ax_X0_step_w_0 rfl (by decide +kernel) 0 0 rfl rfl) rfl rfl hl.1 rfl (lv_room (Nat.le_of_ble_eq_true rfl)) dX0_step_2 ⟨Nat.le_of_ble_eq_true rfl, Nat.le_of_ble_eq_true rfl⟩) ?_
  refine lv_if_eq (tgt := 26) hx hb dX0_step_5 (by decide) (fun c_1 => ?_) (fun c_1 => ?_)
  · have c_1 : ¬ (0 ≤ f ∧ f ≤ n - 1) := b01f c_1
    refine lv_iconst (v := zI 0) hx hb dX0_step_26 rfl ?_
    exact W.iret (v := (zI 0)) hx hb hr (fun t ht hW => QcP_of (by omega) (fun q9 => absurd q9 (by omega)) ht) (fun _ h9 => by cases h9) dX0_step_27
  · have c_1 : 0 ≤ f ∧ f ≤ n - 1 := b01t c_1
    refine lv_aload_n hx hb dX0_step_8 rfl (lv_at hl 0 rfl) ?_
    refine va_get (D := D) (ci := 0) (v := .ref k1) (C := RX0) (T := TX0) (N := 4) hx hb hts (fun _ h9 => List.mem_cons_of_mem _ (List.mem_append_right _ h9)) hown hK hP 0 rfl rfl 0 (by decide) (hts (.fieldLink RX0 9 "FontRuns$FontRow" "kind" "[I") mw_X0_step_w_0) (fun _ h9 => h9) rfl dX0_step_9 ?_
    refine lv_iload_n hx hb dX0_step_12 rfl (lv_at hl 1 rfl) ?_
    refine kz_iald hx hb hK hP 1 0 rfl rfl (by omega) dX0_step_13 (fun z_2 rz_2 ez_2 => ?_)
    refine lv_aload_n hx hb dX0_step_14 rfl (lv_at hl 0 rfl) ?_
    refine va_get (D := D) (ci := 0) (v := .ref k2) (C := RX0) (T := TX0) (N := 4) hx hb hts (fun _ h9 => List.mem_cons_of_mem _ (List.mem_append_right _ h9)) hown hK hP 0 rfl rfl 1 (by decide) (hts (.fieldLink RX0 15 "FontRuns$FontRow" "breadth" "[I") mw_X0_step_w_1) (fun _ h9 => h9) rfl dX0_step_15 ?_
    refine lv_iload_n hx hb dX0_step_18 rfl (lv_at hl 1 rfl) ?_
    refine kz_iald hx hb hK hP 2 1 rfl rfl (by omega) dX0_step_19 (fun z_3 rz_3 ez_3 => ?_)
    refine k_callP (va_runSN (As := [.int (zI z_2), .int (zI z_3)]) (rest := []) ⟨hx, hb, hml, hown, hts⟩ (c_X8_stepOf_w l D s.heap.size (k := z_2) (b := z_3) (by omega) (by omega)) (⟨va_cnB 2 hts gX0_step_X8_stepOf_n33 rfl rfl rfl (hN.1 (RX0, 33, yX8_stepOf) (by decide +kernel)) (hts (.initialized RX8) mw_X0_step_w_2) (by decide +kernel) ⟨Nat.le_of_ble_eq_true rfl, Nat.le_of_ble_eq_true rfl⟩, (hts (.static yX8_stepOf) mw_X0_step_w_3), trivial⟩) (kPreS hP (kD0 hD) hK hN [] [] ax_X0_step_w_1 rfl (by decide +kernel)) rfl rfl hl.1 rfl (lv_room (Nat.le_of_ble_eq_true rfl)) dX0_step_20 ⟨Nat.le_of_ble_eq_true rfl, Nat.le_of_ble_eq_true rfl⟩) (fun z_4 rz_4 h_5 => ?_)
    refine lv_goto (tgt := 27) hx hb dX0_step_23 (by decide) ?_
    exact W.iret (v := (zI z_4)) hx hb hr (fun t ht hW => QcP_of (by omega) (fun _ => by rw [ez_2, ez_3]; exact h_5) ht) (fun _ h9 => by cases h9) dX0_step_27
section
variable {t l n y i z w : Int}
theorem kAg_0 (h1 : t = 1) (h2 : l = y) (h3 : 0 ≤ z) (h4 : 0 ≤ i ∧ i ≤ n ∧ z ≤ n - i) : kAg t l n y i z 0 := Or.inr (Or.inr (Or.inr (Or.inr ⟨h1, h2, h3, h4, rfl⟩)))
theorem kAg_3 (h1 : t = 1) (h2 : l = y) (h3 : 0 ≤ z) (h4 : ¬ (0 ≤ i ∧ i ≤ n ∧ z ≤ n - i)) : kAg t l n y i z 3 := Or.inr (Or.inr (Or.inr (Or.inl ⟨h1, h2, h3, h4, rfl⟩)))
theorem kAg_4 (h1 : t = 1) (h2 : l = y) (h3 : z < 0) : kAg t l n y i z 4 := Or.inr (Or.inr (Or.inl ⟨h1, h2, h3, rfl⟩))
theorem kAg_P (h : (w = 1 ∧ t = 0) ∨ (w = 0 ∧ t = 1 ∧ l = y) ∨ (w = 2 ∧ t = 1 ∧ ¬ l = y)) (h0 : ¬ w = 0) : kAg t l n y i z w := by
  rcases h with ⟨a, b⟩ | ⟨a, -, -⟩ | ⟨a, b, c⟩
  · exact Or.inl ⟨b, a⟩
  · exact absurd a h0
  · exact Or.inr (Or.inl ⟨b, c, a⟩)
theorem kAg_C (h : (w = 1 ∧ t = 0) ∨ (w = 2 ∧ t = 1 ∧ ¬ l = y) ∨ (w = 3 ∧ t = 1 ∧ l = y ∧ ¬ (0 ≤ i ∧ i ≤ n ∧ 0 ≤ z ∧ z ≤ n - i)) ∨ (w = 0 ∧ t = 1 ∧ l = y ∧ 0 ≤ i ∧ i ≤ n ∧ 0 ≤ z ∧ z ≤ n - i)) (hz : 0 ≤ z) : kAg t l n y i z w := by
  rcases h with ⟨a, b⟩ | ⟨a, b, c⟩ | ⟨a, b, c, d⟩ | ⟨a, b, c, d, e, f, g⟩
  · exact Or.inl ⟨b, a⟩
  · exact Or.inr (Or.inl ⟨b, c, a⟩)
  · exact Or.inr (Or.inr (Or.inr (Or.inl ⟨b, c, hz, fun q => d ⟨q.1, q.2.1, hz, q.2.2⟩, a⟩)))
  · exact Or.inr (Or.inr (Or.inr (Or.inr ⟨b, c, hz, ⟨d, e, g⟩, a⟩)))
theorem kAg_C0 (h : (w = 1 ∧ t = 0) ∨ (w = 2 ∧ t = 1 ∧ ¬ l = y) ∨ (w = 3 ∧ t = 1 ∧ l = y ∧ ¬ (0 ≤ i ∧ i ≤ n ∧ 0 ≤ z ∧ z ≤ n - i)) ∨ (w = 0 ∧ t = 1 ∧ l = y ∧ 0 ≤ i ∧ i ≤ n ∧ 0 ≤ z ∧ z ≤ n - i)) (hz : 0 ≤ z) (h0 : w = 0) : kAg t l n y i z 0 := h0 ▸ kAg_C h hz
end
theorem dX8_beginWithFontsTold_0 : decode cX8_beginWithFontsTold 0 = .ok (.aload_n 0, 1) := kqo_2a kbl_X8_beginWithFontsTold (pc := 0) rfl
theorem dX8_beginWithFontsTold_1 : decode cX8_beginWithFontsTold 1 = .ok (.getfield 28, 3) := kqo_b4 (x1 := 0) (x2 := 28) kbl_X8_beginWithFontsTold (pc := 1) rfl rfl
theorem dX8_beginWithFontsTold_4 : decode cX8_beginWithFontsTold 4 = .ok (.aload_n 0, 1) := kqo_2a kbl_X8_beginWithFontsTold (pc := 4) rfl
theorem dX8_beginWithFontsTold_5 : decode cX8_beginWithFontsTold 5 = .ok (.getfield 21, 3) := kqo_b4 (x1 := 0) (x2 := 21) kbl_X8_beginWithFontsTold (pc := 5) rfl rfl
theorem dX8_beginWithFontsTold_8 : decode cX8_beginWithFontsTold 8 = .ok (.getfield 132, 3) := kqo_b4 (x1 := 0) (x2 := 132) kbl_X8_beginWithFontsTold (pc := 8) rfl rfl
theorem dX8_beginWithFontsTold_11 : decode cX8_beginWithFontsTold 11 = .ok (.invokevirtual 135, 3) := kqo_b6 (x1 := 0) (x2 := 135) kbl_X8_beginWithFontsTold (pc := 11) rfl rfl
theorem dX8_beginWithFontsTold_14 : decode cX8_beginWithFontsTold 14 = .ok (.aload_n 0, 1) := kqo_2a kbl_X8_beginWithFontsTold (pc := 14) rfl
theorem dX8_beginWithFontsTold_15 : decode cX8_beginWithFontsTold 15 = .ok (.getfield 35, 3) := kqo_b4 (x1 := 0) (x2 := 35) kbl_X8_beginWithFontsTold (pc := 15) rfl rfl
theorem dX8_beginWithFontsTold_18 : decode cX8_beginWithFontsTold 18 = .ok (.iconst 0, 1) := kqo_03 kbl_X8_beginWithFontsTold (pc := 18) rfl
theorem dX8_beginWithFontsTold_19 : decode cX8_beginWithFontsTold 19 = .ok (.putfield 139, 3) := kqo_b5 (x1 := 0) (x2 := 139) kbl_X8_beginWithFontsTold (pc := 19) rfl rfl
theorem dX8_beginWithFontsTold_22 : decode cX8_beginWithFontsTold 22 = .ok (.aload_n 0, 1) := kqo_2a kbl_X8_beginWithFontsTold (pc := 22) rfl
theorem dX8_beginWithFontsTold_23 : decode cX8_beginWithFontsTold 23 = .ok (.getfield 42, 3) := kqo_b4 (x1 := 0) (x2 := 42) kbl_X8_beginWithFontsTold (pc := 23) rfl rfl
theorem dX8_beginWithFontsTold_26 : decode cX8_beginWithFontsTold 26 = .ok (.aload_n 0, 1) := kqo_2a kbl_X8_beginWithFontsTold (pc := 26) rfl
theorem dX8_beginWithFontsTold_27 : decode cX8_beginWithFontsTold 27 = .ok (.getfield 28, 3) := kqo_b4 (x1 := 0) (x2 := 28) kbl_X8_beginWithFontsTold (pc := 27) rfl rfl
theorem dX8_beginWithFontsTold_30 : decode cX8_beginWithFontsTold 30 = .ok (.getfield 106, 3) := kqo_b4 (x1 := 0) (x2 := 106) kbl_X8_beginWithFontsTold (pc := 30) rfl rfl
theorem dX8_beginWithFontsTold_33 : decode cX8_beginWithFontsTold 33 = .ok (.invokevirtual 140, 3) := kqo_b6 (x1 := 0) (x2 := 140) kbl_X8_beginWithFontsTold (pc := 33) rfl rfl
theorem dX8_beginWithFontsTold_36 : decode cX8_beginWithFontsTold 36 = .ok (.aload_n 0, 1) := kqo_2a kbl_X8_beginWithFontsTold (pc := 36) rfl
theorem dX8_beginWithFontsTold_37 : decode cX8_beginWithFontsTold 37 = .ok (.getfield 49, 3) := kqo_b4 (x1 := 0) (x2 := 49) kbl_X8_beginWithFontsTold (pc := 37) rfl rfl
theorem dX8_beginWithFontsTold_40 : decode cX8_beginWithFontsTold 40 = .ok (.iconst 0, 1) := kqo_03 kbl_X8_beginWithFontsTold (pc := 40) rfl
theorem dX8_beginWithFontsTold_41 : decode cX8_beginWithFontsTold 41 = .ok (.putfield 144, 3) := kqo_b5 (x1 := 0) (x2 := 144) kbl_X8_beginWithFontsTold (pc := 41) rfl rfl
theorem dX8_beginWithFontsTold_44 : decode cX8_beginWithFontsTold 44 = .ok (.aload_n 0, 1) := kqo_2a kbl_X8_beginWithFontsTold (pc := 44) rfl
theorem dX8_beginWithFontsTold_45 : decode cX8_beginWithFontsTold 45 = .ok (.getfield 63, 3) := kqo_b4 (x1 := 0) (x2 := 63) kbl_X8_beginWithFontsTold (pc := 45) rfl rfl
theorem dX8_beginWithFontsTold_48 : decode cX8_beginWithFontsTold 48 = .ok (.iconst 0, 1) := kqo_03 kbl_X8_beginWithFontsTold (pc := 48) rfl
theorem dX8_beginWithFontsTold_49 : decode cX8_beginWithFontsTold 49 = .ok (.putfield 145, 3) := kqo_b5 (x1 := 0) (x2 := 145) kbl_X8_beginWithFontsTold (pc := 49) rfl rfl
theorem dX8_beginWithFontsTold_52 : decode cX8_beginWithFontsTold 52 = .ok (.aload_n 0, 1) := kqo_2a kbl_X8_beginWithFontsTold (pc := 52) rfl
theorem dX8_beginWithFontsTold_53 : decode cX8_beginWithFontsTold 53 = .ok (.invokevirtual 146, 3) := kqo_b6 (x1 := 0) (x2 := 146) kbl_X8_beginWithFontsTold (pc := 53) rfl rfl
theorem dX8_beginWithFontsTold_56 : decode cX8_beginWithFontsTold 56 = .ok (.return_, 1) := kqo_b1 kbl_X8_beginWithFontsTold (pc := 56) rfl
set_option maxRecDepth 20000 in
theorem ggX8_beginWithFontsTold_X0_takeFrom : GoodIn wsX8_beginWithFontsTold wsX0_takeFrom := goodIn_4 _ (List.forall_mem_cons.mpr ⟨List.mem_cons_of_mem _ (List.mem_append_left _ (List.mem_append_left _ (List.mem_append_left _ (List.mem_append_left _ (List.mem_append_left _ (List.mem_append_left _ (List.mem_append_left _ (List.mem_append_left _ (List.mem_append_left _ (List.mem_of_getElem? (i := 15) rfl)))))))))), List.forall_mem_append.mpr ⟨List.forall_mem_cons.mpr ⟨List.mem_cons_of_mem _ (List.mem_append_left _ (List.mem_append_left _ (List.mem_append_left _ (List.mem_append_left _ (List.mem_append_left _ (List.mem_append_left _ (List.mem_append_left _ (List.mem_append_left _ (List.mem_append_left _ (List.mem_of_getElem? (i := 16) rfl)))))))))), List.forall_mem_cons.mpr ⟨List.mem_cons_of_mem _ (List.mem_append_left _ (List.mem_append_left _ (List.mem_append_left _ (List.mem_append_left _ (List.mem_append_left _ (List.mem_append_left _ (List.mem_append_left _ (List.mem_append_left _ (List.mem_append_left _ (List.mem_of_getElem? (i := 17) rfl)))))))))), List.forall_mem_cons.mpr ⟨List.mem_cons_of_mem _ (List.mem_append_left _ (List.mem_append_left _ (List.mem_append_left _ (List.mem_append_left _ (List.mem_append_left _ (List.mem_append_left _ (List.mem_append_left _ (List.mem_append_left _ (List.mem_append_left _ (List.mem_of_getElem? (i := 18) rfl)))))))))), List.forall_mem_cons.mpr ⟨List.mem_cons_of_mem _ (List.mem_append_left _ (List.mem_append_left _ (List.mem_append_left _ (List.mem_append_left _ (List.mem_append_left _ (List.mem_append_left _ (List.mem_append_left _ (List.mem_append_left _ (List.mem_append_left _ (List.mem_of_getElem? (i := 19) rfl)))))))))), fun _ h9 => absurd h9 List.not_mem_nil⟩⟩⟩⟩, fun w h9 => List.mem_cons_of_mem _ (List.mem_append_left _ (List.mem_append_left _ (List.mem_append_left _ (List.mem_append_left _ (List.mem_append_right _ (h9))))))⟩⟩) (by decide +kernel)
set_option maxRecDepth 20000 in
theorem gX8_beginWithFontsTold_X0_takeFrom : GoodIn wsX8_beginWithFontsTold (wsV RX8 135 RX0 yX0_takeFrom wsX0_takeFrom) := goodIn_app (goodIn_4 _ (List.forall_mem_cons.mpr ⟨List.mem_cons_of_mem _ (List.mem_append_left _ (List.mem_append_left _ (List.mem_append_left _ (List.mem_append_left _ (List.mem_append_left _ (List.mem_append_left _ (List.mem_append_left _ (List.mem_append_left _ (List.mem_append_left _ (List.mem_of_getElem? (i := 11) rfl)))))))))), List.forall_mem_cons.mpr ⟨List.mem_cons_of_mem _ (List.mem_append_left _ (List.mem_append_left _ (List.mem_append_left _ (List.mem_append_left _ (List.mem_append_left _ (List.mem_append_left _ (List.mem_append_left _ (List.mem_append_left _ (List.mem_append_left _ (List.mem_of_getElem? (i := 12) rfl)))))))))), List.forall_mem_cons.mpr ⟨List.mem_cons_of_mem _ (List.mem_append_left _ (List.mem_append_left _ (List.mem_append_left _ (List.mem_append_left _ (List.mem_append_left _ (List.mem_append_left _ (List.mem_append_left _ (List.mem_append_left _ (List.mem_append_left _ (List.mem_of_getElem? (i := 13) rfl)))))))))), List.forall_mem_cons.mpr ⟨List.mem_cons_of_mem _ (List.mem_append_left _ (List.mem_append_left _ (List.mem_append_left _ (List.mem_append_left _ (List.mem_append_left _ (List.mem_append_left _ (List.mem_append_left _ (List.mem_append_left _ (List.mem_append_left _ (List.mem_of_getElem? (i := 14) rfl)))))))))), fun _ h9 => absurd h9 List.not_mem_nil⟩⟩⟩⟩) (by decide +kernel)) ggX8_beginWithFontsTold_X0_takeFrom
set_option maxRecDepth 20000 in
theorem ggX8_beginWithFontsTold_X1_begin : GoodIn wsX8_beginWithFontsTold wsX1_begin := goodIn_4 _ (List.forall_mem_cons.mpr ⟨List.mem_cons_of_mem _ (List.mem_append_left _ (List.mem_append_left _ (List.mem_append_left _ (List.mem_append_left _ (List.mem_append_left _ (List.mem_append_left _ (List.mem_append_left _ (List.mem_append_left _ (List.mem_append_right _ (List.mem_append_left _ (List.mem_of_getElem? (i := 0) rfl))))))))))), List.forall_mem_append.mpr ⟨List.forall_mem_cons.mpr ⟨List.mem_cons_of_mem _ (List.mem_append_left _ (List.mem_append_left _ (List.mem_append_left _ (List.mem_append_left _ (List.mem_append_left _ (List.mem_append_left _ (List.mem_append_left _ (List.mem_append_left _ (List.mem_append_right _ (List.mem_append_left _ (List.mem_of_getElem? (i := 1) rfl))))))))))), List.forall_mem_cons.mpr ⟨List.mem_cons_of_mem _ (List.mem_append_left _ (List.mem_append_left _ (List.mem_append_left _ (List.mem_append_left _ (List.mem_append_left _ (List.mem_append_left _ (List.mem_append_left _ (List.mem_append_left _ (List.mem_append_right _ (List.mem_append_left _ (List.mem_of_getElem? (i := 2) rfl))))))))))), List.forall_mem_cons.mpr ⟨List.mem_cons_of_mem _ (List.mem_append_left _ (List.mem_append_left _ (List.mem_append_left _ (List.mem_append_left _ (List.mem_append_left _ (List.mem_append_left _ (List.mem_append_left _ (List.mem_append_left _ (List.mem_append_right _ (List.mem_append_left _ (List.mem_of_getElem? (i := 3) rfl))))))))))), List.forall_mem_cons.mpr ⟨List.mem_cons_of_mem _ (List.mem_append_left _ (List.mem_append_left _ (List.mem_append_left _ (List.mem_append_left _ (List.mem_append_left _ (List.mem_append_left _ (List.mem_append_left _ (List.mem_append_left _ (List.mem_append_right _ (List.mem_append_left _ (List.mem_of_getElem? (i := 4) rfl))))))))))), List.forall_mem_cons.mpr ⟨List.mem_cons_of_mem _ (List.mem_append_left _ (List.mem_append_left _ (List.mem_append_left _ (List.mem_append_left _ (List.mem_append_left _ (List.mem_append_left _ (List.mem_append_left _ (List.mem_append_left _ (List.mem_append_right _ (List.mem_append_left _ (List.mem_of_getElem? (i := 5) rfl))))))))))), List.forall_mem_cons.mpr ⟨List.mem_cons_of_mem _ (List.mem_append_left _ (List.mem_append_left _ (List.mem_append_left _ (List.mem_append_left _ (List.mem_append_left _ (List.mem_append_left _ (List.mem_append_left _ (List.mem_append_left _ (List.mem_append_right _ (List.mem_append_left _ (List.mem_of_getElem? (i := 6) rfl))))))))))), fun _ h9 => absurd h9 List.not_mem_nil⟩⟩⟩⟩⟩⟩, fun w h9 => List.mem_cons_of_mem _ (List.mem_append_left _ (List.mem_append_right _ (h9)))⟩⟩) (by decide +kernel)
set_option maxRecDepth 20000 in
theorem gX8_beginWithFontsTold_X1_begin : GoodIn wsX8_beginWithFontsTold (wsV RX8 140 RX1 yX1_begin wsX1_begin) := goodIn_app (goodIn_4 _ (List.forall_mem_cons.mpr ⟨List.mem_cons_of_mem _ (List.mem_append_left _ (List.mem_append_left _ (List.mem_append_left _ (List.mem_append_left _ (List.mem_append_left _ (List.mem_append_left _ (List.mem_append_left _ (List.mem_append_left _ (List.mem_append_left _ (List.mem_of_getElem? (i := 20) rfl)))))))))), List.forall_mem_cons.mpr ⟨List.mem_cons_of_mem _ (List.mem_append_left _ (List.mem_append_left _ (List.mem_append_left _ (List.mem_append_left _ (List.mem_append_left _ (List.mem_append_left _ (List.mem_append_left _ (List.mem_append_left _ (List.mem_append_left _ (List.mem_of_getElem? (i := 21) rfl)))))))))), List.forall_mem_cons.mpr ⟨List.mem_cons_of_mem _ (List.mem_append_left _ (List.mem_append_left _ (List.mem_append_left _ (List.mem_append_left _ (List.mem_append_left _ (List.mem_append_left _ (List.mem_append_left _ (List.mem_append_left _ (List.mem_append_left _ (List.mem_of_getElem? (i := 22) rfl)))))))))), List.forall_mem_cons.mpr ⟨List.mem_cons_of_mem _ (List.mem_append_left _ (List.mem_append_left _ (List.mem_append_left _ (List.mem_append_left _ (List.mem_append_left _ (List.mem_append_left _ (List.mem_append_left _ (List.mem_append_left _ (List.mem_append_left _ (List.mem_of_getElem? (i := 23) rfl)))))))))), fun _ h9 => absurd h9 List.not_mem_nil⟩⟩⟩⟩) (by decide +kernel)) ggX8_beginWithFontsTold_X1_begin
set_option maxRecDepth 20000 in
theorem ggX8_beginWithFontsTold_X8_settle : GoodIn wsX8_beginWithFontsTold wsX8_settle := goodIn_4 _ (List.forall_mem_cons.mpr ⟨List.mem_cons_of_mem _ (List.mem_append_left _ (List.mem_append_left _ (List.mem_append_left _ (List.mem_append_left _ (List.mem_append_left _ (List.mem_append_left _ (List.mem_append_left _ (List.mem_append_left _ (List.mem_append_right _ (List.mem_append_left _ (List.mem_of_getElem? (i := 11) rfl))))))))))), List.forall_mem_append.mpr ⟨List.forall_mem_append.mpr ⟨List.forall_mem_append.mpr ⟨List.forall_mem_append.mpr ⟨List.forall_mem_append.mpr ⟨List.forall_mem_append.mpr ⟨List.forall_mem_cons.mpr ⟨List.mem_cons_of_mem _ (List.mem_append_left _ (List.mem_append_left _ (List.mem_append_left _ (List.mem_append_left _ (List.mem_append_left _ (List.mem_append_left _ (List.mem_append_left _ (List.mem_append_left _ (List.mem_append_right _ (List.mem_append_left _ (List.mem_of_getElem? (i := 12) rfl))))))))))), List.forall_mem_cons.mpr ⟨List.mem_cons_of_mem _ (List.mem_append_left _ (List.mem_append_left _ (List.mem_append_left _ (List.mem_append_left _ (List.mem_append_left _ (List.mem_append_left _ (List.mem_append_left _ (List.mem_append_left _ (List.mem_append_left _ (List.mem_of_getElem? (i := 3) rfl)))))))))), List.forall_mem_cons.mpr ⟨List.mem_cons_of_mem _ (List.mem_append_left _ (List.mem_append_left _ (List.mem_append_left _ (List.mem_append_left _ (List.mem_append_left _ (List.mem_append_left _ (List.mem_append_left _ (List.mem_append_left _ (List.mem_append_left _ (List.mem_of_getElem? (i := 0) rfl)))))))))), List.forall_mem_cons.mpr ⟨List.mem_cons_of_mem _ (List.mem_append_left _ (List.mem_append_left _ (List.mem_append_left _ (List.mem_append_left _ (List.mem_append_left _ (List.mem_append_left _ (List.mem_append_left _ (List.mem_append_left _ (List.mem_append_left _ (List.mem_of_getElem? (i := 5) rfl)))))))))), List.forall_mem_cons.mpr ⟨List.mem_cons_of_mem _ (List.mem_append_left _ (List.mem_append_left _ (List.mem_append_left _ (List.mem_append_left _ (List.mem_append_left _ (List.mem_append_left _ (List.mem_append_left _ (List.mem_append_left _ (List.mem_append_right _ (List.mem_append_left _ (List.mem_of_getElem? (i := 13) rfl))))))))))), List.forall_mem_cons.mpr ⟨List.mem_cons_of_mem _ (List.mem_append_left _ (List.mem_append_left _ (List.mem_append_left _ (List.mem_append_left _ (List.mem_append_left _ (List.mem_append_left _ (List.mem_append_left _ (List.mem_append_left _ (List.mem_append_right _ (List.mem_append_left _ (List.mem_of_getElem? (i := 14) rfl))))))))))), List.forall_mem_cons.mpr ⟨List.mem_cons_of_mem _ (List.mem_append_left _ (List.mem_append_left _ (List.mem_append_left _ (List.mem_append_left _ (List.mem_append_left _ (List.mem_append_left _ (List.mem_append_left _ (List.mem_append_left _ (List.mem_append_right _ (List.mem_append_left _ (List.mem_of_getElem? (i := 15) rfl))))))))))), List.forall_mem_cons.mpr ⟨List.mem_cons_of_mem _ (List.mem_append_left _ (List.mem_append_left _ (List.mem_append_left _ (List.mem_append_left _ (List.mem_append_left _ (List.mem_append_left _ (List.mem_append_left _ (List.mem_append_left _ (List.mem_append_left _ (List.mem_of_getElem? (i := 14) rfl)))))))))), List.forall_mem_cons.mpr ⟨List.mem_cons_of_mem _ (List.mem_append_left _ (List.mem_append_left _ (List.mem_append_left _ (List.mem_append_left _ (List.mem_append_left _ (List.mem_append_left _ (List.mem_append_left _ (List.mem_append_left _ (List.mem_append_right _ (List.mem_append_left _ (List.mem_of_getElem? (i := 16) rfl))))))))))), List.forall_mem_cons.mpr ⟨List.mem_cons_of_mem _ (List.mem_append_left _ (List.mem_append_left _ (List.mem_append_left _ (List.mem_append_left _ (List.mem_append_left _ (List.mem_append_left _ (List.mem_append_left _ (List.mem_append_left _ (List.mem_append_left _ (List.mem_of_getElem? (i := 16) rfl)))))))))), List.forall_mem_cons.mpr ⟨List.mem_cons_of_mem _ (List.mem_append_left _ (List.mem_append_left _ (List.mem_append_left _ (List.mem_append_left _ (List.mem_append_left _ (List.mem_append_left _ (List.mem_append_left _ (List.mem_append_left _ (List.mem_append_right _ (List.mem_append_left _ (List.mem_of_getElem? (i := 17) rfl))))))))))), List.forall_mem_cons.mpr ⟨List.mem_cons_of_mem _ (List.mem_append_left _ (List.mem_append_left _ (List.mem_append_left _ (List.mem_append_left _ (List.mem_append_left _ (List.mem_append_left _ (List.mem_append_left _ (List.mem_append_left _ (List.mem_append_right _ (List.mem_append_left _ (List.mem_of_getElem? (i := 18) rfl))))))))))), List.forall_mem_cons.mpr ⟨List.mem_cons_of_mem _ (List.mem_append_left _ (List.mem_append_left _ (List.mem_append_left _ (List.mem_append_left _ (List.mem_append_left _ (List.mem_append_left _ (List.mem_append_left _ (List.mem_append_left _ (List.mem_append_right _ (List.mem_append_left _ (List.mem_of_getElem? (i := 19) rfl))))))))))), List.forall_mem_cons.mpr ⟨List.mem_cons_of_mem _ (List.mem_append_left _ (List.mem_append_left _ (List.mem_append_left _ (List.mem_append_left _ (List.mem_append_left _ (List.mem_append_left _ (List.mem_append_left _ (List.mem_append_left _ (List.mem_append_right _ (List.mem_append_left _ (List.mem_of_getElem? (i := 20) rfl))))))))))), List.forall_mem_cons.mpr ⟨List.mem_cons_of_mem _ (List.mem_append_left _ (List.mem_append_left _ (List.mem_append_left _ (List.mem_append_left _ (List.mem_append_left _ (List.mem_append_left _ (List.mem_append_left _ (List.mem_append_left _ (List.mem_append_right _ (List.mem_append_left _ (List.mem_of_getElem? (i := 21) rfl))))))))))), List.forall_mem_cons.mpr ⟨List.mem_cons_of_mem _ (List.mem_append_left _ (List.mem_append_left _ (List.mem_append_left _ (List.mem_append_left _ (List.mem_append_left _ (List.mem_append_left _ (List.mem_append_left _ (List.mem_append_left _ (List.mem_append_right _ (List.mem_append_left _ (List.mem_of_getElem? (i := 22) rfl))))))))))), List.forall_mem_cons.mpr ⟨List.mem_cons_of_mem _ (List.mem_append_left _ (List.mem_append_left _ (List.mem_append_left _ (List.mem_append_left _ (List.mem_append_left _ (List.mem_append_left _ (List.mem_append_left _ (List.mem_append_left _ (List.mem_append_right _ (List.mem_append_left _ (List.mem_of_getElem? (i := 23) rfl))))))))))), List.forall_mem_cons.mpr ⟨List.mem_cons_of_mem _ (List.mem_append_left _ (List.mem_append_left _ (List.mem_append_left _ (List.mem_append_left _ (List.mem_append_left _ (List.mem_append_left _ (List.mem_append_left _ (List.mem_append_left _ (List.mem_append_right _ (List.mem_append_right _ (List.mem_append_left _ (List.mem_of_getElem? (i := 0) rfl)))))))))))), List.forall_mem_cons.mpr ⟨List.mem_cons_of_mem _ (List.mem_append_left _ (List.mem_append_left _ (List.mem_append_left _ (List.mem_append_left _ (List.mem_append_left _ (List.mem_append_left _ (List.mem_append_left _ (List.mem_append_left _ (List.mem_append_right _ (List.mem_append_right _ (List.mem_append_left _ (List.mem_of_getElem? (i := 1) rfl)))))))))))), List.forall_mem_cons.mpr ⟨List.mem_cons_of_mem _ (List.mem_append_left _ (List.mem_append_left _ (List.mem_append_left _ (List.mem_append_left _ (List.mem_append_left _ (List.mem_append_left _ (List.mem_append_left _ (List.mem_append_left _ (List.mem_append_right _ (List.mem_append_right _ (List.mem_append_left _ (List.mem_of_getElem? (i := 2) rfl)))))))))))), List.forall_mem_cons.mpr ⟨List.mem_cons_of_mem _ (List.mem_append_left _ (List.mem_append_left _ (List.mem_append_left _ (List.mem_append_left _ (List.mem_append_left _ (List.mem_append_left _ (List.mem_append_left _ (List.mem_append_left _ (List.mem_append_right _ (List.mem_append_right _ (List.mem_append_left _ (List.mem_of_getElem? (i := 3) rfl)))))))))))), List.forall_mem_cons.mpr ⟨List.mem_cons_of_mem _ (List.mem_append_left _ (List.mem_append_left _ (List.mem_append_left _ (List.mem_append_left _ (List.mem_append_left _ (List.mem_append_left _ (List.mem_append_left _ (List.mem_append_left _ (List.mem_append_right _ (List.mem_append_right _ (List.mem_append_left _ (List.mem_of_getElem? (i := 4) rfl)))))))))))), List.forall_mem_cons.mpr ⟨List.mem_cons_of_mem _ (List.mem_append_left _ (List.mem_append_left _ (List.mem_append_left _ (List.mem_append_left _ (List.mem_append_left _ (List.mem_append_left _ (List.mem_append_left _ (List.mem_append_left _ (List.mem_append_right _ (List.mem_append_right _ (List.mem_append_left _ (List.mem_of_getElem? (i := 5) rfl)))))))))))), List.forall_mem_cons.mpr ⟨List.mem_cons_of_mem _ (List.mem_append_left _ (List.mem_append_left _ (List.mem_append_left _ (List.mem_append_left _ (List.mem_append_left _ (List.mem_append_left _ (List.mem_append_left _ (List.mem_append_left _ (List.mem_append_right _ (List.mem_append_right _ (List.mem_append_left _ (List.mem_of_getElem? (i := 6) rfl)))))))))))), fun _ h9 => absurd h9 List.not_mem_nil⟩⟩⟩⟩⟩⟩⟩⟩⟩⟩⟩⟩⟩⟩⟩⟩⟩⟩⟩⟩⟩⟩⟩⟩, List.forall_mem_append.mpr ⟨List.forall_mem_cons.mpr ⟨List.mem_cons_of_mem _ (List.mem_append_left _ (List.mem_append_left _ (List.mem_append_left _ (List.mem_append_left _ (List.mem_append_left _ (List.mem_append_left _ (List.mem_append_left _ (List.mem_append_left _ (List.mem_append_right _ (List.mem_append_right _ (List.mem_append_left _ (List.mem_of_getElem? (i := 7) rfl)))))))))))), List.forall_mem_cons.mpr ⟨List.mem_cons_of_mem _ (List.mem_append_left _ (List.mem_append_left _ (List.mem_append_left _ (List.mem_append_left _ (List.mem_append_left _ (List.mem_append_left _ (List.mem_append_left _ (List.mem_append_left _ (List.mem_append_right _ (List.mem_append_right _ (List.mem_append_left _ (List.mem_of_getElem? (i := 8) rfl)))))))))))), List.forall_mem_cons.mpr ⟨List.mem_cons_of_mem _ (List.mem_append_left _ (List.mem_append_left _ (List.mem_append_left _ (List.mem_append_left _ (List.mem_append_left _ (List.mem_append_left _ (List.mem_append_left _ (List.mem_append_left _ (List.mem_append_right _ (List.mem_append_right _ (List.mem_append_left _ (List.mem_of_getElem? (i := 9) rfl)))))))))))), List.forall_mem_cons.mpr ⟨List.mem_cons_of_mem _ (List.mem_append_left _ (List.mem_append_left _ (List.mem_append_left _ (List.mem_append_left _ (List.mem_append_left _ (List.mem_append_left _ (List.mem_append_left _ (List.mem_append_left _ (List.mem_append_right _ (List.mem_append_right _ (List.mem_append_left _ (List.mem_of_getElem? (i := 10) rfl)))))))))))), List.forall_mem_cons.mpr ⟨List.mem_cons_of_mem _ (List.mem_append_left _ (List.mem_append_left _ (List.mem_append_left _ (List.mem_append_left _ (List.mem_append_left _ (List.mem_append_left _ (List.mem_append_left _ (List.mem_append_left _ (List.mem_append_right _ (List.mem_append_right _ (List.mem_append_left _ (List.mem_of_getElem? (i := 11) rfl)))))))))))), List.forall_mem_cons.mpr ⟨List.mem_cons_of_mem _ (List.mem_append_left _ (List.mem_append_left _ (List.mem_append_left _ (List.mem_append_left _ (List.mem_append_left _ (List.mem_append_left _ (List.mem_append_left _ (List.mem_append_left _ (List.mem_append_right _ (List.mem_append_right _ (List.mem_append_left _ (List.mem_of_getElem? (i := 12) rfl)))))))))))), List.forall_mem_cons.mpr ⟨List.mem_cons_of_mem _ (List.mem_append_left _ (List.mem_append_left _ (List.mem_append_left _ (List.mem_append_left _ (List.mem_append_left _ (List.mem_append_left _ (List.mem_append_left _ (List.mem_append_left _ (List.mem_append_right _ (List.mem_append_right _ (List.mem_append_left _ (List.mem_of_getElem? (i := 13) rfl)))))))))))), List.forall_mem_cons.mpr ⟨List.mem_cons_of_mem _ (List.mem_append_left _ (List.mem_append_left _ (List.mem_append_left _ (List.mem_append_left _ (List.mem_append_left _ (List.mem_append_left _ (List.mem_append_left _ (List.mem_append_left _ (List.mem_append_right _ (List.mem_append_right _ (List.mem_append_left _ (List.mem_of_getElem? (i := 14) rfl)))))))))))), List.forall_mem_cons.mpr ⟨List.mem_cons_of_mem _ (List.mem_append_left _ (List.mem_append_left _ (List.mem_append_left _ (List.mem_append_left _ (List.mem_append_left _ (List.mem_append_left _ (List.mem_append_left _ (List.mem_append_left _ (List.mem_append_right _ (List.mem_append_right _ (List.mem_append_left _ (List.mem_of_getElem? (i := 15) rfl)))))))))))), List.forall_mem_cons.mpr ⟨List.mem_cons_of_mem _ (List.mem_append_left _ (List.mem_append_left _ (List.mem_append_left _ (List.mem_append_left _ (List.mem_append_left _ (List.mem_append_left _ (List.mem_append_left _ (List.mem_append_left _ (List.mem_append_right _ (List.mem_append_right _ (List.mem_append_left _ (List.mem_of_getElem? (i := 16) rfl)))))))))))), List.forall_mem_cons.mpr ⟨List.mem_cons_of_mem _ (List.mem_append_left _ (List.mem_append_left _ (List.mem_append_left _ (List.mem_append_left _ (List.mem_append_left _ (List.mem_append_left _ (List.mem_append_left _ (List.mem_append_left _ (List.mem_append_right _ (List.mem_append_right _ (List.mem_append_left _ (List.mem_of_getElem? (i := 17) rfl)))))))))))), List.forall_mem_cons.mpr ⟨List.mem_cons_of_mem _ (List.mem_append_left _ (List.mem_append_left _ (List.mem_append_left _ (List.mem_append_left _ (List.mem_append_left _ (List.mem_append_left _ (List.mem_append_left _ (List.mem_append_left _ (List.mem_append_left _ (List.mem_of_getElem? (i := 19) rfl)))))))))), List.forall_mem_cons.mpr ⟨List.mem_cons_of_mem _ (List.mem_append_left _ (List.mem_append_left _ (List.mem_append_left _ (List.mem_append_left _ (List.mem_append_left _ (List.mem_append_left _ (List.mem_append_left _ (List.mem_append_left _ (List.mem_append_right _ (List.mem_append_right _ (List.mem_append_left _ (List.mem_of_getElem? (i := 18) rfl)))))))))))), List.forall_mem_cons.mpr ⟨List.mem_cons_of_mem _ (List.mem_append_left _ (List.mem_append_left _ (List.mem_append_left _ (List.mem_append_left _ (List.mem_append_left _ (List.mem_append_left _ (List.mem_append_left _ (List.mem_append_left _ (List.mem_append_right _ (List.mem_append_right _ (List.mem_append_left _ (List.mem_of_getElem? (i := 19) rfl)))))))))))), List.forall_mem_cons.mpr ⟨List.mem_cons_of_mem _ (List.mem_append_left _ (List.mem_append_left _ (List.mem_append_left _ (List.mem_append_left _ (List.mem_append_left _ (List.mem_append_left _ (List.mem_append_left _ (List.mem_append_left _ (List.mem_append_right _ (List.mem_append_right _ (List.mem_append_left _ (List.mem_of_getElem? (i := 20) rfl)))))))))))), List.forall_mem_cons.mpr ⟨List.mem_cons_of_mem _ (List.mem_append_left _ (List.mem_append_left _ (List.mem_append_left _ (List.mem_append_left _ (List.mem_append_left _ (List.mem_append_left _ (List.mem_append_left _ (List.mem_append_left _ (List.mem_append_right _ (List.mem_append_right _ (List.mem_append_left _ (List.mem_of_getElem? (i := 21) rfl)))))))))))), List.forall_mem_cons.mpr ⟨List.mem_cons_of_mem _ (List.mem_append_left _ (List.mem_append_left _ (List.mem_append_left _ (List.mem_append_left _ (List.mem_append_left _ (List.mem_append_left _ (List.mem_append_left _ (List.mem_append_left _ (List.mem_append_right _ (List.mem_append_right _ (List.mem_append_left _ (List.mem_of_getElem? (i := 22) rfl)))))))))))), List.forall_mem_cons.mpr ⟨List.mem_cons_of_mem _ (List.mem_append_left _ (List.mem_append_left _ (List.mem_append_left _ (List.mem_append_left _ (List.mem_append_left _ (List.mem_append_left _ (List.mem_append_left _ (List.mem_append_left _ (List.mem_append_right _ (List.mem_append_right _ (List.mem_append_left _ (List.mem_of_getElem? (i := 23) rfl)))))))))))), List.forall_mem_cons.mpr ⟨List.mem_cons_of_mem _ (List.mem_append_left _ (List.mem_append_left _ (List.mem_append_left _ (List.mem_append_left _ (List.mem_append_left _ (List.mem_append_left _ (List.mem_append_left _ (List.mem_append_left _ (List.mem_append_right _ (List.mem_append_left _ (List.mem_of_getElem? (i := 2) rfl))))))))))), List.forall_mem_cons.mpr ⟨List.mem_cons_of_mem _ (List.mem_append_left _ (List.mem_append_left _ (List.mem_append_left _ (List.mem_append_left _ (List.mem_append_left _ (List.mem_append_left _ (List.mem_append_left _ (List.mem_append_left _ (List.mem_append_right _ (List.mem_append_left _ (List.mem_of_getElem? (i := 3) rfl))))))))))), List.forall_mem_cons.mpr ⟨List.mem_cons_of_mem _ (List.mem_append_left _ (List.mem_append_left _ (List.mem_append_left _ (List.mem_append_left _ (List.mem_append_left _ (List.mem_append_left _ (List.mem_append_left _ (List.mem_append_left _ (List.mem_append_right _ (List.mem_append_left _ (List.mem_of_getElem? (i := 4) rfl))))))))))), List.forall_mem_cons.mpr ⟨List.mem_cons_of_mem _ (List.mem_append_left _ (List.mem_append_left _ (List.mem_append_left _ (List.mem_append_left _ (List.mem_append_left _ (List.mem_append_left _ (List.mem_append_left _ (List.mem_append_left _ (List.mem_append_right _ (List.mem_append_right _ (List.mem_append_right _ (List.mem_of_getElem? (i := 0) rfl)))))))))))), List.forall_mem_cons.mpr ⟨List.mem_cons_of_mem _ (List.mem_append_left _ (List.mem_append_left _ (List.mem_append_left _ (List.mem_append_left _ (List.mem_append_left _ (List.mem_append_left _ (List.mem_append_left _ (List.mem_append_left _ (List.mem_append_right _ (List.mem_append_right _ (List.mem_append_right _ (List.mem_of_getElem? (i := 1) rfl)))))))))))), List.forall_mem_cons.mpr ⟨List.mem_cons_of_mem _ (List.mem_append_left _ (List.mem_append_left _ (List.mem_append_left _ (List.mem_append_left _ (List.mem_append_left _ (List.mem_append_left _ (List.mem_append_left _ (List.mem_append_left _ (List.mem_append_right _ (List.mem_append_right _ (List.mem_append_right _ (List.mem_of_getElem? (i := 2) rfl)))))))))))), fun _ h9 => absurd h9 List.not_mem_nil⟩⟩⟩⟩⟩⟩⟩⟩⟩⟩⟩⟩⟩⟩⟩⟩⟩⟩⟩⟩⟩⟩⟩⟩, List.forall_mem_cons.mpr ⟨List.mem_cons_of_mem _ (List.mem_append_left _ (List.mem_append_left _ (List.mem_append_left _ (List.mem_append_left _ (List.mem_append_left _ (List.mem_append_left _ (List.mem_append_left _ (List.mem_append_left _ (List.mem_append_right _ (List.mem_append_right _ (List.mem_append_right _ (List.mem_of_getElem? (i := 3) rfl)))))))))))), List.forall_mem_cons.mpr ⟨List.mem_cons_of_mem _ (List.mem_append_left _ (List.mem_append_left _ (List.mem_append_left _ (List.mem_append_left _ (List.mem_append_left _ (List.mem_append_left _ (List.mem_append_left _ (List.mem_append_left _ (List.mem_append_right _ (List.mem_append_right _ (List.mem_append_right _ (List.mem_of_getElem? (i := 4) rfl)))))))))))), List.forall_mem_cons.mpr ⟨List.mem_cons_of_mem _ (List.mem_append_left _ (List.mem_append_left _ (List.mem_append_left _ (List.mem_append_left _ (List.mem_append_left _ (List.mem_append_left _ (List.mem_append_left _ (List.mem_append_left _ (List.mem_append_right _ (List.mem_append_right _ (List.mem_append_right _ (List.mem_of_getElem? (i := 5) rfl)))))))))))), List.forall_mem_cons.mpr ⟨List.mem_cons_of_mem _ (List.mem_append_left _ (List.mem_append_left _ (List.mem_append_left _ (List.mem_append_left _ (List.mem_append_left _ (List.mem_append_left _ (List.mem_append_left _ (List.mem_append_left _ (List.mem_append_right _ (List.mem_append_right _ (List.mem_append_right _ (List.mem_of_getElem? (i := 6) rfl)))))))))))), List.forall_mem_cons.mpr ⟨List.mem_cons_of_mem _ (List.mem_append_left _ (List.mem_append_left _ (List.mem_append_left _ (List.mem_append_left _ (List.mem_append_left _ (List.mem_append_left _ (List.mem_append_left _ (List.mem_append_left _ (List.mem_append_right _ (List.mem_append_right _ (List.mem_append_right _ (List.mem_of_getElem? (i := 7) rfl)))))))))))), List.forall_mem_cons.mpr ⟨List.mem_cons_of_mem _ (List.mem_append_left _ (List.mem_append_left _ (List.mem_append_left _ (List.mem_append_left _ (List.mem_append_left _ (List.mem_append_left _ (List.mem_append_left _ (List.mem_append_left _ (List.mem_append_right _ (List.mem_append_right _ (List.mem_append_right _ (List.mem_of_getElem? (i := 8) rfl)))))))))))), List.forall_mem_cons.mpr ⟨List.mem_cons_of_mem _ (List.mem_append_left _ (List.mem_append_left _ (List.mem_append_left _ (List.mem_append_left _ (List.mem_append_left _ (List.mem_append_left _ (List.mem_append_left _ (List.mem_append_left _ (List.mem_append_right _ (List.mem_append_right _ (List.mem_append_right _ (List.mem_of_getElem? (i := 9) rfl)))))))))))), List.forall_mem_cons.mpr ⟨List.mem_cons_of_mem _ (List.mem_append_left _ (List.mem_append_left _ (List.mem_append_left _ (List.mem_append_left _ (List.mem_append_left _ (List.mem_append_left _ (List.mem_append_left _ (List.mem_append_left _ (List.mem_append_right _ (List.mem_append_right _ (List.mem_append_right _ (List.mem_of_getElem? (i := 10) rfl)))))))))))), List.forall_mem_cons.mpr ⟨List.mem_cons_of_mem _ (List.mem_append_left _ (List.mem_append_left _ (List.mem_append_left _ (List.mem_append_left _ (List.mem_append_left _ (List.mem_append_left _ (List.mem_append_left _ (List.mem_append_left _ (List.mem_append_right _ (List.mem_append_right _ (List.mem_append_right _ (List.mem_of_getElem? (i := 11) rfl)))))))))))), List.forall_mem_cons.mpr ⟨List.mem_cons_of_mem _ (List.mem_append_left _ (List.mem_append_left _ (List.mem_append_left _ (List.mem_append_left _ (List.mem_append_left _ (List.mem_append_left _ (List.mem_append_left _ (List.mem_append_left _ (List.mem_append_right _ (List.mem_append_right _ (List.mem_append_right _ (List.mem_of_getElem? (i := 12) rfl)))))))))))), fun _ h9 => absurd h9 List.not_mem_nil⟩⟩⟩⟩⟩⟩⟩⟩⟩⟩⟩⟩, fun w h9 => List.mem_cons_of_mem _ (List.mem_append_left _ (List.mem_append_left _ (List.mem_append_left _ (List.mem_append_left _ (List.mem_append_left _ (List.mem_append_left _ (List.mem_append_left _ (List.mem_append_right _ (h9)))))))))⟩, fun w h9 => List.mem_cons_of_mem _ (List.mem_append_left _ (List.mem_append_left _ (List.mem_append_left _ (List.mem_append_left _ (List.mem_append_right _ (h9))))))⟩, fun w h9 => List.mem_cons_of_mem _ (List.mem_append_right _ (h9))⟩, fun w h9 => List.mem_cons_of_mem _ (List.mem_append_left _ (List.mem_append_left _ (List.mem_append_left _ (List.mem_append_left _ (List.mem_append_left _ (List.mem_append_right _ (h9)))))))⟩, fun w h9 => List.mem_cons_of_mem _ (List.mem_append_left _ (List.mem_append_right _ (h9)))⟩⟩) (by decide +kernel)
set_option maxRecDepth 20000 in
theorem gX8_beginWithFontsTold_X8_settle : GoodIn wsX8_beginWithFontsTold (wsV RX8 146 RX8 yX8_settle wsX8_settle) := goodIn_app (goodIn_4 _ (List.forall_mem_cons.mpr ⟨List.mem_cons_of_mem _ (List.mem_append_left _ (List.mem_append_left _ (List.mem_append_left _ (List.mem_append_left _ (List.mem_append_left _ (List.mem_append_left _ (List.mem_append_left _ (List.mem_append_left _ (List.mem_append_right _ (List.mem_append_left _ (List.mem_of_getElem? (i := 7) rfl))))))))))), List.forall_mem_cons.mpr ⟨List.mem_cons_of_mem _ (List.mem_append_left _ (List.mem_append_left _ (List.mem_append_left _ (List.mem_append_left _ (List.mem_append_left _ (List.mem_append_left _ (List.mem_append_left _ (List.mem_append_left _ (List.mem_append_right _ (List.mem_append_left _ (List.mem_of_getElem? (i := 8) rfl))))))))))), List.forall_mem_cons.mpr ⟨List.mem_cons_of_mem _ (List.mem_append_left _ (List.mem_append_left _ (List.mem_append_left _ (List.mem_append_left _ (List.mem_append_left _ (List.mem_append_left _ (List.mem_append_left _ (List.mem_append_left _ (List.mem_append_right _ (List.mem_append_left _ (List.mem_of_getElem? (i := 9) rfl))))))))))), List.forall_mem_cons.mpr ⟨List.mem_cons_of_mem _ (List.mem_append_left _ (List.mem_append_left _ (List.mem_append_left _ (List.mem_append_left _ (List.mem_append_left _ (List.mem_append_left _ (List.mem_append_left _ (List.mem_append_left _ (List.mem_append_right _ (List.mem_append_left _ (List.mem_of_getElem? (i := 10) rfl))))))))))), fun _ h9 => absurd h9 List.not_mem_nil⟩⟩⟩⟩) (by decide +kernel)) ggX8_beginWithFontsTold_X8_settle
set_option maxRecDepth 20000 in
theorem mw_X8_beginWithFontsTold_w_0 : (.fieldLink RX8 28 "FontRuns" "fontRow" "LFontRuns$FontRow;" : Cond) ∈ wsX8_beginWithFontsTold := List.mem_cons_of_mem _ (List.mem_append_left _ (List.mem_append_left _ (List.mem_append_left _ (List.mem_append_left _ (List.mem_append_left _ (List.mem_append_left _ (List.mem_append_left _ (List.mem_append_left _ (List.mem_append_left _ (List.mem_of_getElem? (i := 0) rfl))))))))))
set_option maxRecDepth 20000 in
theorem mw_X8_beginWithFontsTold_w_1 : (.fieldLink RX8 21 "FontRuns" "reader" "LFontRuns$TextReader;" : Cond) ∈ wsX8_beginWithFontsTold := List.mem_cons_of_mem _ (List.mem_append_left _ (List.mem_append_left _ (List.mem_append_left _ (List.mem_append_left _ (List.mem_append_left _ (List.mem_append_left _ (List.mem_append_left _ (List.mem_append_left _ (List.mem_append_left _ (List.mem_of_getElem? (i := 1) rfl))))))))))
set_option maxRecDepth 20000 in
theorem mw_X8_beginWithFontsTold_w_2 : (.fieldLink RX8 132 "FontRuns$TextReader" "told" "LFontRuns$FontRow;" : Cond) ∈ wsX8_beginWithFontsTold := List.mem_cons_of_mem _ (List.mem_append_left _ (List.mem_append_left _ (List.mem_append_left _ (List.mem_append_left _ (List.mem_append_left _ (List.mem_append_left _ (List.mem_append_left _ (List.mem_append_left _ (List.mem_append_left _ (List.mem_of_getElem? (i := 2) rfl))))))))))
set_option maxRecDepth 20000 in
theorem mw_X8_beginWithFontsTold_w_3 : (.fieldLink RX8 35 "FontRuns" "writing" "LFontRuns$Writing;" : Cond) ∈ wsX8_beginWithFontsTold := List.mem_cons_of_mem _ (List.mem_append_left _ (List.mem_append_left _ (List.mem_append_left _ (List.mem_append_left _ (List.mem_append_left _ (List.mem_append_left _ (List.mem_append_left _ (List.mem_append_left _ (List.mem_append_left _ (List.mem_of_getElem? (i := 3) rfl))))))))))
set_option maxRecDepth 20000 in
theorem mw_X8_beginWithFontsTold_w_4 : (.fieldLink RX8 139 "FontRuns$Writing" "count" "I" : Cond) ∈ wsX8_beginWithFontsTold := List.mem_cons_of_mem _ (List.mem_append_left _ (List.mem_append_left _ (List.mem_append_left _ (List.mem_append_left _ (List.mem_append_left _ (List.mem_append_left _ (List.mem_append_left _ (List.mem_append_left _ (List.mem_append_left _ (List.mem_of_getElem? (i := 4) rfl))))))))))
set_option maxRecDepth 20000 in
theorem mw_X8_beginWithFontsTold_w_5 : (.fieldLink RX8 42 "FontRuns" "preference" "LFontRuns$Preference;" : Cond) ∈ wsX8_beginWithFontsTold := List.mem_cons_of_mem _ (List.mem_append_left _ (List.mem_append_left _ (List.mem_append_left _ (List.mem_append_left _ (List.mem_append_left _ (List.mem_append_left _ (List.mem_append_left _ (List.mem_append_left _ (List.mem_append_left _ (List.mem_of_getElem? (i := 5) rfl))))))))))
set_option maxRecDepth 20000 in
theorem mw_X8_beginWithFontsTold_w_6 : (.fieldLink RX8 106 "FontRuns$FontRow" "count" "I" : Cond) ∈ wsX8_beginWithFontsTold := List.mem_cons_of_mem _ (List.mem_append_left _ (List.mem_append_left _ (List.mem_append_left _ (List.mem_append_left _ (List.mem_append_left _ (List.mem_append_left _ (List.mem_append_left _ (List.mem_append_left _ (List.mem_append_left _ (List.mem_of_getElem? (i := 6) rfl))))))))))
set_option maxRecDepth 20000 in
theorem mw_X8_beginWithFontsTold_w_7 : (.fieldLink RX8 49 "FontRuns" "recent" "LFontRuns$Recent;" : Cond) ∈ wsX8_beginWithFontsTold := List.mem_cons_of_mem _ (List.mem_append_left _ (List.mem_append_left _ (List.mem_append_left _ (List.mem_append_left _ (List.mem_append_left _ (List.mem_append_left _ (List.mem_append_left _ (List.mem_append_left _ (List.mem_append_left _ (List.mem_of_getElem? (i := 7) rfl))))))))))
set_option maxRecDepth 20000 in
theorem mw_X8_beginWithFontsTold_w_8 : (.fieldLink RX8 144 "FontRuns$Recent" "count" "I" : Cond) ∈ wsX8_beginWithFontsTold := List.mem_cons_of_mem _ (List.mem_append_left _ (List.mem_append_left _ (List.mem_append_left _ (List.mem_append_left _ (List.mem_append_left _ (List.mem_append_left _ (List.mem_append_left _ (List.mem_append_left _ (List.mem_append_left _ (List.mem_of_getElem? (i := 8) rfl))))))))))
set_option maxRecDepth 20000 in
theorem mw_X8_beginWithFontsTold_w_9 : (.fieldLink RX8 63 "FontRuns" "readings" "LFontRuns$Readings;" : Cond) ∈ wsX8_beginWithFontsTold := List.mem_cons_of_mem _ (List.mem_append_left _ (List.mem_append_left _ (List.mem_append_left _ (List.mem_append_left _ (List.mem_append_left _ (List.mem_append_left _ (List.mem_append_left _ (List.mem_append_left _ (List.mem_append_left _ (List.mem_of_getElem? (i := 9) rfl))))))))))
set_option maxRecDepth 20000 in
theorem mw_X8_beginWithFontsTold_w_10 : (.fieldLink RX8 145 "FontRuns$Readings" "count" "I" : Cond) ∈ wsX8_beginWithFontsTold := List.mem_cons_of_mem _ (List.mem_append_left _ (List.mem_append_left _ (List.mem_append_left _ (List.mem_append_left _ (List.mem_append_left _ (List.mem_append_left _ (List.mem_append_left _ (List.mem_append_left _ (List.mem_append_left _ (List.mem_of_getElem? (i := 10) rfl))))))))))
theorem ax_X8_beginWithFontsTold_w_0 {e0 e1 e2 e3 e4 e5 e6 e7 e8 e9 e10 e11 e12 e13 e14 e15 e16 e17 e18 e19 e20 e21 e22 e23 : Nat × va_E} {k : va_W} : ([6, 7, 8, 9, 2, 3, 4, 5] : List Nat).map (fun i => (([e0, e1, e2, e3, e4, e5, e6, e7, e8, e9, e10, e11, e12, e13, e14, e15, e16, e17, e18, e19, e20, e21, e22, e23] : va_W) ++ k)[i]?) = ([e6, e7, e8, e9, e2, e3, e4, e5] : va_W).map some := rfl
theorem ax_X8_beginWithFontsTold_w_1 {e0 e1 e2 e3 e4 e5 e6 e7 e8 e9 e10 e11 e12 e13 e14 e15 e16 e17 e18 e19 e20 e21 e22 e23 : Nat × va_E} : ([6, 7, 8, 9, 2, 3, 4, 5] : List Nat).map (fun i => ([e0, e1, e2, e3, e4, e5, e6, e7, e8, e9, e10, e11, e12, e13, e14, e15, e16, e17, e18, e19, e20, e21, e22, e23] : va_W)[i]?) = ([e6, e7, e8, e9, e2, e3, e4, e5] : va_W).map some := rfl
theorem ax_X8_beginWithFontsTold_w_2 {e0 e1 e2 e3 e4 e5 e6 e7 e8 e9 e10 e11 e12 e13 e14 e15 e16 e17 e18 e19 e20 e21 e22 e23 : Nat × va_E} : ([0, 1, 10, 11, 12, 13, 14, 15, 16, 17, 18, 19, 20, 21, 22, 23] : List Nat).map (fun i => ([e0, e1, e2, e3, e4, e5, e6, e7, e8, e9, e10, e11, e12, e13, e14, e15, e16, e17, e18, e19, e20, e21, e22, e23] : va_W)[i]?) = ([e0, e1, e10, e11, e12, e13, e14, e15, e16, e17, e18, e19, e20, e21, e22, e23] : va_W).map some := rfl
theorem ax_X8_beginWithFontsTold_w_3 {D : va_G} {cl : List vw_C} {H : Heap} {e0 e1 e2 e3 e4 e5 e6 e7 e8 e9 e10 e11 e12 e13 e14 e15 f0 f1 f2 f3 f4 f5 f6 f7 : Nat × va_E} {k : va_W} (h : va_P D cl ((([e0, e1, e2, e3, e4, e5, e6, e7, e8, e9, e10, e11, e12, e13, e14, e15] : va_W) ++ ([f0, f1, f2, f3, f4, f5, f6, f7] : va_W)) ++ k) H) : va_P D cl (([e0, e1, e2, e3, e4, e5, e6, e7, e8, e9, e10, e11, e12, e13, e14, e15, f0, f1, f2, f3, f4, f5, f6, f7] : va_W) ++ k) H := h
theorem ax_X8_beginWithFontsTold_w_4 {A : Nat → Prop} {e0 e1 e2 e3 e4 e5 e6 e7 e8 e9 e10 e11 e12 e13 e14 e15 f0 f1 f2 f3 f4 f5 f6 f7 : Nat × va_E} {k : va_W} (h : va_D A ((([e0, e1, e2, e3, e4, e5, e6, e7, e8, e9, e10, e11, e12, e13, e14, e15] : va_W) ++ ([f0, f1, f2, f3, f4, f5, f6, f7] : va_W)) ++ k)) : va_D A (([e0, e1, e2, e3, e4, e5, e6, e7, e8, e9, e10, e11, e12, e13, e14, e15, f0, f1, f2, f3, f4, f5, f6, f7] : va_W) ++ k) := h
theorem ax_X8_beginWithFontsTold_w_5 {e0 e1 e2 e3 e4 e5 e6 e7 e8 e9 e10 e11 e12 e13 e14 e15 e16 e17 e18 e19 e20 e21 e22 e23 : Nat × va_E} {k : va_W} : ([4, 5] : List Nat).map (fun i => (([e0, e1, e2, e3, e4, e5, e6, e7, e8, e9, e10, e11, e12, e13, e14, e15, e16, e17, e18, e19, e20, e21, e22, e23] : va_W) ++ k)[i]?) = ([e4, e5] : va_W).map some := rfl
theorem ax_X8_beginWithFontsTold_w_6 {e0 e1 e2 e3 e4 e5 e6 e7 e8 e9 e10 e11 e12 e13 e14 e15 e16 e17 e18 e19 e20 e21 e22 e23 : Nat × va_E} : ([4, 5] : List Nat).map (fun i => ([e0, e1, e2, e3, e4, e5, e6, e7, e8, e9, e10, e11, e12, e13, e14, e15, e16, e17, e18, e19, e20, e21, e22, e23] : va_W)[i]?) = ([e4, e5] : va_W).map some := rfl
theorem ax_X8_beginWithFontsTold_w_7 {e0 e1 e2 e3 e4 e5 e6 e7 e8 e9 e10 e11 e12 e13 e14 e15 e16 e17 e18 e19 e20 e21 e22 e23 : Nat × va_E} : ([0, 1, 2, 3, 6, 7, 8, 9, 10, 11, 12, 13, 14, 15, 16, 17, 18, 19, 20, 21, 22, 23] : List Nat).map (fun i => ([e0, e1, e2, e3, e4, e5, e6, e7, e8, e9, e10, e11, e12, e13, e14, e15, e16, e17, e18, e19, e20, e21, e22, e23] : va_W)[i]?) = ([e0, e1, e2, e3, e6, e7, e8, e9, e10, e11, e12, e13, e14, e15, e16, e17, e18, e19, e20, e21, e22, e23] : va_W).map some := rfl
theorem ax_X8_beginWithFontsTold_w_8 {D : va_G} {cl : List vw_C} {H : Heap} {e0 e1 e2 e3 e4 e5 e6 e7 e8 e9 e10 e11 e12 e13 e14 e15 e16 e17 e18 e19 e20 e21 f0 f1 : Nat × va_E} {k : va_W} (h : va_P D cl ((([e0, e1, e2, e3, e4, e5, e6, e7, e8, e9, e10, e11, e12, e13, e14, e15, e16, e17, e18, e19, e20, e21] : va_W) ++ ([f0, f1] : va_W)) ++ k) H) : va_P D cl (([e0, e1, e2, e3, e4, e5, e6, e7, e8, e9, e10, e11, e12, e13, e14, e15, e16, e17, e18, e19, e20, e21, f0, f1] : va_W) ++ k) H := h
theorem ax_X8_beginWithFontsTold_w_9 {A : Nat → Prop} {e0 e1 e2 e3 e4 e5 e6 e7 e8 e9 e10 e11 e12 e13 e14 e15 e16 e17 e18 e19 e20 e21 f0 f1 : Nat × va_E} {k : va_W} (h : va_D A ((([e0, e1, e2, e3, e4, e5, e6, e7, e8, e9, e10, e11, e12, e13, e14, e15, e16, e17, e18, e19, e20, e21] : va_W) ++ ([f0, f1] : va_W)) ++ k)) : va_D A (([e0, e1, e2, e3, e4, e5, e6, e7, e8, e9, e10, e11, e12, e13, e14, e15, e16, e17, e18, e19, e20, e21, f0, f1] : va_W) ++ k) := h
theorem ax_X8_beginWithFontsTold_w_10 {e0 e1 e2 e3 e4 e5 e6 e7 e8 e9 e10 e11 e12 e13 e14 e15 e16 e17 e18 e19 e20 e21 e22 e23 : Nat × va_E} : ([0, 6, 7, 8, 9, 10, 11, 12, 13, 2, 3, 14, 17, 22, 23] : List Nat).map (fun i => ([e0, e1, e2, e3, e4, e5, e6, e7, e8, e9, e10, e11, e12, e13, e14, e15, e16, e17, e18, e19, e20, e21, e22, e23] : va_W)[i]?) = ([e0, e6, e7, e8, e9, e10, e11, e12, e13, e2, e3, e14, e17, e22, e23] : va_W).map some := rfl
theorem ax_X8_beginWithFontsTold_w_11 {e0 e1 e2 e3 e4 e5 e6 e7 e8 e9 e10 e11 e12 e13 e14 e15 e16 e17 e18 e19 e20 e21 e22 e23 : Nat × va_E} : ([1, 4, 5, 15, 16, 18, 19, 20, 21] : List Nat).map (fun i => ([e0, e1, e2, e3, e4, e5, e6, e7, e8, e9, e10, e11, e12, e13, e14, e15, e16, e17, e18, e19, e20, e21, e22, e23] : va_W)[i]?) = ([e1, e4, e5, e15, e16, e18, e19, e20, e21] : va_W).map some := rfl
theorem ax_X8_beginWithFontsTold_w_12 {D : va_G} {cl : List vw_C} {H : Heap} {e0 e1 e2 e3 e4 e5 e6 e7 e8 f0 f1 f2 f3 f4 f5 f6 f7 f8 f9 f10 f11 f12 f13 f14 : Nat × va_E} {k : va_W} (h : va_P D cl ((([e0, e1, e2, e3, e4, e5, e6, e7, e8] : va_W) ++ ([f0, f1, f2, f3, f4, f5, f6, f7, f8, f9, f10, f11, f12, f13, f14] : va_W)) ++ k) H) : va_P D cl (([e0, e1, e2, e3, e4, e5, e6, e7, e8, f0, f1, f2, f3, f4, f5, f6, f7, f8, f9, f10, f11, f12, f13, f14] : va_W) ++ k) H := h
theorem ax_X8_beginWithFontsTold_w_13 {A : Nat → Prop} {e0 e1 e2 e3 e4 e5 e6 e7 e8 f0 f1 f2 f3 f4 f5 f6 f7 f8 f9 f10 f11 f12 f13 f14 : Nat × va_E} {k : va_W} (h : va_D A ((([e0, e1, e2, e3, e4, e5, e6, e7, e8] : va_W) ++ ([f0, f1, f2, f3, f4, f5, f6, f7, f8, f9, f10, f11, f12, f13, f14] : va_W)) ++ k)) : va_D A (([e0, e1, e2, e3, e4, e5, e6, e7, e8, f0, f1, f2, f3, f4, f5, f6, f7, f8, f9, f10, f11, f12, f13, f14] : va_W) ++ k) := h
theorem ax_X8_beginWithFontsTold_w_14 {e0 e1 e2 e3 e4 e5 e6 e7 e8 e9 e10 e11 e12 e13 e14 e15 e16 e17 e18 e19 e20 e21 e22 e23 : Nat × va_E} : ([9, 0, 5, 6, 7, 8, 20, 3, 4, 21, 18, 19, 22, 23, 1, 2, 10, 11, 12, 13, 14, 15, 16, 17] : List Nat).map (fun i => ([e0, e1, e2, e3, e4, e5, e6, e7, e8, e9, e10, e11, e12, e13, e14, e15, e16, e17, e18, e19, e20, e21, e22, e23] : va_W)[i]?) = ([e9, e0, e5, e6, e7, e8, e20, e3, e4, e21, e18, e19, e22, e23, e1, e2, e10, e11, e12, e13, e14, e15, e16, e17] : va_W).map some := rfl
set_option maxHeartbeats 4000000 in
set_option maxRecDepth 100000 in
theorem c_X8_beginWithFontsTold_w (l : Launch) (D : va_G) (sz : Nat) (h0 : Nat) (sh : Nat) (rd : Nat) (fr : Nat) (wr : Nat) (pf : Nat) (rc : Nat) (se : Nat) (rs : Nat) (sw : Nat) (sp : Nat) (ss : Nat) (ew : Int) (wc : Int64) (tr : Int) (lf : Int) (td : Nat) (du : Int) (t1_ : Nat) (t2_ : Nat) (t3_ : Nat) (tn : Int) (ct1 : ClassId) (tk : Nat → Int32) (ct2 : ClassId) (tb : Nat → Int32) (ct3 : ClassId) (tl : Nat → Int32) (k1 : Nat) (k2 : Nat) (k3 : Nat) (fn : Int) (ck1 : ClassId) (fk : Nat → Int32) (ck2 : ClassId) (fb : Nat → Int32) (ck3 : ClassId) (fh : Nat → Int32) (w1 : Nat) (wn : Int) (cw1 : ClassId) (fw : Nat → Int32) (p1 : Nat) (pn : Int) (cp1 : ClassId) (fp : Nat → Int32) (y1 : Nat) (rn : Int) (dn : Int) (v1 : Nat) (v2 : Nat) (g1 : Nat) (g2 : Nat) (g3 : Nat) (g4 : Nat) (g5 : Nat) (cn : Int) (bo : Int) (ru : Int) (g6 : Nat) (g7 : Nat) (cg1 : ClassId) (f1 : Nat → Int32) (cg2 : ClassId) (f2 : Nat → Int32) (cg3 : ClassId) (f3 : Nat → Int32) (cg4 : ClassId) (f4 : Nat → Int32) (cg5 : ClassId) (f5 : Nat → Int32) (cg6 : ClassId) (f6 : Nat → Int32) (cg7 : ClassId) (fo : Nat → Option Nat) (o : Nat) (pr : Nat → Nat) (gp : Nat → Nat → Int32) (cy : ClassId) (q0 : rg ew) (q1 : rg tr) (q2 : rg lf) (q3 : rg du) (q4 : 0 ≤ tn ∧ tn ≤ 4) (q5 : 0 ≤ fn ∧ fn ≤ 4) (q6 : 0 ≤ wn ∧ wn ≤ 24) (q7 : 0 ≤ pn ∧ pn ≤ 4) (q8 : kPr fp) (q9 : 0 ≤ rn ∧ rn ≤ 5) (q10 : 0 ≤ dn ∧ dn ≤ 8) (q11 : 0 ≤ cn ∧ cn ≤ 24) (q12 : 0 ≤ bo ∧ bo ≤ 24) (q13 : 0 ≤ ru ∧ ru ≤ cn) (q14 : kOut fo pr o 24) (q15 : o + 24 ≤ 56) : Met l yX8_beginWithFontsTold wsX8_beginWithFontsTold ({ frames := 4, cells := 0, slots := 0, locals := 95 }) (kPre [.ref h0] D (([(h0, .inr (8, [.ref sh, .ref rd, .ref fr, .ref wr, .ref pf, .ref rc, .ref se, .ref rs, .ref sw, .ref sp, .ref ss, .int (zI ew), .long wc, .int (zI tr), .int (zI lf)])), (rd, .inr (6, [.ref td, .int (zI du)])), (td, .inr (0, [.ref t1_, .ref t2_, .ref t3_, .int (zI tn)])), (t1_, .inl (ct1, 4, .inl tk)), (t2_, .inl (ct2, 4, .inl tb)), (t3_, .inl (ct3, 4, .inl tl)), (fr, .inr (0, [.ref k1, .ref k2, .ref k3, .int (zI fn)])), (k1, .inl (ck1, 4, .inl fk)), (k2, .inl (ck2, 4, .inl fb)), (k3, .inl (ck3, 4, .inl fh)), (wr, .inr (7, [.ref w1, .int (zI wn)])), (w1, .inl (cw1, 24, .inl fw)), (pf, .inr (1, [.ref p1, .int (zI pn)])), (p1, .inl (cp1, 4, .inl fp)), (rc, .inr (3, [.ref y1, .int (zI rn)])), (rs, .inr (2, [.int (zI dn), .ref v1, .ref v2])), (se, .inr (4, [.ref g1, .ref g2, .ref g3, .ref g4, .ref g5, .int (zI cn), .int (zI bo), .int (zI ru), .ref g6, .ref g7])), (g1, .inl (cg1, 24, .inl f1)), (g2, .inl (cg2, 24, .inl f2)), (g3, .inl (cg3, 24, .inl f3)), (g4, .inl (cg4, 24, .inl f4)), (g5, .inl (cg5, 24, .inl f5)), (g6, .inl (cg6, 24, .inl f6)), (g7, .inl (cg7, 24, .inr (.inr (.inr (.inr (fo))))))] : va_W) ++ kRows pr gp cy) [(ct1, .int), (ct2, .int), (ct3, .int), (ck1, .int), (ck2, .int), (ck3, .int), (cw1, .int), (cp1, .int), (cg1, .int), (cg2, .int), (cg3, .int), (cg4, .int), (cg5, .int), (cg6, .int), (cg7, .array .int), (cy, .int)] sz) (kQV (fun t => ∃ (u_fn : Int) (u_fk : Nat → Int32) (u_fb : Nat → Int32) (u_fh : Nat → Int32) (u_wn : Int) (u_pn : Int) (u_fp : Nat → Int32) (u_rn : Int) (u_dn : Int) (u_cn : Int) (u_bo : Int) (u_ru : Int) (u_f1 : Nat → Int32) (u_f2 : Nat → Int32) (u_f3 : Nat → Int32) (u_f4 : Nat → Int32) (u_f5 : Nat → Int32) (u_f6 : Nat → Int32) (u_gp : Nat → Nat → Int32), (0 ≤ u_fn ∧ u_fn ≤ 4) ∧ (0 ≤ u_wn ∧ u_wn ≤ 24) ∧ (0 ≤ u_pn ∧ u_pn ≤ 4) ∧ (kPr u_fp) ∧ (0 ≤ u_rn ∧ u_rn ≤ 5) ∧ (0 ≤ u_dn ∧ u_dn ≤ 8) ∧ (0 ≤ u_cn ∧ u_cn ≤ 24) ∧ (0 ≤ u_bo ∧ u_bo ≤ 24) ∧ (0 ≤ u_ru ∧ u_ru ≤ u_cn) ∧ (u_fn = tn) ∧ (kEq u_fk tk 4) ∧ (kEq u_fb tb 4) ∧ (kEq u_fh tl 4) ∧ (u_wn = 0) ∧ (u_pn = tn) ∧ (kId u_fp tn) ∧ (u_rn = 0) ∧ (u_dn = 0) ∧ va_P D vwCl (([(h0, .inr (8, [.ref sh, .ref rd, .ref fr, .ref wr, .ref pf, .ref rc, .ref se, .ref rs, .ref sw, .ref sp, .ref ss, .int (zI ew), .long wc, .int (zI tr), .int (zI lf)])), (rd, .inr (6, [.ref td, .int (zI du)])), (td, .inr (0, [.ref t1_, .ref t2_, .ref t3_, .int (zI tn)])), (t1_, .inl (ct1, 4, .inl tk)), (t2_, .inl (ct2, 4, .inl tb)), (t3_, .inl (ct3, 4, .inl tl)), (fr, .inr (0, [.ref k1, .ref k2, .ref k3, .int (zI u_fn)])), (k1, .inl (ck1, 4, .inl u_fk)), (k2, .inl (ck2, 4, .inl u_fb)), (k3, .inl (ck3, 4, .inl u_fh)), (wr, .inr (7, [.ref w1, .int (zI u_wn)])), (w1, .inl (cw1, 24, .inl fw)), (pf, .inr (1, [.ref p1, .int (zI u_pn)])), (p1, .inl (cp1, 4, .inl u_fp)), (rc, .inr (3, [.ref y1, .int (zI u_rn)])), (rs, .inr (2, [.int (zI u_dn), .ref v1, .ref v2])), (se, .inr (4, [.ref g1, .ref g2, .ref g3, .ref g4, .ref g5, .int (zI u_cn), .int (zI u_bo), .int (zI u_ru), .ref g6, .ref g7])), (g1, .inl (cg1, 24, .inl u_f1)), (g2, .inl (cg2, 24, .inl u_f2)), (g3, .inl (cg3, 24, .inl u_f3)), (g4, .inl (cg4, 24, .inl u_f4)), (g5, .inl (cg5, 24, .inl u_f5)), (g6, .inl (cg6, 24, .inl u_f6)), (g7, .inl (cg7, 24, .inr (.inr (.inr (.inr (fo))))))] : va_W) ++ kRows pr u_gp cy) t.heap ∧ va_D (va_A (([(h0, .inr (8, [.ref sh, .ref rd, .ref fr, .ref wr, .ref pf, .ref rc, .ref se, .ref rs, .ref sw, .ref sp, .ref ss, .int (zI ew), .long wc, .int (zI tr), .int (zI lf)])), (rd, .inr (6, [.ref td, .int (zI du)])), (td, .inr (0, [.ref t1_, .ref t2_, .ref t3_, .int (zI tn)])), (t1_, .inl (ct1, 4, .inl tk)), (t2_, .inl (ct2, 4, .inl tb)), (t3_, .inl (ct3, 4, .inl tl)), (fr, .inr (0, [.ref k1, .ref k2, .ref k3, .int (zI fn)])), (k1, .inl (ck1, 4, .inl fk)), (k2, .inl (ck2, 4, .inl fb)), (k3, .inl (ck3, 4, .inl fh)), (wr, .inr (7, [.ref w1, .int (zI wn)])), (w1, .inl (cw1, 24, .inl fw)), (pf, .inr (1, [.ref p1, .int (zI pn)])), (p1, .inl (cp1, 4, .inl fp)), (rc, .inr (3, [.ref y1, .int (zI rn)])), (rs, .inr (2, [.int (zI dn), .ref v1, .ref v2])), (se, .inr (4, [.ref g1, .ref g2, .ref g3, .ref g4, .ref g5, .int (zI cn), .int (zI bo), .int (zI ru), .ref g6, .ref g7])), (g1, .inl (cg1, 24, .inl f1)), (g2, .inl (cg2, 24, .inl f2)), (g3, .inl (cg3, 24, .inl f3)), (g4, .inl (cg4, 24, .inl f4)), (g5, .inl (cg5, 24, .inl f5)), (g6, .inl (cg6, 24, .inl f6)), (g7, .inl (cg7, 24, .inr (.inr (.inr (.inr (fo))))))] : va_W) ++ kRows pr gp cy) sz) (([(h0, .inr (8, [.ref sh, .ref rd, .ref fr, .ref wr, .ref pf, .ref rc, .ref se, .ref rs, .ref sw, .ref sp, .ref ss, .int (zI ew), .long wc, .int (zI tr), .int (zI lf)])), (rd, .inr (6, [.ref td, .int (zI du)])), (td, .inr (0, [.ref t1_, .ref t2_, .ref t3_, .int (zI tn)])), (t1_, .inl (ct1, 4, .inl tk)), (t2_, .inl (ct2, 4, .inl tb)), (t3_, .inl (ct3, 4, .inl tl)), (fr, .inr (0, [.ref k1, .ref k2, .ref k3, .int (zI u_fn)])), (k1, .inl (ck1, 4, .inl u_fk)), (k2, .inl (ck2, 4, .inl u_fb)), (k3, .inl (ck3, 4, .inl u_fh)), (wr, .inr (7, [.ref w1, .int (zI u_wn)])), (w1, .inl (cw1, 24, .inl fw)), (pf, .inr (1, [.ref p1, .int (zI u_pn)])), (p1, .inl (cp1, 4, .inl u_fp)), (rc, .inr (3, [.ref y1, .int (zI u_rn)])), (rs, .inr (2, [.int (zI u_dn), .ref v1, .ref v2])), (se, .inr (4, [.ref g1, .ref g2, .ref g3, .ref g4, .ref g5, .int (zI u_cn), .int (zI u_bo), .int (zI u_ru), .ref g6, .ref g7])), (g1, .inl (cg1, 24, .inl u_f1)), (g2, .inl (cg2, 24, .inl u_f2)), (g3, .inl (cg3, 24, .inl u_f3)), (g4, .inl (cg4, 24, .inl u_f4)), (g5, .inl (cg5, 24, .inl u_f5)), (g6, .inl (cg6, 24, .inl u_f6)), (g7, .inl (cg7, 24, .inr (.inr (.inr (.inr (fo))))))] : va_W) ++ kRows pr u_gp cy)) (va_A (([(h0, .inr (8, [.ref sh, .ref rd, .ref fr, .ref wr, .ref pf, .ref rc, .ref se, .ref rs, .ref sw, .ref sp, .ref ss, .int (zI ew), .long wc, .int (zI tr), .int (zI lf)])), (rd, .inr (6, [.ref td, .int (zI du)])), (td, .inr (0, [.ref t1_, .ref t2_, .ref t3_, .int (zI tn)])), (t1_, .inl (ct1, 4, .inl tk)), (t2_, .inl (ct2, 4, .inl tb)), (t3_, .inl (ct3, 4, .inl tl)), (fr, .inr (0, [.ref k1, .ref k2, .ref k3, .int (zI fn)])), (k1, .inl (ck1, 4, .inl fk)), (k2, .inl (ck2, 4, .inl fb)), (k3, .inl (ck3, 4, .inl fh)), (wr, .inr (7, [.ref w1, .int (zI wn)])), (w1, .inl (cw1, 24, .inl fw)), (pf, .inr (1, [.ref p1, .int (zI pn)])), (p1, .inl (cp1, 4, .inl fp)), (rc, .inr (3, [.ref y1, .int (zI rn)])), (rs, .inr (2, [.int (zI dn), .ref v1, .ref v2])), (se, .inr (4, [.ref g1, .ref g2, .ref g3, .ref g4, .ref g5, .int (zI cn), .int (zI bo), .int (zI ru), .ref g6, .ref g7])), (g1, .inl (cg1, 24, .inl f1)), (g2, .inl (cg2, 24, .inl f2)), (g3, .inl (cg3, 24, .inl f3)), (g4, .inl (cg4, 24, .inl f4)), (g5, .inl (cg5, 24, .inl f5)), (g6, .inl (cg6, 24, .inl f6)), (g7, .inl (cg7, 24, .inr (.inr (.inr (.inr (fo))))))] : va_W) ++ kRows pr gp cy) sz)) 0 0 (va_A (([(h0, .inr (8, [.ref sh, .ref rd, .ref fr, .ref wr, .ref pf, .ref rc, .ref se, .ref rs, .ref sw, .ref sp, .ref ss, .int (zI ew), .long wc, .int (zI tr), .int (zI lf)])), (rd, .inr (6, [.ref td, .int (zI du)])), (td, .inr (0, [.ref t1_, .ref t2_, .ref t3_, .int (zI tn)])), (t1_, .inl (ct1, 4, .inl tk)), (t2_, .inl (ct2, 4, .inl tb)), (t3_, .inl (ct3, 4, .inl tl)), (fr, .inr (0, [.ref k1, .ref k2, .ref k3, .int (zI fn)])), (k1, .inl (ck1, 4, .inl fk)), (k2, .inl (ck2, 4, .inl fb)), (k3, .inl (ck3, 4, .inl fh)), (wr, .inr (7, [.ref w1, .int (zI wn)])), (w1, .inl (cw1, 24, .inl fw)), (pf, .inr (1, [.ref p1, .int (zI pn)])), (p1, .inl (cp1, 4, .inl fp)), (rc, .inr (3, [.ref y1, .int (zI rn)])), (rs, .inr (2, [.int (zI dn), .ref v1, .ref v2])), (se, .inr (4, [.ref g1, .ref g2, .ref g3, .ref g4, .ref g5, .int (zI cn), .int (zI bo), .int (zI ru), .ref g6, .ref g7])), (g1, .inl (cg1, 24, .inl f1)), (g2, .inl (cg2, 24, .inl f2)), (g3, .inl (cg3, 24, .inl f3)), (g4, .inl (cg4, 24, .inl f4)), (g5, .inl (cg5, 24, .inl f5)), (g6, .inl (cg6, 24, .inl f6)), (g7, .inl (cg7, 24, .inr (.inr (.inr (.inr (fo))))))] : va_W) ++ kRows pr gp cy) sz) := by
  refine Met.ofW (cc := cX8_beginWithFontsTold) (maxL := 1) (ret := none) (by decide) rfl ?_
  intro p e s m args below meth c s₁ B hml hv
  obtain ⟨rfl, hsz, hP, hK, hD0, hN⟩ := hv
  have hx := B.exec
  have hb := B.bytes
  have hr := B.returns
  have hts := atoms_spec (ws := wsX8_beginWithFontsTold) B.pre
  have hown : s.vm.findClass RX8 = some m.cls := findClass_of_methodNamed B.named
  have hlocks := B.notSynchronized
  subst hsz
  have hD := hD0.self (sz := s.heap.size)
  generalize hAe : va_A (([(h0, .inr (8, [.ref sh, .ref rd, .ref fr, .ref wr, .ref pf, .ref rc, .ref se, .ref rs, .ref sw, .ref sp, .ref ss, .int (zI ew), .long wc, .int (zI tr), .int (zI lf)])), (rd, .inr (6, [.ref td, .int (zI du)])), (td, .inr (0, [.ref t1_, .ref t2_, .ref t3_, .int (zI tn)])), (t1_, .inl (ct1, 4, .inl tk)), (t2_, .inl (ct2, 4, .inl tb)), (t3_, .inl (ct3, 4, .inl tl)), (fr, .inr (0, [.ref k1, .ref k2, .ref k3, .int (zI fn)])), (k1, .inl (ck1, 4, .inl fk)), (k2, .inl (ck2, 4, .inl fb)), (k3, .inl (ck3, 4, .inl fh)), (wr, .inr (7, [.ref w1, .int (zI wn)])), (w1, .inl (cw1, 24, .inl fw)), (pf, .inr (1, [.ref p1, .int (zI pn)])), (p1, .inl (cp1, 4, .inl fp)), (rc, .inr (3, [.ref y1, .int (zI rn)])), (rs, .inr (2, [.int (zI dn), .ref v1, .ref v2])), (se, .inr (4, [.ref g1, .ref g2, .ref g3, .ref g4, .ref g5, .int (zI cn), .int (zI bo), .int (zI ru), .ref g6, .ref g7])), (g1, .inl (cg1, 24, .inl f1)), (g2, .inl (cg2, 24, .inl f2)), (g3, .inl (cg3, 24, .inl f3)), (g4, .inl (cg4, 24, .inl f4)), (g5, .inl (cg5, 24, .inl f5)), (g6, .inl (cg6, 24, .inl f6)), (g7, .inl (cg7, 24, .inr (.inr (.inr (.inr (fo))))))] : va_W) ++ kRows pr gp cy) s.heap.size = A at hD ⊢
  have hA : ∀ q : Nat, s.heap.size ≤ q → A q := fun q h => by rw [← hAe]; exact Or.inr h
  have hS : va_S A s.heap s.heap [] := va_S.rf
  have hP : va_P D vwCl (([(h0, .inr (8, [.ref sh, .ref rd, .ref fr, .ref wr, .ref pf, .ref rc, .ref se, .ref rs, .ref sw, .ref sp, .ref ss, .int (zI ew), .long wc, .int (zI tr), .int (zI lf)])), (rd, .inr (6, [.ref td, .int (zI du)])), (td, .inr (0, [.ref t1_, .ref t2_, .ref t3_, .int (zI tn)])), (t1_, .inl (ct1, 4, .inl tk)), (t2_, .inl (ct2, 4, .inl tb)), (t3_, .inl (ct3, 4, .inl tl)), (fr, .inr (0, [.ref k1, .ref k2, .ref k3, .int (zI fn)])), (k1, .inl (ck1, 4, .inl fk)), (k2, .inl (ck2, 4, .inl fb)), (k3, .inl (ck3, 4, .inl fh)), (wr, .inr (7, [.ref w1, .int (zI wn)])), (w1, .inl (cw1, 24, .inl fw)), (pf, .inr (1, [.ref p1, .int (zI pn)])), (p1, .inl (cp1, 4, .inl fp)), (rc, .inr (3, [.ref y1, .int (zI rn)])), (rs, .inr (2, [.int (zI dn), .ref v1, .ref v2])), (se, .inr (4, [.ref g1, .ref g2, .ref g3, .ref g4, .ref g5, .int (zI cn), .int (zI bo), .int (zI ru), .ref g6, .ref g7])), (g1, .inl (cg1, 24, .inl f1)), (g2, .inl (cg2, 24, .inl f2)), (g3, .inl (cg3, 24, .inl f3)), (g4, .inl (cg4, 24, .inl f4)), (g5, .inl (cg5, 24, .inl f5)), (g6, .inl (cg6, 24, .inl f6)), (g7, .inl (cg7, 24, .inr (.inr (.inr (.inr (fo))))))] : va_W) ++ kRows pr gp cy) s.heap := hP
  have hl := lv_entry ([.ref h0]) (n := 1) (Nat.le_of_ble_eq_true rfl)
  rw [lg_entry_eq]
  generalize (lg_sl ([.ref h0]) ++ List.replicate (1 - (lg_sl ([.ref h0])).length) Slot.unset).toArray = ls at hl ⊢
  have hl : lv_has ls 1 [(0, .ref h0)] := hl
  refine lv_aload_n hx hb dX8_beginWithFontsTold_0 rfl (lv_at hl 0 rfl) ?_
  refine va_get (D := D) (ci := 8) (v := .ref fr) (C := RX8) (T := TX8) (N := 15) hx hb hts (fun _ h9 => List.mem_cons_of_mem _ (List.mem_append_left _ (List.mem_append_left _ (List.mem_append_left _ (List.mem_append_left _ (List.mem_append_left _ (List.mem_append_left _ (List.mem_append_left _ (List.mem_append_right _ h9))))))))) hown hK hP 0 rfl rfl 2 (by decide) (hts (.fieldLink RX8 28 "FontRuns" "fontRow" "LFontRuns$FontRow;") mw_X8_beginWithFontsTold_w_0) (fun _ h9 => h9) rfl dX8_beginWithFontsTold_1 ?_
  refine lv_aload_n hx hb dX8_beginWithFontsTold_4 rfl (lv_at hl 0 rfl) ?_
  refine va_get (D := D) (ci := 8) (v := .ref rd) (C := RX8) (T := TX8) (N := 15) hx hb hts (fun _ h9 => List.mem_cons_of_mem _ (List.mem_append_left _ (List.mem_append_left _ (List.mem_append_left _ (List.mem_append_left _ (List.mem_append_left _ (List.mem_append_left _ (List.mem_append_left _ (List.mem_append_right _ h9))))))))) hown hK hP 0 rfl rfl 1 (by decide) (hts (.fieldLink RX8 21 "FontRuns" "reader" "LFontRuns$TextReader;") mw_X8_beginWithFontsTold_w_1) (fun _ h9 => h9) rfl dX8_beginWithFontsTold_5 ?_
  refine va_get (D := D) (ci := 6) (v := .ref td) (C := RX6) (T := TX6) (N := 2) hx hb hts (fun _ h9 => List.mem_cons_of_mem _ (List.mem_append_left _ (List.mem_append_left _ (List.mem_append_left _ (List.mem_append_left _ (List.mem_append_left _ (List.mem_append_left _ (List.mem_append_right _ h9)))))))) hown hK hP 1 rfl rfl 0 (by decide) (hts (.fieldLink RX8 132 "FontRuns$TextReader" "told" "LFontRuns$FontRow;") mw_X8_beginWithFontsTold_w_2) (fun _ h9 => h9) rfl dX8_beginWithFontsTold_8 ?_
  have hFc := va_free (wc := [(fr, .inr (0, [.ref k1, .ref k2, .ref k3, .int (zI fn)])), (k1, .inl (ck1, 4, .inl fk)), (k2, .inl (ck2, 4, .inl fb)), (k3, .inl (ck3, 4, .inl fh)), (td, .inr (0, [.ref t1_, .ref t2_, .ref t3_, .int (zI tn)])), (t1_, .inl (ct1, 4, .inl tk)), (t2_, .inl (ct2, 4, .inl tb)), (t3_, .inl (ct3, 4, .inl tl))]) hD hS hA [6, 7, 8, 9, 2, 3, 4, 5] ax_X8_beginWithFontsTold_w_0
  refine va_callv (va_runV (As := [.ref td]) (rest := []) ⟨hx, hb, hml, hown, hts⟩ (c_X0_takeFrom_w l D s.heap.size (h1 := td) (h0 := fr) (k1 := k1) (k2 := k2) (k3 := k3) (n := fn) (ck1 := ck1) (fk := fk) (ck2 := ck2) (fb := fb) (ck3 := ck3) (fh := fh) (m1 := t1_) (m2 := t2_) (m3 := t3_) (n2 := tn) (cm1 := ct1) (gk := tk) (cm2 := ct2) (gb := tb) (cm3 := ct3) (gh := tl) q4) (cwV 1 hts gX8_beginWithFontsTold_X0_takeFrom rfl rfl rfl (by decide +kernel) ⟨Nat.le_of_ble_eq_true rfl, Nat.le_of_ble_eq_true rfl⟩) (kPreV hP (kD0 hD) hK hN [6, 7, 8, 9, 2, 3, 4, 5] [3, 4, 5, 0, 1, 2] ax_X8_beginWithFontsTold_w_0 rfl (by decide +kernel) 6 0 rfl rfl) rfl rfl hl.1 rfl (lv_room (Nat.le_of_ble_eq_true rfl)) dX8_beginWithFontsTold_11 ⟨Nat.le_of_ble_eq_true rfl, Nat.le_of_ble_eq_true rfl⟩) hS (fun q _ h => hFc q h) hFc (fun u t H1 locs ht hvm hw hB hz1 hk1 hS => ?_)
  refine Exists.elim hB (fun un_1 hB1 => Exists.elim hB1 (fun uk_2 hB2 => Exists.elim hB2 (fun ub_3 hB3 => Exists.elim hB3 (fun uh_4 hB4 => ?_))))
  have h_5 := hB4.1
  have h_6 := hB4.2.1
  have h_7 := hB4.2.2.1
  have h_8 := hB4.2.2.2.1
  have hP1 := hB4.2.2.2.2.1
  have hD1 := hB4.2.2.2.2.2
  clear hB hB1 hB2 hB3 hB4
  rw [ht] at hP1
  obtain ⟨hP, hD⟩ := va_joinQ (X := [(h0, .inr (8, [.ref sh, .ref rd, .ref fr, .ref wr, .ref pf, .ref rc, .ref se, .ref rs, .ref sw, .ref sp, .ref ss, .int (zI ew), .long wc, .int (zI tr), .int (zI lf)])), (rd, .inr (6, [.ref td, .int (zI du)])), (td, .inr (0, [.ref t1_, .ref t2_, .ref t3_, .int (zI tn)])), (t1_, .inl (ct1, 4, .inl tk)), (t2_, .inl (ct2, 4, .inl tb)), (t3_, .inl (ct3, 4, .inl tl)), (fr, .inr (0, [.ref k1, .ref k2, .ref k3, .int (zI fn)])), (k1, .inl (ck1, 4, .inl fk)), (k2, .inl (ck2, 4, .inl fb)), (k3, .inl (ck3, 4, .inl fh)), (wr, .inr (7, [.ref w1, .int (zI wn)])), (w1, .inl (cw1, 24, .inl fw)), (pf, .inr (1, [.ref p1, .int (zI pn)])), (p1, .inl (cp1, 4, .inl fp)), (rc, .inr (3, [.ref y1, .int (zI rn)])), (rs, .inr (2, [.int (zI dn), .ref v1, .ref v2])), (se, .inr (4, [.ref g1, .ref g2, .ref g3, .ref g4, .ref g5, .int (zI cn), .int (zI bo), .int (zI ru), .ref g6, .ref g7])), (g1, .inl (cg1, 24, .inl f1)), (g2, .inl (cg2, 24, .inl f2)), (g3, .inl (cg3, 24, .inl f3)), (g4, .inl (cg4, 24, .inl f4)), (g5, .inl (cg5, 24, .inl f5)), (g6, .inl (cg6, 24, .inl f6)), (g7, .inl (cg7, 24, .inr (.inr (.inr (.inr (fo))))))]) (wr := [(h0, .inr (8, [.ref sh, .ref rd, .ref fr, .ref wr, .ref pf, .ref rc, .ref se, .ref rs, .ref sw, .ref sp, .ref ss, .int (zI ew), .long wc, .int (zI tr), .int (zI lf)])), (rd, .inr (6, [.ref td, .int (zI du)])), (wr, .inr (7, [.ref w1, .int (zI wn)])), (w1, .inl (cw1, 24, .inl fw)), (pf, .inr (1, [.ref p1, .int (zI pn)])), (p1, .inl (cp1, 4, .inl fp)), (rc, .inr (3, [.ref y1, .int (zI rn)])), (rs, .inr (2, [.int (zI dn), .ref v1, .ref v2])), (se, .inr (4, [.ref g1, .ref g2, .ref g3, .ref g4, .ref g5, .int (zI cn), .int (zI bo), .int (zI ru), .ref g6, .ref g7])), (g1, .inl (cg1, 24, .inl f1)), (g2, .inl (cg2, 24, .inl f2)), (g3, .inl (cg3, 24, .inl f3)), (g4, .inl (cg4, 24, .inl f4)), (g5, .inl (cg5, 24, .inl f5)), (g6, .inl (cg6, 24, .inl f6)), (g7, .inl (cg7, 24, .inr (.inr (.inr (.inr (fo))))))]) (w1 := [(fr, .inr (0, [.ref k1, .ref k2, .ref k3, .int (zI un_1)])), (k1, .inl (ck1, 4, .inl uk_2)), (k2, .inl (ck2, 4, .inl ub_3)), (k3, .inl (ck3, 4, .inl uh_4)), (td, .inr (0, [.ref t1_, .ref t2_, .ref t3_, .int (zI tn)])), (t1_, .inl (ct1, 4, .inl tk)), (t2_, .inl (ct2, 4, .inl tb)), (t3_, .inl (ct3, 4, .inl tl))]) hP hD [6, 7, 8, 9, 2, 3, 4, 5] [0, 1, 10, 11, 12, 13, 14, 15, 16, 17, 18, 19, 20, 21, 22, 23] ax_X8_beginWithFontsTold_w_1 ax_X8_beginWithFontsTold_w_2 (by decide +kernel) (by decide +kernel) hk1 hFc hP1 hD1
  have hP := ax_X8_beginWithFontsTold_w_3 hP
  have hD := ax_X8_beginWithFontsTold_w_4 hD
  generalize H1 = H at hP hS ⊢
  have hP : va_P D vwCl (([(h0, .inr (8, [.ref sh, .ref rd, .ref fr, .ref wr, .ref pf, .ref rc, .ref se, .ref rs, .ref sw, .ref sp, .ref ss, .int (zI ew), .long wc, .int (zI tr), .int (zI lf)])), (rd, .inr (6, [.ref td, .int (zI du)])), (wr, .inr (7, [.ref w1, .int (zI wn)])), (w1, .inl (cw1, 24, .inl fw)), (pf, .inr (1, [.ref p1, .int (zI pn)])), (p1, .inl (cp1, 4, .inl fp)), (rc, .inr (3, [.ref y1, .int (zI rn)])), (rs, .inr (2, [.int (zI dn), .ref v1, .ref v2])), (se, .inr (4, [.ref g1, .ref g2, .ref g3, .ref g4, .ref g5, .int (zI cn), .int (zI bo), .int (zI ru), .ref g6, .ref g7])), (g1, .inl (cg1, 24, .inl f1)), (g2, .inl (cg2, 24, .inl f2)), (g3, .inl (cg3, 24, .inl f3)), (g4, .inl (cg4, 24, .inl f4)), (g5, .inl (cg5, 24, .inl f5)), (g6, .inl (cg6, 24, .inl f6)), (g7, .inl (cg7, 24, .inr (.inr (.inr (.inr (fo)))))), (fr, .inr (0, [.ref k1, .ref k2, .ref k3, .int (zI un_1)])), (k1, .inl (ck1, 4, .inl uk_2)), (k2, .inl (ck2, 4, .inl ub_3)), (k3, .inl (ck3, 4, .inl uh_4)), (td, .inr (0, [.ref t1_, .ref t2_, .ref t3_, .int (zI tn)])), (t1_, .inl (ct1, 4, .inl tk)), (t2_, .inl (ct2, 4, .inl tb)), (t3_, .inl (ct3, 4, .inl tl))] : va_W) ++ kRows pr gp cy) H := hP
  have hD : va_D A (([(h0, .inr (8, [.ref sh, .ref rd, .ref fr, .ref wr, .ref pf, .ref rc, .ref se, .ref rs, .ref sw, .ref sp, .ref ss, .int (zI ew), .long wc, .int (zI tr), .int (zI lf)])), (rd, .inr (6, [.ref td, .int (zI du)])), (wr, .inr (7, [.ref w1, .int (zI wn)])), (w1, .inl (cw1, 24, .inl fw)), (pf, .inr (1, [.ref p1, .int (zI pn)])), (p1, .inl (cp1, 4, .inl fp)), (rc, .inr (3, [.ref y1, .int (zI rn)])), (rs, .inr (2, [.int (zI dn), .ref v1, .ref v2])), (se, .inr (4, [.ref g1, .ref g2, .ref g3, .ref g4, .ref g5, .int (zI cn), .int (zI bo), .int (zI ru), .ref g6, .ref g7])), (g1, .inl (cg1, 24, .inl f1)), (g2, .inl (cg2, 24, .inl f2)), (g3, .inl (cg3, 24, .inl f3)), (g4, .inl (cg4, 24, .inl f4)), (g5, .inl (cg5, 24, .inl f5)), (g6, .inl (cg6, 24, .inl f6)), (g7, .inl (cg7, 24, .inr (.inr (.inr (.inr (fo)))))), (fr, .inr (0, [.ref k1, .ref k2, .ref k3, .int (zI un_1)])), (k1, .inl (ck1, 4, .inl uk_2)), (k2, .inl (ck2, 4, .inl ub_3)), (k3, .inl (ck3, 4, .inl uh_4)), (td, .inr (0, [.ref t1_, .ref t2_, .ref t3_, .int (zI tn)])), (t1_, .inl (ct1, 4, .inl tk)), (t2_, .inl (ct2, 4, .inl tb)), (t3_, .inl (ct3, 4, .inl tl))] : va_W) ++ kRows pr gp cy) := hD
  refine lv_aload_n hx hb dX8_beginWithFontsTold_14 rfl (lv_at hl 0 rfl) ?_
  refine va_get (D := D) (ci := 8) (v := .ref wr) (C := RX8) (T := TX8) (N := 15) hx hb hts (fun _ h9 => List.mem_cons_of_mem _ (List.mem_append_left _ (List.mem_append_left _ (List.mem_append_left _ (List.mem_append_left _ (List.mem_append_left _ (List.mem_append_left _ (List.mem_append_left _ (List.mem_append_right _ h9))))))))) hown hK hP 0 rfl rfl 3 (by decide) (hts (.fieldLink RX8 35 "FontRuns" "writing" "LFontRuns$Writing;") mw_X8_beginWithFontsTold_w_3) (fun _ h9 => h9) rfl dX8_beginWithFontsTold_15 ?_
  refine lv_iconst (v := zI 0) hx hb dX8_beginWithFontsTold_18 rfl ?_
  refine va_put (D := D) (ci := 7) (v := .int (zI 0)) (ty := .int) (C := RX7) (T := TX7) (N := 2) hx hb hts (fun _ h9 => List.mem_cons_of_mem _ (List.mem_append_left _ (List.mem_append_left _ (List.mem_append_left _ (List.mem_append_left _ (List.mem_append_left _ (List.mem_append_right _ h9))))))) tyX7 tyX7_ok nmX7 hown hK hP hD hS 2 rfl rfl 1 (by decide) (hts (.fieldLink RX8 139 "FontRuns$Writing" "count" "I") mw_X8_beginWithFontsTold_w_4) (fun _ h9 => h9) rfl (by decide +kernel) rfl rfl (Nat.le_of_ble_eq_true rfl) dX8_beginWithFontsTold_19 (fun H locs hP hD hS => ?_)
  have hP : va_P D vwCl (([(h0, .inr (8, [.ref sh, .ref rd, .ref fr, .ref wr, .ref pf, .ref rc, .ref se, .ref rs, .ref sw, .ref sp, .ref ss, .int (zI ew), .long wc, .int (zI tr), .int (zI lf)])), (rd, .inr (6, [.ref td, .int (zI du)])), (wr, .inr (7, [.ref w1, .int (zI 0)])), (w1, .inl (cw1, 24, .inl fw)), (pf, .inr (1, [.ref p1, .int (zI pn)])), (p1, .inl (cp1, 4, .inl fp)), (rc, .inr (3, [.ref y1, .int (zI rn)])), (rs, .inr (2, [.int (zI dn), .ref v1, .ref v2])), (se, .inr (4, [.ref g1, .ref g2, .ref g3, .ref g4, .ref g5, .int (zI cn), .int (zI bo), .int (zI ru), .ref g6, .ref g7])), (g1, .inl (cg1, 24, .inl f1)), (g2, .inl (cg2, 24, .inl f2)), (g3, .inl (cg3, 24, .inl f3)), (g4, .inl (cg4, 24, .inl f4)), (g5, .inl (cg5, 24, .inl f5)), (g6, .inl (cg6, 24, .inl f6)), (g7, .inl (cg7, 24, .inr (.inr (.inr (.inr (fo)))))), (fr, .inr (0, [.ref k1, .ref k2, .ref k3, .int (zI un_1)])), (k1, .inl (ck1, 4, .inl uk_2)), (k2, .inl (ck2, 4, .inl ub_3)), (k3, .inl (ck3, 4, .inl uh_4)), (td, .inr (0, [.ref t1_, .ref t2_, .ref t3_, .int (zI tn)])), (t1_, .inl (ct1, 4, .inl tk)), (t2_, .inl (ct2, 4, .inl tb)), (t3_, .inl (ct3, 4, .inl tl))] : va_W) ++ kRows pr gp cy) H := hP
  have hD : va_D A (([(h0, .inr (8, [.ref sh, .ref rd, .ref fr, .ref wr, .ref pf, .ref rc, .ref se, .ref rs, .ref sw, .ref sp, .ref ss, .int (zI ew), .long wc, .int (zI tr), .int (zI lf)])), (rd, .inr (6, [.ref td, .int (zI du)])), (wr, .inr (7, [.ref w1, .int (zI 0)])), (w1, .inl (cw1, 24, .inl fw)), (pf, .inr (1, [.ref p1, .int (zI pn)])), (p1, .inl (cp1, 4, .inl fp)), (rc, .inr (3, [.ref y1, .int (zI rn)])), (rs, .inr (2, [.int (zI dn), .ref v1, .ref v2])), (se, .inr (4, [.ref g1, .ref g2, .ref g3, .ref g4, .ref g5, .int (zI cn), .int (zI bo), .int (zI ru), .ref g6, .ref g7])), (g1, .inl (cg1, 24, .inl f1)), (g2, .inl (cg2, 24, .inl f2)), (g3, .inl (cg3, 24, .inl f3)), (g4, .inl (cg4, 24, .inl f4)), (g5, .inl (cg5, 24, .inl f5)), (g6, .inl (cg6, 24, .inl f6)), (g7, .inl (cg7, 24, .inr (.inr (.inr (.inr (fo)))))), (fr, .inr (0, [.ref k1, .ref k2, .ref k3, .int (zI un_1)])), (k1, .inl (ck1, 4, .inl uk_2)), (k2, .inl (ck2, 4, .inl ub_3)), (k3, .inl (ck3, 4, .inl uh_4)), (td, .inr (0, [.ref t1_, .ref t2_, .ref t3_, .int (zI tn)])), (t1_, .inl (ct1, 4, .inl tk)), (t2_, .inl (ct2, 4, .inl tb)), (t3_, .inl (ct3, 4, .inl tl))] : va_W) ++ kRows pr gp cy) := hD
  refine lv_aload_n hx hb dX8_beginWithFontsTold_22 rfl (lv_at hl 0 rfl) ?_
  refine va_get (D := D) (ci := 8) (v := .ref pf) (C := RX8) (T := TX8) (N := 15) hx hb hts (fun _ h9 => List.mem_cons_of_mem _ (List.mem_append_left _ (List.mem_append_left _ (List.mem_append_left _ (List.mem_append_left _ (List.mem_append_left _ (List.mem_append_left _ (List.mem_append_left _ (List.mem_append_right _ h9))))))))) hown hK hP 0 rfl rfl 4 (by decide) (hts (.fieldLink RX8 42 "FontRuns" "preference" "LFontRuns$Preference;") mw_X8_beginWithFontsTold_w_5) (fun _ h9 => h9) rfl dX8_beginWithFontsTold_23 ?_
  refine lv_aload_n hx hb dX8_beginWithFontsTold_26 rfl (lv_at hl 0 rfl) ?_
  refine va_get (D := D) (ci := 8) (v := .ref fr) (C := RX8) (T := TX8) (N := 15) hx hb hts (fun _ h9 => List.mem_cons_of_mem _ (List.mem_append_left _ (List.mem_append_left _ (List.mem_append_left _ (List.mem_append_left _ (List.mem_append_left _ (List.mem_append_left _ (List.mem_append_left _ (List.mem_append_right _ h9))))))))) hown hK hP 0 rfl rfl 2 (by decide) (hts (.fieldLink RX8 28 "FontRuns" "fontRow" "LFontRuns$FontRow;") mw_X8_beginWithFontsTold_w_0) (fun _ h9 => h9) rfl dX8_beginWithFontsTold_27 ?_
  refine va_get (D := D) (ci := 0) (v := .int (zI un_1)) (C := RX0) (T := TX0) (N := 4) hx hb hts (fun _ h9 => List.mem_cons_of_mem _ (List.mem_append_left _ (List.mem_append_left _ (List.mem_append_left _ (List.mem_append_left _ (List.mem_append_right _ h9)))))) hown hK hP 16 rfl rfl 3 (by decide) (hts (.fieldLink RX8 106 "FontRuns$FontRow" "count" "I") mw_X8_beginWithFontsTold_w_6) (fun _ h9 => h9) rfl dX8_beginWithFontsTold_30 ?_
  have hFc := va_free (wc := [(pf, .inr (1, [.ref p1, .int (zI pn)])), (p1, .inl (cp1, 4, .inl fp))]) hD hS hA [4, 5] ax_X8_beginWithFontsTold_w_5
  refine va_callv (va_runV (As := [.int (zI un_1)]) (rest := []) ⟨hx, hb, hml, hown, hts⟩ (c_X1_begin_w l D H.size (k := un_1) (h0 := pf) (r1 := p1) (n := pn) (cr1 := cp1) (fr := fp) (by omega) q8) (cwV 1 hts gX8_beginWithFontsTold_X1_begin rfl rfl rfl (by decide +kernel) ⟨Nat.le_of_ble_eq_true rfl, Nat.le_of_ble_eq_true rfl⟩) (kPreV hP (kD0 hD) hK hN [4, 5] [7] ax_X8_beginWithFontsTold_w_5 rfl (by decide +kernel) 4 1 rfl rfl) rfl rfl hl.1 rfl (lv_room (Nat.le_of_ble_eq_true rfl)) dX8_beginWithFontsTold_33 ⟨Nat.le_of_ble_eq_true rfl, Nat.le_of_ble_eq_true rfl⟩) hS (fun q _ h => hFc q h) hFc (fun u t H1 locs ht hvm hw hB hz1 hk1 hS => ?_)
  refine Exists.elim hB (fun un_9 hB1 => Exists.elim hB1 (fun uf_10 hB2 => ?_))
  have h_11 := hB2.1
  have h_12 := hB2.2.1
  have h_13 := hB2.2.2.1
  have h_14 := hB2.2.2.2.1
  have hP1 := hB2.2.2.2.2.1
  have hD1 := hB2.2.2.2.2.2
  clear hB hB1 hB2
  rw [ht] at hP1
  obtain ⟨hP, hD⟩ := va_joinQ (X := [(h0, .inr (8, [.ref sh, .ref rd, .ref fr, .ref wr, .ref pf, .ref rc, .ref se, .ref rs, .ref sw, .ref sp, .ref ss, .int (zI ew), .long wc, .int (zI tr), .int (zI lf)])), (rd, .inr (6, [.ref td, .int (zI du)])), (wr, .inr (7, [.ref w1, .int (zI 0)])), (w1, .inl (cw1, 24, .inl fw)), (pf, .inr (1, [.ref p1, .int (zI pn)])), (p1, .inl (cp1, 4, .inl fp)), (rc, .inr (3, [.ref y1, .int (zI rn)])), (rs, .inr (2, [.int (zI dn), .ref v1, .ref v2])), (se, .inr (4, [.ref g1, .ref g2, .ref g3, .ref g4, .ref g5, .int (zI cn), .int (zI bo), .int (zI ru), .ref g6, .ref g7])), (g1, .inl (cg1, 24, .inl f1)), (g2, .inl (cg2, 24, .inl f2)), (g3, .inl (cg3, 24, .inl f3)), (g4, .inl (cg4, 24, .inl f4)), (g5, .inl (cg5, 24, .inl f5)), (g6, .inl (cg6, 24, .inl f6)), (g7, .inl (cg7, 24, .inr (.inr (.inr (.inr (fo)))))), (fr, .inr (0, [.ref k1, .ref k2, .ref k3, .int (zI un_1)])), (k1, .inl (ck1, 4, .inl uk_2)), (k2, .inl (ck2, 4, .inl ub_3)), (k3, .inl (ck3, 4, .inl uh_4)), (td, .inr (0, [.ref t1_, .ref t2_, .ref t3_, .int (zI tn)])), (t1_, .inl (ct1, 4, .inl tk)), (t2_, .inl (ct2, 4, .inl tb)), (t3_, .inl (ct3, 4, .inl tl))]) (wr := [(h0, .inr (8, [.ref sh, .ref rd, .ref fr, .ref wr, .ref pf, .ref rc, .ref se, .ref rs, .ref sw, .ref sp, .ref ss, .int (zI ew), .long wc, .int (zI tr), .int (zI lf)])), (rd, .inr (6, [.ref td, .int (zI du)])), (wr, .inr (7, [.ref w1, .int (zI 0)])), (w1, .inl (cw1, 24, .inl fw)), (rc, .inr (3, [.ref y1, .int (zI rn)])), (rs, .inr (2, [.int (zI dn), .ref v1, .ref v2])), (se, .inr (4, [.ref g1, .ref g2, .ref g3, .ref g4, .ref g5, .int (zI cn), .int (zI bo), .int (zI ru), .ref g6, .ref g7])), (g1, .inl (cg1, 24, .inl f1)), (g2, .inl (cg2, 24, .inl f2)), (g3, .inl (cg3, 24, .inl f3)), (g4, .inl (cg4, 24, .inl f4)), (g5, .inl (cg5, 24, .inl f5)), (g6, .inl (cg6, 24, .inl f6)), (g7, .inl (cg7, 24, .inr (.inr (.inr (.inr (fo)))))), (fr, .inr (0, [.ref k1, .ref k2, .ref k3, .int (zI un_1)])), (k1, .inl (ck1, 4, .inl uk_2)), (k2, .inl (ck2, 4, .inl ub_3)), (k3, .inl (ck3, 4, .inl uh_4)), (td, .inr (0, [.ref t1_, .ref t2_, .ref t3_, .int (zI tn)])), (t1_, .inl (ct1, 4, .inl tk)), (t2_, .inl (ct2, 4, .inl tb)), (t3_, .inl (ct3, 4, .inl tl))]) (w1 := [(pf, .inr (1, [.ref p1, .int (zI un_9)])), (p1, .inl (cp1, 4, .inl uf_10))]) hP hD [4, 5] [0, 1, 2, 3, 6, 7, 8, 9, 10, 11, 12, 13, 14, 15, 16, 17, 18, 19, 20, 21, 22, 23] ax_X8_beginWithFontsTold_w_6 ax_X8_beginWithFontsTold_w_7 (by decide +kernel) (by decide +kernel) hk1 hFc hP1 hD1
  have hP := ax_X8_beginWithFontsTold_w_8 hP
  have hD := ax_X8_beginWithFontsTold_w_9 hD
  generalize H1 = H at hP hS ⊢
  have hP : va_P D vwCl (([(h0, .inr (8, [.ref sh, .ref rd, .ref fr, .ref wr, .ref pf, .ref rc, .ref se, .ref rs, .ref sw, .ref sp, .ref ss, .int (zI ew), .long wc, .int (zI tr), .int (zI lf)])), (rd, .inr (6, [.ref td, .int (zI du)])), (wr, .inr (7, [.ref w1, .int (zI 0)])), (w1, .inl (cw1, 24, .inl fw)), (rc, .inr (3, [.ref y1, .int (zI rn)])), (rs, .inr (2, [.int (zI dn), .ref v1, .ref v2])), (se, .inr (4, [.ref g1, .ref g2, .ref g3, .ref g4, .ref g5, .int (zI cn), .int (zI bo), .int (zI ru), .ref g6, .ref g7])), (g1, .inl (cg1, 24, .inl f1)), (g2, .inl (cg2, 24, .inl f2)), (g3, .inl (cg3, 24, .inl f3)), (g4, .inl (cg4, 24, .inl f4)), (g5, .inl (cg5, 24, .inl f5)), (g6, .inl (cg6, 24, .inl f6)), (g7, .inl (cg7, 24, .inr (.inr (.inr (.inr (fo)))))), (fr, .inr (0, [.ref k1, .ref k2, .ref k3, .int (zI un_1)])), (k1, .inl (ck1, 4, .inl uk_2)), (k2, .inl (ck2, 4, .inl ub_3)), (k3, .inl (ck3, 4, .inl uh_4)), (td, .inr (0, [.ref t1_, .ref t2_, .ref t3_, .int (zI tn)])), (t1_, .inl (ct1, 4, .inl tk)), (t2_, .inl (ct2, 4, .inl tb)), (t3_, .inl (ct3, 4, .inl tl)), (pf, .inr (1, [.ref p1, .int (zI un_9)])), (p1, .inl (cp1, 4, .inl uf_10))] : va_W) ++ kRows pr gp cy) H := hP
  have hD : va_D A (([(h0, .inr (8, [.ref sh, .ref rd, .ref fr, .ref wr, .ref pf, .ref rc, .ref se, .ref rs, .ref sw, .ref sp, .ref ss, .int (zI ew), .long wc, .int (zI tr), .int (zI lf)])), (rd, .inr (6, [.ref td, .int (zI du)])), (wr, .inr (7, [.ref w1, .int (zI 0)])), (w1, .inl (cw1, 24, .inl fw)), (rc, .inr (3, [.ref y1, .int (zI rn)])), (rs, .inr (2, [.int (zI dn), .ref v1, .ref v2])), (se, .inr (4, [.ref g1, .ref g2, .ref g3, .ref g4, .ref g5, .int (zI cn), .int (zI bo), .int (zI ru), .ref g6, .ref g7])), (g1, .inl (cg1, 24, .inl f1)), (g2, .inl (cg2, 24, .inl f2)), (g3, .inl (cg3, 24, .inl f3)), (g4, .inl (cg4, 24, .inl f4)), (g5, .inl (cg5, 24, .inl f5)), (g6, .inl (cg6, 24, .inl f6)), (g7, .inl (cg7, 24, .inr (.inr (.inr (.inr (fo)))))), (fr, .inr (0, [.ref k1, .ref k2, .ref k3, .int (zI un_1)])), (k1, .inl (ck1, 4, .inl uk_2)), (k2, .inl (ck2, 4, .inl ub_3)), (k3, .inl (ck3, 4, .inl uh_4)), (td, .inr (0, [.ref t1_, .ref t2_, .ref t3_, .int (zI tn)])), (t1_, .inl (ct1, 4, .inl tk)), (t2_, .inl (ct2, 4, .inl tb)), (t3_, .inl (ct3, 4, .inl tl)), (pf, .inr (1, [.ref p1, .int (zI un_9)])), (p1, .inl (cp1, 4, .inl uf_10))] : va_W) ++ kRows pr gp cy) := hD
  refine lv_aload_n hx hb dX8_beginWithFontsTold_36 rfl (lv_at hl 0 rfl) ?_
  refine va_get (D := D) (ci := 8) (v := .ref rc) (C := RX8) (T := TX8) (N := 15) hx hb hts (fun _ h9 => List.mem_cons_of_mem _ (List.mem_append_left _ (List.mem_append_left _ (List.mem_append_left _ (List.mem_append_left _ (List.mem_append_left _ (List.mem_append_left _ (List.mem_append_left _ (List.mem_append_right _ h9))))))))) hown hK hP 0 rfl rfl 5 (by decide) (hts (.fieldLink RX8 49 "FontRuns" "recent" "LFontRuns$Recent;") mw_X8_beginWithFontsTold_w_7) (fun _ h9 => h9) rfl dX8_beginWithFontsTold_37 ?_
  refine lv_iconst (v := zI 0) hx hb dX8_beginWithFontsTold_40 rfl ?_
  refine va_put (D := D) (ci := 3) (v := .int (zI 0)) (ty := .int) (C := RX3) (T := TX3) (N := 2) hx hb hts (fun _ h9 => List.mem_cons_of_mem _ (List.mem_append_left _ (List.mem_append_left _ (List.mem_append_left _ (List.mem_append_right _ h9))))) tyX3 tyX3_ok nmX3 hown hK hP hD hS 4 rfl rfl 1 (by decide) (hts (.fieldLink RX8 144 "FontRuns$Recent" "count" "I") mw_X8_beginWithFontsTold_w_8) (fun _ h9 => h9) rfl (by decide +kernel) rfl rfl (Nat.le_of_ble_eq_true rfl) dX8_beginWithFontsTold_41 (fun H locs hP hD hS => ?_)
  have hP : va_P D vwCl (([(h0, .inr (8, [.ref sh, .ref rd, .ref fr, .ref wr, .ref pf, .ref rc, .ref se, .ref rs, .ref sw, .ref sp, .ref ss, .int (zI ew), .long wc, .int (zI tr), .int (zI lf)])), (rd, .inr (6, [.ref td, .int (zI du)])), (wr, .inr (7, [.ref w1, .int (zI 0)])), (w1, .inl (cw1, 24, .inl fw)), (rc, .inr (3, [.ref y1, .int (zI 0)])), (rs, .inr (2, [.int (zI dn), .ref v1, .ref v2])), (se, .inr (4, [.ref g1, .ref g2, .ref g3, .ref g4, .ref g5, .int (zI cn), .int (zI bo), .int (zI ru), .ref g6, .ref g7])), (g1, .inl (cg1, 24, .inl f1)), (g2, .inl (cg2, 24, .inl f2)), (g3, .inl (cg3, 24, .inl f3)), (g4, .inl (cg4, 24, .inl f4)), (g5, .inl (cg5, 24, .inl f5)), (g6, .inl (cg6, 24, .inl f6)), (g7, .inl (cg7, 24, .inr (.inr (.inr (.inr (fo)))))), (fr, .inr (0, [.ref k1, .ref k2, .ref k3, .int (zI un_1)])), (k1, .inl (ck1, 4, .inl uk_2)), (k2, .inl (ck2, 4, .inl ub_3)), (k3, .inl (ck3, 4, .inl uh_4)), (td, .inr (0, [.ref t1_, .ref t2_, .ref t3_, .int (zI tn)])), (t1_, .inl (ct1, 4, .inl tk)), (t2_, .inl (ct2, 4, .inl tb)), (t3_, .inl (ct3, 4, .inl tl)), (pf, .inr (1, [.ref p1, .int (zI un_9)])), (p1, .inl (cp1, 4, .inl uf_10))] : va_W) ++ kRows pr gp cy) H := hP
  have hD : va_D A (([(h0, .inr (8, [.ref sh, .ref rd, .ref fr, .ref wr, .ref pf, .ref rc, .ref se, .ref rs, .ref sw, .ref sp, .ref ss, .int (zI ew), .long wc, .int (zI tr), .int (zI lf)])), (rd, .inr (6, [.ref td, .int (zI du)])), (wr, .inr (7, [.ref w1, .int (zI 0)])), (w1, .inl (cw1, 24, .inl fw)), (rc, .inr (3, [.ref y1, .int (zI 0)])), (rs, .inr (2, [.int (zI dn), .ref v1, .ref v2])), (se, .inr (4, [.ref g1, .ref g2, .ref g3, .ref g4, .ref g5, .int (zI cn), .int (zI bo), .int (zI ru), .ref g6, .ref g7])), (g1, .inl (cg1, 24, .inl f1)), (g2, .inl (cg2, 24, .inl f2)), (g3, .inl (cg3, 24, .inl f3)), (g4, .inl (cg4, 24, .inl f4)), (g5, .inl (cg5, 24, .inl f5)), (g6, .inl (cg6, 24, .inl f6)), (g7, .inl (cg7, 24, .inr (.inr (.inr (.inr (fo)))))), (fr, .inr (0, [.ref k1, .ref k2, .ref k3, .int (zI un_1)])), (k1, .inl (ck1, 4, .inl uk_2)), (k2, .inl (ck2, 4, .inl ub_3)), (k3, .inl (ck3, 4, .inl uh_4)), (td, .inr (0, [.ref t1_, .ref t2_, .ref t3_, .int (zI tn)])), (t1_, .inl (ct1, 4, .inl tk)), (t2_, .inl (ct2, 4, .inl tb)), (t3_, .inl (ct3, 4, .inl tl)), (pf, .inr (1, [.ref p1, .int (zI un_9)])), (p1, .inl (cp1, 4, .inl uf_10))] : va_W) ++ kRows pr gp cy) := hD
  refine lv_aload_n hx hb dX8_beginWithFontsTold_44 rfl (lv_at hl 0 rfl) ?_
  refine va_get (D := D) (ci := 8) (v := .ref rs) (C := RX8) (T := TX8) (N := 15) hx hb hts (fun _ h9 => List.mem_cons_of_mem _ (List.mem_append_left _ (List.mem_append_left _ (List.mem_append_left _ (List.mem_append_left _ (List.mem_append_left _ (List.mem_append_left _ (List.mem_append_left _ (List.mem_append_right _ h9))))))))) hown hK hP 0 rfl rfl 7 (by decide) (hts (.fieldLink RX8 63 "FontRuns" "readings" "LFontRuns$Readings;") mw_X8_beginWithFontsTold_w_9) (fun _ h9 => h9) rfl dX8_beginWithFontsTold_45 ?_
  refine lv_iconst (v := zI 0) hx hb dX8_beginWithFontsTold_48 rfl ?_
  refine va_put (D := D) (ci := 2) (v := .int (zI 0)) (ty := .int) (C := RX2) (T := TX2) (N := 3) hx hb hts (fun _ h9 => List.mem_cons_of_mem _ (List.mem_append_left _ (List.mem_append_left _ (List.mem_append_right _ h9)))) tyX2 tyX2_ok nmX2 hown hK hP hD hS 5 rfl rfl 0 (by decide) (hts (.fieldLink RX8 145 "FontRuns$Readings" "count" "I") mw_X8_beginWithFontsTold_w_10) (fun _ h9 => h9) rfl (by decide +kernel) rfl rfl (Nat.le_of_ble_eq_true rfl) dX8_beginWithFontsTold_49 (fun H locs hP hD hS => ?_)
  have hP : va_P D vwCl (([(h0, .inr (8, [.ref sh, .ref rd, .ref fr, .ref wr, .ref pf, .ref rc, .ref se, .ref rs, .ref sw, .ref sp, .ref ss, .int (zI ew), .long wc, .int (zI tr), .int (zI lf)])), (rd, .inr (6, [.ref td, .int (zI du)])), (wr, .inr (7, [.ref w1, .int (zI 0)])), (w1, .inl (cw1, 24, .inl fw)), (rc, .inr (3, [.ref y1, .int (zI 0)])), (rs, .inr (2, [.int (zI 0), .ref v1, .ref v2])), (se, .inr (4, [.ref g1, .ref g2, .ref g3, .ref g4, .ref g5, .int (zI cn), .int (zI bo), .int (zI ru), .ref g6, .ref g7])), (g1, .inl (cg1, 24, .inl f1)), (g2, .inl (cg2, 24, .inl f2)), (g3, .inl (cg3, 24, .inl f3)), (g4, .inl (cg4, 24, .inl f4)), (g5, .inl (cg5, 24, .inl f5)), (g6, .inl (cg6, 24, .inl f6)), (g7, .inl (cg7, 24, .inr (.inr (.inr (.inr (fo)))))), (fr, .inr (0, [.ref k1, .ref k2, .ref k3, .int (zI un_1)])), (k1, .inl (ck1, 4, .inl uk_2)), (k2, .inl (ck2, 4, .inl ub_3)), (k3, .inl (ck3, 4, .inl uh_4)), (td, .inr (0, [.ref t1_, .ref t2_, .ref t3_, .int (zI tn)])), (t1_, .inl (ct1, 4, .inl tk)), (t2_, .inl (ct2, 4, .inl tb)), (t3_, .inl (ct3, 4, .inl tl)), (pf, .inr (1, [.ref p1, .int (zI un_9)])), (p1, .inl (cp1, 4, .inl uf_10))] : va_W) ++ kRows pr gp cy) H := hP
  have hD : va_D A (([(h0, .inr (8, [.ref sh, .ref rd, .ref fr, .ref wr, .ref pf, .ref rc, .ref se, .ref rs, .ref sw, .ref sp, .ref ss, .int (zI ew), .long wc, .int (zI tr), .int (zI lf)])), (rd, .inr (6, [.ref td, .int (zI du)])), (wr, .inr (7, [.ref w1, .int (zI 0)])), (w1, .inl (cw1, 24, .inl fw)), (rc, .inr (3, [.ref y1, .int (zI 0)])), (rs, .inr (2, [.int (zI 0), .ref v1, .ref v2])), (se, .inr (4, [.ref g1, .ref g2, .ref g3, .ref g4, .ref g5, .int (zI cn), .int (zI bo), .int (zI ru), .ref g6, .ref g7])), (g1, .inl (cg1, 24, .inl f1)), (g2, .inl (cg2, 24, .inl f2)), (g3, .inl (cg3, 24, .inl f3)), (g4, .inl (cg4, 24, .inl f4)), (g5, .inl (cg5, 24, .inl f5)), (g6, .inl (cg6, 24, .inl f6)), (g7, .inl (cg7, 24, .inr (.inr (.inr (.inr (fo)))))), (fr, .inr (0, [.ref k1, .ref k2, .ref k3, .int (zI un_1)])), (k1, .inl (ck1, 4, .inl uk_2)), (k2, .inl (ck2, 4, .inl ub_3)), (k3, .inl (ck3, 4, .inl uh_4)), (td, .inr (0, [.ref t1_, .ref t2_, .ref t3_, .int (zI tn)])), (t1_, .inl (ct1, 4, .inl tk)), (t2_, .inl (ct2, 4, .inl tb)), (t3_, .inl (ct3, 4, .inl tl)), (pf, .inr (1, [.ref p1, .int (zI un_9)])), (p1, .inl (cp1, 4, .inl uf_10))] : va_W) ++ kRows pr gp cy) := hD
  refine lv_aload_n hx hb dX8_beginWithFontsTold_52 rfl (lv_at hl 0 rfl) ?_
  have hFc := va_freeP (cx := [(h0, .inr (8, [.ref sh, .ref rd, .ref fr, .ref wr, .ref pf, .ref rc, .ref se, .ref rs, .ref sw, .ref sp, .ref ss, .int (zI ew), .long wc, .int (zI tr), .int (zI lf)])), (se, .inr (4, [.ref g1, .ref g2, .ref g3, .ref g4, .ref g5, .int (zI cn), .int (zI bo), .int (zI ru), .ref g6, .ref g7])), (g1, .inl (cg1, 24, .inl f1)), (g2, .inl (cg2, 24, .inl f2)), (g3, .inl (cg3, 24, .inl f3)), (g4, .inl (cg4, 24, .inl f4)), (g5, .inl (cg5, 24, .inl f5)), (g6, .inl (cg6, 24, .inl f6)), (g7, .inl (cg7, 24, .inr (.inr (.inr (.inr (fo)))))), (wr, .inr (7, [.ref w1, .int (zI 0)])), (w1, .inl (cw1, 24, .inl fw)), (fr, .inr (0, [.ref k1, .ref k2, .ref k3, .int (zI un_1)])), (k3, .inl (ck3, 4, .inl uh_4)), (pf, .inr (1, [.ref p1, .int (zI un_9)])), (p1, .inl (cp1, 4, .inl uf_10))]) hD hS hA [0, 6, 7, 8, 9, 10, 11, 12, 13, 2, 3, 14, 17, 22, 23] ax_X8_beginWithFontsTold_w_10
  refine va_callv (va_runV (As := []) (rest := []) ⟨hx, hb, hml, hown, hts⟩ (c_X8_settle l D H.size (h0 := h0) (sh := sh) (rd := rd) (fr := fr) (wr := wr) (pf := pf) (rc := rc) (se := se) (rs := rs) (sw := sw) (sp := sp) (ss := ss) (ew := ew) (wc := wc) (tr := tr) (lf := lf) (g1 := g1) (g2 := g2) (g3 := g3) (g4 := g4) (g5 := g5) (cn := cn) (bo := bo) (ru := ru) (g6 := g6) (g7 := g7) (cg1 := cg1) (f1 := f1) (cg2 := cg2) (f2 := f2) (cg3 := cg3) (f3 := f3) (cg4 := cg4) (f4 := f4) (cg5 := cg5) (f5 := f5) (cg6 := cg6) (f6 := f6) (cg7 := cg7) (fo := fo) (o := o) (w1 := w1) (wn := 0) (cw1 := cw1) (fw := fw) (k1 := k1) (k2 := k2) (k3 := k3) (fn := un_1) (ck3 := ck3) (fh := uh_4) (p1 := p1) (pn := un_9) (cp1 := cp1) (fp := uf_10) (pr := pr) (gp := gp) (cy := cy) (by omega) (by omega) h_11 h_12 q14 q15) (cwV 0 hts gX8_beginWithFontsTold_X8_settle rfl rfl rfl (by decide +kernel) ⟨Nat.le_of_ble_eq_true rfl, Nat.le_of_ble_eq_true rfl⟩) (kPreVP hP (kD0 hD) hK hN [0, 6, 7, 8, 9, 10, 11, 12, 13, 2, 3, 14, 17, 22, 23] [8, 9, 10, 11, 12, 13, 14, 6, 5, 7, 15] ax_X8_beginWithFontsTold_w_10 rfl (by decide +kernel) 0 8 rfl rfl) rfl rfl hl.1 rfl (lv_room (Nat.le_of_ble_eq_true rfl)) dX8_beginWithFontsTold_53 ⟨Nat.le_of_ble_eq_true rfl, Nat.le_of_ble_eq_true rfl⟩) hS (fun q _ h => hFc q h) hFc (fun u t H1 locs ht hvm hw hB hz1 hk1 hS => ?_)
  refine Exists.elim hB (fun uc_15 hB1 => Exists.elim hB1 (fun ub_16 hB2 => Exists.elim hB2 (fun ur_17 hB3 => Exists.elim hB3 (fun v1_18 hB4 => Exists.elim hB4 (fun v2_19 hB5 => Exists.elim hB5 (fun v3_20 hB6 => Exists.elim hB6 (fun v4_21 hB7 => Exists.elim hB7 (fun v5_22 hB8 => Exists.elim hB8 (fun v6_23 hB9 => Exists.elim hB9 (fun ug_24 hB10 => ?_))))))))))
  have h_25 := hB10.1
  have h_26 := hB10.2.1
  have h_27 := hB10.2.2.1
  have hP1 := hB10.2.2.2.1
  have hD1 := hB10.2.2.2.2
  clear hB hB1 hB2 hB3 hB4 hB5 hB6 hB7 hB8 hB9 hB10
  rw [ht] at hP1
  obtain ⟨hP, hD⟩ := va_joinP (X := [(h0, .inr (8, [.ref sh, .ref rd, .ref fr, .ref wr, .ref pf, .ref rc, .ref se, .ref rs, .ref sw, .ref sp, .ref ss, .int (zI ew), .long wc, .int (zI tr), .int (zI lf)])), (rd, .inr (6, [.ref td, .int (zI du)])), (wr, .inr (7, [.ref w1, .int (zI 0)])), (w1, .inl (cw1, 24, .inl fw)), (rc, .inr (3, [.ref y1, .int (zI 0)])), (rs, .inr (2, [.int (zI 0), .ref v1, .ref v2])), (se, .inr (4, [.ref g1, .ref g2, .ref g3, .ref g4, .ref g5, .int (zI cn), .int (zI bo), .int (zI ru), .ref g6, .ref g7])), (g1, .inl (cg1, 24, .inl f1)), (g2, .inl (cg2, 24, .inl f2)), (g3, .inl (cg3, 24, .inl f3)), (g4, .inl (cg4, 24, .inl f4)), (g5, .inl (cg5, 24, .inl f5)), (g6, .inl (cg6, 24, .inl f6)), (g7, .inl (cg7, 24, .inr (.inr (.inr (.inr (fo)))))), (fr, .inr (0, [.ref k1, .ref k2, .ref k3, .int (zI un_1)])), (k1, .inl (ck1, 4, .inl uk_2)), (k2, .inl (ck2, 4, .inl ub_3)), (k3, .inl (ck3, 4, .inl uh_4)), (td, .inr (0, [.ref t1_, .ref t2_, .ref t3_, .int (zI tn)])), (t1_, .inl (ct1, 4, .inl tk)), (t2_, .inl (ct2, 4, .inl tb)), (t3_, .inl (ct3, 4, .inl tl)), (pf, .inr (1, [.ref p1, .int (zI un_9)])), (p1, .inl (cp1, 4, .inl uf_10))]) (wr := [(rd, .inr (6, [.ref td, .int (zI du)])), (rc, .inr (3, [.ref y1, .int (zI 0)])), (rs, .inr (2, [.int (zI 0), .ref v1, .ref v2])), (k1, .inl (ck1, 4, .inl uk_2)), (k2, .inl (ck2, 4, .inl ub_3)), (td, .inr (0, [.ref t1_, .ref t2_, .ref t3_, .int (zI tn)])), (t1_, .inl (ct1, 4, .inl tk)), (t2_, .inl (ct2, 4, .inl tb)), (t3_, .inl (ct3, 4, .inl tl))]) (rx := [(h0, .inr (8, [.ref sh, .ref rd, .ref fr, .ref wr, .ref pf, .ref rc, .ref se, .ref rs, .ref sw, .ref sp, .ref ss, .int (zI ew), .long wc, .int (zI tr), .int (zI lf)])), (se, .inr (4, [.ref g1, .ref g2, .ref g3, .ref g4, .ref g5, .int (zI uc_15), .int (zI ub_16), .int (zI ur_17), .ref g6, .ref g7])), (g1, .inl (cg1, 24, .inl v1_18)), (g2, .inl (cg2, 24, .inl v2_19)), (g3, .inl (cg3, 24, .inl v3_20)), (g4, .inl (cg4, 24, .inl v4_21)), (g5, .inl (cg5, 24, .inl v5_22)), (g6, .inl (cg6, 24, .inl v6_23)), (g7, .inl (cg7, 24, .inr (.inr (.inr (.inr (fo)))))), (wr, .inr (7, [.ref w1, .int (zI 0)])), (w1, .inl (cw1, 24, .inl fw)), (fr, .inr (0, [.ref k1, .ref k2, .ref k3, .int (zI un_1)])), (k3, .inl (ck3, 4, .inl uh_4)), (pf, .inr (1, [.ref p1, .int (zI un_9)])), (p1, .inl (cp1, 4, .inl uf_10))]) hP hD [0, 6, 7, 8, 9, 10, 11, 12, 13, 2, 3, 14, 17, 22, 23] [1, 4, 5, 15, 16, 18, 19, 20, 21] ax_X8_beginWithFontsTold_w_10 ax_X8_beginWithFontsTold_w_11 (by decide +kernel) (by decide +kernel) hk1 hFc hP1 hD1
  have hP := ax_X8_beginWithFontsTold_w_12 hP
  have hD := ax_X8_beginWithFontsTold_w_13 hD
  generalize H1 = H at hP hS ⊢
  have hP : va_P D vwCl (([(rd, .inr (6, [.ref td, .int (zI du)])), (rc, .inr (3, [.ref y1, .int (zI 0)])), (rs, .inr (2, [.int (zI 0), .ref v1, .ref v2])), (k1, .inl (ck1, 4, .inl uk_2)), (k2, .inl (ck2, 4, .inl ub_3)), (td, .inr (0, [.ref t1_, .ref t2_, .ref t3_, .int (zI tn)])), (t1_, .inl (ct1, 4, .inl tk)), (t2_, .inl (ct2, 4, .inl tb)), (t3_, .inl (ct3, 4, .inl tl)), (h0, .inr (8, [.ref sh, .ref rd, .ref fr, .ref wr, .ref pf, .ref rc, .ref se, .ref rs, .ref sw, .ref sp, .ref ss, .int (zI ew), .long wc, .int (zI tr), .int (zI lf)])), (se, .inr (4, [.ref g1, .ref g2, .ref g3, .ref g4, .ref g5, .int (zI uc_15), .int (zI ub_16), .int (zI ur_17), .ref g6, .ref g7])), (g1, .inl (cg1, 24, .inl v1_18)), (g2, .inl (cg2, 24, .inl v2_19)), (g3, .inl (cg3, 24, .inl v3_20)), (g4, .inl (cg4, 24, .inl v4_21)), (g5, .inl (cg5, 24, .inl v5_22)), (g6, .inl (cg6, 24, .inl v6_23)), (g7, .inl (cg7, 24, .inr (.inr (.inr (.inr (fo)))))), (wr, .inr (7, [.ref w1, .int (zI 0)])), (w1, .inl (cw1, 24, .inl fw)), (fr, .inr (0, [.ref k1, .ref k2, .ref k3, .int (zI un_1)])), (k3, .inl (ck3, 4, .inl uh_4)), (pf, .inr (1, [.ref p1, .int (zI un_9)])), (p1, .inl (cp1, 4, .inl uf_10))] : va_W) ++ kRows pr ug_24 cy) H := hP
  have hD : va_D A (([(rd, .inr (6, [.ref td, .int (zI du)])), (rc, .inr (3, [.ref y1, .int (zI 0)])), (rs, .inr (2, [.int (zI 0), .ref v1, .ref v2])), (k1, .inl (ck1, 4, .inl uk_2)), (k2, .inl (ck2, 4, .inl ub_3)), (td, .inr (0, [.ref t1_, .ref t2_, .ref t3_, .int (zI tn)])), (t1_, .inl (ct1, 4, .inl tk)), (t2_, .inl (ct2, 4, .inl tb)), (t3_, .inl (ct3, 4, .inl tl)), (h0, .inr (8, [.ref sh, .ref rd, .ref fr, .ref wr, .ref pf, .ref rc, .ref se, .ref rs, .ref sw, .ref sp, .ref ss, .int (zI ew), .long wc, .int (zI tr), .int (zI lf)])), (se, .inr (4, [.ref g1, .ref g2, .ref g3, .ref g4, .ref g5, .int (zI uc_15), .int (zI ub_16), .int (zI ur_17), .ref g6, .ref g7])), (g1, .inl (cg1, 24, .inl v1_18)), (g2, .inl (cg2, 24, .inl v2_19)), (g3, .inl (cg3, 24, .inl v3_20)), (g4, .inl (cg4, 24, .inl v4_21)), (g5, .inl (cg5, 24, .inl v5_22)), (g6, .inl (cg6, 24, .inl v6_23)), (g7, .inl (cg7, 24, .inr (.inr (.inr (.inr (fo)))))), (wr, .inr (7, [.ref w1, .int (zI 0)])), (w1, .inl (cw1, 24, .inl fw)), (fr, .inr (0, [.ref k1, .ref k2, .ref k3, .int (zI un_1)])), (k3, .inl (ck3, 4, .inl uh_4)), (pf, .inr (1, [.ref p1, .int (zI un_9)])), (p1, .inl (cp1, 4, .inl uf_10))] : va_W) ++ kRows pr ug_24 cy) := hD
  have hP9 : va_P D vwCl (([(h0, .inr (8, [.ref sh, .ref rd, .ref fr, .ref wr, .ref pf, .ref rc, .ref se, .ref rs, .ref sw, .ref sp, .ref ss, .int (zI ew), .long wc, .int (zI tr), .int (zI lf)])), (rd, .inr (6, [.ref td, .int (zI du)])), (td, .inr (0, [.ref t1_, .ref t2_, .ref t3_, .int (zI tn)])), (t1_, .inl (ct1, 4, .inl tk)), (t2_, .inl (ct2, 4, .inl tb)), (t3_, .inl (ct3, 4, .inl tl)), (fr, .inr (0, [.ref k1, .ref k2, .ref k3, .int (zI un_1)])), (k1, .inl (ck1, 4, .inl uk_2)), (k2, .inl (ck2, 4, .inl ub_3)), (k3, .inl (ck3, 4, .inl uh_4)), (wr, .inr (7, [.ref w1, .int (zI 0)])), (w1, .inl (cw1, 24, .inl fw)), (pf, .inr (1, [.ref p1, .int (zI un_9)])), (p1, .inl (cp1, 4, .inl uf_10)), (rc, .inr (3, [.ref y1, .int (zI 0)])), (rs, .inr (2, [.int (zI 0), .ref v1, .ref v2])), (se, .inr (4, [.ref g1, .ref g2, .ref g3, .ref g4, .ref g5, .int (zI uc_15), .int (zI ub_16), .int (zI ur_17), .ref g6, .ref g7])), (g1, .inl (cg1, 24, .inl v1_18)), (g2, .inl (cg2, 24, .inl v2_19)), (g3, .inl (cg3, 24, .inl v3_20)), (g4, .inl (cg4, 24, .inl v4_21)), (g5, .inl (cg5, 24, .inl v5_22)), (g6, .inl (cg6, 24, .inl v6_23)), (g7, .inl (cg7, 24, .inr (.inr (.inr (.inr (fo))))))] : va_W) ++ kRows pr ug_24 cy) H := hP.part [9, 0, 5, 6, 7, 8, 20, 3, 4, 21, 18, 19, 22, 23, 1, 2, 10, 11, 12, 13, 14, 15, 16, 17] ax_X8_beginWithFontsTold_w_14
  have hD9 : va_D A (([(h0, .inr (8, [.ref sh, .ref rd, .ref fr, .ref wr, .ref pf, .ref rc, .ref se, .ref rs, .ref sw, .ref sp, .ref ss, .int (zI ew), .long wc, .int (zI tr), .int (zI lf)])), (rd, .inr (6, [.ref td, .int (zI du)])), (td, .inr (0, [.ref t1_, .ref t2_, .ref t3_, .int (zI tn)])), (t1_, .inl (ct1, 4, .inl tk)), (t2_, .inl (ct2, 4, .inl tb)), (t3_, .inl (ct3, 4, .inl tl)), (fr, .inr (0, [.ref k1, .ref k2, .ref k3, .int (zI un_1)])), (k1, .inl (ck1, 4, .inl uk_2)), (k2, .inl (ck2, 4, .inl ub_3)), (k3, .inl (ck3, 4, .inl uh_4)), (wr, .inr (7, [.ref w1, .int (zI 0)])), (w1, .inl (cw1, 24, .inl fw)), (pf, .inr (1, [.ref p1, .int (zI un_9)])), (p1, .inl (cp1, 4, .inl uf_10)), (rc, .inr (3, [.ref y1, .int (zI 0)])), (rs, .inr (2, [.int (zI 0), .ref v1, .ref v2])), (se, .inr (4, [.ref g1, .ref g2, .ref g3, .ref g4, .ref g5, .int (zI uc_15), .int (zI ub_16), .int (zI ur_17), .ref g6, .ref g7])), (g1, .inl (cg1, 24, .inl v1_18)), (g2, .inl (cg2, 24, .inl v2_19)), (g3, .inl (cg3, 24, .inl v3_20)), (g4, .inl (cg4, 24, .inl v4_21)), (g5, .inl (cg5, 24, .inl v5_22)), (g6, .inl (cg6, 24, .inl v6_23)), (g7, .inl (cg7, 24, .inr (.inr (.inr (.inr (fo))))))] : va_W) ++ kRows pr ug_24 cy) := hD.part [9, 0, 5, 6, 7, 8, 20, 3, 4, 21, 18, 19, 22, 23, 1, 2, 10, 11, 12, 13, 14, 15, 16, 17] (by decide +kernel) ax_X8_beginWithFontsTold_w_14
  exact W.vret hx hb hr (fun t ht hW => kQV_of ⟨un_1, uk_2, ub_3, uh_4, 0, un_9, uf_10, 0, 0, uc_15, ub_16, ur_17, v1_18, v2_19, v3_20, v4_21, v5_22, v6_23, ug_24, (by omega), (by omega), h_11, h_12, (by omega), (by omega), h_25, h_26, h_27, h_5, h_6, h_7, h_8, (by omega), (by omega), (kId_le h_14 (by omega)), (by omega), (by omega), by rw [ht]; exact hP9, hD9⟩ (hS.F ht)) hS.2.2 dX8_beginWithFontsTold_56
