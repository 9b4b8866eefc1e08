set_option maxRecDepth 20000 in
theorem mw_X0_all_b_0 : (.fieldLink RX0 21 "FontRuns$FontRow" "count" "I" : Cond) ∈ wsX0_all := List.mem_cons_of_mem _ (List.mem_append_left _ (List.mem_of_getElem? (i := 0) rfl))
set_option maxHeartbeats 4000000 in
set_option maxRecDepth 100000 in
theorem c_X0_all_b (l : Launch) (D : va_G) (sz : Nat) (h0 : Nat) (k1 : Nat) (k2 : Nat) (k3 : Nat) (n : Int) (q0 : 0 ≤ n ∧ n ≤ 4) : Met l yX0_all wsX0_all ({ frames := 0, cells := 0, slots := 0, locals := 0 }) (kPre [.ref h0] D [(h0, .inr (0, [.ref k1, .ref k2, .ref k3, .int (zI n)]))] [] sz) (QcP (fun rz => zI rz = kAl n)) 0 0 (fun _ => False) := by
  refine Met.ofW (cc := cX0_all) (maxL := 1) (ret := (some .int)) (by decide) rfl ?_
  intro p e s m args below meth c s₁ B hml hv
  obtain ⟨rfl, hsz, hP, hK, hD0, hN⟩ := hv
  have hx := B.exec
  have hb := B.bytes
  have hr := B.returns
  have hts := atoms_spec (ws := wsX0_all) B.pre
  have hown : s.vm.findClass RX0 = some m.cls := findClass_of_methodNamed B.named
  have hlocks := B.notSynchronized
  subst hsz
  have hD := hD0
  have hP : va_P D vwCl [(h0, .inr (0, [.ref k1, .ref k2, .ref k3, .int (zI n)]))] s.heap := hP
  have hl := lv_entry ([.ref h0]) (n := 1) (Nat.le_of_ble_eq_true rfl)
  rw [lg_entry_eq]
  generalize (lg_sl ([.ref h0]) ++ List.replicate (1 - (lg_sl ([.ref h0])).length) Slot.unset).toArray = ls at hl ⊢
  have hl : lv_has ls 1 [(0, .ref h0)] := hl
  refine lv_iconst (v := zI 1) hx hb dX0_all_0 rfl ?_
  refine lv_aload_n hx hb dX0_all_1 rfl (lv_at hl 0 rfl) ?_
  refine va_get (D := D) (ci := 0) (v := .int (zI n)) (C := RX0) (T := TX0) (N := 4) hx hb hts (fun _ h9 => List.mem_cons_of_mem _ (List.mem_append_right _ h9)) hown hK hP 0 rfl rfl 3 (by decide) (hts (.fieldLink RX0 21 "FontRuns$FontRow" "count" "I") mw_X0_all_b_0) (fun _ h9 => h9) rfl dX0_all_2 ?_
  refine lv_ishl hx hb dX0_all_5 ?_
  refine kz_any (fun z_1 rz_1 ez_1 => ?_)
  refine lv_iconst (v := zI 1) hx hb dX0_all_6 rfl ?_
  refine kz_isub hx hb dX0_all_7 ?_
  refine kz_any (fun z_2 rz_2 ez_2 => ?_)
  exact W.iret (v := (zI z_2)) hx hb hr (fun t ht hW => QcP_of (by omega) (by unfold kAl; rw [ez_1, zI_sub]; exact ez_2.symm) ht) (fun _ h9 => by cases h9) dX0_all_8
set_option maxRecDepth 20000 in
theorem mw_X0_fitting_b_0 : (.fieldLink RX0 21 "FontRuns$FontRow" "count" "I" : Cond) ∈ wsX0_fitting := List.mem_cons_of_mem _ (List.mem_append_left _ (List.mem_of_getElem? (i := 0) rfl))
set_option maxRecDepth 20000 in
theorem mw_X0_fitting_b_1 : (.fieldLink RX0 18 "FontRuns$FontRow" "has" "[I" : Cond) ∈ wsX0_fitting := List.mem_cons_of_mem _ (List.mem_append_left _ (List.mem_of_getElem? (i := 1) rfl))
set_option maxHeartbeats 4000000 in
set_option maxRecDepth 100000 in
theorem c_X0_fitting_b (l : Launch) (D : va_G) (sz : Nat) (le : Int) (h0 : Nat) (k1 : Nat) (k2 : Nat) (k3 : Nat) (n : Int) (ck3 : ClassId) (fh : Nat → Int32) (q0 : rg le) (q1 : 0 ≤ n ∧ n ≤ 4) : Met l yX0_fitting wsX0_fitting ({ frames := 0, cells := 0, slots := 0, locals := 0 }) (kPre [.ref h0, .int (zI le)] D [(h0, .inr (0, [.ref k1, .ref k2, .ref k3, .int (zI n)])), (k3, .inl (ck3, 4, .inl fh))] [(ck3, .int)] sz) (QcP (fun rz => zI rz = kFb (kHx fh (zI le)) (kNa n))) 0 0 (fun _ => False) := by
  refine Met.ofW (cc := cX0_fitting) (maxL := 4) (ret := (some .int)) (by decide) rfl ?_
  intro p e s m args below meth c s₁ B hml hv
  obtain ⟨rfl, hsz, hP, hK, hD0, hN⟩ := hv
  have hx := B.exec
  have hb := B.bytes
  have hr := B.returns
  have hts := atoms_spec (ws := wsX0_fitting) B.pre
  have hown : s.vm.findClass RX0 = some m.cls := findClass_of_methodNamed B.named
  have hlocks := B.notSynchronized
  subst hsz
  have hD := hD0
  have hP : va_P D vwCl [(h0, .inr (0, [.ref k1, .ref k2, .ref k3, .int (zI n)])), (k3, .inl (ck3, 4, .inl fh))] s.heap := hP
  have hl := lv_entry ([.ref h0, .int (zI le)]) (n := 4) (Nat.le_of_ble_eq_true rfl)
  rw [lg_entry_eq]
  generalize (lg_sl ([.ref h0, .int (zI le)]) ++ List.replicate (4 - (lg_sl ([.ref h0, .int (zI le)])).length) Slot.unset).toArray = ls at hl ⊢
  have hl : lv_has ls 4 [(0, .ref h0), (1, .int (zI le))] := hl
  refine lv_iconst (v := zI 0) hx hb dX0_fitting_0 rfl ?_
  refine lv_istore_n (lv' := [(2, .int (zI 0)), (0, .ref h0), (1, .int (zI le))]) hx hb dX0_fitting_1 rfl hl (by decide) rfl (fun ls hl => ?_)
  refine lv_iconst (v := zI 0) hx hb dX0_fitting_2 rfl ?_
  refine lv_istore_n (lv' := [(3, .int (zI 0)), (2, .int (zI 0)), (0, .ref h0), (1, .int (zI le))]) hx hb dX0_fitting_3 rfl hl (by decide) rfl (fun ls hl => ?_)
  refine k_loopM (I := fun n9 H locs ls => ∃ (js : Int) (jk : Int), n9 = (n - jk).toNat ∧ (rg js) ∧ (0 ≤ jk ∧ jk ≤ n) ∧ (zI js = kFb (kHx fh (zI le)) (kNa jk)) ∧ H = s.heap ∧ locs = [] ∧ lv_has ls 4 [(3, .int (zI jk)), (2, .int (zI js)), (0, .ref h0), (1, .int (zI le))]) ?_ _ ⟨0, 0, rfl, (by omega), (by omega), rfl, rfl, rfl, hl⟩
  intro n4 ih4 H locs ls hI
  obtain ⟨js, jk, en4, v_40, v_41, v_42, eH, eL, hl⟩ := hI
  subst eH
  subst eL
  refine lv_iload_n hx hb dX0_fitting_4 rfl (lv_at hl 0 rfl) ?_
  refine lv_aload_n hx hb dX0_fitting_5 rfl (lv_at hl 2 rfl) ?_
  refine va_get (D := D) (ci := 0) (v := .int (zI n)) (C := RX0) (T := TX0) (N := 4) hx hb hts (fun _ h9 => List.mem_cons_of_mem _ (List.mem_append_right _ h9)) hown hK hP 0 rfl rfl 3 (by decide) (hts (.fieldLink RX0 21 "FontRuns$FontRow" "count" "I") mw_X0_fitting_b_0) (fun _ h9 => h9) rfl dX0_fitting_6 ?_
  refine kz_icmp_ge (tgt := 36) hx hb dX0_fitting_9 (by decide) (by omega) (by omega) (fun c_1 => ?_) (fun c_1 => ?_)
  · refine lv_iload_n hx hb dX0_fitting_36 rfl (lv_at hl 1 rfl) ?_
    exact W.iret (v := (zI js)) hx hb hr (fun t ht hW => QcP_of (by omega) (by have q9 : jk = n := (by omega); rw [← q9]; exact v_42) ht) (fun _ h9 => by cases h9) dX0_fitting_37
  · refine lv_aload_n hx hb dX0_fitting_12 rfl (lv_at hl 2 rfl) ?_
    refine va_get (D := D) (ci := 0) (v := .ref k3) (C := RX0) (T := TX0) (N := 4) hx hb hts (fun _ h9 => List.mem_cons_of_mem _ (List.mem_append_right _ h9)) hown hK hP 0 rfl rfl 2 (by decide) (hts (.fieldLink RX0 18 "FontRuns$FontRow" "has" "[I") mw_X0_fitting_b_1) (fun _ h9 => h9) rfl dX0_fitting_13 ?_
    refine lv_iload_n hx hb dX0_fitting_16 rfl (lv_at hl 0 rfl) ?_
    refine kz_iald hx hb hK hP 1 0 rfl rfl (by omega) dX0_fitting_17 (fun z_2 rz_2 ez_2 => ?_)
    refine lv_iload_n hx hb dX0_fitting_18 rfl (lv_at hl 3 rfl) ?_
    refine lv_iand hx hb dX0_fitting_19 ?_
    refine kz_any (fun z_3 rz_3 ez_3 => ?_)
    refine lv_iload_n hx hb dX0_fitting_20 rfl (lv_at hl 3 rfl) ?_
    refine kz_icmp_ne (tgt := 30) hx hb dX0_fitting_21 (by decide) (by omega) (by omega) (fun c_4 => ?_) (fun c_4 => ?_)
    · refine lv_iinc (v := (zI (jk + 1))) (lv' := [(3, .int (zI (jk + 1))), (2, .int (zI js)), (0, .ref h0), (1, .int (zI le))]) hx hb dX0_fitting_30 hl (k := 0) rfl (kz_inc _ 1) (by decide) rfl (fun ls hl => ?_)
      refine lv_goto (tgt := 4) hx hb dX0_fitting_33 (by decide) ?_
      exact ih4 _ (by omega) _ _ _ ⟨js, (jk + 1), rfl, v_40, (by omega), (kFb_n v_42 (by omega) (kHx_n ez_2 ez_3 rz_3 (by omega) c_4)), rfl, rfl, lv_sub hl [0, 1, 2, 3] rfl⟩
    · refine lv_iload_n hx hb dX0_fitting_24 rfl (lv_at hl 1 rfl) ?_
      refine lv_iconst (v := zI 1) hx hb dX0_fitting_25 rfl ?_
      refine lv_iload_n hx hb dX0_fitting_26 rfl (lv_at hl 0 rfl) ?_
      refine lv_ishl hx hb dX0_fitting_27 ?_
      refine kz_any (fun z_5 rz_5 ez_5 => ?_)
      refine lv_ior hx hb dX0_fitting_28 ?_
      refine kz_any (fun z_6 rz_6 ez_6 => ?_)
      refine lv_istore_n (lv' := [(2, .int (zI z_6)), (3, .int (zI jk)), (0, .ref h0), (1, .int (zI le))]) hx hb dX0_fitting_29 rfl hl (by decide) rfl (fun ls hl => ?_)
      refine lv_iinc (v := (zI (jk + 1))) (lv' := [(3, .int (zI (jk + 1))), (2, .int (zI z_6)), (0, .ref h0), (1, .int (zI le))]) hx hb dX0_fitting_30 hl (k := 1) rfl (kz_inc _ 1) (by decide) rfl (fun ls hl => ?_)
      refine lv_goto (tgt := 4) hx hb dX0_fitting_33 (by decide) ?_
      exact ih4 _ (by omega) _ _ _ ⟨z_6, (jk + 1), rfl, (by omega), (by omega), (kFb_y v_42 (by omega) (kHx_y ez_2 ez_3 c_4) ez_5 ez_6), rfl, rfl, lv_sub hl [0, 1, 2, 3] rfl⟩
