set_option maxRecDepth 20000 in
theorem mw_X4_cut_b_0 : (.fieldLink RX4 51 "FontRuns$Setting" "count" "I" : Cond) ∈ wsX4_cut := List.mem_cons_of_mem _ (List.mem_append_left _ (List.mem_append_left _ (List.mem_of_getElem? (i := 0) rfl)))
set_option maxRecDepth 20000 in
theorem mw_X4_cut_b_1 : (.fieldLink RX4 74 "FontRuns$Writing" "count" "I" : Cond) ∈ wsX4_cut := List.mem_cons_of_mem _ (List.mem_append_left _ (List.mem_append_left _ (List.mem_of_getElem? (i := 1) rfl)))
set_option maxRecDepth 20000 in
theorem mw_X4_cut_b_2 : (.fieldLink RX4 77 "FontRuns$Writing" "row" "[I" : Cond) ∈ wsX4_cut := List.mem_cons_of_mem _ (List.mem_append_left _ (List.mem_append_left _ (List.mem_of_getElem? (i := 2) rfl)))
set_option maxRecDepth 20000 in
theorem mw_X4_cut_b_3 : (.fieldLink RX4 9 "FontRuns$Setting" "first" "[I" : Cond) ∈ wsX4_cut := List.mem_cons_of_mem _ (List.mem_append_left _ (List.mem_append_left _ (List.mem_of_getElem? (i := 3) rfl)))
set_option maxRecDepth 20000 in
theorem mw_X4_cut_b_4 : (.fieldLink RX4 15 "FontRuns$Setting" "length" "[I" : Cond) ∈ wsX4_cut := List.mem_cons_of_mem _ (List.mem_append_left _ (List.mem_append_left _ (List.mem_of_getElem? (i := 4) rfl)))
set_option maxRecDepth 20000 in
theorem mw_X4_cut_b_5 : (.fieldLink RX4 27 "FontRuns$Setting" "letters" "[I" : Cond) ∈ wsX4_cut := List.mem_cons_of_mem _ (List.mem_append_left _ (List.mem_append_left _ (List.mem_of_getElem? (i := 5) rfl)))
theorem ax_X4_cut_b_0 {e0 e1 e2 e3 e4 e5 : Nat × va_E} : ([0, 1, 2, 3, 4, 5] : List Nat).map (fun i => ([e0, e1, e2, e3, e4, e5] : va_W)[i]?) = ([e0, e1, e2, e3, e4, e5] : va_W).map some := rfl
set_option maxHeartbeats 4000000 in
set_option maxRecDepth 100000 in
theorem c_X4_cut_b (l : Launch) (D : va_G) (sz : Nat) (wr : Nat) (h0 : Nat) (g1 : Nat) (g2 : Nat) (g3 : Nat) (g4 : Nat) (g5 : Nat) (cn : Int) (bo : Int) (ru : Int) (g6 : Nat) (g7 : Nat) (cg1 : ClassId) (f1 : Nat → Int32) (cg2 : ClassId) (f2 : Nat → Int32) (cg6 : ClassId) (f6 : Nat → Int32) (w1 : Nat) (wn : Int) (cw1 : ClassId) (fw : Nat → Int32) (q0 : 0 ≤ wn ∧ wn ≤ 24) : Met l yX4_cut wsX4_cut ({ frames := 0, cells := 0, slots := 0, locals := 0 }) (kPre [.ref h0, .ref wr] D [(h0, .inr (4, [.ref g1, .ref g2, .ref g3, .ref g4, .ref g5, .int (zI cn), .int (zI bo), .int (zI ru), .ref g6, .ref g7])), (g1, .inl (cg1, 24, .inl f1)), (g2, .inl (cg2, 24, .inl f2)), (g6, .inl (cg6, 24, .inl f6)), (wr, .inr (7, [.ref w1, .int (zI wn)])), (w1, .inl (cw1, 24, .inl fw))] [(cg1, .int), (cg2, .int), (cg6, .int), (cw1, .int)] sz) (kQV (fun t => ∃ (uc : Int) (v1 : Nat → Int32) (v2 : Nat → Int32) (v6 : Nat → Int32), (0 ≤ uc ∧ uc ≤ 24) ∧ (kCu fw (kNa wn) uc v1 v2 v6) ∧ va_P D vwCl [(h0, .inr (4, [.ref g1, .ref g2, .ref g3, .ref g4, .ref g5, .int (zI uc), .int (zI bo), .int (zI ru), .ref g6, .ref g7])), (g1, .inl (cg1, 24, .inl v1)), (g2, .inl (cg2, 24, .inl v2)), (g6, .inl (cg6, 24, .inl v6)), (wr, .inr (7, [.ref w1, .int (zI wn)])), (w1, .inl (cw1, 24, .inl fw))] t.heap ∧ va_D (va_A [(h0, .inr (4, [.ref g1, .ref g2, .ref g3, .ref g4, .ref g5, .int (zI cn), .int (zI bo), .int (zI ru), .ref g6, .ref g7])), (g1, .inl (cg1, 24, .inl f1)), (g2, .inl (cg2, 24, .inl f2)), (g6, .inl (cg6, 24, .inl f6)), (wr, .inr (7, [.ref w1, .int (zI wn)])), (w1, .inl (cw1, 24, .inl fw))] sz) [(h0, .inr (4, [.ref g1, .ref g2, .ref g3, .ref g4, .ref g5, .int (zI uc), .int (zI bo), .int (zI ru), .ref g6, .ref g7])), (g1, .inl (cg1, 24, .inl v1)), (g2, .inl (cg2, 24, .inl v2)), (g6, .inl (cg6, 24, .inl v6)), (wr, .inr (7, [.ref w1, .int (zI wn)])), (w1, .inl (cw1, 24, .inl fw))]) (va_A [(h0, .inr (4, [.ref g1, .ref g2, .ref g3, .ref g4, .ref g5, .int (zI cn), .int (zI bo), .int (zI ru), .ref g6, .ref g7])), (g1, .inl (cg1, 24, .inl f1)), (g2, .inl (cg2, 24, .inl f2)), (g6, .inl (cg6, 24, .inl f6)), (wr, .inr (7, [.ref w1, .int (zI wn)])), (w1, .inl (cw1, 24, .inl fw))] sz)) 0 0 (va_A [(h0, .inr (4, [.ref g1, .ref g2, .ref g3, .ref g4, .ref g5, .int (zI cn), .int (zI bo), .int (zI ru), .ref g6, .ref g7])), (g1, .inl (cg1, 24, .inl f1)), (g2, .inl (cg2, 24, .inl f2)), (g6, .inl (cg6, 24, .inl f6)), (wr, .inr (7, [.ref w1, .int (zI wn)])), (w1, .inl (cw1, 24, .inl fw))] sz) := by
  refine Met.ofW (cc := cX4_cut) (maxL := 4) (ret := none) (by decide) rfl ?_
  intro p e s m args below meth c s₁ B hml hv
  obtain ⟨rfl, hsz, hP, hK, hD0, hN⟩ := hv
  have hx := B.exec
  have hb := B.bytes
  have hr := B.returns
  have hts := atoms_spec (ws := wsX4_cut) B.pre
  have hown : s.vm.findClass RX4 = some m.cls := findClass_of_methodNamed B.named
  have hlocks := B.notSynchronized
  subst hsz
  have hD := hD0.self (sz := s.heap.size)
  generalize hAe : va_A [(h0, .inr (4, [.ref g1, .ref g2, .ref g3, .ref g4, .ref g5, .int (zI cn), .int (zI bo), .int (zI ru), .ref g6, .ref g7])), (g1, .inl (cg1, 24, .inl f1)), (g2, .inl (cg2, 24, .inl f2)), (g6, .inl (cg6, 24, .inl f6)), (wr, .inr (7, [.ref w1, .int (zI wn)])), (w1, .inl (cw1, 24, .inl fw))] s.heap.size = A at hD ⊢
  have hA : ∀ q : Nat, s.heap.size ≤ q → A q := fun q h => by rw [← hAe]; exact Or.inr h
  have hS : va_S A s.heap s.heap [] := va_S.rf
  have hP : va_P D vwCl [(h0, .inr (4, [.ref g1, .ref g2, .ref g3, .ref g4, .ref g5, .int (zI cn), .int (zI bo), .int (zI ru), .ref g6, .ref g7])), (g1, .inl (cg1, 24, .inl f1)), (g2, .inl (cg2, 24, .inl f2)), (g6, .inl (cg6, 24, .inl f6)), (wr, .inr (7, [.ref w1, .int (zI wn)])), (w1, .inl (cw1, 24, .inl fw))] s.heap := hP
  have hl := lv_entry ([.ref h0, .ref wr]) (n := 4) (Nat.le_of_ble_eq_true rfl)
  rw [lg_entry_eq]
  generalize (lg_sl ([.ref h0, .ref wr]) ++ List.replicate (4 - (lg_sl ([.ref h0, .ref wr])).length) Slot.unset).toArray = ls at hl ⊢
  have hl : lv_has ls 4 [(0, .ref h0), (1, .ref wr)] := hl
  refine lv_aload_n hx hb dX4_cut_0 rfl (lv_at hl 0 rfl) ?_
  refine lv_iconst (v := zI 0) hx hb dX4_cut_1 rfl ?_
  refine va_put (D := D) (ci := 4) (v := .int (zI 0)) (ty := .int) (C := RX4) (T := TX4) (N := 10) hx hb hts (fun _ h9 => List.mem_cons_of_mem _ (List.mem_append_left _ (List.mem_append_right _ h9))) tyX4 tyX4_ok nmX4 hown hK hP hD hS 0 rfl rfl 5 (by decide) (hts (.fieldLink RX4 51 "FontRuns$Setting" "count" "I") mw_X4_cut_b_0) (fun _ h9 => h9) rfl (by decide +kernel) rfl rfl (Nat.le_of_ble_eq_true rfl) dX4_cut_2 (fun H locs hP hD hS => ?_)
  have hP : va_P D vwCl [(h0, .inr (4, [.ref g1, .ref g2, .ref g3, .ref g4, .ref g5, .int (zI 0), .int (zI bo), .int (zI ru), .ref g6, .ref g7])), (g1, .inl (cg1, 24, .inl f1)), (g2, .inl (cg2, 24, .inl f2)), (g6, .inl (cg6, 24, .inl f6)), (wr, .inr (7, [.ref w1, .int (zI wn)])), (w1, .inl (cw1, 24, .inl fw))] H := hP
  have hD : va_D A [(h0, .inr (4, [.ref g1, .ref g2, .ref g3, .ref g4, .ref g5, .int (zI 0), .int (zI bo), .int (zI ru), .ref g6, .ref g7])), (g1, .inl (cg1, 24, .inl f1)), (g2, .inl (cg2, 24, .inl f2)), (g6, .inl (cg6, 24, .inl f6)), (wr, .inr (7, [.ref w1, .int (zI wn)])), (w1, .inl (cw1, 24, .inl fw))] := hD
  refine lv_iconst (v := zI 0) hx hb dX4_cut_5 rfl ?_
  refine lv_istore_n (lv' := [(2, .int (zI 0)), (0, .ref h0), (1, .ref wr)]) hx hb dX4_cut_6 rfl hl (by decide) rfl (fun ls hl => ?_)
  refine k_loopM (I := fun n9 H locs ls => ∃ (jk : Int) (jc : Int) (ja : Nat → Int32) (jb : Nat → Int32) (jl : Nat → Int32), n9 = (wn - jk).toNat ∧ (0 ≤ jk ∧ jk ≤ wn) ∧ (0 ≤ jc ∧ jc ≤ jk) ∧ (jk = 0 ∨ 1 ≤ jc) ∧ (kCu fw (kNa jk) jc ja jb jl) ∧ va_P D vwCl [(h0, .inr (4, [.ref g1, .ref g2, .ref g3, .ref g4, .ref g5, .int (zI jc), .int (zI bo), .int (zI ru), .ref g6, .ref g7])), (g1, .inl (cg1, 24, .inl ja)), (g2, .inl (cg2, 24, .inl jb)), (g6, .inl (cg6, 24, .inl jl)), (wr, .inr (7, [.ref w1, .int (zI wn)])), (w1, .inl (cw1, 24, .inl fw))] H ∧ va_D A [(h0, .inr (4, [.ref g1, .ref g2, .ref g3, .ref g4, .ref g5, .int (zI jc), .int (zI bo), .int (zI ru), .ref g6, .ref g7])), (g1, .inl (cg1, 24, .inl ja)), (g2, .inl (cg2, 24, .inl jb)), (g6, .inl (cg6, 24, .inl jl)), (wr, .inr (7, [.ref w1, .int (zI wn)])), (w1, .inl (cw1, 24, .inl fw))] ∧ va_S A s.heap H locs ∧ lv_has ls 4 [(2, .int (zI jk)), (0, .ref h0), (1, .ref wr)]) ?_ _ ⟨0, 0, f1, f2, f6, rfl, (by omega), (by omega), (by omega), kCu_0, hP, hD, hS, hl⟩
  intro n7 ih7 H locs ls hI
  obtain ⟨jk, jc, ja, jb, jl, en7, v_70, v_71, v_72, v_73, hP, hD, hS, hl⟩ := hI
  refine lv_iload_n hx hb dX4_cut_7 rfl (lv_at hl 0 rfl) ?_
  refine lv_aload_n hx hb dX4_cut_8 rfl (lv_at hl 2 rfl) ?_
  refine va_get (D := D) (ci := 7) (v := .int (zI wn)) (C := RX7) (T := TX7) (N := 2) hx hb hts (fun _ h9 => List.mem_cons_of_mem _ (List.mem_append_right _ h9)) hown hK hP 4 rfl rfl 1 (by decide) (hts (.fieldLink RX4 74 "FontRuns$Writing" "count" "I") mw_X4_cut_b_1) (fun _ h9 => h9) rfl dX4_cut_9 ?_
  refine kz_icmp_ge (tgt := 113) hx hb dX4_cut_12 (by decide) (by omega) (by omega) (fun c_1 => ?_) (fun c_1 => ?_)
  · have hP9 := hP.sub (ws' := [(h0, .inr (4, [.ref g1, .ref g2, .ref g3, .ref g4, .ref g5, .int (zI jc), .int (zI bo), .int (zI ru), .ref g6, .ref g7])), (g1, .inl (cg1, 24, .inl ja)), (g2, .inl (cg2, 24, .inl jb)), (g6, .inl (cg6, 24, .inl jl)), (wr, .inr (7, [.ref w1, .int (zI wn)])), (w1, .inl (cw1, 24, .inl fw))]) [0, 1, 2, 3, 4, 5] rfl
    have hD9 := hD.sub (ws' := [(h0, .inr (4, [.ref g1, .ref g2, .ref g3, .ref g4, .ref g5, .int (zI jc), .int (zI bo), .int (zI ru), .ref g6, .ref g7])), (g1, .inl (cg1, 24, .inl ja)), (g2, .inl (cg2, 24, .inl jb)), (g6, .inl (cg6, 24, .inl jl)), (wr, .inr (7, [.ref w1, .int (zI wn)])), (w1, .inl (cw1, 24, .inl fw))]) [0, 1, 2, 3, 4, 5] (by decide +kernel) rfl
    exact W.vret hx hb hr (fun t ht hW => kQV_of ⟨jc, ja, jb, jl, (by omega), (by have q9 : jk = wn := (by omega); rw [← q9]; exact v_73), by rw [ht]; exact hP9, hD9⟩ (hS.F ht)) hS.2.2 dX4_cut_113
  · refine lv_aload_n hx hb dX4_cut_15 rfl (lv_at hl 2 rfl) ?_
    refine va_get (D := D) (ci := 7) (v := .ref w1) (C := RX7) (T := TX7) (N := 2) hx hb hts (fun _ h9 => List.mem_cons_of_mem _ (List.mem_append_right _ h9)) hown hK hP 4 rfl rfl 0 (by decide) (hts (.fieldLink RX4 77 "FontRuns$Writing" "row" "[I") mw_X4_cut_b_2) (fun _ h9 => h9) rfl dX4_cut_16 ?_
    refine lv_iload_n hx hb dX4_cut_19 rfl (lv_at hl 0 rfl) ?_
    refine kz_iald hx hb hK hP 5 3 rfl rfl (by omega) dX4_cut_20 (fun z_2 rz_2 ez_2 => ?_)
    refine lv_istore_n (lv' := [(3, .int (zI z_2)), (2, .int (zI jk)), (0, .ref h0), (1, .ref wr)]) hx hb dX4_cut_21 rfl hl (by decide) rfl (fun ls hl => ?_)
    refine lv_aload_n hx hb dX4_cut_22 rfl (lv_at hl 2 rfl) ?_
    refine va_get (D := D) (ci := 4) (v := .int (zI jc)) (C := RX4) (T := TX4) (N := 10) hx hb hts (fun _ h9 => List.mem_cons_of_mem _ (List.mem_append_left _ (List.mem_append_right _ h9))) hown hK hP 0 rfl rfl 5 (by decide) (hts (.fieldLink RX4 51 "FontRuns$Setting" "count" "I") mw_X4_cut_b_0) (fun _ h9 => h9) rfl dX4_cut_23 ?_
    refine kz_if_eq (tgt := 35) hx hb dX4_cut_26 (by decide) (by omega) (fun c_3 => ?_) (fun c_3 => ?_)
    · refine lv_aload_n hx hb dX4_cut_35 rfl (lv_at hl 2 rfl) ?_
      refine va_get (D := D) (ci := 4) (v := .ref g1) (C := RX4) (T := TX4) (N := 10) hx hb hts (fun _ h9 => List.mem_cons_of_mem _ (List.mem_append_left _ (List.mem_append_right _ h9))) hown hK hP 0 rfl rfl 0 (by decide) (hts (.fieldLink RX4 9 "FontRuns$Setting" "first" "[I") mw_X4_cut_b_3) (fun _ h9 => h9) rfl dX4_cut_36 ?_
      refine lv_aload_n hx hb dX4_cut_39 rfl (lv_at hl 2 rfl) ?_
      refine va_get (D := D) (ci := 4) (v := .int (zI jc)) (C := RX4) (T := TX4) (N := 10) hx hb hts (fun _ h9 => List.mem_cons_of_mem _ (List.mem_append_left _ (List.mem_append_right _ h9))) hown hK hP 0 rfl rfl 5 (by decide) (hts (.fieldLink RX4 51 "FontRuns$Setting" "count" "I") mw_X4_cut_b_0) (fun _ h9 => h9) rfl dX4_cut_40 ?_
      refine lv_iload_n hx hb dX4_cut_43 rfl (lv_at hl 1 rfl) ?_
      refine kz_iast hx hb hK hP hD hS 1 0 rfl rfl (by omega) dX4_cut_44 (fun H locs hP hD hS => ?_)
      have hP : va_P D vwCl [(h0, .inr (4, [.ref g1, .ref g2, .ref g3, .ref g4, .ref g5, .int (zI jc), .int (zI bo), .int (zI ru), .ref g6, .ref g7])), (g1, .inl (cg1, 24, .inl (upd ja (jc).toNat (zI jk)))), (g2, .inl (cg2, 24, .inl jb)), (g6, .inl (cg6, 24, .inl jl)), (wr, .inr (7, [.ref w1, .int (zI wn)])), (w1, .inl (cw1, 24, .inl fw))] H := hP
      have hD : va_D A [(h0, .inr (4, [.ref g1, .ref g2, .ref g3, .ref g4, .ref g5, .int (zI jc), .int (zI bo), .int (zI ru), .ref g6, .ref g7])), (g1, .inl (cg1, 24, .inl (upd ja (jc).toNat (zI jk)))), (g2, .inl (cg2, 24, .inl jb)), (g6, .inl (cg6, 24, .inl jl)), (wr, .inr (7, [.ref w1, .int (zI wn)])), (w1, .inl (cw1, 24, .inl fw))] := hD
      generalize ef_4 : upd ja (jc).toNat (zI jk) = f_4 at hP hD
      refine lv_aload_n hx hb dX4_cut_45 rfl (lv_at hl 2 rfl) ?_
      refine va_get (D := D) (ci := 4) (v := .ref g2) (C := RX4) (T := TX4) (N := 10) hx hb hts (fun _ h9 => List.mem_cons_of_mem _ (List.mem_append_left _ (List.mem_append_right _ h9))) hown hK hP 0 rfl rfl 1 (by decide) (hts (.fieldLink RX4 15 "FontRuns$Setting" "length" "[I") mw_X4_cut_b_4) (fun _ h9 => h9) rfl dX4_cut_46 ?_
      refine lv_aload_n hx hb dX4_cut_49 rfl (lv_at hl 2 rfl) ?_
      refine va_get (D := D) (ci := 4) (v := .int (zI jc)) (C := RX4) (T := TX4) (N := 10) hx hb hts (fun _ h9 => List.mem_cons_of_mem _ (List.mem_append_left _ (List.mem_append_right _ h9))) hown hK hP 0 rfl rfl 5 (by decide) (hts (.fieldLink RX4 51 "FontRuns$Setting" "count" "I") mw_X4_cut_b_0) (fun _ h9 => h9) rfl dX4_cut_50 ?_
      refine lv_iconst (v := zI 0) hx hb dX4_cut_53 rfl ?_
      refine kz_iast hx hb hK hP hD hS 2 1 rfl rfl (by omega) dX4_cut_54 (fun H locs hP hD hS => ?_)
      have hP : va_P D vwCl [(h0, .inr (4, [.ref g1, .ref g2, .ref g3, .ref g4, .ref g5, .int (zI jc), .int (zI bo), .int (zI ru), .ref g6, .ref g7])), (g1, .inl (cg1, 24, .inl f_4)), (g2, .inl (cg2, 24, .inl (upd jb (jc).toNat (zI 0)))), (g6, .inl (cg6, 24, .inl jl)), (wr, .inr (7, [.ref w1, .int (zI wn)])), (w1, .inl (cw1, 24, .inl fw))] H := hP
      have hD : va_D A [(h0, .inr (4, [.ref g1, .ref g2, .ref g3, .ref g4, .ref g5, .int (zI jc), .int (zI bo), .int (zI ru), .ref g6, .ref g7])), (g1, .inl (cg1, 24, .inl f_4)), (g2, .inl (cg2, 24, .inl (upd jb (jc).toNat (zI 0)))), (g6, .inl (cg6, 24, .inl jl)), (wr, .inr (7, [.ref w1, .int (zI wn)])), (w1, .inl (cw1, 24, .inl fw))] := hD
      generalize ef_5 : upd jb (jc).toNat (zI 0) = f_5 at hP hD
      refine lv_aload_n hx hb dX4_cut_55 rfl (lv_at hl 2 rfl) ?_
      refine va_get (D := D) (ci := 4) (v := .ref g6) (C := RX4) (T := TX4) (N := 10) hx hb hts (fun _ h9 => List.mem_cons_of_mem _ (List.mem_append_left _ (List.mem_append_right _ h9))) hown hK hP 0 rfl rfl 8 (by decide) (hts (.fieldLink RX4 27 "FontRuns$Setting" "letters" "[I") mw_X4_cut_b_5) (fun _ h9 => h9) rfl dX4_cut_56 ?_
      refine lv_aload_n hx hb dX4_cut_59 rfl (lv_at hl 2 rfl) ?_
      refine va_get (D := D) (ci := 4) (v := .int (zI jc)) (C := RX4) (T := TX4) (N := 10) hx hb hts (fun _ h9 => List.mem_cons_of_mem _ (List.mem_append_left _ (List.mem_append_right _ h9))) hown hK hP 0 rfl rfl 5 (by decide) (hts (.fieldLink RX4 51 "FontRuns$Setting" "count" "I") mw_X4_cut_b_0) (fun _ h9 => h9) rfl dX4_cut_60 ?_
      refine lv_iconst (v := zI 0) hx hb dX4_cut_63 rfl ?_
      refine kz_iast hx hb hK hP hD hS 3 2 rfl rfl (by omega) dX4_cut_64 (fun H locs hP hD hS => ?_)
      have hP : va_P D vwCl [(h0, .inr (4, [.ref g1, .ref g2, .ref g3, .ref g4, .ref g5, .int (zI jc), .int (zI bo), .int (zI ru), .ref g6, .ref g7])), (g1, .inl (cg1, 24, .inl f_4)), (g2, .inl (cg2, 24, .inl f_5)), (g6, .inl (cg6, 24, .inl (upd jl (jc).toNat (zI 0)))), (wr, .inr (7, [.ref w1, .int (zI wn)])), (w1, .inl (cw1, 24, .inl fw))] H := hP
      have hD : va_D A [(h0, .inr (4, [.ref g1, .ref g2, .ref g3, .ref g4, .ref g5, .int (zI jc), .int (zI bo), .int (zI ru), .ref g6, .ref g7])), (g1, .inl (cg1, 24, .inl f_4)), (g2, .inl (cg2, 24, .inl f_5)), (g6, .inl (cg6, 24, .inl (upd jl (jc).toNat (zI 0)))), (wr, .inr (7, [.ref w1, .int (zI wn)])), (w1, .inl (cw1, 24, .inl fw))] := hD
      generalize ef_6 : upd jl (jc).toNat (zI 0) = f_6 at hP hD
      refine lv_aload_n hx hb dX4_cut_65 rfl (lv_at hl 2 rfl) ?_
      refine lv_dup hx hb dX4_cut_66 rfl ?_
      refine va_get (D := D) (ci := 4) (v := .int (zI jc)) (C := RX4) (T := TX4) (N := 10) hx hb hts (fun _ h9 => List.mem_cons_of_mem _ (List.mem_append_left _ (List.mem_append_right _ h9))) hown hK hP 0 rfl rfl 5 (by decide) (hts (.fieldLink RX4 51 "FontRuns$Setting" "count" "I") mw_X4_cut_b_0) (fun _ h9 => h9) rfl dX4_cut_67 ?_
      refine lv_iconst (v := zI 1) hx hb dX4_cut_70 rfl ?_
      refine kz_iadd hx hb dX4_cut_71 ?_
      refine va_put (D := D) (ci := 4) (v := .int (zI (jc + 1))) (ty := .int) (C := RX4) (T := TX4) (N := 10) hx hb hts (fun _ h9 => List.mem_cons_of_mem _ (List.mem_append_left _ (List.mem_append_right _ h9))) tyX4 tyX4_ok nmX4 hown hK hP hD hS 0 rfl rfl 5 (by decide) (hts (.fieldLink RX4 51 "FontRuns$Setting" "count" "I") mw_X4_cut_b_0) (fun _ h9 => h9) rfl (by decide +kernel) rfl rfl (Nat.le_of_ble_eq_true rfl) dX4_cut_72 (fun H locs hP hD hS => ?_)
      have hP : va_P D vwCl [(h0, .inr (4, [.ref g1, .ref g2, .ref g3, .ref g4, .ref g5, .int (zI (jc + 1)), .int (zI bo), .int (zI ru), .ref g6, .ref g7])), (g1, .inl (cg1, 24, .inl f_4)), (g2, .inl (cg2, 24, .inl f_5)), (g6, .inl (cg6, 24, .inl f_6)), (wr, .inr (7, [.ref w1, .int (zI wn)])), (w1, .inl (cw1, 24, .inl fw))] H := hP
      have hD : va_D A [(h0, .inr (4, [.ref g1, .ref g2, .ref g3, .ref g4, .ref g5, .int (zI (jc + 1)), .int (zI bo), .int (zI ru), .ref g6, .ref g7])), (g1, .inl (cg1, 24, .inl f_4)), (g2, .inl (cg2, 24, .inl f_5)), (g6, .inl (cg6, 24, .inl f_6)), (wr, .inr (7, [.ref w1, .int (zI wn)])), (w1, .inl (cw1, 24, .inl fw))] := hD
      refine lv_aload_n hx hb dX4_cut_75 rfl (lv_at hl 2 rfl) ?_
      refine va_get (D := D) (ci := 4) (v := .ref g2) (C := RX4) (T := TX4) (N := 10) hx hb hts (fun _ h9 => List.mem_cons_of_mem _ (List.mem_append_left _ (List.mem_append_right _ h9))) hown hK hP 0 rfl rfl 1 (by decide) (hts (.fieldLink RX4 15 "FontRuns$Setting" "length" "[I") mw_X4_cut_b_4) (fun _ h9 => h9) rfl dX4_cut_76 ?_
      refine lv_aload_n hx hb dX4_cut_79 rfl (lv_at hl 2 rfl) ?_
      refine va_get (D := D) (ci := 4) (v := .int (zI (jc + 1))) (C := RX4) (T := TX4) (N := 10) hx hb hts (fun _ h9 => List.mem_cons_of_mem _ (List.mem_append_left _ (List.mem_append_right _ h9))) hown hK hP 0 rfl rfl 5 (by decide) (hts (.fieldLink RX4 51 "FontRuns$Setting" "count" "I") mw_X4_cut_b_0) (fun _ h9 => h9) rfl dX4_cut_80 ?_
      refine lv_iconst (v := zI 1) hx hb dX4_cut_83 rfl ?_
      refine kz_isub hx hb dX4_cut_84 ?_
      refine lv_dup2_11 hx hb dX4_cut_85 rfl rfl ?_
      refine kz_iald hx hb hK hP 2 1 rfl rfl (by omega) dX4_cut_86 (fun z_7 rz_7 ez_7 => ?_)
      refine lv_iconst (v := zI 1) hx hb dX4_cut_87 rfl ?_
      refine kz_iadd hx hb dX4_cut_88 ?_
      refine kz_iast hx hb hK hP hD hS 2 1 rfl rfl (by omega) dX4_cut_89 (fun H locs hP hD hS => ?_)
      have hP : va_P D vwCl [(h0, .inr (4, [.ref g1, .ref g2, .ref g3, .ref g4, .ref g5, .int (zI (jc + 1)), .int (zI bo), .int (zI ru), .ref g6, .ref g7])), (g1, .inl (cg1, 24, .inl f_4)), (g2, .inl (cg2, 24, .inl (upd f_5 ((jc + 1) - 1).toNat (zI (z_7 + 1))))), (g6, .inl (cg6, 24, .inl f_6)), (wr, .inr (7, [.ref w1, .int (zI wn)])), (w1, .inl (cw1, 24, .inl fw))] H := hP
      have hD : va_D A [(h0, .inr (4, [.ref g1, .ref g2, .ref g3, .ref g4, .ref g5, .int (zI (jc + 1)), .int (zI bo), .int (zI ru), .ref g6, .ref g7])), (g1, .inl (cg1, 24, .inl f_4)), (g2, .inl (cg2, 24, .inl (upd f_5 ((jc + 1) - 1).toNat (zI (z_7 + 1))))), (g6, .inl (cg6, 24, .inl f_6)), (wr, .inr (7, [.ref w1, .int (zI wn)])), (w1, .inl (cw1, 24, .inl fw))] := hD
      generalize ef_8 : upd f_5 ((jc + 1) - 1).toNat (zI (z_7 + 1)) = f_8 at hP hD
      refine lv_aload_n hx hb dX4_cut_90 rfl (lv_at hl 2 rfl) ?_
      refine va_get (D := D) (ci := 4) (v := .ref g6) (C := RX4) (T := TX4) (N := 10) hx hb hts (fun _ h9 => List.mem_cons_of_mem _ (List.mem_append_left _ (List.mem_append_right _ h9))) hown hK hP 0 rfl rfl 8 (by decide) (hts (.fieldLink RX4 27 "FontRuns$Setting" "letters" "[I") mw_X4_cut_b_5) (fun _ h9 => h9) rfl dX4_cut_91 ?_
      refine lv_aload_n hx hb dX4_cut_94 rfl (lv_at hl 2 rfl) ?_
      refine va_get (D := D) (ci := 4) (v := .int (zI (jc + 1))) (C := RX4) (T := TX4) (N := 10) hx hb hts (fun _ h9 => List.mem_cons_of_mem _ (List.mem_append_left _ (List.mem_append_right _ h9))) hown hK hP 0 rfl rfl 5 (by decide) (hts (.fieldLink RX4 51 "FontRuns$Setting" "count" "I") mw_X4_cut_b_0) (fun _ h9 => h9) rfl dX4_cut_95 ?_
      refine lv_iconst (v := zI 1) hx hb dX4_cut_98 rfl ?_
      refine kz_isub hx hb dX4_cut_99 ?_
      refine lv_dup2_11 hx hb dX4_cut_100 rfl rfl ?_
      refine kz_iald hx hb hK hP 3 2 rfl rfl (by omega) dX4_cut_101 (fun z_9 rz_9 ez_9 => ?_)
      refine lv_iconst (v := zI 1) hx hb dX4_cut_102 rfl ?_
      refine lv_iload_n hx hb dX4_cut_103 rfl (lv_at hl 0 rfl) ?_
      refine lv_ishl hx hb dX4_cut_104 ?_
      refine kz_any (fun z_10 rz_10 ez_10 => ?_)
      refine lv_ior hx hb dX4_cut_105 ?_
      refine kz_any (fun z_11 rz_11 ez_11 => ?_)
      refine kz_iast hx hb hK hP hD hS 3 2 rfl rfl (by omega) dX4_cut_106 (fun H locs hP hD hS => ?_)
      have hP : va_P D vwCl [(h0, .inr (4, [.ref g1, .ref g2, .ref g3, .ref g4, .ref g5, .int (zI (jc + 1)), .int (zI bo), .int (zI ru), .ref g6, .ref g7])), (g1, .inl (cg1, 24, .inl f_4)), (g2, .inl (cg2, 24, .inl f_8)), (g6, .inl (cg6, 24, .inl (upd f_6 ((jc + 1) - 1).toNat (zI z_11)))), (wr, .inr (7, [.ref w1, .int (zI wn)])), (w1, .inl (cw1, 24, .inl fw))] H := hP
      have hD : va_D A [(h0, .inr (4, [.ref g1, .ref g2, .ref g3, .ref g4, .ref g5, .int (zI (jc + 1)), .int (zI bo), .int (zI ru), .ref g6, .ref g7])), (g1, .inl (cg1, 24, .inl f_4)), (g2, .inl (cg2, 24, .inl f_8)), (g6, .inl (cg6, 24, .inl (upd f_6 ((jc + 1) - 1).toNat (zI z_11)))), (wr, .inr (7, [.ref w1, .int (zI wn)])), (w1, .inl (cw1, 24, .inl fw))] := hD
      generalize ef_12 : upd f_6 ((jc + 1) - 1).toNat (zI z_11) = f_12 at hP hD
      refine lv_iinc (v := (zI (jk + 1))) (lv' := [(2, .int (zI (jk + 1))), (3, .int (zI z_2)), (0, .ref h0), (1, .ref wr)]) hx hb dX4_cut_107 hl (k := 1) rfl (kz_inc _ 1) (by decide) rfl (fun ls hl => ?_)
      refine lv_goto (tgt := 7) hx hb dX4_cut_110 (by decide) ?_
      exact ih7 _ (by omega) _ _ _ ⟨(jk + 1), (jc + 1), f_4, f_8, f_12, rfl, (by omega), (by omega), (by omega), (kCu_y v_73 (by omega) (by omega) rz_2 ez_2 ef_4 ef_5 ez_7 ef_8 ef_6 ez_9 ez_10 ez_11 ef_12), hP, hD, hS, lv_sub hl [0, 2, 3] rfl⟩
    · refine lv_iload_n hx hb dX4_cut_29 rfl (lv_at hl 0 rfl) ?_
      refine lv_bipush (v := zI 12) hx hb dX4_cut_30 (by decide) ?_
      refine kz_icmp_ge (tgt := 75) hx hb dX4_cut_32 (by decide) (by omega) (by omega) (fun c_13 => ?_) (fun c_13 => ?_)
      · refine lv_aload_n hx hb dX4_cut_75 rfl (lv_at hl 2 rfl) ?_
        refine va_get (D := D) (ci := 4) (v := .ref g2) (C := RX4) (T := TX4) (N := 10) hx hb hts (fun _ h9 => List.mem_cons_of_mem _ (List.mem_append_left _ (List.mem_append_right _ h9))) hown hK hP 0 rfl rfl 1 (by decide) (hts (.fieldLink RX4 15 "FontRuns$Setting" "length" "[I") mw_X4_cut_b_4) (fun _ h9 => h9) rfl dX4_cut_76 ?_
        refine lv_aload_n hx hb dX4_cut_79 rfl (lv_at hl 2 rfl) ?_
        refine va_get (D := D) (ci := 4) (v := .int (zI jc)) (C := RX4) (T := TX4) (N := 10) hx hb hts (fun _ h9 => List.mem_cons_of_mem _ (List.mem_append_left _ (List.mem_append_right _ h9))) hown hK hP 0 rfl rfl 5 (by decide) (hts (.fieldLink RX4 51 "FontRuns$Setting" "count" "I") mw_X4_cut_b_0) (fun _ h9 => h9) rfl dX4_cut_80 ?_
        refine lv_iconst (v := zI 1) hx hb dX4_cut_83 rfl ?_
        refine kz_isub hx hb dX4_cut_84 ?_
        refine lv_dup2_11 hx hb dX4_cut_85 rfl rfl ?_
        refine kz_iald hx hb hK hP 2 1 rfl rfl (by omega) dX4_cut_86 (fun z_14 rz_14 ez_14 => ?_)
        refine lv_iconst (v := zI 1) hx hb dX4_cut_87 rfl ?_
        refine kz_iadd hx hb dX4_cut_88 ?_
        refine kz_iast hx hb hK hP hD hS 2 1 rfl rfl (by omega) dX4_cut_89 (fun H locs hP hD hS => ?_)
        have hP : va_P D vwCl [(h0, .inr (4, [.ref g1, .ref g2, .ref g3, .ref g4, .ref g5, .int (zI jc), .int (zI bo), .int (zI ru), .ref g6, .ref g7])), (g1, .inl (cg1, 24, .inl ja)), (g2, .inl (cg2, 24, .inl (upd jb (jc - 1).toNat (zI (z_14 + 1))))), (g6, .inl (cg6, 24, .inl jl)), (wr, .inr (7, [.ref w1, .int (zI wn)])), (w1, .inl (cw1, 24, .inl fw))] H := hP
        have hD : va_D A [(h0, .inr (4, [.ref g1, .ref g2, .ref g3, .ref g4, .ref g5, .int (zI jc), .int (zI bo), .int (zI ru), .ref g6, .ref g7])), (g1, .inl (cg1, 24, .inl ja)), (g2, .inl (cg2, 24, .inl (upd jb (jc - 1).toNat (zI (z_14 + 1))))), (g6, .inl (cg6, 24, .inl jl)), (wr, .inr (7, [.ref w1, .int (zI wn)])), (w1, .inl (cw1, 24, .inl fw))] := hD
        generalize ef_15 : upd jb (jc - 1).toNat (zI (z_14 + 1)) = f_15 at hP hD
        refine lv_aload_n hx hb dX4_cut_90 rfl (lv_at hl 2 rfl) ?_
        refine va_get (D := D) (ci := 4) (v := .ref g6) (C := RX4) (T := TX4) (N := 10) hx hb hts (fun _ h9 => List.mem_cons_of_mem _ (List.mem_append_left _ (List.mem_append_right _ h9))) hown hK hP 0 rfl rfl 8 (by decide) (hts (.fieldLink RX4 27 "FontRuns$Setting" "letters" "[I") mw_X4_cut_b_5) (fun _ h9 => h9) rfl dX4_cut_91 ?_
        refine lv_aload_n hx hb dX4_cut_94 rfl (lv_at hl 2 rfl) ?_
        refine va_get (D := D) (ci := 4) (v := .int (zI jc)) (C := RX4) (T := TX4) (N := 10) hx hb hts (fun _ h9 => List.mem_cons_of_mem _ (List.mem_append_left _ (List.mem_append_right _ h9))) hown hK hP 0 rfl rfl 5 (by decide) (hts (.fieldLink RX4 51 "FontRuns$Setting" "count" "I") mw_X4_cut_b_0) (fun _ h9 => h9) rfl dX4_cut_95 ?_
        refine lv_iconst (v := zI 1) hx hb dX4_cut_98 rfl ?_
        refine kz_isub hx hb dX4_cut_99 ?_
        refine lv_dup2_11 hx hb dX4_cut_100 rfl rfl ?_
        refine kz_iald hx hb hK hP 3 2 rfl rfl (by omega) dX4_cut_101 (fun z_16 rz_16 ez_16 => ?_)
        refine lv_iconst (v := zI 1) hx hb dX4_cut_102 rfl ?_
        refine lv_iload_n hx hb dX4_cut_103 rfl (lv_at hl 0 rfl) ?_
        refine lv_ishl hx hb dX4_cut_104 ?_
        refine kz_any (fun z_17 rz_17 ez_17 => ?_)
        refine lv_ior hx hb dX4_cut_105 ?_
        refine kz_any (fun z_18 rz_18 ez_18 => ?_)
        refine kz_iast hx hb hK hP hD hS 3 2 rfl rfl (by omega) dX4_cut_106 (fun H locs hP hD hS => ?_)
        have hP : va_P D vwCl [(h0, .inr (4, [.ref g1, .ref g2, .ref g3, .ref g4, .ref g5, .int (zI jc), .int (zI bo), .int (zI ru), .ref g6, .ref g7])), (g1, .inl (cg1, 24, .inl ja)), (g2, .inl (cg2, 24, .inl f_15)), (g6, .inl (cg6, 24, .inl (upd jl (jc - 1).toNat (zI z_18)))), (wr, .inr (7, [.ref w1, .int (zI wn)])), (w1, .inl (cw1, 24, .inl fw))] H := hP
        have hD : va_D A [(h0, .inr (4, [.ref g1, .ref g2, .ref g3, .ref g4, .ref g5, .int (zI jc), .int (zI bo), .int (zI ru), .ref g6, .ref g7])), (g1, .inl (cg1, 24, .inl ja)), (g2, .inl (cg2, 24, .inl f_15)), (g6, .inl (cg6, 24, .inl (upd jl (jc - 1).toNat (zI z_18)))), (wr, .inr (7, [.ref w1, .int (zI wn)])), (w1, .inl (cw1, 24, .inl fw))] := hD
        generalize ef_19 : upd jl (jc - 1).toNat (zI z_18) = f_19 at hP hD
        refine lv_iinc (v := (zI (jk + 1))) (lv' := [(2, .int (zI (jk + 1))), (3, .int (zI z_2)), (0, .ref h0), (1, .ref wr)]) hx hb dX4_cut_107 hl (k := 1) rfl (kz_inc _ 1) (by decide) rfl (fun ls hl => ?_)
        refine lv_goto (tgt := 7) hx hb dX4_cut_110 (by decide) ?_
        exact ih7 _ (by omega) _ _ _ ⟨(jk + 1), jc, ja, f_15, f_19, rfl, (by omega), (by omega), (by omega), (kCu_n v_73 (by omega) (by omega) (by omega) rz_2 ez_2 ez_14 ef_15 ez_16 ez_17 ez_18 ef_19), hP, hD, hS, lv_sub hl [0, 2, 3] rfl⟩
      · refine lv_aload_n hx hb dX4_cut_35 rfl (lv_at hl 2 rfl) ?_
        refine va_get (D := D) (ci := 4) (v := .ref g1) (C := RX4) (T := TX4) (N := 10) hx hb hts (fun _ h9 => List.mem_cons_of_mem _ (List.mem_append_left _ (List.mem_append_right _ h9))) hown hK hP 0 rfl rfl 0 (by decide) (hts (.fieldLink RX4 9 "FontRuns$Setting" "first" "[I") mw_X4_cut_b_3) (fun _ h9 => h9) rfl dX4_cut_36 ?_
        refine lv_aload_n hx hb dX4_cut_39 rfl (lv_at hl 2 rfl) ?_
        refine va_get (D := D) (ci := 4) (v := .int (zI jc)) (C := RX4) (T := TX4) (N := 10) hx hb hts (fun _ h9 => List.mem_cons_of_mem _ (List.mem_append_left _ (List.mem_append_right _ h9))) hown hK hP 0 rfl rfl 5 (by decide) (hts (.fieldLink RX4 51 "FontRuns$Setting" "count" "I") mw_X4_cut_b_0) (fun _ h9 => h9) rfl dX4_cut_40 ?_
        refine lv_iload_n hx hb dX4_cut_43 rfl (lv_at hl 1 rfl) ?_
        refine kz_iast hx hb hK hP hD hS 1 0 rfl rfl (by omega) dX4_cut_44 (fun H locs hP hD hS => ?_)
        have hP : va_P D vwCl [(h0, .inr (4, [.ref g1, .ref g2, .ref g3, .ref g4, .ref g5, .int (zI jc), .int (zI bo), .int (zI ru), .ref g6, .ref g7])), (g1, .inl (cg1, 24, .inl (upd ja (jc).toNat (zI jk)))), (g2, .inl (cg2, 24, .inl jb)), (g6, .inl (cg6, 24, .inl jl)), (wr, .inr (7, [.ref w1, .int (zI wn)])), (w1, .inl (cw1, 24, .inl fw))] H := hP
        have hD : va_D A [(h0, .inr (4, [.ref g1, .ref g2, .ref g3, .ref g4, .ref g5, .int (zI jc), .int (zI bo), .int (zI ru), .ref g6, .ref g7])), (g1, .inl (cg1, 24, .inl (upd ja (jc).toNat (zI jk)))), (g2, .inl (cg2, 24, .inl jb)), (g6, .inl (cg6, 24, .inl jl)), (wr, .inr (7, [.ref w1, .int (zI wn)])), (w1, .inl (cw1, 24, .inl fw))] := hD
        generalize ef_20 : upd ja (jc).toNat (zI jk) = f_20 at hP hD
        refine lv_aload_n hx hb dX4_cut_45 rfl (lv_at hl 2 rfl) ?_
        refine va_get (D := D) (ci := 4) (v := .ref g2) (C := RX4) (T := TX4) (N := 10) hx hb hts (fun _ h9 => List.mem_cons_of_mem _ (List.mem_append_left _ (List.mem_append_right _ h9))) hown hK hP 0 rfl rfl 1 (by decide) (hts (.fieldLink RX4 15 "FontRuns$Setting" "length" "[I") mw_X4_cut_b_4) (fun _ h9 => h9) rfl dX4_cut_46 ?_
        refine lv_aload_n hx hb dX4_cut_49 rfl (lv_at hl 2 rfl) ?_
        refine va_get (D := D) (ci := 4) (v := .int (zI jc)) (C := RX4) (T := TX4) (N := 10) hx hb hts (fun _ h9 => List.mem_cons_of_mem _ (List.mem_append_left _ (List.mem_append_right _ h9))) hown hK hP 0 rfl rfl 5 (by decide) (hts (.fieldLink RX4 51 "FontRuns$Setting" "count" "I") mw_X4_cut_b_0) (fun _ h9 => h9) rfl dX4_cut_50 ?_
        refine lv_iconst (v := zI 0) hx hb dX4_cut_53 rfl ?_
        refine kz_iast hx hb hK hP hD hS 2 1 rfl rfl (by omega) dX4_cut_54 (fun H locs hP hD hS => ?_)
        have hP : va_P D vwCl [(h0, .inr (4, [.ref g1, .ref g2, .ref g3, .ref g4, .ref g5, .int (zI jc), .int (zI bo), .int (zI ru), .ref g6, .ref g7])), (g1, .inl (cg1, 24, .inl f_20)), (g2, .inl (cg2, 24, .inl (upd jb (jc).toNat (zI 0)))), (g6, .inl (cg6, 24, .inl jl)), (wr, .inr (7, [.ref w1, .int (zI wn)])), (w1, .inl (cw1, 24, .inl fw))] H := hP
        have hD : va_D A [(h0, .inr (4, [.ref g1, .ref g2, .ref g3, .ref g4, .ref g5, .int (zI jc), .int (zI bo), .int (zI ru), .ref g6, .ref g7])), (g1, .inl (cg1, 24, .inl f_20)), (g2, .inl (cg2, 24, .inl (upd jb (jc).toNat (zI 0)))), (g6, .inl (cg6, 24, .inl jl)), (wr, .inr (7, [.ref w1, .int (zI wn)])), (w1, .inl (cw1, 24, .inl fw))] := hD
        generalize ef_21 : upd jb (jc).toNat (zI 0) = f_21 at hP hD
        refine lv_aload_n hx hb dX4_cut_55 rfl (lv_at hl 2 rfl) ?_
        refine va_get (D := D) (ci := 4) (v := .ref g6) (C := RX4) (T := TX4) (N := 10) hx hb hts (fun _ h9 => List.mem_cons_of_mem _ (List.mem_append_left _ (List.mem_append_right _ h9))) hown hK hP 0 rfl rfl 8 (by decide) (hts (.fieldLink RX4 27 "FontRuns$Setting" "letters" "[I") mw_X4_cut_b_5) (fun _ h9 => h9) rfl dX4_cut_56 ?_
        refine lv_aload_n hx hb dX4_cut_59 rfl (lv_at hl 2 rfl) ?_
        refine va_get (D := D) (ci := 4) (v := .int (zI jc)) (C := RX4) (T := TX4) (N := 10) hx hb hts (fun _ h9 => List.mem_cons_of_mem _ (List.mem_append_left _ (List.mem_append_right _ h9))) hown hK hP 0 rfl rfl 5 (by decide) (hts (.fieldLink RX4 51 "FontRuns$Setting" "count" "I") mw_X4_cut_b_0) (fun _ h9 => h9) rfl dX4_cut_60 ?_
        refine lv_iconst (v := zI 0) hx hb dX4_cut_63 rfl ?_
        refine kz_iast hx hb hK hP hD hS 3 2 rfl rfl (by omega) dX4_cut_64 (fun H locs hP hD hS => ?_)
        have hP : va_P D vwCl [(h0, .inr (4, [.ref g1, .ref g2, .ref g3, .ref g4, .ref g5, .int (zI jc), .int (zI bo), .int (zI ru), .ref g6, .ref g7])), (g1, .inl (cg1, 24, .inl f_20)), (g2, .inl (cg2, 24, .inl f_21)), (g6, .inl (cg6, 24, .inl (upd jl (jc).toNat (zI 0)))), (wr, .inr (7, [.ref w1, .int (zI wn)])), (w1, .inl (cw1, 24, .inl fw))] H := hP
        have hD : va_D A [(h0, .inr (4, [.ref g1, .ref g2, .ref g3, .ref g4, .ref g5, .int (zI jc), .int (zI bo), .int (zI ru), .ref g6, .ref g7])), (g1, .inl (cg1, 24, .inl f_20)), (g2, .inl (cg2, 24, .inl f_21)), (g6, .inl (cg6, 24, .inl (upd jl (jc).toNat (zI 0)))), (wr, .inr (7, [.ref w1, .int (zI wn)])), (w1, .inl (cw1, 24, .inl fw))] := hD
        generalize ef_22 : upd jl (jc).toNat (zI 0) = f_22 at hP hD
        refine lv_aload_n hx hb dX4_cut_65 rfl (lv_at hl 2 rfl) ?_
        refine lv_dup hx hb dX4_cut_66 rfl ?_
        refine va_get (D := D) (ci := 4) (v := .int (zI jc)) (C := RX4) (T := TX4) (N := 10) hx hb hts (fun _ h9 => List.mem_cons_of_mem _ (List.mem_append_left _ (List.mem_append_right _ h9))) hown hK hP 0 rfl rfl 5 (by decide) (hts (.fieldLink RX4 51 "FontRuns$Setting" "count" "I") mw_X4_cut_b_0) (fun _ h9 => h9) rfl dX4_cut_67 ?_
        refine lv_iconst (v := zI 1) hx hb dX4_cut_70 rfl ?_
        refine kz_iadd hx hb dX4_cut_71 ?_
        refine va_put (D := D) (ci := 4) (v := .int (zI (jc + 1))) (ty := .int) (C := RX4) (T := TX4) (N := 10) hx hb hts (fun _ h9 => List.mem_cons_of_mem _ (List.mem_append_left _ (List.mem_append_right _ h9))) tyX4 tyX4_ok nmX4 hown hK hP hD hS 0 rfl rfl 5 (by decide) (hts (.fieldLink RX4 51 "FontRuns$Setting" "count" "I") mw_X4_cut_b_0) (fun _ h9 => h9) rfl (by decide +kernel) rfl rfl (Nat.le_of_ble_eq_true rfl) dX4_cut_72 (fun H locs hP hD hS => ?_)
        have hP : va_P D vwCl [(h0, .inr (4, [.ref g1, .ref g2, .ref g3, .ref g4, .ref g5, .int (zI (jc + 1)), .int (zI bo), .int (zI ru), .ref g6, .ref g7])), (g1, .inl (cg1, 24, .inl f_20)), (g2, .inl (cg2, 24, .inl f_21)), (g6, .inl (cg6, 24, .inl f_22)), (wr, .inr (7, [.ref w1, .int (zI wn)])), (w1, .inl (cw1, 24, .inl fw))] H := hP
        have hD : va_D A [(h0, .inr (4, [.ref g1, .ref g2, .ref g3, .ref g4, .ref g5, .int (zI (jc + 1)), .int (zI bo), .int (zI ru), .ref g6, .ref g7])), (g1, .inl (cg1, 24, .inl f_20)), (g2, .inl (cg2, 24, .inl f_21)), (g6, .inl (cg6, 24, .inl f_22)), (wr, .inr (7, [.ref w1, .int (zI wn)])), (w1, .inl (cw1, 24, .inl fw))] := hD
        refine lv_aload_n hx hb dX4_cut_75 rfl (lv_at hl 2 rfl) ?_
        refine va_get (D := D) (ci := 4) (v := .ref g2) (C := RX4) (T := TX4) (N := 10) hx hb hts (fun _ h9 => List.mem_cons_of_mem _ (List.mem_append_left _ (List.mem_append_right _ h9))) hown hK hP 0 rfl rfl 1 (by decide) (hts (.fieldLink RX4 15 "FontRuns$Setting" "length" "[I") mw_X4_cut_b_4) (fun _ h9 => h9) rfl dX4_cut_76 ?_
        refine lv_aload_n hx hb dX4_cut_79 rfl (lv_at hl 2 rfl) ?_
        refine va_get (D := D) (ci := 4) (v := .int (zI (jc + 1))) (C := RX4) (T := TX4) (N := 10) hx hb hts (fun _ h9 => List.mem_cons_of_mem _ (List.mem_append_left _ (List.mem_append_right _ h9))) hown hK hP 0 rfl rfl 5 (by decide) (hts (.fieldLink RX4 51 "FontRuns$Setting" "count" "I") mw_X4_cut_b_0) (fun _ h9 => h9) rfl dX4_cut_80 ?_
        refine lv_iconst (v := zI 1) hx hb dX4_cut_83 rfl ?_
        refine kz_isub hx hb dX4_cut_84 ?_
        refine lv_dup2_11 hx hb dX4_cut_85 rfl rfl ?_
        refine kz_iald hx hb hK hP 2 1 rfl rfl (by omega) dX4_cut_86 (fun z_23 rz_23 ez_23 => ?_)
        refine lv_iconst (v := zI 1) hx hb dX4_cut_87 rfl ?_
        refine kz_iadd hx hb dX4_cut_88 ?_
        refine kz_iast hx hb hK hP hD hS 2 1 rfl rfl (by omega) dX4_cut_89 (fun H locs hP hD hS => ?_)
        have hP : va_P D vwCl [(h0, .inr (4, [.ref g1, .ref g2, .ref g3, .ref g4, .ref g5, .int (zI (jc + 1)), .int (zI bo), .int (zI ru), .ref g6, .ref g7])), (g1, .inl (cg1, 24, .inl f_20)), (g2, .inl (cg2, 24, .inl (upd f_21 ((jc + 1) - 1).toNat (zI (z_23 + 1))))), (g6, .inl (cg6, 24, .inl f_22)), (wr, .inr (7, [.ref w1, .int (zI wn)])), (w1, .inl (cw1, 24, .inl fw))] H := hP
        have hD : va_D A [(h0, .inr (4, [.ref g1, .ref g2, .ref g3, .ref g4, .ref g5, .int (zI (jc + 1)), .int (zI bo), .int (zI ru), .ref g6, .ref g7])), (g1, .inl (cg1, 24, .inl f_20)), (g2, .inl (cg2, 24, .inl (upd f_21 ((jc + 1) - 1).toNat (zI (z_23 + 1))))), (g6, .inl (cg6, 24, .inl f_22)), (wr, .inr (7, [.ref w1, .int (zI wn)])), (w1, .inl (cw1, 24, .inl fw))] := hD
        generalize ef_24 : upd f_21 ((jc + 1) - 1).toNat (zI (z_23 + 1)) = f_24 at hP hD
        refine lv_aload_n hx hb dX4_cut_90 rfl (lv_at hl 2 rfl) ?_
        refine va_get (D := D) (ci := 4) (v := .ref g6) (C := RX4) (T := TX4) (N := 10) hx hb hts (fun _ h9 => List.mem_cons_of_mem _ (List.mem_append_left _ (List.mem_append_right _ h9))) hown hK hP 0 rfl rfl 8 (by decide) (hts (.fieldLink RX4 27 "FontRuns$Setting" "letters" "[I") mw_X4_cut_b_5) (fun _ h9 => h9) rfl dX4_cut_91 ?_
        refine lv_aload_n hx hb dX4_cut_94 rfl (lv_at hl 2 rfl) ?_
        refine va_get (D := D) (ci := 4) (v := .int (zI (jc + 1))) (C := RX4) (T := TX4) (N := 10) hx hb hts (fun _ h9 => List.mem_cons_of_mem _ (List.mem_append_left _ (List.mem_append_right _ h9))) hown hK hP 0 rfl rfl 5 (by decide) (hts (.fieldLink RX4 51 "FontRuns$Setting" "count" "I") mw_X4_cut_b_0) (fun _ h9 => h9) rfl dX4_cut_95 ?_
        refine lv_iconst (v := zI 1) hx hb dX4_cut_98 rfl ?_
        refine kz_isub hx hb dX4_cut_99 ?_
        refine lv_dup2_11 hx hb dX4_cut_100 rfl rfl ?_
        refine kz_iald hx hb hK hP 3 2 rfl rfl (by omega) dX4_cut_101 (fun z_25 rz_25 ez_25 => ?_)
        refine lv_iconst (v := zI 1) hx hb dX4_cut_102 rfl ?_
        refine lv_iload_n hx hb dX4_cut_103 rfl (lv_at hl 0 rfl) ?_
        refine lv_ishl hx hb dX4_cut_104 ?_
        refine kz_any (fun z_26 rz_26 ez_26 => ?_)
        refine lv_ior hx hb dX4_cut_105 ?_
        refine kz_any (fun z_27 rz_27 ez_27 => ?_)
        refine kz_iast hx hb hK hP hD hS 3 2 rfl rfl (by omega) dX4_cut_106 (fun H locs hP hD hS => ?_)
        have hP : va_P D vwCl [(h0, .inr (4, [.ref g1, .ref g2, .ref g3, .ref g4, .ref g5, .int (zI (jc + 1)), .int (zI bo), .int (zI ru), .ref g6, .ref g7])), (g1, .inl (cg1, 24, .inl f_20)), (g2, .inl (cg2, 24, .inl f_24)), (g6, .inl (cg6, 24, .inl (upd f_22 ((jc + 1) - 1).toNat (zI z_27)))), (wr, .inr (7, [.ref w1, .int (zI wn)])), (w1, .inl (cw1, 24, .inl fw))] H := hP
        have hD : va_D A [(h0, .inr (4, [.ref g1, .ref g2, .ref g3, .ref g4, .ref g5, .int (zI (jc + 1)), .int (zI bo), .int (zI ru), .ref g6, .ref g7])), (g1, .inl (cg1, 24, .inl f_20)), (g2, .inl (cg2, 24, .inl f_24)), (g6, .inl (cg6, 24, .inl (upd f_22 ((jc + 1) - 1).toNat (zI z_27)))), (wr, .inr (7, [.ref w1, .int (zI wn)])), (w1, .inl (cw1, 24, .inl fw))] := hD
        generalize ef_28 : upd f_22 ((jc + 1) - 1).toNat (zI z_27) = f_28 at hP hD
        refine lv_iinc (v := (zI (jk + 1))) (lv' := [(2, .int (zI (jk + 1))), (3, .int (zI z_2)), (0, .ref h0), (1, .ref wr)]) hx hb dX4_cut_107 hl (k := 1) rfl (kz_inc _ 1) (by decide) rfl (fun ls hl => ?_)
        refine lv_goto (tgt := 7) hx hb dX4_cut_110 (by decide) ?_
        exact ih7 _ (by omega) _ _ _ ⟨(jk + 1), (jc + 1), f_20, f_24, f_28, rfl, (by omega), (by omega), (by omega), (kCu_y v_73 (by omega) (by omega) rz_2 ez_2 ef_20 ef_21 ez_23 ef_24 ef_22 ez_25 ez_26 ez_27 ef_28), hP, hD, hS, lv_sub hl [0, 2, 3] rfl⟩
