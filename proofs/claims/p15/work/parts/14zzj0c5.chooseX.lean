set_option maxRecDepth 20000 in
theorem mw_X4_firstOfBest_b_0 : (.fieldLink RX4 92 "FontRuns$Preference" "count" "I" : Cond) ∈ wsX4_firstOfBest := List.mem_cons_of_mem _ (List.mem_append_left _ (List.mem_append_left _ (List.mem_of_getElem? (i := 0) rfl)))
set_option maxRecDepth 20000 in
theorem mw_X4_firstOfBest_b_1 : (.fieldLink RX4 95 "FontRuns$Preference" "row" "[I" : Cond) ∈ wsX4_firstOfBest := List.mem_cons_of_mem _ (List.mem_append_left _ (List.mem_append_left _ (List.mem_of_getElem? (i := 1) rfl)))
set_option maxRecDepth 20000 in
theorem mw_X4_firstOfBest_b_2 : (.fieldLink RX4 32 "FontRuns$Setting" "behind" "[[I" : Cond) ∈ wsX4_firstOfBest := List.mem_cons_of_mem _ (List.mem_append_left _ (List.mem_append_left _ (List.mem_of_getElem? (i := 2) rfl)))
set_option maxHeartbeats 4000000 in
set_option maxRecDepth 100000 in
theorem c_X4_firstOfBest_b (l : Launch) (D : va_G) (sz : Nat) (k : Int) (be : Int) (pf : Nat) (h0 : Nat) (g1 : Nat) (g2 : Nat) (g3 : Nat) (g4 : Nat) (g5 : Nat) (cn : Int) (bo : Int) (ru : Int) (g6 : Nat) (g7 : Nat) (cg7 : ClassId) (fo : Nat → Option Nat) (o : Nat) (p1 : Nat) (pn : Int) (cp1 : ClassId) (fp : Nat → Int32) (pr : Nat → Nat) (gp : Nat → Nat → Int32) (cy : ClassId) (q0 : 0 ≤ k ∧ k ≤ 23) (q1 : rg be) (q2 : 0 ≤ pn ∧ pn ≤ 4) (q3 : kPr fp) (q4 : kOut fo pr o 24) (q5 : o + 24 ≤ 56) (q6 : kBk gp o k) : Met l yX4_firstOfBest wsX4_firstOfBest ({ frames := 0, cells := 0, slots := 0, locals := 0 }) (kPre [.ref h0, .int (zI k), .int (zI be), .ref pf] D (([(h0, .inr (4, [.ref g1, .ref g2, .ref g3, .ref g4, .ref g5, .int (zI cn), .int (zI bo), .int (zI ru), .ref g6, .ref g7])), (g7, .inl (cg7, 24, .inr (.inr (.inr (.inr (fo)))))), (pf, .inr (1, [.ref p1, .int (zI pn)])), (p1, .inl (cp1, 4, .inl fp))] : va_W) ++ kRows pr gp cy) [(cg7, .array .int), (cp1, .int), (cy, .int)] sz) (QcP (fun rz => (0 ≤ rz ∧ rz ≤ 3) ∧ kFx gp o k be fp pn rz)) 0 0 (fun _ => False) := by
  refine Met.ofW (cc := cX4_firstOfBest) (maxL := 9) (ret := (some .int)) (by decide) rfl ?_
  intro p e s m args below meth c s₁ B hml hv
  obtain ⟨rfl, hsz, hP, hK, hD0, hN⟩ := hv
  have hx := B.exec
  have hb := B.bytes
  have hr := B.returns
  have hts := atoms_spec (ws := wsX4_firstOfBest) B.pre
  have hown : s.vm.findClass RX4 = some m.cls := findClass_of_methodNamed B.named
  have hlocks := B.notSynchronized
  subst hsz
  have hD := hD0
  have hP : va_P D vwCl (([(h0, .inr (4, [.ref g1, .ref g2, .ref g3, .ref g4, .ref g5, .int (zI cn), .int (zI bo), .int (zI ru), .ref g6, .ref g7])), (g7, .inl (cg7, 24, .inr (.inr (.inr (.inr (fo)))))), (pf, .inr (1, [.ref p1, .int (zI pn)])), (p1, .inl (cp1, 4, .inl fp))] : va_W) ++ kRows pr gp cy) s.heap := hP
  have hl := lv_entry ([.ref h0, .int (zI k), .int (zI be), .ref pf]) (n := 9) (Nat.le_of_ble_eq_true rfl)
  rw [lg_entry_eq]
  generalize (lg_sl ([.ref h0, .int (zI k), .int (zI be), .ref pf]) ++ List.replicate (9 - (lg_sl ([.ref h0, .int (zI k), .int (zI be), .ref pf])).length) Slot.unset).toArray = ls at hl ⊢
  have hl : lv_has ls 9 [(0, .ref h0), (1, .int (zI k)), (2, .int (zI be)), (3, .ref pf)] := hl
  refine lv_iconst (v := zI 0) hx hb dX4_firstOfBest_0 rfl ?_
  refine lv_istore (lv' := [(4, .int (zI 0)), (0, .ref h0), (1, .int (zI k)), (2, .int (zI be)), (3, .ref pf)]) hx hb dX4_firstOfBest_1 hl (by decide) rfl (fun ls hl => ?_)
  refine lv_sipush (v := zI 1000) hx hb dX4_firstOfBest_3 (by decide) ?_
  refine lv_istore (lv' := [(5, .int (zI 1000)), (4, .int (zI 0)), (0, .ref h0), (1, .int (zI k)), (2, .int (zI be)), (3, .ref pf)]) hx hb dX4_firstOfBest_6 hl (by decide) rfl (fun ls hl => ?_)
  refine lv_iconst (v := zI 0) hx hb dX4_firstOfBest_8 rfl ?_
  refine lv_istore (lv' := [(6, .int (zI 0)), (5, .int (zI 1000)), (4, .int (zI 0)), (0, .ref h0), (1, .int (zI k)), (2, .int (zI be)), (3, .ref pf)]) hx hb dX4_firstOfBest_9 hl (by decide) rfl (fun ls hl => ?_)
  refine k_loopM (I := fun n9 H locs ls => ∃ (jx : Int) (jl : Int) (jk : Int), n9 = (pn - jk).toNat ∧ (0 ≤ jx ∧ jx ≤ 3) ∧ (rg jl ∧ jl ≤ 1000) ∧ (0 ≤ jk ∧ jk ≤ pn) ∧ (kFo gp o k be fp jk jx jl) ∧ H = s.heap ∧ locs = [] ∧ lv_has ls 9 [(6, .int (zI jk)), (5, .int (zI jl)), (4, .int (zI jx)), (0, .ref h0), (1, .int (zI k)), (2, .int (zI be)), (3, .ref pf)]) ?_ _ ⟨0, 1000, 0, rfl, (by omega), (by omega), (by omega), kFo_0, rfl, rfl, hl⟩
  intro n11 ih11 H locs ls hI
  obtain ⟨jx, jl, jk, en11, v_110, v_111, v_112, v_113, eH, eL, hl⟩ := hI
  subst eH
  subst eL
  refine lv_iload hx hb dX4_firstOfBest_11 (lv_at hl 0 rfl) ?_
  refine lv_aload_n hx hb dX4_firstOfBest_13 rfl (lv_at hl 6 rfl) ?_
  refine va_get (D := D) (ci := 1) (v := .int (zI pn)) (C := RX1) (T := TX1) (N := 2) hx hb hts (fun _ h9 => List.mem_cons_of_mem _ (List.mem_append_left _ (List.mem_append_right _ h9))) hown hK hP 2 rfl rfl 1 (by decide) (hts (.fieldLink RX4 92 "FontRuns$Preference" "count" "I") mw_X4_firstOfBest_b_0) (fun _ h9 => h9) rfl dX4_firstOfBest_14 ?_
  refine kz_icmp_ge (tgt := 79) hx hb dX4_firstOfBest_17 (by decide) (by omega) (by omega) (fun c_1 => ?_) (fun c_1 => ?_)
  · refine lv_iload hx hb dX4_firstOfBest_79 (lv_at hl 2 rfl) ?_
    exact W.iret (v := (zI jx)) hx hb hr (fun t ht hW => QcP_of (by omega) ⟨by omega, kFx_of v_113 (by omega)⟩ ht) (fun _ h9 => by cases h9) dX4_firstOfBest_81
  · refine lv_aload_n hx hb dX4_firstOfBest_20 rfl (lv_at hl 6 rfl) ?_
    refine va_get (D := D) (ci := 1) (v := .ref p1) (C := RX1) (T := TX1) (N := 2) hx hb hts (fun _ h9 => List.mem_cons_of_mem _ (List.mem_append_left _ (List.mem_append_right _ h9))) hown hK hP 2 rfl rfl 0 (by decide) (hts (.fieldLink RX4 95 "FontRuns$Preference" "row" "[I") mw_X4_firstOfBest_b_1) (fun _ h9 => h9) rfl dX4_firstOfBest_21 ?_
    refine lv_iload hx hb dX4_firstOfBest_24 (lv_at hl 0 rfl) ?_
    refine kz_iald hx hb hK hP 3 1 rfl rfl (by omega) dX4_firstOfBest_26 (fun z_2 rz_2 ez_2 => ?_)
    have bz_2 := kPr_at q3 (by omega) rz_2 ez_2
    refine lv_istore (lv' := [(7, .int (zI z_2)), (6, .int (zI jk)), (5, .int (zI jl)), (4, .int (zI jx)), (0, .ref h0), (1, .int (zI k)), (2, .int (zI be)), (3, .ref pf)]) hx hb dX4_firstOfBest_27 hl (by decide) rfl (fun ls hl => ?_)
    refine lv_aload_n hx hb dX4_firstOfBest_29 rfl (lv_at hl 4 rfl) ?_
    refine va_get (D := D) (ci := 4) (v := .ref g7) (C := RX4) (T := TX4) (N := 10) hx hb hts (fun _ h9 => List.mem_cons_of_mem _ (List.mem_append_right _ h9)) hown hK hP 0 rfl rfl 9 (by decide) (hts (.fieldLink RX4 32 "FontRuns$Setting" "behind" "[[I") mw_X4_firstOfBest_b_2) (fun _ h9 => h9) rfl dX4_firstOfBest_30 ?_
    refine lv_iload_n hx hb dX4_firstOfBest_33 rfl (lv_at hl 5 rfl) ?_
    refine kz_aald hx hb hK hP 1 0 rfl rfl (by omega) dX4_firstOfBest_34 (q4 _ (by omega)) ?_
    refine lv_iload hx hb dX4_firstOfBest_35 (lv_at hl 0 rfl) ?_
    refine kz_rowld (X := [(h0, .inr (4, [.ref g1, .ref g2, .ref g3, .ref g4, .ref g5, .int (zI cn), .int (zI bo), .int (zI ru), .ref g6, .ref g7])), (g7, .inl (cg7, 24, .inr (.inr (.inr (.inr (fo)))))), (pf, .inr (1, [.ref p1, .int (zI pn)])), (p1, .inl (cp1, 4, .inl fp))]) hx hb hK hP 2 rfl (by omega) (by omega) dX4_firstOfBest_37 (fun z_3 rz_3 ez_3 => ?_)
    refine lv_iload hx hb dX4_firstOfBest_38 (lv_at hl 0 rfl) ?_
    refine lv_iload_n hx hb dX4_firstOfBest_40 rfl (lv_at hl 6 rfl) ?_
    refine kz_icmp_eq (tgt := 50) hx hb dX4_firstOfBest_41 (by decide) (by omega) (by omega) (fun c_4 => ?_) (fun c_4 => ?_)
    · refine lv_iconst (v := zI 0) hx hb dX4_firstOfBest_50 rfl ?_
      refine lv_goto (tgt := 55) hx hb dX4_firstOfBest_51 (by decide) ?_
      refine kz_iadd hx hb dX4_firstOfBest_55 ?_
      refine kz_any (fun z_5 rz_5 ez_5 => ?_)
      refine lv_istore (lv' := [(8, .int (zI z_5)), (7, .int (zI z_2)), (6, .int (zI jk)), (5, .int (zI jl)), (4, .int (zI jx)), (0, .ref h0), (1, .int (zI k)), (2, .int (zI be)), (3, .ref pf)]) hx hb dX4_firstOfBest_56 hl (by decide) rfl (fun ls hl => ?_)
      refine lv_iload hx hb dX4_firstOfBest_58 (lv_at hl 0 rfl) ?_
      refine lv_iload hx hb dX4_firstOfBest_60 (lv_at hl 3 rfl) ?_
      refine kz_icmp_ge (tgt := 73) hx hb dX4_firstOfBest_62 (by decide) (by omega) (by omega) (fun c_6 => ?_) (fun c_6 => ?_)
      · refine lv_iinc (v := (zI (jk + 1))) (lv' := [(6, .int (zI (jk + 1))), (8, .int (zI z_5)), (7, .int (zI z_2)), (5, .int (zI jl)), (4, .int (zI jx)), (0, .ref h0), (1, .int (zI k)), (2, .int (zI be)), (3, .ref pf)]) hx hb dX4_firstOfBest_73 hl (k := 2) rfl (kz_inc _ 1) (by decide) rfl (fun ls hl => ?_)
        refine lv_goto (tgt := 11) hx hb dX4_firstOfBest_76 (by decide) ?_
        exact ih11 _ (by omega) _ _ _ ⟨jx, jl, (jk + 1), rfl, v_110, v_111, (by omega), (kFo_ge v_113 (by omega) (kVq_at q6 rz_2 ez_2 bz_2 rz_3 ez_3 (Or.inl ⟨by omega, rfl⟩) rz_5 ez_5) (by omega)), rfl, rfl, lv_sub hl [0, 3, 4, 5, 6, 7, 8] rfl⟩
      · refine lv_iload hx hb dX4_firstOfBest_65 (lv_at hl 0 rfl) ?_
        refine lv_istore (lv' := [(5, .int (zI z_5)), (8, .int (zI z_5)), (7, .int (zI z_2)), (6, .int (zI jk)), (4, .int (zI jx)), (0, .ref h0), (1, .int (zI k)), (2, .int (zI be)), (3, .ref pf)]) hx hb dX4_firstOfBest_67 hl (by decide) rfl (fun ls hl => ?_)
        refine lv_iload hx hb dX4_firstOfBest_69 (lv_at hl 2 rfl) ?_
        refine lv_istore (lv' := [(4, .int (zI z_2)), (5, .int (zI z_5)), (8, .int (zI z_5)), (7, .int (zI z_2)), (6, .int (zI jk)), (0, .ref h0), (1, .int (zI k)), (2, .int (zI be)), (3, .ref pf)]) hx hb dX4_firstOfBest_71 hl (by decide) rfl (fun ls hl => ?_)
        refine lv_iinc (v := (zI (jk + 1))) (lv' := [(6, .int (zI (jk + 1))), (4, .int (zI z_2)), (5, .int (zI z_5)), (8, .int (zI z_5)), (7, .int (zI z_2)), (0, .ref h0), (1, .int (zI k)), (2, .int (zI be)), (3, .ref pf)]) hx hb dX4_firstOfBest_73 hl (k := 4) rfl (kz_inc _ 1) (by decide) rfl (fun ls hl => ?_)
        refine lv_goto (tgt := 11) hx hb dX4_firstOfBest_76 (by decide) ?_
        exact ih11 _ (by omega) _ _ _ ⟨z_2, z_5, (jk + 1), rfl, (by omega), (by omega), (by omega), (kFo_lt v_113 (by omega) rz_2 ez_2 (kVq_at q6 rz_2 ez_2 bz_2 rz_3 ez_3 (Or.inl ⟨by omega, rfl⟩) rz_5 ez_5) (by omega)), rfl, rfl, lv_sub hl [0, 2, 1, 5, 6, 7, 8] rfl⟩
    · refine lv_iload_n hx hb dX4_firstOfBest_44 rfl (lv_at hl 6 rfl) ?_
      refine lv_bipush (v := zI (-9)) hx hb dX4_firstOfBest_45 (by decide) ?_
      refine kz_icmp_ne (tgt := 54) hx hb dX4_firstOfBest_47 (by decide) (by omega) (by omega) (fun c_7 => ?_) (fun c_7 => ?_)
      · refine lv_iconst (v := zI 1) hx hb dX4_firstOfBest_54 rfl ?_
        refine kz_iadd hx hb dX4_firstOfBest_55 ?_
        refine kz_any (fun z_8 rz_8 ez_8 => ?_)
        refine lv_istore (lv' := [(8, .int (zI z_8)), (7, .int (zI z_2)), (6, .int (zI jk)), (5, .int (zI jl)), (4, .int (zI jx)), (0, .ref h0), (1, .int (zI k)), (2, .int (zI be)), (3, .ref pf)]) hx hb dX4_firstOfBest_56 hl (by decide) rfl (fun ls hl => ?_)
        refine lv_iload hx hb dX4_firstOfBest_58 (lv_at hl 0 rfl) ?_
        refine lv_iload hx hb dX4_firstOfBest_60 (lv_at hl 3 rfl) ?_
        refine kz_icmp_ge (tgt := 73) hx hb dX4_firstOfBest_62 (by decide) (by omega) (by omega) (fun c_9 => ?_) (fun c_9 => ?_)
        · refine lv_iinc (v := (zI (jk + 1))) (lv' := [(6, .int (zI (jk + 1))), (8, .int (zI z_8)), (7, .int (zI z_2)), (5, .int (zI jl)), (4, .int (zI jx)), (0, .ref h0), (1, .int (zI k)), (2, .int (zI be)), (3, .ref pf)]) hx hb dX4_firstOfBest_73 hl (k := 2) rfl (kz_inc _ 1) (by decide) rfl (fun ls hl => ?_)
          refine lv_goto (tgt := 11) hx hb dX4_firstOfBest_76 (by decide) ?_
          exact ih11 _ (by omega) _ _ _ ⟨jx, jl, (jk + 1), rfl, v_110, v_111, (by omega), (kFo_ge v_113 (by omega) (kVq_at q6 rz_2 ez_2 bz_2 rz_3 ez_3 (Or.inr ⟨by omega, rfl⟩) rz_8 ez_8) (by omega)), rfl, rfl, lv_sub hl [0, 3, 4, 5, 6, 7, 8] rfl⟩
        · refine lv_iload hx hb dX4_firstOfBest_65 (lv_at hl 0 rfl) ?_
          refine lv_istore (lv' := [(5, .int (zI z_8)), (8, .int (zI z_8)), (7, .int (zI z_2)), (6, .int (zI jk)), (4, .int (zI jx)), (0, .ref h0), (1, .int (zI k)), (2, .int (zI be)), (3, .ref pf)]) hx hb dX4_firstOfBest_67 hl (by decide) rfl (fun ls hl => ?_)
          refine lv_iload hx hb dX4_firstOfBest_69 (lv_at hl 2 rfl) ?_
          refine lv_istore (lv' := [(4, .int (zI z_2)), (5, .int (zI z_8)), (8, .int (zI z_8)), (7, .int (zI z_2)), (6, .int (zI jk)), (0, .ref h0), (1, .int (zI k)), (2, .int (zI be)), (3, .ref pf)]) hx hb dX4_firstOfBest_71 hl (by decide) rfl (fun ls hl => ?_)
          refine lv_iinc (v := (zI (jk + 1))) (lv' := [(6, .int (zI (jk + 1))), (4, .int (zI z_2)), (5, .int (zI z_8)), (8, .int (zI z_8)), (7, .int (zI z_2)), (0, .ref h0), (1, .int (zI k)), (2, .int (zI be)), (3, .ref pf)]) hx hb dX4_firstOfBest_73 hl (k := 4) rfl (kz_inc _ 1) (by decide) rfl (fun ls hl => ?_)
          refine lv_goto (tgt := 11) hx hb dX4_firstOfBest_76 (by decide) ?_
          exact ih11 _ (by omega) _ _ _ ⟨z_2, z_8, (jk + 1), rfl, (by omega), (by omega), (by omega), (kFo_lt v_113 (by omega) rz_2 ez_2 (kVq_at q6 rz_2 ez_2 bz_2 rz_3 ez_3 (Or.inr ⟨by omega, rfl⟩) rz_8 ez_8) (by omega)), rfl, rfl, lv_sub hl [0, 2, 1, 5, 6, 7, 8] rfl⟩
      · refine lv_iconst (v := zI 0) hx hb dX4_firstOfBest_50 rfl ?_
        refine lv_goto (tgt := 55) hx hb dX4_firstOfBest_51 (by decide) ?_
        refine kz_iadd hx hb dX4_firstOfBest_55 ?_
        refine kz_any (fun z_10 rz_10 ez_10 => ?_)
        refine lv_istore (lv' := [(8, .int (zI z_10)), (7, .int (zI z_2)), (6, .int (zI jk)), (5, .int (zI jl)), (4, .int (zI jx)), (0, .ref h0), (1, .int (zI k)), (2, .int (zI be)), (3, .ref pf)]) hx hb dX4_firstOfBest_56 hl (by decide) rfl (fun ls hl => ?_)
        refine lv_iload hx hb dX4_firstOfBest_58 (lv_at hl 0 rfl) ?_
        refine lv_iload hx hb dX4_firstOfBest_60 (lv_at hl 3 rfl) ?_
        refine kz_icmp_ge (tgt := 73) hx hb dX4_firstOfBest_62 (by decide) (by omega) (by omega) (fun c_11 => ?_) (fun c_11 => ?_)
        · refine lv_iinc (v := (zI (jk + 1))) (lv' := [(6, .int (zI (jk + 1))), (8, .int (zI z_10)), (7, .int (zI z_2)), (5, .int (zI jl)), (4, .int (zI jx)), (0, .ref h0), (1, .int (zI k)), (2, .int (zI be)), (3, .ref pf)]) hx hb dX4_firstOfBest_73 hl (k := 2) rfl (kz_inc _ 1) (by decide) rfl (fun ls hl => ?_)
          refine lv_goto (tgt := 11) hx hb dX4_firstOfBest_76 (by decide) ?_
          exact ih11 _ (by omega) _ _ _ ⟨jx, jl, (jk + 1), rfl, v_110, v_111, (by omega), (kFo_ge v_113 (by omega) (kVq_at q6 rz_2 ez_2 bz_2 rz_3 ez_3 (Or.inl ⟨by omega, rfl⟩) rz_10 ez_10) (by omega)), rfl, rfl, lv_sub hl [0, 3, 4, 5, 6, 7, 8] rfl⟩
        · refine lv_iload hx hb dX4_firstOfBest_65 (lv_at hl 0 rfl) ?_
          refine lv_istore (lv' := [(5, .int (zI z_10)), (8, .int (zI z_10)), (7, .int (zI z_2)), (6, .int (zI jk)), (4, .int (zI jx)), (0, .ref h0), (1, .int (zI k)), (2, .int (zI be)), (3, .ref pf)]) hx hb dX4_firstOfBest_67 hl (by decide) rfl (fun ls hl => ?_)
          refine lv_iload hx hb dX4_firstOfBest_69 (lv_at hl 2 rfl) ?_
          refine lv_istore (lv' := [(4, .int (zI z_2)), (5, .int (zI z_10)), (8, .int (zI z_10)), (7, .int (zI z_2)), (6, .int (zI jk)), (0, .ref h0), (1, .int (zI k)), (2, .int (zI be)), (3, .ref pf)]) hx hb dX4_firstOfBest_71 hl (by decide) rfl (fun ls hl => ?_)
          refine lv_iinc (v := (zI (jk + 1))) (lv' := [(6, .int (zI (jk + 1))), (4, .int (zI z_2)), (5, .int (zI z_10)), (8, .int (zI z_10)), (7, .int (zI z_2)), (0, .ref h0), (1, .int (zI k)), (2, .int (zI be)), (3, .ref pf)]) hx hb dX4_firstOfBest_73 hl (k := 4) rfl (kz_inc _ 1) (by decide) rfl (fun ls hl => ?_)
          refine lv_goto (tgt := 11) hx hb dX4_firstOfBest_76 (by decide) ?_
          exact ih11 _ (by omega) _ _ _ ⟨z_2, z_10, (jk + 1), rfl, (by omega), (by omega), (by omega), (kFo_lt v_113 (by omega) rz_2 ez_2 (kVq_at q6 rz_2 ez_2 bz_2 rz_3 ez_3 (Or.inl ⟨by omega, rfl⟩) rz_10 ez_10) (by omega)), rfl, rfl, lv_sub hl [0, 2, 1, 5, 6, 7, 8] rfl⟩
set_option maxRecDepth 20000 in
theorem mw_X4_choose_b_0 : (.fieldLink RX4 59 "FontRuns$Setting" "runs" "I" : Cond) ∈ wsX4_choose := List.mem_cons_of_mem _ (List.mem_append_left _ (List.mem_append_left _ (List.mem_of_getElem? (i := 0) rfl)))
set_option maxRecDepth 20000 in
theorem mw_X4_choose_b_1 : (.fieldLink RX4 51 "FontRuns$Setting" "count" "I" : Cond) ∈ wsX4_choose := List.mem_cons_of_mem _ (List.mem_append_left _ (List.mem_append_left _ (List.mem_of_getElem? (i := 1) rfl)))
set_option maxRecDepth 20000 in
theorem mw_X4_choose_b_2 : (.fieldLink RX4 21 "FontRuns$Setting" "chosen" "[I" : Cond) ∈ wsX4_choose := List.mem_cons_of_mem _ (List.mem_append_left _ (List.mem_append_left _ (List.mem_of_getElem? (i := 2) rfl)))
set_option maxRecDepth 20000 in
theorem mw_X4_choose_b_3 : (.fieldLink RX4 24 "FontRuns$Setting" "runOf" "[I" : Cond) ∈ wsX4_choose := List.mem_cons_of_mem _ (List.mem_append_left _ (List.mem_append_left _ (List.mem_of_getElem? (i := 3) rfl)))
theorem ax_X4_choose_b_0 {e0 e1 e2 e3 e4 e5 : Nat × va_E} : ([0, 1, 2, 3, 4, 5] : List Nat).map (fun i => ([e0, e1, e2, e3, e4, e5] : va_W)[i]?) = ([e0, e1, e2, e3, e4, e5] : va_W).map some := rfl
theorem ax_X4_choose_b_1 {e0 e1 e2 e3 e4 e5 : Nat × va_E} : ([0, 3, 4, 5] : List Nat).map (fun i => ([e0, e1, e2, e3, e4, e5] : va_W)[i]?) = ([e0, e3, e4, e5] : va_W).map some := rfl
set_option maxHeartbeats 4000000 in
set_option maxRecDepth 100000 in
theorem c_X4_choose_b (l : Launch) (D : va_G) (sz : Nat) (pf : Nat) (h0 : Nat) (g1 : Nat) (g2 : Nat) (g3 : Nat) (g4 : Nat) (g5 : Nat) (cn : Int) (bo : Int) (ru : Int) (g6 : Nat) (g7 : Nat) (cg4 : ClassId) (f4 : Nat → Int32) (cg5 : ClassId) (f5 : Nat → Int32) (cg7 : ClassId) (fo : Nat → Option Nat) (o : Nat) (p1 : Nat) (pn : Int) (cp1 : ClassId) (fp : Nat → Int32) (pr : Nat → Nat) (gp : Nat → Nat → Int32) (cy : ClassId) (q0 : 0 ≤ cn ∧ cn ≤ 24) (q1 : 0 ≤ pn ∧ pn ≤ 4) (q2 : kPr fp) (q3 : kOut fo pr o 24) (q4 : o + 24 ≤ 56) (q5 : kBa gp o cn) : Met l yX4_choose wsX4_choose ({ frames := 1, cells := 0, slots := 0, locals := 28 }) (kPre [.ref h0, .ref pf] D (([(h0, .inr (4, [.ref g1, .ref g2, .ref g3, .ref g4, .ref g5, .int (zI cn), .int (zI bo), .int (zI ru), .ref g6, .ref g7])), (g4, .inl (cg4, 24, .inl f4)), (g5, .inl (cg5, 24, .inl f5)), (g7, .inl (cg7, 24, .inr (.inr (.inr (.inr (fo)))))), (pf, .inr (1, [.ref p1, .int (zI pn)])), (p1, .inl (cp1, 4, .inl fp))] : va_W) ++ kRows pr gp cy) [(cg4, .int), (cg5, .int), (cg7, .array .int), (cp1, .int), (cy, .int)] sz) (kQV (fun t => ∃ (ur : Int) (v4 : Nat → Int32) (v5 : Nat → Int32), (0 ≤ ur ∧ ur ≤ cn) ∧ (kCe gp o fp pn v4 cn) ∧ (ur = kRn v4 (kNa cn)) ∧ (kRo v5 v4 cn) ∧ va_P D vwCl (([(h0, .inr (4, [.ref g1, .ref g2, .ref g3, .ref g4, .ref g5, .int (zI cn), .int (zI bo), .int (zI ur), .ref g6, .ref g7])), (g4, .inl (cg4, 24, .inl v4)), (g5, .inl (cg5, 24, .inl v5)), (g7, .inl (cg7, 24, .inr (.inr (.inr (.inr (fo)))))), (pf, .inr (1, [.ref p1, .int (zI pn)])), (p1, .inl (cp1, 4, .inl fp))] : va_W) ++ kRows pr gp cy) t.heap ∧ va_D (va_A (([(h0, .inr (4, [.ref g1, .ref g2, .ref g3, .ref g4, .ref g5, .int (zI cn), .int (zI bo), .int (zI ru), .ref g6, .ref g7])), (g4, .inl (cg4, 24, .inl f4)), (g5, .inl (cg5, 24, .inl f5)), (g7, .inl (cg7, 24, .inr (.inr (.inr (.inr (fo)))))), (pf, .inr (1, [.ref p1, .int (zI pn)])), (p1, .inl (cp1, 4, .inl fp))] : va_W) ++ kRows pr gp cy) sz) (([(h0, .inr (4, [.ref g1, .ref g2, .ref g3, .ref g4, .ref g5, .int (zI cn), .int (zI bo), .int (zI ur), .ref g6, .ref g7])), (g4, .inl (cg4, 24, .inl v4)), (g5, .inl (cg5, 24, .inl v5)), (g7, .inl (cg7, 24, .inr (.inr (.inr (.inr (fo)))))), (pf, .inr (1, [.ref p1, .int (zI pn)])), (p1, .inl (cp1, 4, .inl fp))] : va_W) ++ kRows pr gp cy)) (va_A (([(h0, .inr (4, [.ref g1, .ref g2, .ref g3, .ref g4, .ref g5, .int (zI cn), .int (zI bo), .int (zI ru), .ref g6, .ref g7])), (g4, .inl (cg4, 24, .inl f4)), (g5, .inl (cg5, 24, .inl f5)), (g7, .inl (cg7, 24, .inr (.inr (.inr (.inr (fo)))))), (pf, .inr (1, [.ref p1, .int (zI pn)])), (p1, .inl (cp1, 4, .inl fp))] : va_W) ++ kRows pr gp cy) sz)) 0 0 (va_A (([(h0, .inr (4, [.ref g1, .ref g2, .ref g3, .ref g4, .ref g5, .int (zI cn), .int (zI bo), .int (zI ru), .ref g6, .ref g7])), (g4, .inl (cg4, 24, .inl f4)), (g5, .inl (cg5, 24, .inl f5)), (g7, .inl (cg7, 24, .inr (.inr (.inr (.inr (fo)))))), (pf, .inr (1, [.ref p1, .int (zI pn)])), (p1, .inl (cp1, 4, .inl fp))] : va_W) ++ kRows pr gp cy) sz) := by
  refine Met.ofW (cc := cX4_choose) (maxL := 4) (ret := none) (by decide) rfl ?_
  intro p e s m args below meth c s₁ B hml hv
  obtain ⟨rfl, hsz, hP, hK, hD0, hN⟩ := hv
  have hx := B.exec
  have hb := B.bytes
  have hr := B.returns
  have hts := atoms_spec (ws := wsX4_choose) B.pre
  have hown : s.vm.findClass RX4 = some m.cls := findClass_of_methodNamed B.named
  have hlocks := B.notSynchronized
  subst hsz
  have hD := hD0.self (sz := s.heap.size)
  generalize hAe : va_A (([(h0, .inr (4, [.ref g1, .ref g2, .ref g3, .ref g4, .ref g5, .int (zI cn), .int (zI bo), .int (zI ru), .ref g6, .ref g7])), (g4, .inl (cg4, 24, .inl f4)), (g5, .inl (cg5, 24, .inl f5)), (g7, .inl (cg7, 24, .inr (.inr (.inr (.inr (fo)))))), (pf, .inr (1, [.ref p1, .int (zI pn)])), (p1, .inl (cp1, 4, .inl fp))] : va_W) ++ kRows pr gp cy) s.heap.size = A at hD ⊢
  have hA : ∀ q : Nat, s.heap.size ≤ q → A q := fun q h => by rw [← hAe]; exact Or.inr h
  have hS : va_S A s.heap s.heap [] := va_S.rf
  have hP : va_P D vwCl (([(h0, .inr (4, [.ref g1, .ref g2, .ref g3, .ref g4, .ref g5, .int (zI cn), .int (zI bo), .int (zI ru), .ref g6, .ref g7])), (g4, .inl (cg4, 24, .inl f4)), (g5, .inl (cg5, 24, .inl f5)), (g7, .inl (cg7, 24, .inr (.inr (.inr (.inr (fo)))))), (pf, .inr (1, [.ref p1, .int (zI pn)])), (p1, .inl (cp1, 4, .inl fp))] : va_W) ++ kRows pr gp cy) s.heap := hP
  have hl := lv_entry ([.ref h0, .ref pf]) (n := 4) (Nat.le_of_ble_eq_true rfl)
  rw [lg_entry_eq]
  generalize (lg_sl ([.ref h0, .ref pf]) ++ List.replicate (4 - (lg_sl ([.ref h0, .ref pf])).length) Slot.unset).toArray = ls at hl ⊢
  have hl : lv_has ls 4 [(0, .ref h0), (1, .ref pf)] := hl
  refine lv_aload_n hx hb dX4_choose_0 rfl (lv_at hl 0 rfl) ?_
  refine lv_iconst (v := zI 0) hx hb dX4_choose_1 rfl ?_
  refine va_put (D := D) (ci := 4) (v := .int (zI 0)) (ty := .int) (C := RX4) (T := TX4) (N := 10) hx hb hts (fun _ h9 => List.mem_cons_of_mem _ (List.mem_append_left _ (List.mem_append_right _ h9))) tyX4 tyX4_ok nmX4 hown hK hP hD hS 0 rfl rfl 7 (by decide) (hts (.fieldLink RX4 59 "FontRuns$Setting" "runs" "I") mw_X4_choose_b_0) (fun _ h9 => h9) rfl (by decide +kernel) rfl rfl (Nat.le_of_ble_eq_true rfl) dX4_choose_2 (fun H locs hP hD hS => ?_)
  have hP : va_P D vwCl (([(h0, .inr (4, [.ref g1, .ref g2, .ref g3, .ref g4, .ref g5, .int (zI cn), .int (zI bo), .int (zI 0), .ref g6, .ref g7])), (g4, .inl (cg4, 24, .inl f4)), (g5, .inl (cg5, 24, .inl f5)), (g7, .inl (cg7, 24, .inr (.inr (.inr (.inr (fo)))))), (pf, .inr (1, [.ref p1, .int (zI pn)])), (p1, .inl (cp1, 4, .inl fp))] : va_W) ++ kRows pr gp cy) H := hP
  have hD : va_D A (([(h0, .inr (4, [.ref g1, .ref g2, .ref g3, .ref g4, .ref g5, .int (zI cn), .int (zI bo), .int (zI 0), .ref g6, .ref g7])), (g4, .inl (cg4, 24, .inl f4)), (g5, .inl (cg5, 24, .inl f5)), (g7, .inl (cg7, 24, .inr (.inr (.inr (.inr (fo)))))), (pf, .inr (1, [.ref p1, .int (zI pn)])), (p1, .inl (cp1, 4, .inl fp))] : va_W) ++ kRows pr gp cy) := hD
  refine lv_iconst (v := zI 0) hx hb dX4_choose_5 rfl ?_
  refine lv_istore_n (lv' := [(2, .int (zI 0)), (0, .ref h0), (1, .ref pf)]) hx hb dX4_choose_6 rfl hl (by decide) rfl (fun ls hl => ?_)
  refine k_loopM (I := fun n9 H locs ls => ∃ (jk : Int) (jr : Int) (ja : Nat → Int32) (jb : Nat → Int32), n9 = (cn - jk).toNat ∧ (0 ≤ jk ∧ jk ≤ cn) ∧ (0 ≤ jr ∧ jr ≤ jk) ∧ (kCe gp o fp pn ja jk) ∧ (jr = kRn ja (kNa jk)) ∧ (kRo jb ja jk) ∧ va_P D vwCl (([(h0, .inr (4, [.ref g1, .ref g2, .ref g3, .ref g4, .ref g5, .int (zI cn), .int (zI bo), .int (zI jr), .ref g6, .ref g7])), (g4, .inl (cg4, 24, .inl ja)), (g5, .inl (cg5, 24, .inl jb)), (g7, .inl (cg7, 24, .inr (.inr (.inr (.inr (fo)))))), (pf, .inr (1, [.ref p1, .int (zI pn)])), (p1, .inl (cp1, 4, .inl fp))] : va_W) ++ kRows pr gp cy) H ∧ va_D A (([(h0, .inr (4, [.ref g1, .ref g2, .ref g3, .ref g4, .ref g5, .int (zI cn), .int (zI bo), .int (zI jr), .ref g6, .ref g7])), (g4, .inl (cg4, 24, .inl ja)), (g5, .inl (cg5, 24, .inl jb)), (g7, .inl (cg7, 24, .inr (.inr (.inr (.inr (fo)))))), (pf, .inr (1, [.ref p1, .int (zI pn)])), (p1, .inl (cp1, 4, .inl fp))] : va_W) ++ kRows pr gp cy) ∧ va_S A s.heap H locs ∧ lv_has ls 4 [(2, .int (zI jk)), (0, .ref h0), (1, .ref pf)]) ?_ _ ⟨0, 0, f4, f5, rfl, (by omega), (by omega), kCe_0, rfl, kRo_0, hP, hD, hS, hl⟩
  intro n7 ih7 H locs ls hI
  obtain ⟨jk, jr, ja, jb, en7, v_70, v_71, v_72, v_73, v_74, hP, hD, hS, hl⟩ := hI
  refine lv_iload_n hx hb dX4_choose_7 rfl (lv_at hl 0 rfl) ?_
  refine lv_aload_n hx hb dX4_choose_8 rfl (lv_at hl 1 rfl) ?_
  refine va_get (D := D) (ci := 4) (v := .int (zI cn)) (C := RX4) (T := TX4) (N := 10) hx hb hts (fun _ h9 => List.mem_cons_of_mem _ (List.mem_append_left _ (List.mem_append_right _ h9))) hown hK hP 0 rfl rfl 5 (by decide) (hts (.fieldLink RX4 51 "FontRuns$Setting" "count" "I") mw_X4_choose_b_1) (fun _ h9 => h9) rfl dX4_choose_9 ?_
  refine kz_icmp_ge (tgt := 84) hx hb dX4_choose_12 (by decide) (by omega) (by omega) (fun c_1 => ?_) (fun c_1 => ?_)
  · have hP9 : va_P D vwCl (([(h0, .inr (4, [.ref g1, .ref g2, .ref g3, .ref g4, .ref g5, .int (zI cn), .int (zI bo), .int (zI jr), .ref g6, .ref g7])), (g4, .inl (cg4, 24, .inl ja)), (g5, .inl (cg5, 24, .inl jb)), (g7, .inl (cg7, 24, .inr (.inr (.inr (.inr (fo)))))), (pf, .inr (1, [.ref p1, .int (zI pn)])), (p1, .inl (cp1, 4, .inl fp))] : va_W) ++ kRows pr gp cy) H := hP.part [0, 1, 2, 3, 4, 5] ax_X4_choose_b_0
    have hD9 : va_D A (([(h0, .inr (4, [.ref g1, .ref g2, .ref g3, .ref g4, .ref g5, .int (zI cn), .int (zI bo), .int (zI jr), .ref g6, .ref g7])), (g4, .inl (cg4, 24, .inl ja)), (g5, .inl (cg5, 24, .inl jb)), (g7, .inl (cg7, 24, .inr (.inr (.inr (.inr (fo)))))), (pf, .inr (1, [.ref p1, .int (zI pn)])), (p1, .inl (cp1, 4, .inl fp))] : va_W) ++ kRows pr gp cy) := hD.part [0, 1, 2, 3, 4, 5] (by decide +kernel) ax_X4_choose_b_0
    exact W.vret hx hb hr (fun t ht hW => kQV_of ⟨jr, ja, jb, (by omega), (kCe_le v_72 (by omega)), (by have q9 : jk = cn := (by omega); rw [← q9]; exact v_73), (kRo_le v_74 (by omega)), by rw [ht]; exact hP9, hD9⟩ (hS.F ht)) hS.2.2 dX4_choose_84
  · refine lv_iload_n hx hb dX4_choose_15 rfl (lv_at hl 0 rfl) ?_
    refine kz_if_ne (tgt := 24) hx hb dX4_choose_16 (by decide) (by omega) (fun c_2 => ?_) (fun c_2 => ?_)
    · refine lv_aload_n hx hb dX4_choose_24 rfl (lv_at hl 1 rfl) ?_
      refine va_get (D := D) (ci := 4) (v := .ref g4) (C := RX4) (T := TX4) (N := 10) hx hb hts (fun _ h9 => List.mem_cons_of_mem _ (List.mem_append_left _ (List.mem_append_right _ h9))) hown hK hP 0 rfl rfl 3 (by decide) (hts (.fieldLink RX4 21 "FontRuns$Setting" "chosen" "[I") mw_X4_choose_b_2) (fun _ h9 => h9) rfl dX4_choose_25 ?_
      refine lv_iload_n hx hb dX4_choose_28 rfl (lv_at hl 0 rfl) ?_
      refine lv_iconst (v := zI 1) hx hb dX4_choose_29 rfl ?_
      refine kz_isub hx hb dX4_choose_30 ?_
      refine kz_iald hx hb hK hP 1 0 rfl rfl (by omega) dX4_choose_31 (fun z_3 rz_3 ez_3 => ?_)
      refine lv_istore_n (lv' := [(3, .int (zI z_3)), (2, .int (zI jk)), (0, .ref h0), (1, .ref pf)]) hx hb dX4_choose_32 rfl hl (by decide) rfl (fun ls hl => ?_)
      refine lv_aload_n hx hb dX4_choose_33 rfl (lv_at hl 2 rfl) ?_
      refine va_get (D := D) (ci := 4) (v := .ref g4) (C := RX4) (T := TX4) (N := 10) hx hb hts (fun _ h9 => List.mem_cons_of_mem _ (List.mem_append_left _ (List.mem_append_right _ h9))) hown hK hP 0 rfl rfl 3 (by decide) (hts (.fieldLink RX4 21 "FontRuns$Setting" "chosen" "[I") mw_X4_choose_b_2) (fun _ h9 => h9) rfl dX4_choose_34 ?_
      refine lv_iload_n hx hb dX4_choose_37 rfl (lv_at hl 1 rfl) ?_
      refine lv_aload_n hx hb dX4_choose_38 rfl (lv_at hl 2 rfl) ?_
      refine lv_iload_n hx hb dX4_choose_39 rfl (lv_at hl 1 rfl) ?_
      refine lv_iload_n hx hb dX4_choose_40 rfl (lv_at hl 0 rfl) ?_
      refine lv_aload_n hx hb dX4_choose_41 rfl (lv_at hl 3 rfl) ?_
      refine k_callP (va_runV (As := [.int (zI jk), .int (zI z_3), .ref pf]) (rest := [.int (zI jk), .ref g4]) ⟨hx, hb, hml, hown, hts⟩ (c_X4_firstOfBest_b l D H.size (k := jk) (be := z_3) (pf := pf) (h0 := h0) (g1 := g1) (g2 := g2) (g3 := g3) (g4 := g4) (g5 := g5) (cn := cn) (bo := bo) (ru := jr) (g6 := g6) (g7 := g7) (cg7 := cg7) (fo := fo) (o := o) (p1 := p1) (pn := pn) (cp1 := cp1) (fp := fp) (pr := pr) (gp := gp) (cy := cy) (by omega) (by omega) q1 q2 q3 q4 (q5 jk (by omega) (by omega))) (cwV 3 hts gX4_choose_X4_firstOfBest rfl rfl rfl (by decide +kernel) ⟨Nat.le_of_ble_eq_true rfl, Nat.le_of_ble_eq_true rfl⟩) (kPreVP hP (kD0 hD) hK hN [0, 3, 4, 5] [2, 3, 4] ax_X4_choose_b_1 rfl (by decide +kernel) 0 4 rfl rfl) rfl rfl hl.1 rfl (lv_room (Nat.le_of_ble_eq_true rfl)) dX4_choose_42 ⟨Nat.le_of_ble_eq_true rfl, Nat.le_of_ble_eq_true rfl⟩) (fun z_4 rz_4 h_5 => ?_)
      refine kz_iast hx hb hK hP hD hS 1 0 rfl rfl (by omega) dX4_choose_45 (fun H locs hP hD hS => ?_)
      have hP : va_P D vwCl (([(h0, .inr (4, [.ref g1, .ref g2, .ref g3, .ref g4, .ref g5, .int (zI cn), .int (zI bo), .int (zI jr), .ref g6, .ref g7])), (g4, .inl (cg4, 24, .inl (upd ja (jk).toNat (zI z_4)))), (g5, .inl (cg5, 24, .inl jb)), (g7, .inl (cg7, 24, .inr (.inr (.inr (.inr (fo)))))), (pf, .inr (1, [.ref p1, .int (zI pn)])), (p1, .inl (cp1, 4, .inl fp))] : va_W) ++ kRows pr gp cy) H := hP
      have hD : va_D A (([(h0, .inr (4, [.ref g1, .ref g2, .ref g3, .ref g4, .ref g5, .int (zI cn), .int (zI bo), .int (zI jr), .ref g6, .ref g7])), (g4, .inl (cg4, 24, .inl (upd ja (jk).toNat (zI z_4)))), (g5, .inl (cg5, 24, .inl jb)), (g7, .inl (cg7, 24, .inr (.inr (.inr (.inr (fo)))))), (pf, .inr (1, [.ref p1, .int (zI pn)])), (p1, .inl (cp1, 4, .inl fp))] : va_W) ++ kRows pr gp cy) := hD
      generalize ef_6 : upd ja (jk).toNat (zI z_4) = f_6 at hP hD
      refine lv_aload_n hx hb dX4_choose_46 rfl (lv_at hl 2 rfl) ?_
      refine va_get (D := D) (ci := 4) (v := .ref g4) (C := RX4) (T := TX4) (N := 10) hx hb hts (fun _ h9 => List.mem_cons_of_mem _ (List.mem_append_left _ (List.mem_append_right _ h9))) hown hK hP 0 rfl rfl 3 (by decide) (hts (.fieldLink RX4 21 "FontRuns$Setting" "chosen" "[I") mw_X4_choose_b_2) (fun _ h9 => h9) rfl dX4_choose_47 ?_
      refine lv_iload_n hx hb dX4_choose_50 rfl (lv_at hl 1 rfl) ?_
      refine kz_iald hx hb hK hP 1 0 rfl rfl (by omega) dX4_choose_51 (fun z_7 rz_7 ez_7 => ?_)
      have bz_7 : z_7 = z_4 := k_back rz_4 rz_7 ef_6 ez_7
      refine lv_iload_n hx hb dX4_choose_52 rfl (lv_at hl 0 rfl) ?_
      refine kz_icmp_eq (tgt := 66) hx hb dX4_choose_53 (by decide) (by omega) (by omega) (fun c_8 => ?_) (fun c_8 => ?_)
      · refine lv_aload_n hx hb dX4_choose_66 rfl (lv_at hl 2 rfl) ?_
        refine va_get (D := D) (ci := 4) (v := .ref g5) (C := RX4) (T := TX4) (N := 10) hx hb hts (fun _ h9 => List.mem_cons_of_mem _ (List.mem_append_left _ (List.mem_append_right _ h9))) hown hK hP 0 rfl rfl 4 (by decide) (hts (.fieldLink RX4 24 "FontRuns$Setting" "runOf" "[I") mw_X4_choose_b_3) (fun _ h9 => h9) rfl dX4_choose_67 ?_
        refine lv_iload_n hx hb dX4_choose_70 rfl (lv_at hl 1 rfl) ?_
        refine lv_aload_n hx hb dX4_choose_71 rfl (lv_at hl 2 rfl) ?_
        refine va_get (D := D) (ci := 4) (v := .int (zI jr)) (C := RX4) (T := TX4) (N := 10) hx hb hts (fun _ h9 => List.mem_cons_of_mem _ (List.mem_append_left _ (List.mem_append_right _ h9))) hown hK hP 0 rfl rfl 7 (by decide) (hts (.fieldLink RX4 59 "FontRuns$Setting" "runs" "I") mw_X4_choose_b_0) (fun _ h9 => h9) rfl dX4_choose_72 ?_
        refine lv_iconst (v := zI 1) hx hb dX4_choose_75 rfl ?_
        refine kz_isub hx hb dX4_choose_76 ?_
        refine kz_iast hx hb hK hP hD hS 2 1 rfl rfl (by omega) dX4_choose_77 (fun H locs hP hD hS => ?_)
        have hP : va_P D vwCl (([(h0, .inr (4, [.ref g1, .ref g2, .ref g3, .ref g4, .ref g5, .int (zI cn), .int (zI bo), .int (zI jr), .ref g6, .ref g7])), (g4, .inl (cg4, 24, .inl f_6)), (g5, .inl (cg5, 24, .inl (upd jb (jk).toNat (zI (jr - 1))))), (g7, .inl (cg7, 24, .inr (.inr (.inr (.inr (fo)))))), (pf, .inr (1, [.ref p1, .int (zI pn)])), (p1, .inl (cp1, 4, .inl fp))] : va_W) ++ kRows pr gp cy) H := hP
        have hD : va_D A (([(h0, .inr (4, [.ref g1, .ref g2, .ref g3, .ref g4, .ref g5, .int (zI cn), .int (zI bo), .int (zI jr), .ref g6, .ref g7])), (g4, .inl (cg4, 24, .inl f_6)), (g5, .inl (cg5, 24, .inl (upd jb (jk).toNat (zI (jr - 1))))), (g7, .inl (cg7, 24, .inr (.inr (.inr (.inr (fo)))))), (pf, .inr (1, [.ref p1, .int (zI pn)])), (p1, .inl (cp1, 4, .inl fp))] : va_W) ++ kRows pr gp cy) := hD
        generalize ef_9 : upd jb (jk).toNat (zI (jr - 1)) = f_9 at hP hD
        refine lv_iinc (v := (zI (jk + 1))) (lv' := [(2, .int (zI (jk + 1))), (3, .int (zI z_3)), (0, .ref h0), (1, .ref pf)]) hx hb dX4_choose_78 hl (k := 1) rfl (kz_inc _ 1) (by decide) rfl (fun ls hl => ?_)
        refine lv_goto (tgt := 7) hx hb dX4_choose_81 (by decide) ?_
        exact ih7 _ (by omega) _ _ _ ⟨(jk + 1), jr, f_6, f_9, rfl, (by omega), (by omega), (kCe_s v_72 (by omega) (Or.inr ⟨by omega, rz_3, ez_3⟩) h_5.2 h_5.1 ef_6), (kRn_y v_73 (by omega) (by omega) rz_3 ez_3 (by omega) ef_6 (by omega)), (kRo_s v_74 (by omega) ef_6 (kRn_y v_73 (by omega) (by omega) rz_3 ez_3 (by omega) ef_6 (by omega)) (by omega) ef_9), hP, hD, hS, lv_sub hl [0, 2, 3] rfl⟩
      · refine lv_aload_n hx hb dX4_choose_56 rfl (lv_at hl 2 rfl) ?_
        refine lv_dup hx hb dX4_choose_57 rfl ?_
        refine va_get (D := D) (ci := 4) (v := .int (zI jr)) (C := RX4) (T := TX4) (N := 10) hx hb hts (fun _ h9 => List.mem_cons_of_mem _ (List.mem_append_left _ (List.mem_append_right _ h9))) hown hK hP 0 rfl rfl 7 (by decide) (hts (.fieldLink RX4 59 "FontRuns$Setting" "runs" "I") mw_X4_choose_b_0) (fun _ h9 => h9) rfl dX4_choose_58 ?_
        refine lv_iconst (v := zI 1) hx hb dX4_choose_61 rfl ?_
        refine kz_iadd hx hb dX4_choose_62 ?_
        refine va_put (D := D) (ci := 4) (v := .int (zI (jr + 1))) (ty := .int) (C := RX4) (T := TX4) (N := 10) hx hb hts (fun _ h9 => List.mem_cons_of_mem _ (List.mem_append_left _ (List.mem_append_right _ h9))) tyX4 tyX4_ok nmX4 hown hK hP hD hS 0 rfl rfl 7 (by decide) (hts (.fieldLink RX4 59 "FontRuns$Setting" "runs" "I") mw_X4_choose_b_0) (fun _ h9 => h9) rfl (by decide +kernel) rfl rfl (Nat.le_of_ble_eq_true rfl) dX4_choose_63 (fun H locs hP hD hS => ?_)
        have hP : va_P D vwCl (([(h0, .inr (4, [.ref g1, .ref g2, .ref g3, .ref g4, .ref g5, .int (zI cn), .int (zI bo), .int (zI (jr + 1)), .ref g6, .ref g7])), (g4, .inl (cg4, 24, .inl f_6)), (g5, .inl (cg5, 24, .inl jb)), (g7, .inl (cg7, 24, .inr (.inr (.inr (.inr (fo)))))), (pf, .inr (1, [.ref p1, .int (zI pn)])), (p1, .inl (cp1, 4, .inl fp))] : va_W) ++ kRows pr gp cy) H := hP
        have hD : va_D A (([(h0, .inr (4, [.ref g1, .ref g2, .ref g3, .ref g4, .ref g5, .int (zI cn), .int (zI bo), .int (zI (jr + 1)), .ref g6, .ref g7])), (g4, .inl (cg4, 24, .inl f_6)), (g5, .inl (cg5, 24, .inl jb)), (g7, .inl (cg7, 24, .inr (.inr (.inr (.inr (fo)))))), (pf, .inr (1, [.ref p1, .int (zI pn)])), (p1, .inl (cp1, 4, .inl fp))] : va_W) ++ kRows pr gp cy) := hD
        refine lv_aload_n hx hb dX4_choose_66 rfl (lv_at hl 2 rfl) ?_
        refine va_get (D := D) (ci := 4) (v := .ref g5) (C := RX4) (T := TX4) (N := 10) hx hb hts (fun _ h9 => List.mem_cons_of_mem _ (List.mem_append_left _ (List.mem_append_right _ h9))) hown hK hP 0 rfl rfl 4 (by decide) (hts (.fieldLink RX4 24 "FontRuns$Setting" "runOf" "[I") mw_X4_choose_b_3) (fun _ h9 => h9) rfl dX4_choose_67 ?_
        refine lv_iload_n hx hb dX4_choose_70 rfl (lv_at hl 1 rfl) ?_
        refine lv_aload_n hx hb dX4_choose_71 rfl (lv_at hl 2 rfl) ?_
        refine va_get (D := D) (ci := 4) (v := .int (zI (jr + 1))) (C := RX4) (T := TX4) (N := 10) hx hb hts (fun _ h9 => List.mem_cons_of_mem _ (List.mem_append_left _ (List.mem_append_right _ h9))) hown hK hP 0 rfl rfl 7 (by decide) (hts (.fieldLink RX4 59 "FontRuns$Setting" "runs" "I") mw_X4_choose_b_0) (fun _ h9 => h9) rfl dX4_choose_72 ?_
        refine lv_iconst (v := zI 1) hx hb dX4_choose_75 rfl ?_
        refine kz_isub hx hb dX4_choose_76 ?_
        refine kz_iast hx hb hK hP hD hS 2 1 rfl rfl (by omega) dX4_choose_77 (fun H locs hP hD hS => ?_)
        have hP : va_P D vwCl (([(h0, .inr (4, [.ref g1, .ref g2, .ref g3, .ref g4, .ref g5, .int (zI cn), .int (zI bo), .int (zI (jr + 1)), .ref g6, .ref g7])), (g4, .inl (cg4, 24, .inl f_6)), (g5, .inl (cg5, 24, .inl (upd jb (jk).toNat (zI ((jr + 1) - 1))))), (g7, .inl (cg7, 24, .inr (.inr (.inr (.inr (fo)))))), (pf, .inr (1, [.ref p1, .int (zI pn)])), (p1, .inl (cp1, 4, .inl fp))] : va_W) ++ kRows pr gp cy) H := hP
        have hD : va_D A (([(h0, .inr (4, [.ref g1, .ref g2, .ref g3, .ref g4, .ref g5, .int (zI cn), .int (zI bo), .int (zI (jr + 1)), .ref g6, .ref g7])), (g4, .inl (cg4, 24, .inl f_6)), (g5, .inl (cg5, 24, .inl (upd jb (jk).toNat (zI ((jr + 1) - 1))))), (g7, .inl (cg7, 24, .inr (.inr (.inr (.inr (fo)))))), (pf, .inr (1, [.ref p1, .int (zI pn)])), (p1, .inl (cp1, 4, .inl fp))] : va_W) ++ kRows pr gp cy) := hD
        generalize ef_10 : upd jb (jk).toNat (zI ((jr + 1) - 1)) = f_10 at hP hD
        refine lv_iinc (v := (zI (jk + 1))) (lv' := [(2, .int (zI (jk + 1))), (3, .int (zI z_3)), (0, .ref h0), (1, .ref pf)]) hx hb dX4_choose_78 hl (k := 1) rfl (kz_inc _ 1) (by decide) rfl (fun ls hl => ?_)
        refine lv_goto (tgt := 7) hx hb dX4_choose_81 (by decide) ?_
        exact ih7 _ (by omega) _ _ _ ⟨(jk + 1), (jr + 1), f_6, f_10, rfl, (by omega), (by omega), (kCe_s v_72 (by omega) (Or.inr ⟨by omega, rz_3, ez_3⟩) h_5.2 h_5.1 ef_6), (kRn_n v_73 (by omega) (by omega) rz_3 ez_3 (by omega) ef_6 (by omega)), (kRo_s v_74 (by omega) ef_6 (kRn_n v_73 (by omega) (by omega) rz_3 ez_3 (by omega) ef_6 (by omega)) (by omega) ef_10), hP, hD, hS, lv_sub hl [0, 2, 3] rfl⟩
    · refine lv_bipush (v := zI (-9)) hx hb dX4_choose_19 (by decide) ?_
      refine lv_goto (tgt := 32) hx hb dX4_choose_21 (by decide) ?_
      refine lv_istore_n (lv' := [(3, .int (zI (-9))), (2, .int (zI jk)), (0, .ref h0), (1, .ref pf)]) hx hb dX4_choose_32 rfl hl (by decide) rfl (fun ls hl => ?_)
      refine lv_aload_n hx hb dX4_choose_33 rfl (lv_at hl 2 rfl) ?_
      refine va_get (D := D) (ci := 4) (v := .ref g4) (C := RX4) (T := TX4) (N := 10) hx hb hts (fun _ h9 => List.mem_cons_of_mem _ (List.mem_append_left _ (List.mem_append_right _ h9))) hown hK hP 0 rfl rfl 3 (by decide) (hts (.fieldLink RX4 21 "FontRuns$Setting" "chosen" "[I") mw_X4_choose_b_2) (fun _ h9 => h9) rfl dX4_choose_34 ?_
      refine lv_iload_n hx hb dX4_choose_37 rfl (lv_at hl 1 rfl) ?_
      refine lv_aload_n hx hb dX4_choose_38 rfl (lv_at hl 2 rfl) ?_
      refine lv_iload_n hx hb dX4_choose_39 rfl (lv_at hl 1 rfl) ?_
      refine lv_iload_n hx hb dX4_choose_40 rfl (lv_at hl 0 rfl) ?_
      refine lv_aload_n hx hb dX4_choose_41 rfl (lv_at hl 3 rfl) ?_
      refine k_callP (va_runV (As := [.int (zI jk), .int (zI (-9)), .ref pf]) (rest := [.int (zI jk), .ref g4]) ⟨hx, hb, hml, hown, hts⟩ (c_X4_firstOfBest_b l D H.size (k := jk) (be := (-9)) (pf := pf) (h0 := h0) (g1 := g1) (g2 := g2) (g3 := g3) (g4 := g4) (g5 := g5) (cn := cn) (bo := bo) (ru := jr) (g6 := g6) (g7 := g7) (cg7 := cg7) (fo := fo) (o := o) (p1 := p1) (pn := pn) (cp1 := cp1) (fp := fp) (pr := pr) (gp := gp) (cy := cy) (by omega) (by omega) q1 q2 q3 q4 (q5 jk (by omega) (by omega))) (cwV 3 hts gX4_choose_X4_firstOfBest rfl rfl rfl (by decide +kernel) ⟨Nat.le_of_ble_eq_true rfl, Nat.le_of_ble_eq_true rfl⟩) (kPreVP hP (kD0 hD) hK hN [0, 3, 4, 5] [2, 3, 4] ax_X4_choose_b_1 rfl (by decide +kernel) 0 4 rfl rfl) rfl rfl hl.1 rfl (lv_room (Nat.le_of_ble_eq_true rfl)) dX4_choose_42 ⟨Nat.le_of_ble_eq_true rfl, Nat.le_of_ble_eq_true rfl⟩) (fun z_11 rz_11 h_12 => ?_)
      refine kz_iast hx hb hK hP hD hS 1 0 rfl rfl (by omega) dX4_choose_45 (fun H locs hP hD hS => ?_)
      have hP : va_P D vwCl (([(h0, .inr (4, [.ref g1, .ref g2, .ref g3, .ref g4, .ref g5, .int (zI cn), .int (zI bo), .int (zI jr), .ref g6, .ref g7])), (g4, .inl (cg4, 24, .inl (upd ja (jk).toNat (zI z_11)))), (g5, .inl (cg5, 24, .inl jb)), (g7, .inl (cg7, 24, .inr (.inr (.inr (.inr (fo)))))), (pf, .inr (1, [.ref p1, .int (zI pn)])), (p1, .inl (cp1, 4, .inl fp))] : va_W) ++ kRows pr gp cy) H := hP
      have hD : va_D A (([(h0, .inr (4, [.ref g1, .ref g2, .ref g3, .ref g4, .ref g5, .int (zI cn), .int (zI bo), .int (zI jr), .ref g6, .ref g7])), (g4, .inl (cg4, 24, .inl (upd ja (jk).toNat (zI z_11)))), (g5, .inl (cg5, 24, .inl jb)), (g7, .inl (cg7, 24, .inr (.inr (.inr (.inr (fo)))))), (pf, .inr (1, [.ref p1, .int (zI pn)])), (p1, .inl (cp1, 4, .inl fp))] : va_W) ++ kRows pr gp cy) := hD
      generalize ef_13 : upd ja (jk).toNat (zI z_11) = f_13 at hP hD
      refine lv_aload_n hx hb dX4_choose_46 rfl (lv_at hl 2 rfl) ?_
      refine va_get (D := D) (ci := 4) (v := .ref g4) (C := RX4) (T := TX4) (N := 10) hx hb hts (fun _ h9 => List.mem_cons_of_mem _ (List.mem_append_left _ (List.mem_append_right _ h9))) hown hK hP 0 rfl rfl 3 (by decide) (hts (.fieldLink RX4 21 "FontRuns$Setting" "chosen" "[I") mw_X4_choose_b_2) (fun _ h9 => h9) rfl dX4_choose_47 ?_
      refine lv_iload_n hx hb dX4_choose_50 rfl (lv_at hl 1 rfl) ?_
      refine kz_iald hx hb hK hP 1 0 rfl rfl (by omega) dX4_choose_51 (fun z_14 rz_14 ez_14 => ?_)
      have bz_14 : z_14 = z_11 := k_back rz_11 rz_14 ef_13 ez_14
      refine lv_iload_n hx hb dX4_choose_52 rfl (lv_at hl 0 rfl) ?_
      refine kz_icmp_eq (tgt := 66) hx hb dX4_choose_53 (by decide) (by omega) (by omega) (fun c_15 => ?_) (fun c_15 => ?_)
      · omega
      · refine lv_aload_n hx hb dX4_choose_56 rfl (lv_at hl 2 rfl) ?_
        refine lv_dup hx hb dX4_choose_57 rfl ?_
        refine va_get (D := D) (ci := 4) (v := .int (zI jr)) (C := RX4) (T := TX4) (N := 10) hx hb hts (fun _ h9 => List.mem_cons_of_mem _ (List.mem_append_left _ (List.mem_append_right _ h9))) hown hK hP 0 rfl rfl 7 (by decide) (hts (.fieldLink RX4 59 "FontRuns$Setting" "runs" "I") mw_X4_choose_b_0) (fun _ h9 => h9) rfl dX4_choose_58 ?_
        refine lv_iconst (v := zI 1) hx hb dX4_choose_61 rfl ?_
        refine kz_iadd hx hb dX4_choose_62 ?_
        refine va_put (D := D) (ci := 4) (v := .int (zI (jr + 1))) (ty := .int) (C := RX4) (T := TX4) (N := 10) hx hb hts (fun _ h9 => List.mem_cons_of_mem _ (List.mem_append_left _ (List.mem_append_right _ h9))) tyX4 tyX4_ok nmX4 hown hK hP hD hS 0 rfl rfl 7 (by decide) (hts (.fieldLink RX4 59 "FontRuns$Setting" "runs" "I") mw_X4_choose_b_0) (fun _ h9 => h9) rfl (by decide +kernel) rfl rfl (Nat.le_of_ble_eq_true rfl) dX4_choose_63 (fun H locs hP hD hS => ?_)
        have hP : va_P D vwCl (([(h0, .inr (4, [.ref g1, .ref g2, .ref g3, .ref g4, .ref g5, .int (zI cn), .int (zI bo), .int (zI (jr + 1)), .ref g6, .ref g7])), (g4, .inl (cg4, 24, .inl f_13)), (g5, .inl (cg5, 24, .inl jb)), (g7, .inl (cg7, 24, .inr (.inr (.inr (.inr (fo)))))), (pf, .inr (1, [.ref p1, .int (zI pn)])), (p1, .inl (cp1, 4, .inl fp))] : va_W) ++ kRows pr gp cy) H := hP
        have hD : va_D A (([(h0, .inr (4, [.ref g1, .ref g2, .ref g3, .ref g4, .ref g5, .int (zI cn), .int (zI bo), .int (zI (jr + 1)), .ref g6, .ref g7])), (g4, .inl (cg4, 24, .inl f_13)), (g5, .inl (cg5, 24, .inl jb)), (g7, .inl (cg7, 24, .inr (.inr (.inr (.inr (fo)))))), (pf, .inr (1, [.ref p1, .int (zI pn)])), (p1, .inl (cp1, 4, .inl fp))] : va_W) ++ kRows pr gp cy) := hD
        refine lv_aload_n hx hb dX4_choose_66 rfl (lv_at hl 2 rfl) ?_
        refine va_get (D := D) (ci := 4) (v := .ref g5) (C := RX4) (T := TX4) (N := 10) hx hb hts (fun _ h9 => List.mem_cons_of_mem _ (List.mem_append_left _ (List.mem_append_right _ h9))) hown hK hP 0 rfl rfl 4 (by decide) (hts (.fieldLink RX4 24 "FontRuns$Setting" "runOf" "[I") mw_X4_choose_b_3) (fun _ h9 => h9) rfl dX4_choose_67 ?_
        refine lv_iload_n hx hb dX4_choose_70 rfl (lv_at hl 1 rfl) ?_
        refine lv_aload_n hx hb dX4_choose_71 rfl (lv_at hl 2 rfl) ?_
        refine va_get (D := D) (ci := 4) (v := .int (zI (jr + 1))) (C := RX4) (T := TX4) (N := 10) hx hb hts (fun _ h9 => List.mem_cons_of_mem _ (List.mem_append_left _ (List.mem_append_right _ h9))) hown hK hP 0 rfl rfl 7 (by decide) (hts (.fieldLink RX4 59 "FontRuns$Setting" "runs" "I") mw_X4_choose_b_0) (fun _ h9 => h9) rfl dX4_choose_72 ?_
        refine lv_iconst (v := zI 1) hx hb dX4_choose_75 rfl ?_
        refine kz_isub hx hb dX4_choose_76 ?_
        refine kz_iast hx hb hK hP hD hS 2 1 rfl rfl (by omega) dX4_choose_77 (fun H locs hP hD hS => ?_)
        have hP : va_P D vwCl (([(h0, .inr (4, [.ref g1, .ref g2, .ref g3, .ref g4, .ref g5, .int (zI cn), .int (zI bo), .int (zI (jr + 1)), .ref g6, .ref g7])), (g4, .inl (cg4, 24, .inl f_13)), (g5, .inl (cg5, 24, .inl (upd jb (jk).toNat (zI ((jr + 1) - 1))))), (g7, .inl (cg7, 24, .inr (.inr (.inr (.inr (fo)))))), (pf, .inr (1, [.ref p1, .int (zI pn)])), (p1, .inl (cp1, 4, .inl fp))] : va_W) ++ kRows pr gp cy) H := hP
        have hD : va_D A (([(h0, .inr (4, [.ref g1, .ref g2, .ref g3, .ref g4, .ref g5, .int (zI cn), .int (zI bo), .int (zI (jr + 1)), .ref g6, .ref g7])), (g4, .inl (cg4, 24, .inl f_13)), (g5, .inl (cg5, 24, .inl (upd jb (jk).toNat (zI ((jr + 1) - 1))))), (g7, .inl (cg7, 24, .inr (.inr (.inr (.inr (fo)))))), (pf, .inr (1, [.ref p1, .int (zI pn)])), (p1, .inl (cp1, 4, .inl fp))] : va_W) ++ kRows pr gp cy) := hD
        generalize ef_16 : upd jb (jk).toNat (zI ((jr + 1) - 1)) = f_16 at hP hD
        refine lv_iinc (v := (zI (jk + 1))) (lv' := [(2, .int (zI (jk + 1))), (3, .int (zI (-9))), (0, .ref h0), (1, .ref pf)]) hx hb dX4_choose_78 hl (k := 1) rfl (kz_inc _ 1) (by decide) rfl (fun ls hl => ?_)
        refine lv_goto (tgt := 7) hx hb dX4_choose_81 (by decide) ?_
        exact ih7 _ (by omega) _ _ _ ⟨(jk + 1), (jr + 1), f_13, f_16, rfl, (by omega), (by omega), (kCe_s v_72 (by omega) (Or.inl ⟨by omega, rfl⟩) h_12.2 h_12.1 ef_13), (kRn_z v_73 (by omega)), (kRo_s v_74 (by omega) ef_13 (kRn_z v_73 (by omega)) (by omega) ef_16), hP, hD, hS, lv_sub hl [0, 2, 3] rfl⟩
