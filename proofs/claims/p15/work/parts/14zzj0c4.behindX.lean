set_option maxRecDepth 20000 in
theorem mw_X4_findBehind_b_0 : (.fieldLink RX4 51 "FontRuns$Setting" "count" "I" : Cond) ∈ wsX4_findBehind := List.mem_cons_of_mem _ (List.mem_append_left _ (List.mem_of_getElem? (i := 0) rfl))
set_option maxRecDepth 20000 in
theorem mw_X4_findBehind_b_1 : (.fieldLink RX4 18 "FontRuns$Setting" "fitting" "[I" : Cond) ∈ wsX4_findBehind := List.mem_cons_of_mem _ (List.mem_append_left _ (List.mem_of_getElem? (i := 1) rfl))
set_option maxRecDepth 20000 in
theorem mw_X4_findBehind_b_2 : (.fieldLink RX4 32 "FontRuns$Setting" "behind" "[[I" : Cond) ∈ wsX4_findBehind := List.mem_cons_of_mem _ (List.mem_append_left _ (List.mem_of_getElem? (i := 2) rfl))
set_option maxRecDepth 20000 in
theorem mw_X4_findBehind_b_3 : (.methodLink RX4 85 Lib.Math.min.name : Cond) ∈ wsX4_findBehind := List.mem_cons_of_mem _ (List.mem_append_left _ (List.mem_of_getElem? (i := 3) rfl))
set_option maxRecDepth 20000 in
theorem mw_X4_findBehind_b_4 : (.static Lib.Math.min.name : Cond) ∈ wsX4_findBehind := List.mem_cons_of_mem _ (List.mem_append_left _ (List.mem_of_getElem? (i := 4) rfl))
set_option maxRecDepth 20000 in
theorem mw_X4_findBehind_b_5 : (.initialized "java/lang/Math" : Cond) ∈ wsX4_findBehind := List.mem_cons_of_mem _ (List.mem_append_left _ (List.mem_of_getElem? (i := 5) rfl))
set_option maxRecDepth 20000 in
theorem mw_X4_findBehind_b_6 : (.code Lib.Math.min.name Lib.Math.min.code 2 (some .int) : Cond) ∈ wsX4_findBehind := List.mem_cons_of_mem _ (List.mem_append_left _ (List.mem_of_getElem? (i := 6) rfl))
theorem ax_X4_findBehind_b_0 {e0 e1 e2 : Nat × va_E} : ([0, 1, 2] : List Nat).map (fun i => ([e0, e1, e2] : va_W)[i]?) = ([e0, e1, e2] : va_W).map some := rfl
set_option maxHeartbeats 4000000 in
set_option maxRecDepth 100000 in
theorem c_X4_findBehind_b (l : Launch) (D : va_G) (sz : Nat) (al : Int) (h0 : Nat) (g1 : Nat) (g2 : Nat) (g3 : Nat) (g4 : Nat) (g5 : Nat) (cn : Int) (bo : Int) (ru : Int) (g6 : Nat) (g7 : Nat) (cg3 : ClassId) (f3 : Nat → Int32) (cg7 : ClassId) (fo : Nat → Option Nat) (o : Nat) (pr : Nat → Nat) (gp : Nat → Nat → Int32) (cy : ClassId) (q0 : rg al) (q1 : 0 ≤ cn ∧ cn ≤ 24) (q2 : kOut fo pr o 24) (q3 : o + 24 ≤ 56) : Met l yX4_findBehind wsX4_findBehind ({ frames := 1, cells := 0, slots := 0, locals := 21 }) (kPre [.ref h0, .int (zI al)] D (([(h0, .inr (4, [.ref g1, .ref g2, .ref g3, .ref g4, .ref g5, .int (zI cn), .int (zI bo), .int (zI ru), .ref g6, .ref g7])), (g3, .inl (cg3, 24, .inl f3)), (g7, .inl (cg7, 24, .inr (.inr (.inr (.inr (fo))))))] : va_W) ++ kRows pr gp cy) [(cg3, .int), (cg7, .array .int), (cy, .int)] sz) (kQV (fun t => ∃ (ug : Nat → Nat → Int32), (kBh ug o f3 (zI al) cn 0) ∧ va_P D vwCl (([(h0, .inr (4, [.ref g1, .ref g2, .ref g3, .ref g4, .ref g5, .int (zI cn), .int (zI bo), .int (zI ru), .ref g6, .ref g7])), (g3, .inl (cg3, 24, .inl f3)), (g7, .inl (cg7, 24, .inr (.inr (.inr (.inr (fo))))))] : va_W) ++ kRows pr ug cy) t.heap ∧ va_D (va_A (([(h0, .inr (4, [.ref g1, .ref g2, .ref g3, .ref g4, .ref g5, .int (zI cn), .int (zI bo), .int (zI ru), .ref g6, .ref g7])), (g3, .inl (cg3, 24, .inl f3)), (g7, .inl (cg7, 24, .inr (.inr (.inr (.inr (fo))))))] : va_W) ++ kRows pr gp cy) sz) (([(h0, .inr (4, [.ref g1, .ref g2, .ref g3, .ref g4, .ref g5, .int (zI cn), .int (zI bo), .int (zI ru), .ref g6, .ref g7])), (g3, .inl (cg3, 24, .inl f3)), (g7, .inl (cg7, 24, .inr (.inr (.inr (.inr (fo))))))] : va_W) ++ kRows pr ug cy)) (va_A (([(h0, .inr (4, [.ref g1, .ref g2, .ref g3, .ref g4, .ref g5, .int (zI cn), .int (zI bo), .int (zI ru), .ref g6, .ref g7])), (g3, .inl (cg3, 24, .inl f3)), (g7, .inl (cg7, 24, .inr (.inr (.inr (.inr (fo))))))] : va_W) ++ kRows pr gp cy) sz)) 0 0 (va_A (([(h0, .inr (4, [.ref g1, .ref g2, .ref g3, .ref g4, .ref g5, .int (zI cn), .int (zI bo), .int (zI ru), .ref g6, .ref g7])), (g3, .inl (cg3, 24, .inl f3)), (g7, .inl (cg7, 24, .inr (.inr (.inr (.inr (fo))))))] : va_W) ++ kRows pr gp cy) sz) := by
  refine Met.ofW (cc := cX4_findBehind) (maxL := 8) (ret := none) (by decide) rfl ?_
  intro p e s m args below meth c s₁ B hml hv
  obtain ⟨rfl, hsz, hP, hK, hD0, hN⟩ := hv
  have hx := B.exec
  have hb := B.bytes
  have hr := B.returns
  have hts := atoms_spec (ws := wsX4_findBehind) B.pre
  have hown : s.vm.findClass RX4 = some m.cls := findClass_of_methodNamed B.named
  have hlocks := B.notSynchronized
  subst hsz
  have hD := hD0.self (sz := s.heap.size)
  generalize hAe : va_A (([(h0, .inr (4, [.ref g1, .ref g2, .ref g3, .ref g4, .ref g5, .int (zI cn), .int (zI bo), .int (zI ru), .ref g6, .ref g7])), (g3, .inl (cg3, 24, .inl f3)), (g7, .inl (cg7, 24, .inr (.inr (.inr (.inr (fo))))))] : va_W) ++ kRows pr gp cy) s.heap.size = A at hD ⊢
  have hA : ∀ q : Nat, s.heap.size ≤ q → A q := fun q h => by rw [← hAe]; exact Or.inr h
  have hS : va_S A s.heap s.heap [] := va_S.rf
  have hP : va_P D vwCl (([(h0, .inr (4, [.ref g1, .ref g2, .ref g3, .ref g4, .ref g5, .int (zI cn), .int (zI bo), .int (zI ru), .ref g6, .ref g7])), (g3, .inl (cg3, 24, .inl f3)), (g7, .inl (cg7, 24, .inr (.inr (.inr (.inr (fo))))))] : va_W) ++ kRows pr gp cy) s.heap := hP
  have hl := lv_entry ([.ref h0, .int (zI al)]) (n := 8) (Nat.le_of_ble_eq_true rfl)
  rw [lg_entry_eq]
  generalize (lg_sl ([.ref h0, .int (zI al)]) ++ List.replicate (8 - (lg_sl ([.ref h0, .int (zI al)])).length) Slot.unset).toArray = ls at hl ⊢
  have hl : lv_has ls 8 [(0, .ref h0), (1, .int (zI al))] := hl
  refine lv_iconst (v := zI 0) hx hb dX4_findBehind_0 rfl ?_
  refine lv_istore_n (lv' := [(2, .int (zI 0)), (0, .ref h0), (1, .int (zI al))]) hx hb dX4_findBehind_1 rfl hl (by decide) rfl (fun ls hl => ?_)
  refine lv_aload_n hx hb dX4_findBehind_2 rfl (lv_at hl 1 rfl) ?_
  refine va_get (D := D) (ci := 4) (v := .int (zI cn)) (C := RX4) (T := TX4) (N := 10) hx hb hts (fun _ h9 => List.mem_cons_of_mem _ (List.mem_append_right _ h9)) hown hK hP 0 rfl rfl 5 (by decide) (hts (.fieldLink RX4 51 "FontRuns$Setting" "count" "I") mw_X4_findBehind_b_0) (fun _ h9 => h9) rfl dX4_findBehind_3 ?_
  refine lv_iconst (v := zI 1) hx hb dX4_findBehind_6 rfl ?_
  refine kz_isub hx hb dX4_findBehind_7 ?_
  refine lv_istore_n (lv' := [(3, .int (zI (cn - 1))), (2, .int (zI 0)), (0, .ref h0), (1, .int (zI al))]) hx hb dX4_findBehind_8 rfl hl (by decide) rfl (fun ls hl => ?_)
  refine k_loopM (I := fun n9 H locs ls => ∃ (jl : Int) (jk : Int) (jp : Nat → Nat → Int32), n9 = (jk + 1).toNat ∧ (0 ≤ jl ∧ jl ≤ 1000) ∧ (-1 ≤ jk ∧ jk ≤ cn - 1) ∧ (kBh jp o f3 (zI al) cn (jk + 1)) ∧ (kLl jp o cn (jk + 1) jl) ∧ va_P D vwCl (([(h0, .inr (4, [.ref g1, .ref g2, .ref g3, .ref g4, .ref g5, .int (zI cn), .int (zI bo), .int (zI ru), .ref g6, .ref g7])), (g3, .inl (cg3, 24, .inl f3)), (g7, .inl (cg7, 24, .inr (.inr (.inr (.inr (fo))))))] : va_W) ++ kRows pr jp cy) H ∧ va_D A (([(h0, .inr (4, [.ref g1, .ref g2, .ref g3, .ref g4, .ref g5, .int (zI cn), .int (zI bo), .int (zI ru), .ref g6, .ref g7])), (g3, .inl (cg3, 24, .inl f3)), (g7, .inl (cg7, 24, .inr (.inr (.inr (.inr (fo))))))] : va_W) ++ kRows pr jp cy) ∧ va_S A s.heap H locs ∧ lv_has ls 8 [(3, .int (zI jk)), (2, .int (zI jl)), (0, .ref h0), (1, .int (zI al))]) ?_ _ ⟨0, (cn - 1), gp, rfl, (by omega), (by omega), (kBh_top (by omega)), (kLl_top (by omega)), hP, hD, hS, hl⟩
  intro n9 ih9 H locs ls hI
  obtain ⟨jl, jk, jp, en9, v_90, v_91, v_92, v_93, hP, hD, hS, hl⟩ := hI
  refine lv_iload_n hx hb dX4_findBehind_9 rfl (lv_at hl 0 rfl) ?_
  refine kz_if_lt (tgt := 139) hx hb dX4_findBehind_10 (by decide) (by omega) (fun c_1 => ?_) (fun c_1 => ?_)
  · have hP9 : va_P D vwCl (([(h0, .inr (4, [.ref g1, .ref g2, .ref g3, .ref g4, .ref g5, .int (zI cn), .int (zI bo), .int (zI ru), .ref g6, .ref g7])), (g3, .inl (cg3, 24, .inl f3)), (g7, .inl (cg7, 24, .inr (.inr (.inr (.inr (fo))))))] : va_W) ++ kRows pr jp cy) H := hP.part [0, 1, 2] ax_X4_findBehind_b_0
    have hD9 : va_D A (([(h0, .inr (4, [.ref g1, .ref g2, .ref g3, .ref g4, .ref g5, .int (zI cn), .int (zI bo), .int (zI ru), .ref g6, .ref g7])), (g3, .inl (cg3, 24, .inl f3)), (g7, .inl (cg7, 24, .inr (.inr (.inr (.inr (fo))))))] : va_W) ++ kRows pr jp cy) := hD.part [0, 1, 2] (by decide +kernel) ax_X4_findBehind_b_0
    exact W.vret hx hb hr (fun t ht hW => kQV_of ⟨jp, (by have q9 : jk + 1 = 0 := (by omega); rw [← q9]; exact v_92), by rw [ht]; exact hP9, hD9⟩ (hS.F ht)) hS.2.2 dX4_findBehind_139
  · refine lv_aload_n hx hb dX4_findBehind_13 rfl (lv_at hl 2 rfl) ?_
    refine va_get (D := D) (ci := 4) (v := .ref g3) (C := RX4) (T := TX4) (N := 10) hx hb hts (fun _ h9 => List.mem_cons_of_mem _ (List.mem_append_right _ h9)) hown hK hP 0 rfl rfl 2 (by decide) (hts (.fieldLink RX4 18 "FontRuns$Setting" "fitting" "[I") mw_X4_findBehind_b_1) (fun _ h9 => h9) rfl dX4_findBehind_14 ?_
    refine lv_iload_n hx hb dX4_findBehind_17 rfl (lv_at hl 0 rfl) ?_
    refine kz_iald hx hb hK hP 1 0 rfl rfl (by omega) dX4_findBehind_18 (fun z_2 rz_2 ez_2 => ?_)
    refine kz_if_ne (tgt := 26) hx hb dX4_findBehind_19 (by decide) (by omega) (fun c_3 => ?_) (fun c_3 => ?_)
    · refine lv_aload_n hx hb dX4_findBehind_26 rfl (lv_at hl 2 rfl) ?_
      refine va_get (D := D) (ci := 4) (v := .ref g3) (C := RX4) (T := TX4) (N := 10) hx hb hts (fun _ h9 => List.mem_cons_of_mem _ (List.mem_append_right _ h9)) hown hK hP 0 rfl rfl 2 (by decide) (hts (.fieldLink RX4 18 "FontRuns$Setting" "fitting" "[I") mw_X4_findBehind_b_1) (fun _ h9 => h9) rfl dX4_findBehind_27 ?_
      refine lv_iload_n hx hb dX4_findBehind_30 rfl (lv_at hl 0 rfl) ?_
      refine kz_iald hx hb hK hP 1 0 rfl rfl (by omega) dX4_findBehind_31 (fun z_4 rz_4 ez_4 => ?_)
      have q9 : z_2 = z_4 := (zI_eq rz_2 rz_4).mp (ez_2.symm.trans ez_4)
      subst q9
      refine kz_any (fun z_5 rz_5 ez_5 => ?_)
      refine lv_istore (lv' := [(4, .int (zI z_5)), (3, .int (zI jk)), (2, .int (zI jl)), (0, .ref h0), (1, .int (zI al))]) hx hb dX4_findBehind_32 hl (by decide) rfl (fun ls hl => ?_)
      refine lv_sipush (v := zI 1000) hx hb dX4_findBehind_34 (by decide) ?_
      refine lv_istore (lv' := [(5, .int (zI 1000)), (4, .int (zI z_5)), (3, .int (zI jk)), (2, .int (zI jl)), (0, .ref h0), (1, .int (zI al))]) hx hb dX4_findBehind_37 hl (by decide) rfl (fun ls hl => ?_)
      refine lv_iconst (v := zI 0) hx hb dX4_findBehind_39 rfl ?_
      refine lv_istore (lv' := [(6, .int (zI 0)), (5, .int (zI 1000)), (4, .int (zI z_5)), (3, .int (zI jk)), (2, .int (zI jl)), (0, .ref h0), (1, .int (zI al))]) hx hb dX4_findBehind_40 hl (by decide) rfl (fun ls hl => ?_)
      refine k_loopM (I := fun n9 H locs ls => ∃ (jh : Int) (jf : Int) (jq : Nat → Nat → Int32), n9 = (4 - jf).toNat ∧ (0 ≤ jh ∧ jh ≤ 1000) ∧ (0 ≤ jf ∧ jf ≤ 4) ∧ (kBh jq o f3 (zI al) cn (jk + 1)) ∧ (kLl jq o cn (jk + 1) jl) ∧ (kBw jq o f3 (zI al) cn jk jf) ∧ (kLs jq o jk jf jh) ∧ va_P D vwCl (([(h0, .inr (4, [.ref g1, .ref g2, .ref g3, .ref g4, .ref g5, .int (zI cn), .int (zI bo), .int (zI ru), .ref g6, .ref g7])), (g3, .inl (cg3, 24, .inl f3)), (g7, .inl (cg7, 24, .inr (.inr (.inr (.inr (fo))))))] : va_W) ++ kRows pr jq cy) H ∧ va_D A (([(h0, .inr (4, [.ref g1, .ref g2, .ref g3, .ref g4, .ref g5, .int (zI cn), .int (zI bo), .int (zI ru), .ref g6, .ref g7])), (g3, .inl (cg3, 24, .inl f3)), (g7, .inl (cg7, 24, .inr (.inr (.inr (.inr (fo))))))] : va_W) ++ kRows pr jq cy) ∧ va_S A s.heap H locs ∧ lv_has ls 8 [(6, .int (zI jf)), (5, .int (zI jh)), (4, .int (zI z_5)), (3, .int (zI jk)), (2, .int (zI jl)), (0, .ref h0), (1, .int (zI al))]) ?_ _ ⟨1000, 0, jp, rfl, (by omega), (by omega), v_92, v_93, kBw_0, kLs_0, hP, hD, hS, hl⟩
      intro n42 ih42 H locs ls hI
      obtain ⟨jh, jf, jq, en42, v_420, v_421, v_422, v_423, v_424, v_425, hP, hD, hS, hl⟩ := hI
      have ox : zI z_5 = kOx (f3 jk.toNat) (zI al) := kOx_1 ez_2 rz_2 c_3 ez_2 ez_5
      refine lv_iload hx hb dX4_findBehind_42 (lv_at hl 0 rfl) ?_
      refine lv_iconst (v := zI 4) hx hb dX4_findBehind_44 rfl ?_
      refine kz_icmp_ge (tgt := 130) hx hb dX4_findBehind_45 (by decide) (by omega) (by omega) (fun c_6 => ?_) (fun c_6 => ?_)
      · refine lv_iload hx hb dX4_findBehind_130 (lv_at hl 1 rfl) ?_
        refine lv_istore_n (lv' := [(2, .int (zI jh)), (6, .int (zI jf)), (5, .int (zI jh)), (4, .int (zI z_5)), (3, .int (zI jk)), (0, .ref h0), (1, .int (zI al))]) hx hb dX4_findBehind_132 rfl hl (by decide) rfl (fun ls hl => ?_)
        refine lv_iinc (v := (zI (jk - 1))) (lv' := [(3, .int (zI (jk - 1))), (2, .int (zI jh)), (6, .int (zI jf)), (5, .int (zI jh)), (4, .int (zI z_5)), (0, .ref h0), (1, .int (zI al))]) hx hb dX4_findBehind_133 hl (k := 4) rfl (kz_dec _ 1) (by decide) rfl (fun ls hl => ?_)
        refine lv_goto (tgt := 9) hx hb dX4_findBehind_136 (by decide) ?_
        exact ih9 _ (by omega) _ _ _ ⟨jh, (jk - 1), jq, rfl, v_420, (by omega), (kBh_dn v_422 v_424 (by omega) (by omega)), (kLl_of ((show jf = 4 by omega) ▸ v_425) (by omega) (by omega) ((show jf = 4 by omega) ▸ v_424)), hP, hD, hS, lv_sub hl [0, 1, 5, 6] rfl⟩
      · refine lv_iload_n hx hb dX4_findBehind_48 rfl (lv_at hl 3 rfl) ?_
        refine lv_iconst (v := zI 1) hx hb dX4_findBehind_49 rfl ?_
        refine kz_iadd hx hb dX4_findBehind_50 ?_
        refine lv_aload_n hx hb dX4_findBehind_51 rfl (lv_at hl 5 rfl) ?_
        refine va_get (D := D) (ci := 4) (v := .int (zI cn)) (C := RX4) (T := TX4) (N := 10) hx hb hts (fun _ h9 => List.mem_cons_of_mem _ (List.mem_append_right _ h9)) hown hK hP 0 rfl rfl 5 (by decide) (hts (.fieldLink RX4 51 "FontRuns$Setting" "count" "I") mw_X4_findBehind_b_0) (fun _ h9 => h9) rfl dX4_findBehind_52 ?_
        refine kz_icmp_ge (tgt := 72) hx hb dX4_findBehind_55 (by decide) (by omega) (by omega) (fun c_7 => ?_) (fun c_7 => ?_)
        · refine lv_iconst (v := zI 0) hx hb dX4_findBehind_72 rfl ?_
          refine lv_istore (lv' := [(7, .int (zI 0)), (6, .int (zI jf)), (5, .int (zI jh)), (4, .int (zI z_5)), (3, .int (zI jk)), (2, .int (zI jl)), (0, .ref h0), (1, .int (zI al))]) hx hb dX4_findBehind_73 hl (by decide) rfl (fun ls hl => ?_)
          refine lv_aload_n hx hb dX4_findBehind_75 rfl (lv_at hl 6 rfl) ?_
          refine va_get (D := D) (ci := 4) (v := .ref g7) (C := RX4) (T := TX4) (N := 10) hx hb hts (fun _ h9 => List.mem_cons_of_mem _ (List.mem_append_right _ h9)) hown hK hP 0 rfl rfl 9 (by decide) (hts (.fieldLink RX4 32 "FontRuns$Setting" "behind" "[[I") mw_X4_findBehind_b_2) (fun _ h9 => h9) rfl dX4_findBehind_76 ?_
          refine lv_iload_n hx hb dX4_findBehind_79 rfl (lv_at hl 4 rfl) ?_
          refine kz_aald hx hb hK hP 2 1 rfl rfl (by omega) dX4_findBehind_80 (q2 _ (by omega)) ?_
          refine lv_iload hx hb dX4_findBehind_81 (lv_at hl 1 rfl) ?_
          refine lv_iload hx hb dX4_findBehind_83 (lv_at hl 3 rfl) ?_
          refine lv_iload hx hb dX4_findBehind_85 (lv_at hl 1 rfl) ?_
          refine lv_ishr hx hb dX4_findBehind_87 ?_
          refine kz_any (fun z_8 rz_8 ez_8 => ?_)
          refine lv_iconst (v := zI 1) hx hb dX4_findBehind_88 rfl ?_
          refine lv_iand hx hb dX4_findBehind_89 ?_
          refine kz_any (fun z_9 rz_9 ez_9 => ?_)
          refine kz_if_ne (tgt := 99) hx hb dX4_findBehind_90 (by decide) (by omega) (fun c_10 => ?_) (fun c_10 => ?_)
          · refine lv_iload hx hb dX4_findBehind_99 (lv_at hl 0 rfl) ?_
            refine lv_iload_n hx hb dX4_findBehind_101 rfl (lv_at hl 5 rfl) ?_
            refine lv_iconst (v := zI 1) hx hb dX4_findBehind_102 rfl ?_
            refine kz_iadd hx hb dX4_findBehind_103 ?_
            refine kz_min hx hb (by rw [hml]; exact hl.1.symm) hown (hts (.methodLink RX4 85 Lib.Math.min.name) mw_X4_findBehind_b_3) (hts (.static Lib.Math.min.name) mw_X4_findBehind_b_4) (hts (.initialized "java/lang/Math") mw_X4_findBehind_b_5) (hts (.code Lib.Math.min.name Lib.Math.min.code 2 (some .int)) mw_X4_findBehind_b_6) (Nat.le_of_ble_eq_true rfl) (Nat.le_of_ble_eq_true rfl) (Nat.le_of_ble_eq_true rfl) (Nat.le_of_ble_eq_true rfl) (by omega) (by omega) dX4_findBehind_104 (fun z_11 rz_11 ez_11 => ?_)
            refine kz_rowst (X := [(h0, .inr (4, [.ref g1, .ref g2, .ref g3, .ref g4, .ref g5, .int (zI cn), .int (zI bo), .int (zI ru), .ref g6, .ref g7])), (g3, .inl (cg3, 24, .inl f3)), (g7, .inl (cg7, 24, .inr (.inr (.inr (.inr (fo))))))]) hx hb hK hP hD hS 2 rfl (by omega) (by omega) dX4_findBehind_107 (fun H locs hP hD hS => ?_)
            generalize egp_12 : va_up jq (o + (jk).toNat) (upd (jq (o + (jk).toNat)) (jf).toNat (zI z_11)) = gp_12 at hP hD
            have hP : va_P D vwCl (([(h0, .inr (4, [.ref g1, .ref g2, .ref g3, .ref g4, .ref g5, .int (zI cn), .int (zI bo), .int (zI ru), .ref g6, .ref g7])), (g3, .inl (cg3, 24, .inl f3)), (g7, .inl (cg7, 24, .inr (.inr (.inr (.inr (fo))))))] : va_W) ++ kRows pr gp_12 cy) H := hP
            have hD : va_D A (([(h0, .inr (4, [.ref g1, .ref g2, .ref g3, .ref g4, .ref g5, .int (zI cn), .int (zI bo), .int (zI ru), .ref g6, .ref g7])), (g3, .inl (cg3, 24, .inl f3)), (g7, .inl (cg7, 24, .inr (.inr (.inr (.inr (fo))))))] : va_W) ++ kRows pr gp_12 cy) := hD
            refine lv_iload hx hb dX4_findBehind_108 (lv_at hl 2 rfl) ?_
            refine lv_aload_n hx hb dX4_findBehind_110 rfl (lv_at hl 6 rfl) ?_
            refine va_get (D := D) (ci := 4) (v := .ref g7) (C := RX4) (T := TX4) (N := 10) hx hb hts (fun _ h9 => List.mem_cons_of_mem _ (List.mem_append_right _ h9)) hown hK hP 0 rfl rfl 9 (by decide) (hts (.fieldLink RX4 32 "FontRuns$Setting" "behind" "[[I") mw_X4_findBehind_b_2) (fun _ h9 => h9) rfl dX4_findBehind_111 ?_
            refine lv_iload_n hx hb dX4_findBehind_114 rfl (lv_at hl 4 rfl) ?_
            refine kz_aald hx hb hK hP 2 1 rfl rfl (by omega) dX4_findBehind_115 (q2 _ (by omega)) ?_
            refine lv_iload hx hb dX4_findBehind_116 (lv_at hl 1 rfl) ?_
            refine kz_rowld (X := [(h0, .inr (4, [.ref g1, .ref g2, .ref g3, .ref g4, .ref g5, .int (zI cn), .int (zI bo), .int (zI ru), .ref g6, .ref g7])), (g3, .inl (cg3, 24, .inl f3)), (g7, .inl (cg7, 24, .inr (.inr (.inr (.inr (fo))))))]) hx hb hK hP 2 rfl (by omega) (by omega) dX4_findBehind_118 (fun z_13 rz_13 ez_13 => ?_)
            refine kz_min hx hb (by rw [hml]; exact hl.1.symm) hown (hts (.methodLink RX4 85 Lib.Math.min.name) mw_X4_findBehind_b_3) (hts (.static Lib.Math.min.name) mw_X4_findBehind_b_4) (hts (.initialized "java/lang/Math") mw_X4_findBehind_b_5) (hts (.code Lib.Math.min.name Lib.Math.min.code 2 (some .int)) mw_X4_findBehind_b_6) (Nat.le_of_ble_eq_true rfl) (Nat.le_of_ble_eq_true rfl) (Nat.le_of_ble_eq_true rfl) (Nat.le_of_ble_eq_true rfl) (by omega) (by omega) dX4_findBehind_119 (fun z_14 rz_14 ez_14 => ?_)
            refine lv_istore (lv' := [(5, .int (zI z_14)), (7, .int (zI 0)), (6, .int (zI jf)), (4, .int (zI z_5)), (3, .int (zI jk)), (2, .int (zI jl)), (0, .ref h0), (1, .int (zI al))]) hx hb dX4_findBehind_122 hl (by decide) rfl (fun ls hl => ?_)
            refine lv_iinc (v := (zI (jf + 1))) (lv' := [(6, .int (zI (jf + 1))), (5, .int (zI z_14)), (7, .int (zI 0)), (4, .int (zI z_5)), (3, .int (zI jk)), (2, .int (zI jl)), (0, .ref h0), (1, .int (zI al))]) hx hb dX4_findBehind_124 hl (k := 2) rfl (kz_inc _ 1) (by decide) rfl (fun ls hl => ?_)
            refine lv_goto (tgt := 42) hx hb dX4_findBehind_127 (by decide) ?_
            exact ih42 _ (by omega) _ _ _ ⟨z_14, (jf + 1), gp_12, rfl, (kLs_b (kLs_s v_425 (by omega) egp_12 rz_13 ez_13 ez_14) (kBw_last v_424 (by omega) egp_12 (kOp_y ox ez_8 ez_9 rz_9 c_10) v_423 (by omega) ez_11)), (by omega), (kBh_keep v_422 (by omega) egp_12), (kLl_keep v_423 (by omega) egp_12), (kBw_last v_424 (by omega) egp_12 (kOp_y ox ez_8 ez_9 rz_9 c_10) v_423 (by omega) ez_11), (kLs_s v_425 (by omega) egp_12 rz_13 ez_13 ez_14), hP, hD, hS, lv_sub hl [0, 1, 3, 4, 5, 6, 7] rfl⟩
          · refine lv_sipush (v := zI 1000) hx hb dX4_findBehind_93 (by decide) ?_
            refine lv_goto (tgt := 107) hx hb dX4_findBehind_96 (by decide) ?_
            refine kz_rowst (X := [(h0, .inr (4, [.ref g1, .ref g2, .ref g3, .ref g4, .ref g5, .int (zI cn), .int (zI bo), .int (zI ru), .ref g6, .ref g7])), (g3, .inl (cg3, 24, .inl f3)), (g7, .inl (cg7, 24, .inr (.inr (.inr (.inr (fo))))))]) hx hb hK hP hD hS 2 rfl (by omega) (by omega) dX4_findBehind_107 (fun H locs hP hD hS => ?_)
            generalize egp_15 : va_up jq (o + (jk).toNat) (upd (jq (o + (jk).toNat)) (jf).toNat (zI 1000)) = gp_15 at hP hD
            have hP : va_P D vwCl (([(h0, .inr (4, [.ref g1, .ref g2, .ref g3, .ref g4, .ref g5, .int (zI cn), .int (zI bo), .int (zI ru), .ref g6, .ref g7])), (g3, .inl (cg3, 24, .inl f3)), (g7, .inl (cg7, 24, .inr (.inr (.inr (.inr (fo))))))] : va_W) ++ kRows pr gp_15 cy) H := hP
            have hD : va_D A (([(h0, .inr (4, [.ref g1, .ref g2, .ref g3, .ref g4, .ref g5, .int (zI cn), .int (zI bo), .int (zI ru), .ref g6, .ref g7])), (g3, .inl (cg3, 24, .inl f3)), (g7, .inl (cg7, 24, .inr (.inr (.inr (.inr (fo))))))] : va_W) ++ kRows pr gp_15 cy) := hD
            refine lv_iload hx hb dX4_findBehind_108 (lv_at hl 2 rfl) ?_
            refine lv_aload_n hx hb dX4_findBehind_110 rfl (lv_at hl 6 rfl) ?_
            refine va_get (D := D) (ci := 4) (v := .ref g7) (C := RX4) (T := TX4) (N := 10) hx hb hts (fun _ h9 => List.mem_cons_of_mem _ (List.mem_append_right _ h9)) hown hK hP 0 rfl rfl 9 (by decide) (hts (.fieldLink RX4 32 "FontRuns$Setting" "behind" "[[I") mw_X4_findBehind_b_2) (fun _ h9 => h9) rfl dX4_findBehind_111 ?_
            refine lv_iload_n hx hb dX4_findBehind_114 rfl (lv_at hl 4 rfl) ?_
            refine kz_aald hx hb hK hP 2 1 rfl rfl (by omega) dX4_findBehind_115 (q2 _ (by omega)) ?_
            refine lv_iload hx hb dX4_findBehind_116 (lv_at hl 1 rfl) ?_
            refine kz_rowld (X := [(h0, .inr (4, [.ref g1, .ref g2, .ref g3, .ref g4, .ref g5, .int (zI cn), .int (zI bo), .int (zI ru), .ref g6, .ref g7])), (g3, .inl (cg3, 24, .inl f3)), (g7, .inl (cg7, 24, .inr (.inr (.inr (.inr (fo))))))]) hx hb hK hP 2 rfl (by omega) (by omega) dX4_findBehind_118 (fun z_16 rz_16 ez_16 => ?_)
            refine kz_min hx hb (by rw [hml]; exact hl.1.symm) hown (hts (.methodLink RX4 85 Lib.Math.min.name) mw_X4_findBehind_b_3) (hts (.static Lib.Math.min.name) mw_X4_findBehind_b_4) (hts (.initialized "java/lang/Math") mw_X4_findBehind_b_5) (hts (.code Lib.Math.min.name Lib.Math.min.code 2 (some .int)) mw_X4_findBehind_b_6) (Nat.le_of_ble_eq_true rfl) (Nat.le_of_ble_eq_true rfl) (Nat.le_of_ble_eq_true rfl) (Nat.le_of_ble_eq_true rfl) (by omega) (by omega) dX4_findBehind_119 (fun z_17 rz_17 ez_17 => ?_)
            refine lv_istore (lv' := [(5, .int (zI z_17)), (7, .int (zI 0)), (6, .int (zI jf)), (4, .int (zI z_5)), (3, .int (zI jk)), (2, .int (zI jl)), (0, .ref h0), (1, .int (zI al))]) hx hb dX4_findBehind_122 hl (by decide) rfl (fun ls hl => ?_)
            refine lv_iinc (v := (zI (jf + 1))) (lv' := [(6, .int (zI (jf + 1))), (5, .int (zI z_17)), (7, .int (zI 0)), (4, .int (zI z_5)), (3, .int (zI jk)), (2, .int (zI jl)), (0, .ref h0), (1, .int (zI al))]) hx hb dX4_findBehind_124 hl (k := 2) rfl (kz_inc _ 1) (by decide) rfl (fun ls hl => ?_)
            refine lv_goto (tgt := 42) hx hb dX4_findBehind_127 (by decide) ?_
            exact ih42 _ (by omega) _ _ _ ⟨z_17, (jf + 1), gp_15, rfl, (kLs_b (kLs_s v_425 (by omega) egp_15 rz_16 ez_16 ez_17) (kBw_no v_424 (by omega) egp_15 (kOp_n ox ez_8 ez_9 c_10))), (by omega), (kBh_keep v_422 (by omega) egp_15), (kLl_keep v_423 (by omega) egp_15), (kBw_no v_424 (by omega) egp_15 (kOp_n ox ez_8 ez_9 c_10)), (kLs_s v_425 (by omega) egp_15 rz_16 ez_16 ez_17), hP, hD, hS, lv_sub hl [0, 1, 3, 4, 5, 6, 7] rfl⟩
        · refine lv_aload_n hx hb dX4_findBehind_58 rfl (lv_at hl 5 rfl) ?_
          refine va_get (D := D) (ci := 4) (v := .ref g7) (C := RX4) (T := TX4) (N := 10) hx hb hts (fun _ h9 => List.mem_cons_of_mem _ (List.mem_append_right _ h9)) hown hK hP 0 rfl rfl 9 (by decide) (hts (.fieldLink RX4 32 "FontRuns$Setting" "behind" "[[I") mw_X4_findBehind_b_2) (fun _ h9 => h9) rfl dX4_findBehind_59 ?_
          refine lv_iload_n hx hb dX4_findBehind_62 rfl (lv_at hl 3 rfl) ?_
          refine lv_iconst (v := zI 1) hx hb dX4_findBehind_63 rfl ?_
          refine kz_iadd hx hb dX4_findBehind_64 ?_
          refine kz_aald hx hb hK hP 2 1 rfl rfl (by omega) dX4_findBehind_65 (q2 _ (by omega)) ?_
          refine lv_iload hx hb dX4_findBehind_66 (lv_at hl 0 rfl) ?_
          refine kz_rowld (X := [(h0, .inr (4, [.ref g1, .ref g2, .ref g3, .ref g4, .ref g5, .int (zI cn), .int (zI bo), .int (zI ru), .ref g6, .ref g7])), (g3, .inl (cg3, 24, .inl f3)), (g7, .inl (cg7, 24, .inr (.inr (.inr (.inr (fo))))))]) hx hb hK hP 2 rfl (by omega) (by omega) dX4_findBehind_68 (fun z_18 rz_18 ez_18 => ?_)
          refine lv_goto (tgt := 73) hx hb dX4_findBehind_69 (by decide) ?_
          refine lv_istore (lv' := [(7, .int (zI z_18)), (6, .int (zI jf)), (5, .int (zI jh)), (4, .int (zI z_5)), (3, .int (zI jk)), (2, .int (zI jl)), (0, .ref h0), (1, .int (zI al))]) hx hb dX4_findBehind_73 hl (by decide) rfl (fun ls hl => ?_)
          refine lv_aload_n hx hb dX4_findBehind_75 rfl (lv_at hl 6 rfl) ?_
          refine va_get (D := D) (ci := 4) (v := .ref g7) (C := RX4) (T := TX4) (N := 10) hx hb hts (fun _ h9 => List.mem_cons_of_mem _ (List.mem_append_right _ h9)) hown hK hP 0 rfl rfl 9 (by decide) (hts (.fieldLink RX4 32 "FontRuns$Setting" "behind" "[[I") mw_X4_findBehind_b_2) (fun _ h9 => h9) rfl dX4_findBehind_76 ?_
          refine lv_iload_n hx hb dX4_findBehind_79 rfl (lv_at hl 4 rfl) ?_
          refine kz_aald hx hb hK hP 2 1 rfl rfl (by omega) dX4_findBehind_80 (q2 _ (by omega)) ?_
          refine lv_iload hx hb dX4_findBehind_81 (lv_at hl 1 rfl) ?_
          refine lv_iload hx hb dX4_findBehind_83 (lv_at hl 3 rfl) ?_
          refine lv_iload hx hb dX4_findBehind_85 (lv_at hl 1 rfl) ?_
          refine lv_ishr hx hb dX4_findBehind_87 ?_
          refine kz_any (fun z_19 rz_19 ez_19 => ?_)
          refine lv_iconst (v := zI 1) hx hb dX4_findBehind_88 rfl ?_
          refine lv_iand hx hb dX4_findBehind_89 ?_
          refine kz_any (fun z_20 rz_20 ez_20 => ?_)
          refine kz_if_ne (tgt := 99) hx hb dX4_findBehind_90 (by decide) (by omega) (fun c_21 => ?_) (fun c_21 => ?_)
          · refine lv_iload hx hb dX4_findBehind_99 (lv_at hl 0 rfl) ?_
            refine lv_iload_n hx hb dX4_findBehind_101 rfl (lv_at hl 5 rfl) ?_
            refine lv_iconst (v := zI 1) hx hb dX4_findBehind_102 rfl ?_
            refine kz_iadd hx hb dX4_findBehind_103 ?_
            refine kz_min hx hb (by rw [hml]; exact hl.1.symm) hown (hts (.methodLink RX4 85 Lib.Math.min.name) mw_X4_findBehind_b_3) (hts (.static Lib.Math.min.name) mw_X4_findBehind_b_4) (hts (.initialized "java/lang/Math") mw_X4_findBehind_b_5) (hts (.code Lib.Math.min.name Lib.Math.min.code 2 (some .int)) mw_X4_findBehind_b_6) (Nat.le_of_ble_eq_true rfl) (Nat.le_of_ble_eq_true rfl) (Nat.le_of_ble_eq_true rfl) (Nat.le_of_ble_eq_true rfl) (by omega) (by omega) dX4_findBehind_104 (fun z_22 rz_22 ez_22 => ?_)
            refine kz_rowst (X := [(h0, .inr (4, [.ref g1, .ref g2, .ref g3, .ref g4, .ref g5, .int (zI cn), .int (zI bo), .int (zI ru), .ref g6, .ref g7])), (g3, .inl (cg3, 24, .inl f3)), (g7, .inl (cg7, 24, .inr (.inr (.inr (.inr (fo))))))]) hx hb hK hP hD hS 2 rfl (by omega) (by omega) dX4_findBehind_107 (fun H locs hP hD hS => ?_)
            generalize egp_23 : va_up jq (o + (jk).toNat) (upd (jq (o + (jk).toNat)) (jf).toNat (zI z_22)) = gp_23 at hP hD
            have hP : va_P D vwCl (([(h0, .inr (4, [.ref g1, .ref g2, .ref g3, .ref g4, .ref g5, .int (zI cn), .int (zI bo), .int (zI ru), .ref g6, .ref g7])), (g3, .inl (cg3, 24, .inl f3)), (g7, .inl (cg7, 24, .inr (.inr (.inr (.inr (fo))))))] : va_W) ++ kRows pr gp_23 cy) H := hP
            have hD : va_D A (([(h0, .inr (4, [.ref g1, .ref g2, .ref g3, .ref g4, .ref g5, .int (zI cn), .int (zI bo), .int (zI ru), .ref g6, .ref g7])), (g3, .inl (cg3, 24, .inl f3)), (g7, .inl (cg7, 24, .inr (.inr (.inr (.inr (fo))))))] : va_W) ++ kRows pr gp_23 cy) := hD
            refine lv_iload hx hb dX4_findBehind_108 (lv_at hl 2 rfl) ?_
            refine lv_aload_n hx hb dX4_findBehind_110 rfl (lv_at hl 6 rfl) ?_
            refine va_get (D := D) (ci := 4) (v := .ref g7) (C := RX4) (T := TX4) (N := 10) hx hb hts (fun _ h9 => List.mem_cons_of_mem _ (List.mem_append_right _ h9)) hown hK hP 0 rfl rfl 9 (by decide) (hts (.fieldLink RX4 32 "FontRuns$Setting" "behind" "[[I") mw_X4_findBehind_b_2) (fun _ h9 => h9) rfl dX4_findBehind_111 ?_
            refine lv_iload_n hx hb dX4_findBehind_114 rfl (lv_at hl 4 rfl) ?_
            refine kz_aald hx hb hK hP 2 1 rfl rfl (by omega) dX4_findBehind_115 (q2 _ (by omega)) ?_
            refine lv_iload hx hb dX4_findBehind_116 (lv_at hl 1 rfl) ?_
            refine kz_rowld (X := [(h0, .inr (4, [.ref g1, .ref g2, .ref g3, .ref g4, .ref g5, .int (zI cn), .int (zI bo), .int (zI ru), .ref g6, .ref g7])), (g3, .inl (cg3, 24, .inl f3)), (g7, .inl (cg7, 24, .inr (.inr (.inr (.inr (fo))))))]) hx hb hK hP 2 rfl (by omega) (by omega) dX4_findBehind_118 (fun z_24 rz_24 ez_24 => ?_)
            refine kz_min hx hb (by rw [hml]; exact hl.1.symm) hown (hts (.methodLink RX4 85 Lib.Math.min.name) mw_X4_findBehind_b_3) (hts (.static Lib.Math.min.name) mw_X4_findBehind_b_4) (hts (.initialized "java/lang/Math") mw_X4_findBehind_b_5) (hts (.code Lib.Math.min.name Lib.Math.min.code 2 (some .int)) mw_X4_findBehind_b_6) (Nat.le_of_ble_eq_true rfl) (Nat.le_of_ble_eq_true rfl) (Nat.le_of_ble_eq_true rfl) (Nat.le_of_ble_eq_true rfl) (by omega) (by omega) dX4_findBehind_119 (fun z_25 rz_25 ez_25 => ?_)
            refine lv_istore (lv' := [(5, .int (zI z_25)), (7, .int (zI z_18)), (6, .int (zI jf)), (4, .int (zI z_5)), (3, .int (zI jk)), (2, .int (zI jl)), (0, .ref h0), (1, .int (zI al))]) hx hb dX4_findBehind_122 hl (by decide) rfl (fun ls hl => ?_)
            refine lv_iinc (v := (zI (jf + 1))) (lv' := [(6, .int (zI (jf + 1))), (5, .int (zI z_25)), (7, .int (zI z_18)), (4, .int (zI z_5)), (3, .int (zI jk)), (2, .int (zI jl)), (0, .ref h0), (1, .int (zI al))]) hx hb dX4_findBehind_124 hl (k := 2) rfl (kz_inc _ 1) (by decide) rfl (fun ls hl => ?_)
            refine lv_goto (tgt := 42) hx hb dX4_findBehind_127 (by decide) ?_
            exact ih42 _ (by omega) _ _ _ ⟨z_25, (jf + 1), gp_23, rfl, (kLs_b (kLs_s v_425 (by omega) egp_23 rz_24 ez_24 ez_25) (kBw_more v_424 (by omega) egp_23 (kOp_y ox ez_19 ez_20 rz_20 c_21) v_423 v_422 (by omega) (by omega) rz_18 ez_18 ez_22)), (by omega), (kBh_keep v_422 (by omega) egp_23), (kLl_keep v_423 (by omega) egp_23), (kBw_more v_424 (by omega) egp_23 (kOp_y ox ez_19 ez_20 rz_20 c_21) v_423 v_422 (by omega) (by omega) rz_18 ez_18 ez_22), (kLs_s v_425 (by omega) egp_23 rz_24 ez_24 ez_25), hP, hD, hS, lv_sub hl [0, 1, 3, 4, 5, 6, 7] rfl⟩
          · refine lv_sipush (v := zI 1000) hx hb dX4_findBehind_93 (by decide) ?_
            refine lv_goto (tgt := 107) hx hb dX4_findBehind_96 (by decide) ?_
            refine kz_rowst (X := [(h0, .inr (4, [.ref g1, .ref g2, .ref g3, .ref g4, .ref g5, .int (zI cn), .int (zI bo), .int (zI ru), .ref g6, .ref g7])), (g3, .inl (cg3, 24, .inl f3)), (g7, .inl (cg7, 24, .inr (.inr (.inr (.inr (fo))))))]) hx hb hK hP hD hS 2 rfl (by omega) (by omega) dX4_findBehind_107 (fun H locs hP hD hS => ?_)
            generalize egp_26 : va_up jq (o + (jk).toNat) (upd (jq (o + (jk).toNat)) (jf).toNat (zI 1000)) = gp_26 at hP hD
            have hP : va_P D vwCl (([(h0, .inr (4, [.ref g1, .ref g2, .ref g3, .ref g4, .ref g5, .int (zI cn), .int (zI bo), .int (zI ru), .ref g6, .ref g7])), (g3, .inl (cg3, 24, .inl f3)), (g7, .inl (cg7, 24, .inr (.inr (.inr (.inr (fo))))))] : va_W) ++ kRows pr gp_26 cy) H := hP
            have hD : va_D A (([(h0, .inr (4, [.ref g1, .ref g2, .ref g3, .ref g4, .ref g5, .int (zI cn), .int (zI bo), .int (zI ru), .ref g6, .ref g7])), (g3, .inl (cg3, 24, .inl f3)), (g7, .inl (cg7, 24, .inr (.inr (.inr (.inr (fo))))))] : va_W) ++ kRows pr gp_26 cy) := hD
            refine lv_iload hx hb dX4_findBehind_108 (lv_at hl 2 rfl) ?_
            refine lv_aload_n hx hb dX4_findBehind_110 rfl (lv_at hl 6 rfl) ?_
            refine va_get (D := D) (ci := 4) (v := .ref g7) (C := RX4) (T := TX4) (N := 10) hx hb hts (fun _ h9 => List.mem_cons_of_mem _ (List.mem_append_right _ h9)) hown hK hP 0 rfl rfl 9 (by decide) (hts (.fieldLink RX4 32 "FontRuns$Setting" "behind" "[[I") mw_X4_findBehind_b_2) (fun _ h9 => h9) rfl dX4_findBehind_111 ?_
            refine lv_iload_n hx hb dX4_findBehind_114 rfl (lv_at hl 4 rfl) ?_
            refine kz_aald hx hb hK hP 2 1 rfl rfl (by omega) dX4_findBehind_115 (q2 _ (by omega)) ?_
            refine lv_iload hx hb dX4_findBehind_116 (lv_at hl 1 rfl) ?_
            refine kz_rowld (X := [(h0, .inr (4, [.ref g1, .ref g2, .ref g3, .ref g4, .ref g5, .int (zI cn), .int (zI bo), .int (zI ru), .ref g6, .ref g7])), (g3, .inl (cg3, 24, .inl f3)), (g7, .inl (cg7, 24, .inr (.inr (.inr (.inr (fo))))))]) hx hb hK hP 2 rfl (by omega) (by omega) dX4_findBehind_118 (fun z_27 rz_27 ez_27 => ?_)
            refine kz_min hx hb (by rw [hml]; exact hl.1.symm) hown (hts (.methodLink RX4 85 Lib.Math.min.name) mw_X4_findBehind_b_3) (hts (.static Lib.Math.min.name) mw_X4_findBehind_b_4) (hts (.initialized "java/lang/Math") mw_X4_findBehind_b_5) (hts (.code Lib.Math.min.name Lib.Math.min.code 2 (some .int)) mw_X4_findBehind_b_6) (Nat.le_of_ble_eq_true rfl) (Nat.le_of_ble_eq_true rfl) (Nat.le_of_ble_eq_true rfl) (Nat.le_of_ble_eq_true rfl) (by omega) (by omega) dX4_findBehind_119 (fun z_28 rz_28 ez_28 => ?_)
            refine lv_istore (lv' := [(5, .int (zI z_28)), (7, .int (zI z_18)), (6, .int (zI jf)), (4, .int (zI z_5)), (3, .int (zI jk)), (2, .int (zI jl)), (0, .ref h0), (1, .int (zI al))]) hx hb dX4_findBehind_122 hl (by decide) rfl (fun ls hl => ?_)
            refine lv_iinc (v := (zI (jf + 1))) (lv' := [(6, .int (zI (jf + 1))), (5, .int (zI z_28)), (7, .int (zI z_18)), (4, .int (zI z_5)), (3, .int (zI jk)), (2, .int (zI jl)), (0, .ref h0), (1, .int (zI al))]) hx hb dX4_findBehind_124 hl (k := 2) rfl (kz_inc _ 1) (by decide) rfl (fun ls hl => ?_)
            refine lv_goto (tgt := 42) hx hb dX4_findBehind_127 (by decide) ?_
            exact ih42 _ (by omega) _ _ _ ⟨z_28, (jf + 1), gp_26, rfl, (kLs_b (kLs_s v_425 (by omega) egp_26 rz_27 ez_27 ez_28) (kBw_no v_424 (by omega) egp_26 (kOp_n ox ez_19 ez_20 c_21))), (by omega), (kBh_keep v_422 (by omega) egp_26), (kLl_keep v_423 (by omega) egp_26), (kBw_no v_424 (by omega) egp_26 (kOp_n ox ez_19 ez_20 c_21)), (kLs_s v_425 (by omega) egp_26 rz_27 ez_27 ez_28), hP, hD, hS, lv_sub hl [0, 1, 3, 4, 5, 6, 7] rfl⟩
    · refine lv_iload_n hx hb dX4_findBehind_22 rfl (lv_at hl 3 rfl) ?_
      refine lv_goto (tgt := 32) hx hb dX4_findBehind_23 (by decide) ?_
      refine kz_any (fun z_29 rz_29 ez_29 => ?_)
      refine lv_istore (lv' := [(4, .int (zI z_29)), (3, .int (zI jk)), (2, .int (zI jl)), (0, .ref h0), (1, .int (zI al))]) hx hb dX4_findBehind_32 hl (by decide) rfl (fun ls hl => ?_)
      refine lv_sipush (v := zI 1000) hx hb dX4_findBehind_34 (by decide) ?_
      refine lv_istore (lv' := [(5, .int (zI 1000)), (4, .int (zI z_29)), (3, .int (zI jk)), (2, .int (zI jl)), (0, .ref h0), (1, .int (zI al))]) hx hb dX4_findBehind_37 hl (by decide) rfl (fun ls hl => ?_)
      refine lv_iconst (v := zI 0) hx hb dX4_findBehind_39 rfl ?_
      refine lv_istore (lv' := [(6, .int (zI 0)), (5, .int (zI 1000)), (4, .int (zI z_29)), (3, .int (zI jk)), (2, .int (zI jl)), (0, .ref h0), (1, .int (zI al))]) hx hb dX4_findBehind_40 hl (by decide) rfl (fun ls hl => ?_)
      refine k_loopM (I := fun n9 H locs ls => ∃ (jh : Int) (jf : Int) (jq : Nat → Nat → Int32), n9 = (4 - jf).toNat ∧ (0 ≤ jh ∧ jh ≤ 1000) ∧ (0 ≤ jf ∧ jf ≤ 4) ∧ (kBh jq o f3 (zI al) cn (jk + 1)) ∧ (kLl jq o cn (jk + 1) jl) ∧ (kBw jq o f3 (zI al) cn jk jf) ∧ (kLs jq o jk jf jh) ∧ va_P D vwCl (([(h0, .inr (4, [.ref g1, .ref g2, .ref g3, .ref g4, .ref g5, .int (zI cn), .int (zI bo), .int (zI ru), .ref g6, .ref g7])), (g3, .inl (cg3, 24, .inl f3)), (g7, .inl (cg7, 24, .inr (.inr (.inr (.inr (fo))))))] : va_W) ++ kRows pr jq cy) H ∧ va_D A (([(h0, .inr (4, [.ref g1, .ref g2, .ref g3, .ref g4, .ref g5, .int (zI cn), .int (zI bo), .int (zI ru), .ref g6, .ref g7])), (g3, .inl (cg3, 24, .inl f3)), (g7, .inl (cg7, 24, .inr (.inr (.inr (.inr (fo))))))] : va_W) ++ kRows pr jq cy) ∧ va_S A s.heap H locs ∧ lv_has ls 8 [(6, .int (zI jf)), (5, .int (zI jh)), (4, .int (zI z_29)), (3, .int (zI jk)), (2, .int (zI jl)), (0, .ref h0), (1, .int (zI al))]) ?_ _ ⟨1000, 0, jp, rfl, (by omega), (by omega), v_92, v_93, kBw_0, kLs_0, hP, hD, hS, hl⟩
      intro n42 ih42 H locs ls hI
      obtain ⟨jh, jf, jq, en42, v_420, v_421, v_422, v_423, v_424, v_425, hP, hD, hS, hl⟩ := hI
      have ox : zI z_29 = kOx (f3 jk.toNat) (zI al) := kOx_0 ez_2 c_3 ez_29
      refine lv_iload hx hb dX4_findBehind_42 (lv_at hl 0 rfl) ?_
      refine lv_iconst (v := zI 4) hx hb dX4_findBehind_44 rfl ?_
      refine kz_icmp_ge (tgt := 130) hx hb dX4_findBehind_45 (by decide) (by omega) (by omega) (fun c_30 => ?_) (fun c_30 => ?_)
      · refine lv_iload hx hb dX4_findBehind_130 (lv_at hl 1 rfl) ?_
        refine lv_istore_n (lv' := [(2, .int (zI jh)), (6, .int (zI jf)), (5, .int (zI jh)), (4, .int (zI z_29)), (3, .int (zI jk)), (0, .ref h0), (1, .int (zI al))]) hx hb dX4_findBehind_132 rfl hl (by decide) rfl (fun ls hl => ?_)
        refine lv_iinc (v := (zI (jk - 1))) (lv' := [(3, .int (zI (jk - 1))), (2, .int (zI jh)), (6, .int (zI jf)), (5, .int (zI jh)), (4, .int (zI z_29)), (0, .ref h0), (1, .int (zI al))]) hx hb dX4_findBehind_133 hl (k := 4) rfl (kz_dec _ 1) (by decide) rfl (fun ls hl => ?_)
        refine lv_goto (tgt := 9) hx hb dX4_findBehind_136 (by decide) ?_
        exact ih9 _ (by omega) _ _ _ ⟨jh, (jk - 1), jq, rfl, v_420, (by omega), (kBh_dn v_422 v_424 (by omega) (by omega)), (kLl_of ((show jf = 4 by omega) ▸ v_425) (by omega) (by omega) ((show jf = 4 by omega) ▸ v_424)), hP, hD, hS, lv_sub hl [0, 1, 5, 6] rfl⟩
      · refine lv_iload_n hx hb dX4_findBehind_48 rfl (lv_at hl 3 rfl) ?_
        refine lv_iconst (v := zI 1) hx hb dX4_findBehind_49 rfl ?_
        refine kz_iadd hx hb dX4_findBehind_50 ?_
        refine lv_aload_n hx hb dX4_findBehind_51 rfl (lv_at hl 5 rfl) ?_
        refine va_get (D := D) (ci := 4) (v := .int (zI cn)) (C := RX4) (T := TX4) (N := 10) hx hb hts (fun _ h9 => List.mem_cons_of_mem _ (List.mem_append_right _ h9)) hown hK hP 0 rfl rfl 5 (by decide) (hts (.fieldLink RX4 51 "FontRuns$Setting" "count" "I") mw_X4_findBehind_b_0) (fun _ h9 => h9) rfl dX4_findBehind_52 ?_
        refine kz_icmp_ge (tgt := 72) hx hb dX4_findBehind_55 (by decide) (by omega) (by omega) (fun c_31 => ?_) (fun c_31 => ?_)
        · refine lv_iconst (v := zI 0) hx hb dX4_findBehind_72 rfl ?_
          refine lv_istore (lv' := [(7, .int (zI 0)), (6, .int (zI jf)), (5, .int (zI jh)), (4, .int (zI z_29)), (3, .int (zI jk)), (2, .int (zI jl)), (0, .ref h0), (1, .int (zI al))]) hx hb dX4_findBehind_73 hl (by decide) rfl (fun ls hl => ?_)
          refine lv_aload_n hx hb dX4_findBehind_75 rfl (lv_at hl 6 rfl) ?_
          refine va_get (D := D) (ci := 4) (v := .ref g7) (C := RX4) (T := TX4) (N := 10) hx hb hts (fun _ h9 => List.mem_cons_of_mem _ (List.mem_append_right _ h9)) hown hK hP 0 rfl rfl 9 (by decide) (hts (.fieldLink RX4 32 "FontRuns$Setting" "behind" "[[I") mw_X4_findBehind_b_2) (fun _ h9 => h9) rfl dX4_findBehind_76 ?_
          refine lv_iload_n hx hb dX4_findBehind_79 rfl (lv_at hl 4 rfl) ?_
          refine kz_aald hx hb hK hP 2 1 rfl rfl (by omega) dX4_findBehind_80 (q2 _ (by omega)) ?_
          refine lv_iload hx hb dX4_findBehind_81 (lv_at hl 1 rfl) ?_
          refine lv_iload hx hb dX4_findBehind_83 (lv_at hl 3 rfl) ?_
          refine lv_iload hx hb dX4_findBehind_85 (lv_at hl 1 rfl) ?_
          refine lv_ishr hx hb dX4_findBehind_87 ?_
          refine kz_any (fun z_32 rz_32 ez_32 => ?_)
          refine lv_iconst (v := zI 1) hx hb dX4_findBehind_88 rfl ?_
          refine lv_iand hx hb dX4_findBehind_89 ?_
          refine kz_any (fun z_33 rz_33 ez_33 => ?_)
          refine kz_if_ne (tgt := 99) hx hb dX4_findBehind_90 (by decide) (by omega) (fun c_34 => ?_) (fun c_34 => ?_)
          · refine lv_iload hx hb dX4_findBehind_99 (lv_at hl 0 rfl) ?_
            refine lv_iload_n hx hb dX4_findBehind_101 rfl (lv_at hl 5 rfl) ?_
            refine lv_iconst (v := zI 1) hx hb dX4_findBehind_102 rfl ?_
            refine kz_iadd hx hb dX4_findBehind_103 ?_
            refine kz_min hx hb (by rw [hml]; exact hl.1.symm) hown (hts (.methodLink RX4 85 Lib.Math.min.name) mw_X4_findBehind_b_3) (hts (.static Lib.Math.min.name) mw_X4_findBehind_b_4) (hts (.initialized "java/lang/Math") mw_X4_findBehind_b_5) (hts (.code Lib.Math.min.name Lib.Math.min.code 2 (some .int)) mw_X4_findBehind_b_6) (Nat.le_of_ble_eq_true rfl) (Nat.le_of_ble_eq_true rfl) (Nat.le_of_ble_eq_true rfl) (Nat.le_of_ble_eq_true rfl) (by omega) (by omega) dX4_findBehind_104 (fun z_35 rz_35 ez_35 => ?_)
            refine kz_rowst (X := [(h0, .inr (4, [.ref g1, .ref g2, .ref g3, .ref g4, .ref g5, .int (zI cn), .int (zI bo), .int (zI ru), .ref g6, .ref g7])), (g3, .inl (cg3, 24, .inl f3)), (g7, .inl (cg7, 24, .inr (.inr (.inr (.inr (fo))))))]) hx hb hK hP hD hS 2 rfl (by omega) (by omega) dX4_findBehind_107 (fun H locs hP hD hS => ?_)
            generalize egp_36 : va_up jq (o + (jk).toNat) (upd (jq (o + (jk).toNat)) (jf).toNat (zI z_35)) = gp_36 at hP hD
            have hP : va_P D vwCl (([(h0, .inr (4, [.ref g1, .ref g2, .ref g3, .ref g4, .ref g5, .int (zI cn), .int (zI bo), .int (zI ru), .ref g6, .ref g7])), (g3, .inl (cg3, 24, .inl f3)), (g7, .inl (cg7, 24, .inr (.inr (.inr (.inr (fo))))))] : va_W) ++ kRows pr gp_36 cy) H := hP
            have hD : va_D A (([(h0, .inr (4, [.ref g1, .ref g2, .ref g3, .ref g4, .ref g5, .int (zI cn), .int (zI bo), .int (zI ru), .ref g6, .ref g7])), (g3, .inl (cg3, 24, .inl f3)), (g7, .inl (cg7, 24, .inr (.inr (.inr (.inr (fo))))))] : va_W) ++ kRows pr gp_36 cy) := hD
            refine lv_iload hx hb dX4_findBehind_108 (lv_at hl 2 rfl) ?_
            refine lv_aload_n hx hb dX4_findBehind_110 rfl (lv_at hl 6 rfl) ?_
            refine va_get (D := D) (ci := 4) (v := .ref g7) (C := RX4) (T := TX4) (N := 10) hx hb hts (fun _ h9 => List.mem_cons_of_mem _ (List.mem_append_right _ h9)) hown hK hP 0 rfl rfl 9 (by decide) (hts (.fieldLink RX4 32 "FontRuns$Setting" "behind" "[[I") mw_X4_findBehind_b_2) (fun _ h9 => h9) rfl dX4_findBehind_111 ?_
            refine lv_iload_n hx hb dX4_findBehind_114 rfl (lv_at hl 4 rfl) ?_
            refine kz_aald hx hb hK hP 2 1 rfl rfl (by omega) dX4_findBehind_115 (q2 _ (by omega)) ?_
            refine lv_iload hx hb dX4_findBehind_116 (lv_at hl 1 rfl) ?_
            refine kz_rowld (X := [(h0, .inr (4, [.ref g1, .ref g2, .ref g3, .ref g4, .ref g5, .int (zI cn), .int (zI bo), .int (zI ru), .ref g6, .ref g7])), (g3, .inl (cg3, 24, .inl f3)), (g7, .inl (cg7, 24, .inr (.inr (.inr (.inr (fo))))))]) hx hb hK hP 2 rfl (by omega) (by omega) dX4_findBehind_118 (fun z_37 rz_37 ez_37 => ?_)
            refine kz_min hx hb (by rw [hml]; exact hl.1.symm) hown (hts (.methodLink RX4 85 Lib.Math.min.name) mw_X4_findBehind_b_3) (hts (.static Lib.Math.min.name) mw_X4_findBehind_b_4) (hts (.initialized "java/lang/Math") mw_X4_findBehind_b_5) (hts (.code Lib.Math.min.name Lib.Math.min.code 2 (some .int)) mw_X4_findBehind_b_6) (Nat.le_of_ble_eq_true rfl) (Nat.le_of_ble_eq_true rfl) (Nat.le_of_ble_eq_true rfl) (Nat.le_of_ble_eq_true rfl) (by omega) (by omega) dX4_findBehind_119 (fun z_38 rz_38 ez_38 => ?_)
            refine lv_istore (lv' := [(5, .int (zI z_38)), (7, .int (zI 0)), (6, .int (zI jf)), (4, .int (zI z_29)), (3, .int (zI jk)), (2, .int (zI jl)), (0, .ref h0), (1, .int (zI al))]) hx hb dX4_findBehind_122 hl (by decide) rfl (fun ls hl => ?_)
            refine lv_iinc (v := (zI (jf + 1))) (lv' := [(6, .int (zI (jf + 1))), (5, .int (zI z_38)), (7, .int (zI 0)), (4, .int (zI z_29)), (3, .int (zI jk)), (2, .int (zI jl)), (0, .ref h0), (1, .int (zI al))]) hx hb dX4_findBehind_124 hl (k := 2) rfl (kz_inc _ 1) (by decide) rfl (fun ls hl => ?_)
            refine lv_goto (tgt := 42) hx hb dX4_findBehind_127 (by decide) ?_
            exact ih42 _ (by omega) _ _ _ ⟨z_38, (jf + 1), gp_36, rfl, (kLs_b (kLs_s v_425 (by omega) egp_36 rz_37 ez_37 ez_38) (kBw_last v_424 (by omega) egp_36 (kOp_y ox ez_32 ez_33 rz_33 c_34) v_423 (by omega) ez_35)), (by omega), (kBh_keep v_422 (by omega) egp_36), (kLl_keep v_423 (by omega) egp_36), (kBw_last v_424 (by omega) egp_36 (kOp_y ox ez_32 ez_33 rz_33 c_34) v_423 (by omega) ez_35), (kLs_s v_425 (by omega) egp_36 rz_37 ez_37 ez_38), hP, hD, hS, lv_sub hl [0, 1, 3, 4, 5, 6, 7] rfl⟩
          · refine lv_sipush (v := zI 1000) hx hb dX4_findBehind_93 (by decide) ?_
            refine lv_goto (tgt := 107) hx hb dX4_findBehind_96 (by decide) ?_
            refine kz_rowst (X := [(h0, .inr (4, [.ref g1, .ref g2, .ref g3, .ref g4, .ref g5, .int (zI cn), .int (zI bo), .int (zI ru), .ref g6, .ref g7])), (g3, .inl (cg3, 24, .inl f3)), (g7, .inl (cg7, 24, .inr (.inr (.inr (.inr (fo))))))]) hx hb hK hP hD hS 2 rfl (by omega) (by omega) dX4_findBehind_107 (fun H locs hP hD hS => ?_)
            generalize egp_39 : va_up jq (o + (jk).toNat) (upd (jq (o + (jk).toNat)) (jf).toNat (zI 1000)) = gp_39 at hP hD
            have hP : va_P D vwCl (([(h0, .inr (4, [.ref g1, .ref g2, .ref g3, .ref g4, .ref g5, .int (zI cn), .int (zI bo), .int (zI ru), .ref g6, .ref g7])), (g3, .inl (cg3, 24, .inl f3)), (g7, .inl (cg7, 24, .inr (.inr (.inr (.inr (fo))))))] : va_W) ++ kRows pr gp_39 cy) H := hP
            have hD : va_D A (([(h0, .inr (4, [.ref g1, .ref g2, .ref g3, .ref g4, .ref g5, .int (zI cn), .int (zI bo), .int (zI ru), .ref g6, .ref g7])), (g3, .inl (cg3, 24, .inl f3)), (g7, .inl (cg7, 24, .inr (.inr (.inr (.inr (fo))))))] : va_W) ++ kRows pr gp_39 cy) := hD
            refine lv_iload hx hb dX4_findBehind_108 (lv_at hl 2 rfl) ?_
            refine lv_aload_n hx hb dX4_findBehind_110 rfl (lv_at hl 6 rfl) ?_
            refine va_get (D := D) (ci := 4) (v := .ref g7) (C := RX4) (T := TX4) (N := 10) hx hb hts (fun _ h9 => List.mem_cons_of_mem _ (List.mem_append_right _ h9)) hown hK hP 0 rfl rfl 9 (by decide) (hts (.fieldLink RX4 32 "FontRuns$Setting" "behind" "[[I") mw_X4_findBehind_b_2) (fun _ h9 => h9) rfl dX4_findBehind_111 ?_
            refine lv_iload_n hx hb dX4_findBehind_114 rfl (lv_at hl 4 rfl) ?_
            refine kz_aald hx hb hK hP 2 1 rfl rfl (by omega) dX4_findBehind_115 (q2 _ (by omega)) ?_
            refine lv_iload hx hb dX4_findBehind_116 (lv_at hl 1 rfl) ?_
            refine kz_rowld (X := [(h0, .inr (4, [.ref g1, .ref g2, .ref g3, .ref g4, .ref g5, .int (zI cn), .int (zI bo), .int (zI ru), .ref g6, .ref g7])), (g3, .inl (cg3, 24, .inl f3)), (g7, .inl (cg7, 24, .inr (.inr (.inr (.inr (fo))))))]) hx hb hK hP 2 rfl (by omega) (by omega) dX4_findBehind_118 (fun z_40 rz_40 ez_40 => ?_)
            refine kz_min hx hb (by rw [hml]; exact hl.1.symm) hown (hts (.methodLink RX4 85 Lib.Math.min.name) mw_X4_findBehind_b_3) (hts (.static Lib.Math.min.name) mw_X4_findBehind_b_4) (hts (.initialized "java/lang/Math") mw_X4_findBehind_b_5) (hts (.code Lib.Math.min.name Lib.Math.min.code 2 (some .int)) mw_X4_findBehind_b_6) (Nat.le_of_ble_eq_true rfl) (Nat.le_of_ble_eq_true rfl) (Nat.le_of_ble_eq_true rfl) (Nat.le_of_ble_eq_true rfl) (by omega) (by omega) dX4_findBehind_119 (fun z_41 rz_41 ez_41 => ?_)
            refine lv_istore (lv' := [(5, .int (zI z_41)), (7, .int (zI 0)), (6, .int (zI jf)), (4, .int (zI z_29)), (3, .int (zI jk)), (2, .int (zI jl)), (0, .ref h0), (1, .int (zI al))]) hx hb dX4_findBehind_122 hl (by decide) rfl (fun ls hl => ?_)
            refine lv_iinc (v := (zI (jf + 1))) (lv' := [(6, .int (zI (jf + 1))), (5, .int (zI z_41)), (7, .int (zI 0)), (4, .int (zI z_29)), (3, .int (zI jk)), (2, .int (zI jl)), (0, .ref h0), (1, .int (zI al))]) hx hb dX4_findBehind_124 hl (k := 2) rfl (kz_inc _ 1) (by decide) rfl (fun ls hl => ?_)
            refine lv_goto (tgt := 42) hx hb dX4_findBehind_127 (by decide) ?_
            exact ih42 _ (by omega) _ _ _ ⟨z_41, (jf + 1), gp_39, rfl, (kLs_b (kLs_s v_425 (by omega) egp_39 rz_40 ez_40 ez_41) (kBw_no v_424 (by omega) egp_39 (kOp_n ox ez_32 ez_33 c_34))), (by omega), (kBh_keep v_422 (by omega) egp_39), (kLl_keep v_423 (by omega) egp_39), (kBw_no v_424 (by omega) egp_39 (kOp_n ox ez_32 ez_33 c_34)), (kLs_s v_425 (by omega) egp_39 rz_40 ez_40 ez_41), hP, hD, hS, lv_sub hl [0, 1, 3, 4, 5, 6, 7] rfl⟩
        · refine lv_aload_n hx hb dX4_findBehind_58 rfl (lv_at hl 5 rfl) ?_
          refine va_get (D := D) (ci := 4) (v := .ref g7) (C := RX4) (T := TX4) (N := 10) hx hb hts (fun _ h9 => List.mem_cons_of_mem _ (List.mem_append_right _ h9)) hown hK hP 0 rfl rfl 9 (by decide) (hts (.fieldLink RX4 32 "FontRuns$Setting" "behind" "[[I") mw_X4_findBehind_b_2) (fun _ h9 => h9) rfl dX4_findBehind_59 ?_
          refine lv_iload_n hx hb dX4_findBehind_62 rfl (lv_at hl 3 rfl) ?_
          refine lv_iconst (v := zI 1) hx hb dX4_findBehind_63 rfl ?_
          refine kz_iadd hx hb dX4_findBehind_64 ?_
          refine kz_aald hx hb hK hP 2 1 rfl rfl (by omega) dX4_findBehind_65 (q2 _ (by omega)) ?_
          refine lv_iload hx hb dX4_findBehind_66 (lv_at hl 0 rfl) ?_
          refine kz_rowld (X := [(h0, .inr (4, [.ref g1, .ref g2, .ref g3, .ref g4, .ref g5, .int (zI cn), .int (zI bo), .int (zI ru), .ref g6, .ref g7])), (g3, .inl (cg3, 24, .inl f3)), (g7, .inl (cg7, 24, .inr (.inr (.inr (.inr (fo))))))]) hx hb hK hP 2 rfl (by omega) (by omega) dX4_findBehind_68 (fun z_42 rz_42 ez_42 => ?_)
          refine lv_goto (tgt := 73) hx hb dX4_findBehind_69 (by decide) ?_
          refine lv_istore (lv' := [(7, .int (zI z_42)), (6, .int (zI jf)), (5, .int (zI jh)), (4, .int (zI z_29)), (3, .int (zI jk)), (2, .int (zI jl)), (0, .ref h0), (1, .int (zI al))]) hx hb dX4_findBehind_73 hl (by decide) rfl (fun ls hl => ?_)
          refine lv_aload_n hx hb dX4_findBehind_75 rfl (lv_at hl 6 rfl) ?_
          refine va_get (D := D) (ci := 4) (v := .ref g7) (C := RX4) (T := TX4) (N := 10) hx hb hts (fun _ h9 => List.mem_cons_of_mem _ (List.mem_append_right _ h9)) hown hK hP 0 rfl rfl 9 (by decide) (hts (.fieldLink RX4 32 "FontRuns$Setting" "behind" "[[I") mw_X4_findBehind_b_2) (fun _ h9 => h9) rfl dX4_findBehind_76 ?_
          refine lv_iload_n hx hb dX4_findBehind_79 rfl (lv_at hl 4 rfl) ?_
          refine kz_aald hx hb hK hP 2 1 rfl rfl (by omega) dX4_findBehind_80 (q2 _ (by omega)) ?_
          refine lv_iload hx hb dX4_findBehind_81 (lv_at hl 1 rfl) ?_
          refine lv_iload hx hb dX4_findBehind_83 (lv_at hl 3 rfl) ?_
          refine lv_iload hx hb dX4_findBehind_85 (lv_at hl 1 rfl) ?_
          refine lv_ishr hx hb dX4_findBehind_87 ?_
          refine kz_any (fun z_43 rz_43 ez_43 => ?_)
          refine lv_iconst (v := zI 1) hx hb dX4_findBehind_88 rfl ?_
          refine lv_iand hx hb dX4_findBehind_89 ?_
          refine kz_any (fun z_44 rz_44 ez_44 => ?_)
          refine kz_if_ne (tgt := 99) hx hb dX4_findBehind_90 (by decide) (by omega) (fun c_45 => ?_) (fun c_45 => ?_)
          · refine lv_iload hx hb dX4_findBehind_99 (lv_at hl 0 rfl) ?_
            refine lv_iload_n hx hb dX4_findBehind_101 rfl (lv_at hl 5 rfl) ?_
            refine lv_iconst (v := zI 1) hx hb dX4_findBehind_102 rfl ?_
            refine kz_iadd hx hb dX4_findBehind_103 ?_
            refine kz_min hx hb (by rw [hml]; exact hl.1.symm) hown (hts (.methodLink RX4 85 Lib.Math.min.name) mw_X4_findBehind_b_3) (hts (.static Lib.Math.min.name) mw_X4_findBehind_b_4) (hts (.initialized "java/lang/Math") mw_X4_findBehind_b_5) (hts (.code Lib.Math.min.name Lib.Math.min.code 2 (some .int)) mw_X4_findBehind_b_6) (Nat.le_of_ble_eq_true rfl) (Nat.le_of_ble_eq_true rfl) (Nat.le_of_ble_eq_true rfl) (Nat.le_of_ble_eq_true rfl) (by omega) (by omega) dX4_findBehind_104 (fun z_46 rz_46 ez_46 => ?_)
            refine kz_rowst (X := [(h0, .inr (4, [.ref g1, .ref g2, .ref g3, .ref g4, .ref g5, .int (zI cn), .int (zI bo), .int (zI ru), .ref g6, .ref g7])), (g3, .inl (cg3, 24, .inl f3)), (g7, .inl (cg7, 24, .inr (.inr (.inr (.inr (fo))))))]) hx hb hK hP hD hS 2 rfl (by omega) (by omega) dX4_findBehind_107 (fun H locs hP hD hS => ?_)
            generalize egp_47 : va_up jq (o + (jk).toNat) (upd (jq (o + (jk).toNat)) (jf).toNat (zI z_46)) = gp_47 at hP hD
            have hP : va_P D vwCl (([(h0, .inr (4, [.ref g1, .ref g2, .ref g3, .ref g4, .ref g5, .int (zI cn), .int (zI bo), .int (zI ru), .ref g6, .ref g7])), (g3, .inl (cg3, 24, .inl f3)), (g7, .inl (cg7, 24, .inr (.inr (.inr (.inr (fo))))))] : va_W) ++ kRows pr gp_47 cy) H := hP
            have hD : va_D A (([(h0, .inr (4, [.ref g1, .ref g2, .ref g3, .ref g4, .ref g5, .int (zI cn), .int (zI bo), .int (zI ru), .ref g6, .ref g7])), (g3, .inl (cg3, 24, .inl f3)), (g7, .inl (cg7, 24, .inr (.inr (.inr (.inr (fo))))))] : va_W) ++ kRows pr gp_47 cy) := hD
            refine lv_iload hx hb dX4_findBehind_108 (lv_at hl 2 rfl) ?_
            refine lv_aload_n hx hb dX4_findBehind_110 rfl (lv_at hl 6 rfl) ?_
            refine va_get (D := D) (ci := 4) (v := .ref g7) (C := RX4) (T := TX4) (N := 10) hx hb hts (fun _ h9 => List.mem_cons_of_mem _ (List.mem_append_right _ h9)) hown hK hP 0 rfl rfl 9 (by decide) (hts (.fieldLink RX4 32 "FontRuns$Setting" "behind" "[[I") mw_X4_findBehind_b_2) (fun _ h9 => h9) rfl dX4_findBehind_111 ?_
            refine lv_iload_n hx hb dX4_findBehind_114 rfl (lv_at hl 4 rfl) ?_
            refine kz_aald hx hb hK hP 2 1 rfl rfl (by omega) dX4_findBehind_115 (q2 _ (by omega)) ?_
            refine lv_iload hx hb dX4_findBehind_116 (lv_at hl 1 rfl) ?_
            refine kz_rowld (X := [(h0, .inr (4, [.ref g1, .ref g2, .ref g3, .ref g4, .ref g5, .int (zI cn), .int (zI bo), .int (zI ru), .ref g6, .ref g7])), (g3, .inl (cg3, 24, .inl f3)), (g7, .inl (cg7, 24, .inr (.inr (.inr (.inr (fo))))))]) hx hb hK hP 2 rfl (by omega) (by omega) dX4_findBehind_118 (fun z_48 rz_48 ez_48 => ?_)
            refine kz_min hx hb (by rw [hml]; exact hl.1.symm) hown (hts (.methodLink RX4 85 Lib.Math.min.name) mw_X4_findBehind_b_3) (hts (.static Lib.Math.min.name) mw_X4_findBehind_b_4) (hts (.initialized "java/lang/Math") mw_X4_findBehind_b_5) (hts (.code Lib.Math.min.name Lib.Math.min.code 2 (some .int)) mw_X4_findBehind_b_6) (Nat.le_of_ble_eq_true rfl) (Nat.le_of_ble_eq_true rfl) (Nat.le_of_ble_eq_true rfl) (Nat.le_of_ble_eq_true rfl) (by omega) (by omega) dX4_findBehind_119 (fun z_49 rz_49 ez_49 => ?_)
            refine lv_istore (lv' := [(5, .int (zI z_49)), (7, .int (zI z_42)), (6, .int (zI jf)), (4, .int (zI z_29)), (3, .int (zI jk)), (2, .int (zI jl)), (0, .ref h0), (1, .int (zI al))]) hx hb dX4_findBehind_122 hl (by decide) rfl (fun ls hl => ?_)
            refine lv_iinc (v := (zI (jf + 1))) (lv' := [(6, .int (zI (jf + 1))), (5, .int (zI z_49)), (7, .int (zI z_42)), (4, .int (zI z_29)), (3, .int (zI jk)), (2, .int (zI jl)), (0, .ref h0), (1, .int (zI al))]) hx hb dX4_findBehind_124 hl (k := 2) rfl (kz_inc _ 1) (by decide) rfl (fun ls hl => ?_)
            refine lv_goto (tgt := 42) hx hb dX4_findBehind_127 (by decide) ?_
            exact ih42 _ (by omega) _ _ _ ⟨z_49, (jf + 1), gp_47, rfl, (kLs_b (kLs_s v_425 (by omega) egp_47 rz_48 ez_48 ez_49) (kBw_more v_424 (by omega) egp_47 (kOp_y ox ez_43 ez_44 rz_44 c_45) v_423 v_422 (by omega) (by omega) rz_42 ez_42 ez_46)), (by omega), (kBh_keep v_422 (by omega) egp_47), (kLl_keep v_423 (by omega) egp_47), (kBw_more v_424 (by omega) egp_47 (kOp_y ox ez_43 ez_44 rz_44 c_45) v_423 v_422 (by omega) (by omega) rz_42 ez_42 ez_46), (kLs_s v_425 (by omega) egp_47 rz_48 ez_48 ez_49), hP, hD, hS, lv_sub hl [0, 1, 3, 4, 5, 6, 7] rfl⟩
          · refine lv_sipush (v := zI 1000) hx hb dX4_findBehind_93 (by decide) ?_
            refine lv_goto (tgt := 107) hx hb dX4_findBehind_96 (by decide) ?_
            refine kz_rowst (X := [(h0, .inr (4, [.ref g1, .ref g2, .ref g3, .ref g4, .ref g5, .int (zI cn), .int (zI bo), .int (zI ru), .ref g6, .ref g7])), (g3, .inl (cg3, 24, .inl f3)), (g7, .inl (cg7, 24, .inr (.inr (.inr (.inr (fo))))))]) hx hb hK hP hD hS 2 rfl (by omega) (by omega) dX4_findBehind_107 (fun H locs hP hD hS => ?_)
            generalize egp_50 : va_up jq (o + (jk).toNat) (upd (jq (o + (jk).toNat)) (jf).toNat (zI 1000)) = gp_50 at hP hD
            have hP : va_P D vwCl (([(h0, .inr (4, [.ref g1, .ref g2, .ref g3, .ref g4, .ref g5, .int (zI cn), .int (zI bo), .int (zI ru), .ref g6, .ref g7])), (g3, .inl (cg3, 24, .inl f3)), (g7, .inl (cg7, 24, .inr (.inr (.inr (.inr (fo))))))] : va_W) ++ kRows pr gp_50 cy) H := hP
            have hD : va_D A (([(h0, .inr (4, [.ref g1, .ref g2, .ref g3, .ref g4, .ref g5, .int (zI cn), .int (zI bo), .int (zI ru), .ref g6, .ref g7])), (g3, .inl (cg3, 24, .inl f3)), (g7, .inl (cg7, 24, .inr (.inr (.inr (.inr (fo))))))] : va_W) ++ kRows pr gp_50 cy) := hD
            refine lv_iload hx hb dX4_findBehind_108 (lv_at hl 2 rfl) ?_
            refine lv_aload_n hx hb dX4_findBehind_110 rfl (lv_at hl 6 rfl) ?_
            refine va_get (D := D) (ci := 4) (v := .ref g7) (C := RX4) (T := TX4) (N := 10) hx hb hts (fun _ h9 => List.mem_cons_of_mem _ (List.mem_append_right _ h9)) hown hK hP 0 rfl rfl 9 (by decide) (hts (.fieldLink RX4 32 "FontRuns$Setting" "behind" "[[I") mw_X4_findBehind_b_2) (fun _ h9 => h9) rfl dX4_findBehind_111 ?_
            refine lv_iload_n hx hb dX4_findBehind_114 rfl (lv_at hl 4 rfl) ?_
            refine kz_aald hx hb hK hP 2 1 rfl rfl (by omega) dX4_findBehind_115 (q2 _ (by omega)) ?_
            refine lv_iload hx hb dX4_findBehind_116 (lv_at hl 1 rfl) ?_
            refine kz_rowld (X := [(h0, .inr (4, [.ref g1, .ref g2, .ref g3, .ref g4, .ref g5, .int (zI cn), .int (zI bo), .int (zI ru), .ref g6, .ref g7])), (g3, .inl (cg3, 24, .inl f3)), (g7, .inl (cg7, 24, .inr (.inr (.inr (.inr (fo))))))]) hx hb hK hP 2 rfl (by omega) (by omega) dX4_findBehind_118 (fun z_51 rz_51 ez_51 => ?_)
            refine kz_min hx hb (by rw [hml]; exact hl.1.symm) hown (hts (.methodLink RX4 85 Lib.Math.min.name) mw_X4_findBehind_b_3) (hts (.static Lib.Math.min.name) mw_X4_findBehind_b_4) (hts (.initialized "java/lang/Math") mw_X4_findBehind_b_5) (hts (.code Lib.Math.min.name Lib.Math.min.code 2 (some .int)) mw_X4_findBehind_b_6) (Nat.le_of_ble_eq_true rfl) (Nat.le_of_ble_eq_true rfl) (Nat.le_of_ble_eq_true rfl) (Nat.le_of_ble_eq_true rfl) (by omega) (by omega) dX4_findBehind_119 (fun z_52 rz_52 ez_52 => ?_)
            refine lv_istore (lv' := [(5, .int (zI z_52)), (7, .int (zI z_42)), (6, .int (zI jf)), (4, .int (zI z_29)), (3, .int (zI jk)), (2, .int (zI jl)), (0, .ref h0), (1, .int (zI al))]) hx hb dX4_findBehind_122 hl (by decide) rfl (fun ls hl => ?_)
            refine lv_iinc (v := (zI (jf + 1))) (lv' := [(6, .int (zI (jf + 1))), (5, .int (zI z_52)), (7, .int (zI z_42)), (4, .int (zI z_29)), (3, .int (zI jk)), (2, .int (zI jl)), (0, .ref h0), (1, .int (zI al))]) hx hb dX4_findBehind_124 hl (k := 2) rfl (kz_inc _ 1) (by decide) rfl (fun ls hl => ?_)
            refine lv_goto (tgt := 42) hx hb dX4_findBehind_127 (by decide) ?_
            exact ih42 _ (by omega) _ _ _ ⟨z_52, (jf + 1), gp_50, rfl, (kLs_b (kLs_s v_425 (by omega) egp_50 rz_51 ez_51 ez_52) (kBw_no v_424 (by omega) egp_50 (kOp_n ox ez_43 ez_44 c_45))), (by omega), (kBh_keep v_422 (by omega) egp_50), (kLl_keep v_423 (by omega) egp_50), (kBw_no v_424 (by omega) egp_50 (kOp_n ox ez_43 ez_44 c_45)), (kLs_s v_425 (by omega) egp_50 rz_51 ez_51 ez_52), hP, hD, hS, lv_sub hl [0, 1, 3, 4, 5, 6, 7] rfl⟩
