theorem dX4_findBehind_0 : decode cX4_findBehind 0 = .ok (.iconst 0, 1) := by decide +kernel
theorem dX4_findBehind_1 : decode cX4_findBehind 1 = .ok (.istore_n 2, 1) := by decide +kernel
theorem dX4_findBehind_2 : decode cX4_findBehind 2 = .ok (.aload_n 0, 1) := by decide +kernel
theorem dX4_findBehind_3 : decode cX4_findBehind 3 = .ok (.getfield 51, 3) := by decide +kernel
theorem dX4_findBehind_6 : decode cX4_findBehind 6 = .ok (.iconst 1, 1) := by decide +kernel
theorem dX4_findBehind_7 : decode cX4_findBehind 7 = .ok (.isub, 1) := by decide +kernel
theorem dX4_findBehind_8 : decode cX4_findBehind 8 = .ok (.istore_n 3, 1) := by decide +kernel
theorem dX4_findBehind_9 : decode cX4_findBehind 9 = .ok (.iload_n 3, 1) := by decide +kernel
theorem dX4_findBehind_10 : decode cX4_findBehind 10 = .ok (.ifCond .lt 129, 3) := by decide +kernel
theorem dX4_findBehind_13 : decode cX4_findBehind 13 = .ok (.aload_n 0, 1) := by decide +kernel
theorem dX4_findBehind_14 : decode cX4_findBehind 14 = .ok (.getfield 18, 3) := by decide +kernel
theorem dX4_findBehind_17 : decode cX4_findBehind 17 = .ok (.iload_n 3, 1) := by decide +kernel
theorem dX4_findBehind_18 : decode cX4_findBehind 18 = .ok (.iaload, 1) := by decide +kernel
theorem dX4_findBehind_19 : decode cX4_findBehind 19 = .ok (.ifCond .ne 7, 3) := by decide +kernel
theorem dX4_findBehind_22 : decode cX4_findBehind 22 = .ok (.iload_n 1, 1) := by decide +kernel
theorem dX4_findBehind_23 : decode cX4_findBehind 23 = .ok (.goto 9, 3) := by decide +kernel
theorem dX4_findBehind_26 : decode cX4_findBehind 26 = .ok (.aload_n 0, 1) := by decide +kernel
theorem dX4_findBehind_27 : decode cX4_findBehind 27 = .ok (.getfield 18, 3) := by decide +kernel
theorem dX4_findBehind_30 : decode cX4_findBehind 30 = .ok (.iload_n 3, 1) := by decide +kernel
theorem dX4_findBehind_31 : decode cX4_findBehind 31 = .ok (.iaload, 1) := by decide +kernel
theorem dX4_findBehind_32 : decode cX4_findBehind 32 = .ok (.istore 4, 2) := by decide +kernel
theorem dX4_findBehind_34 : decode cX4_findBehind 34 = .ok (.sipush 1000, 3) := by decide +kernel
theorem dX4_findBehind_37 : decode cX4_findBehind 37 = .ok (.istore 5, 2) := by decide +kernel
theorem dX4_findBehind_39 : decode cX4_findBehind 39 = .ok (.iconst 0, 1) := by decide +kernel
theorem dX4_findBehind_40 : decode cX4_findBehind 40 = .ok (.istore 6, 2) := by decide +kernel
theorem dX4_findBehind_42 : decode cX4_findBehind 42 = .ok (.iload 6, 2) := by decide +kernel
theorem dX4_findBehind_44 : decode cX4_findBehind 44 = .ok (.iconst 4, 1) := by decide +kernel
theorem dX4_findBehind_45 : decode cX4_findBehind 45 = .ok (.if_icmp .ge 85, 3) := by decide +kernel
theorem dX4_findBehind_48 : decode cX4_findBehind 48 = .ok (.iload_n 3, 1) := by decide +kernel
theorem dX4_findBehind_49 : decode cX4_findBehind 49 = .ok (.iconst 1, 1) := by decide +kernel
theorem dX4_findBehind_50 : decode cX4_findBehind 50 = .ok (.iadd, 1) := by decide +kernel
theorem dX4_findBehind_51 : decode cX4_findBehind 51 = .ok (.aload_n 0, 1) := by decide +kernel
theorem dX4_findBehind_52 : decode cX4_findBehind 52 = .ok (.getfield 51, 3) := by decide +kernel
theorem dX4_findBehind_55 : decode cX4_findBehind 55 = .ok (.if_icmp .ge 17, 3) := by decide +kernel
theorem dX4_findBehind_58 : decode cX4_findBehind 58 = .ok (.aload_n 0, 1) := by decide +kernel
theorem dX4_findBehind_59 : decode cX4_findBehind 59 = .ok (.getfield 32, 3) := by decide +kernel
theorem dX4_findBehind_62 : decode cX4_findBehind 62 = .ok (.iload_n 3, 1) := by decide +kernel
theorem dX4_findBehind_63 : decode cX4_findBehind 63 = .ok (.iconst 1, 1) := by decide +kernel
theorem dX4_findBehind_64 : decode cX4_findBehind 64 = .ok (.iadd, 1) := by decide +kernel
theorem dX4_findBehind_65 : decode cX4_findBehind 65 = .ok (.aaload, 1) := by decide +kernel
theorem dX4_findBehind_66 : decode cX4_findBehind 66 = .ok (.iload 6, 2) := by decide +kernel
theorem dX4_findBehind_68 : decode cX4_findBehind 68 = .ok (.iaload, 1) := by decide +kernel
theorem dX4_findBehind_69 : decode cX4_findBehind 69 = .ok (.goto 4, 3) := by decide +kernel
theorem dX4_findBehind_72 : decode cX4_findBehind 72 = .ok (.iconst 0, 1) := by decide +kernel
theorem dX4_findBehind_73 : decode cX4_findBehind 73 = .ok (.istore 7, 2) := by decide +kernel
theorem dX4_findBehind_75 : decode cX4_findBehind 75 = .ok (.aload_n 0, 1) := by decide +kernel
theorem dX4_findBehind_76 : decode cX4_findBehind 76 = .ok (.getfield 32, 3) := by decide +kernel
theorem dX4_findBehind_79 : decode cX4_findBehind 79 = .ok (.iload_n 3, 1) := by decide +kernel
theorem dX4_findBehind_80 : decode cX4_findBehind 80 = .ok (.aaload, 1) := by decide +kernel
theorem dX4_findBehind_81 : decode cX4_findBehind 81 = .ok (.iload 6, 2) := by decide +kernel
theorem dX4_findBehind_83 : decode cX4_findBehind 83 = .ok (.iload 4, 2) := by decide +kernel
theorem dX4_findBehind_85 : decode cX4_findBehind 85 = .ok (.iload 6, 2) := by decide +kernel
theorem dX4_findBehind_87 : decode cX4_findBehind 87 = .ok (.ishr, 1) := by decide +kernel
theorem dX4_findBehind_88 : decode cX4_findBehind 88 = .ok (.iconst 1, 1) := by decide +kernel
theorem dX4_findBehind_89 : decode cX4_findBehind 89 = .ok (.iand, 1) := by decide +kernel
theorem dX4_findBehind_90 : decode cX4_findBehind 90 = .ok (.ifCond .ne 9, 3) := by decide +kernel
theorem dX4_findBehind_93 : decode cX4_findBehind 93 = .ok (.sipush 1000, 3) := by decide +kernel
theorem dX4_findBehind_96 : decode cX4_findBehind 96 = .ok (.goto 11, 3) := by decide +kernel
theorem dX4_findBehind_99 : decode cX4_findBehind 99 = .ok (.iload 7, 2) := by decide +kernel
theorem dX4_findBehind_101 : decode cX4_findBehind 101 = .ok (.iload_n 2, 1) := by decide +kernel
theorem dX4_findBehind_102 : decode cX4_findBehind 102 = .ok (.iconst 1, 1) := by decide +kernel
theorem dX4_findBehind_103 : decode cX4_findBehind 103 = .ok (.iadd, 1) := by decide +kernel
theorem dX4_findBehind_104 : decode cX4_findBehind 104 = .ok (.invokestatic 85, 3) := by decide +kernel
theorem dX4_findBehind_107 : decode cX4_findBehind 107 = .ok (.iastore, 1) := by decide +kernel
theorem dX4_findBehind_108 : decode cX4_findBehind 108 = .ok (.iload 5, 2) := by decide +kernel
theorem dX4_findBehind_110 : decode cX4_findBehind 110 = .ok (.aload_n 0, 1) := by decide +kernel
theorem dX4_findBehind_111 : decode cX4_findBehind 111 = .ok (.getfield 32, 3) := by decide +kernel
theorem dX4_findBehind_114 : decode cX4_findBehind 114 = .ok (.iload_n 3, 1) := by decide +kernel
theorem dX4_findBehind_115 : decode cX4_findBehind 115 = .ok (.aaload, 1) := by decide +kernel
theorem dX4_findBehind_116 : decode cX4_findBehind 116 = .ok (.iload 6, 2) := by decide +kernel
theorem dX4_findBehind_118 : decode cX4_findBehind 118 = .ok (.iaload, 1) := by decide +kernel
theorem dX4_findBehind_119 : decode cX4_findBehind 119 = .ok (.invokestatic 85, 3) := by decide +kernel
theorem dX4_findBehind_122 : decode cX4_findBehind 122 = .ok (.istore 5, 2) := by decide +kernel
theorem dX4_findBehind_124 : decode cX4_findBehind 124 = .ok (.iinc 6 1, 3) := by decide +kernel
theorem dX4_findBehind_127 : decode cX4_findBehind 127 = .ok (.goto (-85), 3) := by decide +kernel
theorem dX4_findBehind_130 : decode cX4_findBehind 130 = .ok (.iload 5, 2) := by decide +kernel
theorem dX4_findBehind_132 : decode cX4_findBehind 132 = .ok (.istore_n 2, 1) := by decide +kernel
theorem dX4_findBehind_133 : decode cX4_findBehind 133 = .ok (.iinc 3 (-1), 3) := by decide +kernel
theorem dX4_findBehind_136 : decode cX4_findBehind 136 = .ok (.goto (-127), 3) := by decide +kernel
theorem dX4_findBehind_139 : decode cX4_findBehind 139 = .ok (.return_, 1) := by decide +kernel
set_option maxRecDepth 20000 in
theorem mw_X4_findBehind_0 : (.fieldLink RX4 51 "FontRuns$Setting" "count" "I" : Cond) ∈ wsX4_findBehind := List.mem_cons_of_mem _ (List.mem_append_left _ (List.mem_of_getElem? (i := 0) rfl))
set_option maxRecDepth 20000 in
theorem mw_X4_findBehind_1 : (.fieldLink RX4 18 "FontRuns$Setting" "fitting" "[I" : Cond) ∈ wsX4_findBehind := List.mem_cons_of_mem _ (List.mem_append_left _ (List.mem_of_getElem? (i := 1) rfl))
set_option maxRecDepth 20000 in
theorem mw_X4_findBehind_2 : (.fieldLink RX4 32 "FontRuns$Setting" "behind" "[[I" : Cond) ∈ wsX4_findBehind := List.mem_cons_of_mem _ (List.mem_append_left _ (List.mem_of_getElem? (i := 2) rfl))
set_option maxRecDepth 20000 in
theorem mw_X4_findBehind_3 : (.methodLink RX4 85 Lib.Math.min.name : Cond) ∈ wsX4_findBehind := List.mem_cons_of_mem _ (List.mem_append_left _ (List.mem_of_getElem? (i := 3) rfl))
set_option maxRecDepth 20000 in
theorem mw_X4_findBehind_4 : (.static Lib.Math.min.name : Cond) ∈ wsX4_findBehind := List.mem_cons_of_mem _ (List.mem_append_left _ (List.mem_of_getElem? (i := 4) rfl))
set_option maxRecDepth 20000 in
theorem mw_X4_findBehind_5 : (.initialized "java/lang/Math" : Cond) ∈ wsX4_findBehind := List.mem_cons_of_mem _ (List.mem_append_left _ (List.mem_of_getElem? (i := 5) rfl))
set_option maxRecDepth 20000 in
theorem mw_X4_findBehind_6 : (.code Lib.Math.min.name Lib.Math.min.code 2 (some .int) : Cond) ∈ wsX4_findBehind := List.mem_cons_of_mem _ (List.mem_append_left _ (List.mem_of_getElem? (i := 6) rfl))
theorem ax_X4_findBehind_0 {e0 e1 e2 : Nat × va_E} : ([0, 1, 2] : List Nat).map (fun i => ([e0, e1, e2] : va_W)[i]?) = ([e0, e1, e2] : va_W).map some := rfl
set_option maxHeartbeats 4000000 in
set_option maxRecDepth 100000 in
theorem c_X4_findBehind (l : Launch) (D : va_G) (sz : Nat) (al : Int) (h0 : Nat) (g1 : Nat) (g2 : Nat) (g3 : Nat) (g4 : Nat) (g5 : Nat) (cn : Int) (bo : Int) (ru : Int) (g6 : Nat) (g7 : Nat) (cg3 : ClassId) (f3 : Nat → Int32) (cg7 : ClassId) (fo : Nat → Option Nat) (o : Nat) (pr : Nat → Nat) (gp : Nat → Nat → Int32) (cy : ClassId) (q0 : rg al) (q1 : 0 ≤ cn ∧ cn ≤ 24) (q2 : kOut fo pr o 24) (q3 : o + 24 ≤ 56) : Met l yX4_findBehind wsX4_findBehind ({ frames := 1, cells := 0, slots := 0, locals := 21 }) (kPre [.ref h0, .int (zI al)] D (([(h0, .inr (4, [.ref g1, .ref g2, .ref g3, .ref g4, .ref g5, .int (zI cn), .int (zI bo), .int (zI ru), .ref g6, .ref g7])), (g3, .inl (cg3, 24, .inl f3)), (g7, .inl (cg7, 24, .inr (.inr (.inr (.inr (fo))))))] : va_W) ++ kRows pr gp cy) [(cg3, .int), (cg7, .array .int), (cy, .int)] sz) (kQV (fun t => ∃ (ug : Nat → Nat → Int32), va_P D vwCl (([(h0, .inr (4, [.ref g1, .ref g2, .ref g3, .ref g4, .ref g5, .int (zI cn), .int (zI bo), .int (zI ru), .ref g6, .ref g7])), (g3, .inl (cg3, 24, .inl f3)), (g7, .inl (cg7, 24, .inr (.inr (.inr (.inr (fo))))))] : va_W) ++ kRows pr ug cy) t.heap ∧ va_D (va_A (([(h0, .inr (4, [.ref g1, .ref g2, .ref g3, .ref g4, .ref g5, .int (zI cn), .int (zI bo), .int (zI ru), .ref g6, .ref g7])), (g3, .inl (cg3, 24, .inl f3)), (g7, .inl (cg7, 24, .inr (.inr (.inr (.inr (fo))))))] : va_W) ++ kRows pr gp cy) sz) (([(h0, .inr (4, [.ref g1, .ref g2, .ref g3, .ref g4, .ref g5, .int (zI cn), .int (zI bo), .int (zI ru), .ref g6, .ref g7])), (g3, .inl (cg3, 24, .inl f3)), (g7, .inl (cg7, 24, .inr (.inr (.inr (.inr (fo))))))] : va_W) ++ kRows pr ug cy)) (va_A (([(h0, .inr (4, [.ref g1, .ref g2, .ref g3, .ref g4, .ref g5, .int (zI cn), .int (zI bo), .int (zI ru), .ref g6, .ref g7])), (g3, .inl (cg3, 24, .inl f3)), (g7, .inl (cg7, 24, .inr (.inr (.inr (.inr (fo))))))] : va_W) ++ kRows pr gp cy) sz)) 0 0 (va_A (([(h0, .inr (4, [.ref g1, .ref g2, .ref g3, .ref g4, .ref g5, .int (zI cn), .int (zI bo), .int (zI ru), .ref g6, .ref g7])), (g3, .inl (cg3, 24, .inl f3)), (g7, .inl (cg7, 24, .inr (.inr (.inr (.inr (fo))))))] : va_W) ++ kRows pr gp cy) sz) := by
  refine Met.ofW (cc := cX4_findBehind) (maxL := 8) (ret := none) (by decide) rfl ?_
  intro p e s m args below meth c s₁ B hml hv
  obtain ⟨rfl, hsz, hP, hK, hD0, hN⟩ := hv
  have hx := B.exec
  have hb := B.bytes
  have hr := B.returns
  have hts := atoms_spec (ws := wsX4_findBehind) B.pre
  have hown : s.vm.findClass RX4 = some m.cls := findClass_of_methodNamed B.named
  have hlocks := B.notSynchronized
  subst hsz
  have hD := hD0.self (sz := s.heap.size)
  generalize hAe : va_A (([(h0, .inr (4, [.ref g1, .ref g2, .ref g3, .ref g4, .ref g5, .int (zI cn), .int (zI bo), .int (zI ru), .ref g6, .ref g7])), (g3, .inl (cg3, 24, .inl f3)), (g7, .inl (cg7, 24, .inr (.inr (.inr (.inr (fo))))))] : va_W) ++ kRows pr gp cy) s.heap.size = A at hD ⊢
  have hA : ∀ q : Nat, s.heap.size ≤ q → A q := fun q h => by rw [← hAe]; exact Or.inr h
  have hS : va_S A s.heap s.heap [] := va_S.rf
  have hP : va_P D vwCl (([(h0, .inr (4, [.ref g1, .ref g2, .ref g3, .ref g4, .ref g5, .int (zI cn), .int (zI bo), .int (zI ru), .ref g6, .ref g7])), (g3, .inl (cg3, 24, .inl f3)), (g7, .inl (cg7, 24, .inr (.inr (.inr (.inr (fo))))))] : va_W) ++ kRows pr gp cy) s.heap := hP
  have hl := lv_entry ([.ref h0, .int (zI al)]) (n := 8) (Nat.le_of_ble_eq_true rfl)
  rw [lg_entry_eq]
  generalize (lg_sl ([.ref h0, .int (zI al)]) ++ List.replicate (8 - (lg_sl ([.ref h0, .int (zI al)])).length) Slot.unset).toArray = ls at hl ⊢
  have hl : lv_has ls 8 [(0, .ref h0), (1, .int (zI al))] := hl
  refine lv_iconst (v := zI 0) hx hb dX4_findBehind_0 rfl ?_
  refine lv_istore_n (lv' := [(2, .int (zI 0)), (0, .ref h0), (1, .int (zI al))]) hx hb dX4_findBehind_1 rfl hl (by decide) rfl (fun ls hl => ?_)
  refine lv_aload_n hx hb dX4_findBehind_2 rfl (lv_at hl 1 rfl) ?_
  refine va_get (D := D) (ci := 4) (v := .int (zI cn)) (C := RX4) (T := TX4) (N := 10) hx hb hts (fun _ h9 => List.mem_cons_of_mem _ (List.mem_append_right _ h9)) hown hK hP 0 rfl rfl 5 (by decide) (hts (.fieldLink RX4 51 "FontRuns$Setting" "count" "I") mw_X4_findBehind_0) (fun _ h9 => h9) rfl dX4_findBehind_3 ?_
  refine lv_iconst (v := zI 1) hx hb dX4_findBehind_6 rfl ?_
  refine kz_isub hx hb dX4_findBehind_7 ?_
  refine lv_istore_n (lv' := [(3, .int (zI (cn - 1))), (2, .int (zI 0)), (0, .ref h0), (1, .int (zI al))]) hx hb dX4_findBehind_8 rfl hl (by decide) rfl (fun ls hl => ?_)
  refine k_loopM (I := fun n9 H locs ls => ∃ (jl : Int) (jk : Int) (jp : Nat → Nat → Int32), n9 = (jk + 1).toNat ∧ (rg jl ∧ jl ≤ 1000) ∧ (-1 ≤ jk ∧ jk ≤ cn - 1) ∧ va_P D vwCl (([(h0, .inr (4, [.ref g1, .ref g2, .ref g3, .ref g4, .ref g5, .int (zI cn), .int (zI bo), .int (zI ru), .ref g6, .ref g7])), (g3, .inl (cg3, 24, .inl f3)), (g7, .inl (cg7, 24, .inr (.inr (.inr (.inr (fo))))))] : va_W) ++ kRows pr jp cy) H ∧ va_D A (([(h0, .inr (4, [.ref g1, .ref g2, .ref g3, .ref g4, .ref g5, .int (zI cn), .int (zI bo), .int (zI ru), .ref g6, .ref g7])), (g3, .inl (cg3, 24, .inl f3)), (g7, .inl (cg7, 24, .inr (.inr (.inr (.inr (fo))))))] : va_W) ++ kRows pr jp cy) ∧ va_S A s.heap H locs ∧ lv_has ls 8 [(3, .int (zI jk)), (2, .int (zI jl)), (0, .ref h0), (1, .int (zI al))]) ?_ _ ⟨0, (cn - 1), gp, rfl, (by omega), (by omega), hP, hD, hS, hl⟩
  intro n9 ih9 H locs ls hI
  obtain ⟨jl, jk, jp, en9, v_90, v_91, hP, hD, hS, hl⟩ := hI
  refine lv_iload_n hx hb dX4_findBehind_9 rfl (lv_at hl 0 rfl) ?_
  refine kz_if_lt (tgt := 139) hx hb dX4_findBehind_10 (by decide) (by omega) (fun c_1 => ?_) (fun c_1 => ?_)
  · have hP9 : va_P D vwCl (([(h0, .inr (4, [.ref g1, .ref g2, .ref g3, .ref g4, .ref g5, .int (zI cn), .int (zI bo), .int (zI ru), .ref g6, .ref g7])), (g3, .inl (cg3, 24, .inl f3)), (g7, .inl (cg7, 24, .inr (.inr (.inr (.inr (fo))))))] : va_W) ++ kRows pr jp cy) H := hP.part [0, 1, 2] ax_X4_findBehind_0
    have hD9 : va_D A (([(h0, .inr (4, [.ref g1, .ref g2, .ref g3, .ref g4, .ref g5, .int (zI cn), .int (zI bo), .int (zI ru), .ref g6, .ref g7])), (g3, .inl (cg3, 24, .inl f3)), (g7, .inl (cg7, 24, .inr (.inr (.inr (.inr (fo))))))] : va_W) ++ kRows pr jp cy) := hD.part [0, 1, 2] (by decide +kernel) ax_X4_findBehind_0
    exact W.vret hx hb hr (fun t ht hW => kQV_of ⟨jp, by rw [ht]; exact hP9, hD9⟩ (hS.F ht)) hS.2.2 dX4_findBehind_139
  · refine lv_aload_n hx hb dX4_findBehind_13 rfl (lv_at hl 2 rfl) ?_
    refine va_get (D := D) (ci := 4) (v := .ref g3) (C := RX4) (T := TX4) (N := 10) hx hb hts (fun _ h9 => List.mem_cons_of_mem _ (List.mem_append_right _ h9)) hown hK hP 0 rfl rfl 2 (by decide) (hts (.fieldLink RX4 18 "FontRuns$Setting" "fitting" "[I") mw_X4_findBehind_1) (fun _ h9 => h9) rfl dX4_findBehind_14 ?_
    refine lv_iload_n hx hb dX4_findBehind_17 rfl (lv_at hl 0 rfl) ?_
    refine kz_iald hx hb hK hP 1 0 rfl rfl (by omega) dX4_findBehind_18 (fun z_2 rz_2 ez_2 => ?_)
    refine kz_if_ne (tgt := 26) hx hb dX4_findBehind_19 (by decide) (by omega) (fun c_3 => ?_) (fun c_3 => ?_)
    · refine lv_aload_n hx hb dX4_findBehind_26 rfl (lv_at hl 2 rfl) ?_
      refine va_get (D := D) (ci := 4) (v := .ref g3) (C := RX4) (T := TX4) (N := 10) hx hb hts (fun _ h9 => List.mem_cons_of_mem _ (List.mem_append_right _ h9)) hown hK hP 0 rfl rfl 2 (by decide) (hts (.fieldLink RX4 18 "FontRuns$Setting" "fitting" "[I") mw_X4_findBehind_1) (fun _ h9 => h9) rfl dX4_findBehind_27 ?_
      refine lv_iload_n hx hb dX4_findBehind_30 rfl (lv_at hl 0 rfl) ?_
      refine kz_iald hx hb hK hP 1 0 rfl rfl (by omega) dX4_findBehind_31 (fun z_4 rz_4 ez_4 => ?_)
      refine kz_any (fun z_5 rz_5 ez_5 => ?_)
      refine lv_istore (lv' := [(4, .int (zI z_5)), (3, .int (zI jk)), (2, .int (zI jl)), (0, .ref h0), (1, .int (zI al))]) hx hb dX4_findBehind_32 hl (by decide) rfl (fun ls hl => ?_)
      refine lv_sipush (v := zI 1000) hx hb dX4_findBehind_34 (by decide) ?_
      refine lv_istore (lv' := [(5, .int (zI 1000)), (4, .int (zI z_5)), (3, .int (zI jk)), (2, .int (zI jl)), (0, .ref h0), (1, .int (zI al))]) hx hb dX4_findBehind_37 hl (by decide) rfl (fun ls hl => ?_)
      refine lv_iconst (v := zI 0) hx hb dX4_findBehind_39 rfl ?_
      refine lv_istore (lv' := [(6, .int (zI 0)), (5, .int (zI 1000)), (4, .int (zI z_5)), (3, .int (zI jk)), (2, .int (zI jl)), (0, .ref h0), (1, .int (zI al))]) hx hb dX4_findBehind_40 hl (by decide) rfl (fun ls hl => ?_)
      refine k_loopM (I := fun n9 H locs ls => ∃ (jh : Int) (jf : Int) (jq : Nat → Nat → Int32), n9 = (4 - jf).toNat ∧ (rg jh ∧ jh ≤ 1000) ∧ (0 ≤ jf ∧ jf ≤ 4) ∧ va_P D vwCl (([(h0, .inr (4, [.ref g1, .ref g2, .ref g3, .ref g4, .ref g5, .int (zI cn), .int (zI bo), .int (zI ru), .ref g6, .ref g7])), (g3, .inl (cg3, 24, .inl f3)), (g7, .inl (cg7, 24, .inr (.inr (.inr (.inr (fo))))))] : va_W) ++ kRows pr jq cy) H ∧ va_D A (([(h0, .inr (4, [.ref g1, .ref g2, .ref g3, .ref g4, .ref g5, .int (zI cn), .int (zI bo), .int (zI ru), .ref g6, .ref g7])), (g3, .inl (cg3, 24, .inl f3)), (g7, .inl (cg7, 24, .inr (.inr (.inr (.inr (fo))))))] : va_W) ++ kRows pr jq cy) ∧ va_S A s.heap H locs ∧ lv_has ls 8 [(6, .int (zI jf)), (5, .int (zI jh)), (4, .int (zI z_5)), (3, .int (zI jk)), (2, .int (zI jl)), (0, .ref h0), (1, .int (zI al))]) ?_ _ ⟨1000, 0, jp, rfl, (by omega), (by omega), hP, hD, hS, hl⟩
      intro n42 ih42 H locs ls hI
      obtain ⟨jh, jf, jq, en42, v_420, v_421, hP, hD, hS, hl⟩ := hI
      refine lv_iload hx hb dX4_findBehind_42 (lv_at hl 0 rfl) ?_
      refine lv_iconst (v := zI 4) hx hb dX4_findBehind_44 rfl ?_
      refine kz_icmp_ge (tgt := 130) hx hb dX4_findBehind_45 (by decide) (by omega) (by omega) (fun c_6 => ?_) (fun c_6 => ?_)
      · refine lv_iload hx hb dX4_findBehind_130 (lv_at hl 1 rfl) ?_
        refine lv_istore_n (lv' := [(2, .int (zI jh)), (6, .int (zI jf)), (5, .int (zI jh)), (4, .int (zI z_5)), (3, .int (zI jk)), (0, .ref h0), (1, .int (zI al))]) hx hb dX4_findBehind_132 rfl hl (by decide) rfl (fun ls hl => ?_)
        refine lv_iinc (v := (zI (jk - 1))) (lv' := [(3, .int (zI (jk - 1))), (2, .int (zI jh)), (6, .int (zI jf)), (5, .int (zI jh)), (4, .int (zI z_5)), (0, .ref h0), (1, .int (zI al))]) hx hb dX4_findBehind_133 hl (k := 4) rfl (kz_dec _ 1) (by decide) rfl (fun ls hl => ?_)
        refine lv_goto (tgt := 9) hx hb dX4_findBehind_136 (by decide) ?_
        exact ih9 _ (by omega) _ _ _ ⟨jh, (jk - 1), jq, rfl, v_420, (by omega), hP, hD, hS, lv_sub hl [0, 1, 5, 6] rfl⟩
      · refine lv_iload_n hx hb dX4_findBehind_48 rfl (lv_at hl 3 rfl) ?_
        refine lv_iconst (v := zI 1) hx hb dX4_findBehind_49 rfl ?_
        refine kz_iadd hx hb dX4_findBehind_50 ?_
        refine lv_aload_n hx hb dX4_findBehind_51 rfl (lv_at hl 5 rfl) ?_
        refine va_get (D := D) (ci := 4) (v := .int (zI cn)) (C := RX4) (T := TX4) (N := 10) hx hb hts (fun _ h9 => List.mem_cons_of_mem _ (List.mem_append_right _ h9)) hown hK hP 0 rfl rfl 5 (by decide) (hts (.fieldLink RX4 51 "FontRuns$Setting" "count" "I") mw_X4_findBehind_0) (fun _ h9 => h9) rfl dX4_findBehind_52 ?_
        refine kz_icmp_ge (tgt := 72) hx hb dX4_findBehind_55 (by decide) (by omega) (by omega) (fun c_7 => ?_) (fun c_7 => ?_)
        · refine lv_iconst (v := zI 0) hx hb dX4_findBehind_72 rfl ?_
          refine lv_istore (lv' := [(7, .int (zI 0)), (6, .int (zI jf)), (5, .int (zI jh)), (4, .int (zI z_5)), (3, .int (zI jk)), (2, .int (zI jl)), (0, .ref h0), (1, .int (zI al))]) hx hb dX4_findBehind_73 hl (by decide) rfl (fun ls hl => ?_)
          refine lv_aload_n hx hb dX4_findBehind_75 rfl (lv_at hl 6 rfl) ?_
          refine va_get (D := D) (ci := 4) (v := .ref g7) (C := RX4) (T := TX4) (N := 10) hx hb hts (fun _ h9 => List.mem_cons_of_mem _ (List.mem_append_right _ h9)) hown hK hP 0 rfl rfl 9 (by decide) (hts (.fieldLink RX4 32 "FontRuns$Setting" "behind" "[[I") mw_X4_findBehind_2) (fun _ h9 => h9) rfl dX4_findBehind_76 ?_
          refine lv_iload_n hx hb dX4_findBehind_79 rfl (lv_at hl 4 rfl) ?_
          refine kz_aald hx hb hK hP 2 1 rfl rfl (by omega) dX4_findBehind_80 (q2 _ (by omega)) ?_
          refine lv_iload hx hb dX4_findBehind_81 (lv_at hl 1 rfl) ?_
          refine lv_iload hx hb dX4_findBehind_83 (lv_at hl 3 rfl) ?_
          refine lv_iload hx hb dX4_findBehind_85 (lv_at hl 1 rfl) ?_
          refine lv_ishr hx hb dX4_findBehind_87 ?_
          refine kz_any (fun z_8 rz_8 ez_8 => ?_)
          refine lv_iconst (v := zI 1) hx hb dX4_findBehind_88 rfl ?_
          refine lv_iand hx hb dX4_findBehind_89 ?_
          refine kz_any (fun z_9 rz_9 ez_9 => ?_)
          refine kz_if_ne (tgt := 99) hx hb dX4_findBehind_90 (by decide) (by omega) (fun c_10 => ?_) (fun c_10 => ?_)
          · refine lv_iload hx hb dX4_findBehind_99 (lv_at hl 0 rfl) ?_
            refine lv_iload_n hx hb dX4_findBehind_101 rfl (lv_at hl 5 rfl) ?_
            refine lv_iconst (v := zI 1) hx hb dX4_findBehind_102 rfl ?_
            refine kz_iadd hx hb dX4_findBehind_103 ?_
            refine kz_min hx hb (by rw [hml]; exact hl.1.symm) hown (hts (.methodLink RX4 85 Lib.Math.min.name) mw_X4_findBehind_3) (hts (.static Lib.Math.min.name) mw_X4_findBehind_4) (hts (.initialized "java/lang/Math") mw_X4_findBehind_5) (hts (.code Lib.Math.min.name Lib.Math.min.code 2 (some .int)) mw_X4_findBehind_6) (Nat.le_of_ble_eq_true rfl) (Nat.le_of_ble_eq_true rfl) (Nat.le_of_ble_eq_true rfl) (Nat.le_of_ble_eq_true rfl) (by omega) (by omega) dX4_findBehind_104 (fun z_11 rz_11 ez_11 => ?_)
            refine kz_rowst (X := [(h0, .inr (4, [.ref g1, .ref g2, .ref g3, .ref g4, .ref g5, .int (zI cn), .int (zI bo), .int (zI ru), .ref g6, .ref g7])), (g3, .inl (cg3, 24, .inl f3)), (g7, .inl (cg7, 24, .inr (.inr (.inr (.inr (fo))))))]) hx hb hK hP hD hS 2 rfl (by omega) (by omega) dX4_findBehind_107 (fun H locs hP hD hS => ?_)
            generalize va_up jq (o + (jk).toNat) (upd (jq (o + (jk).toNat)) (jf).toNat (zI z_11)) = gp_12 at hP hD
            have hP : va_P D vwCl (([(h0, .inr (4, [.ref g1, .ref g2, .ref g3, .ref g4, .ref g5, .int (zI cn), .int (zI bo), .int (zI ru), .ref g6, .ref g7])), (g3, .inl (cg3, 24, .inl f3)), (g7, .inl (cg7, 24, .inr (.inr (.inr (.inr (fo))))))] : va_W) ++ kRows pr gp_12 cy) H := hP
            have hD : va_D A (([(h0, .inr (4, [.ref g1, .ref g2, .ref g3, .ref g4, .ref g5, .int (zI cn), .int (zI bo), .int (zI ru), .ref g6, .ref g7])), (g3, .inl (cg3, 24, .inl f3)), (g7, .inl (cg7, 24, .inr (.inr (.inr (.inr (fo))))))] : va_W) ++ kRows pr gp_12 cy) := hD
            refine lv_iload hx hb dX4_findBehind_108 (lv_at hl 2 rfl) ?_
            refine lv_aload_n hx hb dX4_findBehind_110 rfl (lv_at hl 6 rfl) ?_
            refine va_get (D := D) (ci := 4) (v := .ref g7) (C := RX4) (T := TX4) (N := 10) hx hb hts (fun _ h9 => List.mem_cons_of_mem _ (List.mem_append_right _ h9)) hown hK hP 0 rfl rfl 9 (by decide) (hts (.fieldLink RX4 32 "FontRuns$Setting" "behind" "[[I") mw_X4_findBehind_2) (fun _ h9 => h9) rfl dX4_findBehind_111 ?_
            refine lv_iload_n hx hb dX4_findBehind_114 rfl (lv_at hl 4 rfl) ?_
            refine kz_aald hx hb hK hP 2 1 rfl rfl (by omega) dX4_findBehind_115 (q2 _ (by omega)) ?_
            refine lv_iload hx hb dX4_findBehind_116 (lv_at hl 1 rfl) ?_
            refine kz_rowld (X := [(h0, .inr (4, [.ref g1, .ref g2, .ref g3, .ref g4, .ref g5, .int (zI cn), .int (zI bo), .int (zI ru), .ref g6, .ref g7])), (g3, .inl (cg3, 24, .inl f3)), (g7, .inl (cg7, 24, .inr (.inr (.inr (.inr (fo))))))]) hx hb hK hP 2 rfl (by omega) (by omega) dX4_findBehind_118 (fun z_13 rz_13 ez_13 => ?_)
            refine kz_min hx hb (by rw [hml]; exact hl.1.symm) hown (hts (.methodLink RX4 85 Lib.Math.min.name) mw_X4_findBehind_3) (hts (.static Lib.Math.min.name) mw_X4_findBehind_4) (hts (.initialized "java/lang/Math") mw_X4_findBehind_5) (hts (.code Lib.Math.min.name Lib.Math.min.code 2 (some .int)) mw_X4_findBehind_6) (Nat.le_of_ble_eq_true rfl) (Nat.le_of_ble_eq_true rfl) (Nat.le_of_ble_eq_true rfl) (Nat.le_of_ble_eq_true rfl) (by omega) (by omega) dX4_findBehind_119 (fun z_14 rz_14 ez_14 => ?_)
            refine lv_istore (lv' := [(5, .int (zI z_14)), (7, .int (zI 0)), (6, .int (zI jf)), (4, .int (zI z_5)), (3, .int (zI jk)), (2, .int (zI jl)), (0, .ref h0), (1, .int (zI al))]) hx hb dX4_findBehind_122 hl (by decide) rfl (fun ls hl => ?_)
            refine lv_iinc (v := (zI (jf + 1))) (lv' := [(6, .int (zI (jf + 1))), (5, .int (zI z_14)), (7, .int (zI 0)), (4, .int (zI z_5)), (3, .int (zI jk)), (2, .int (zI jl)), (0, .ref h0), (1, .int (zI al))]) hx hb dX4_findBehind_124 hl (k := 2) rfl (kz_inc _ 1) (by decide) rfl (fun ls hl => ?_)
            refine lv_goto (tgt := 42) hx hb dX4_findBehind_127 (by decide) ?_
            exact ih42 _ (by omega) _ _ _ ⟨z_14, (jf + 1), gp_12, rfl, (by omega), (by omega), hP, hD, hS, lv_sub hl [0, 1, 3, 4, 5, 6, 7] rfl⟩
          · refine lv_sipush (v := zI 1000) hx hb dX4_findBehind_93 (by decide) ?_
            refine lv_goto (tgt := 107) hx hb dX4_findBehind_96 (by decide) ?_
            refine kz_rowst (X := [(h0, .inr (4, [.ref g1, .ref g2, .ref g3, .ref g4, .ref g5, .int (zI cn), .int (zI bo), .int (zI ru), .ref g6, .ref g7])), (g3, .inl (cg3, 24, .inl f3)), (g7, .inl (cg7, 24, .inr (.inr (.inr (.inr (fo))))))]) hx hb hK hP hD hS 2 rfl (by omega) (by omega) dX4_findBehind_107 (fun H locs hP hD hS => ?_)
            generalize va_up jq (o + (jk).toNat) (upd (jq (o + (jk).toNat)) (jf).toNat (zI 1000)) = gp_15 at hP hD
            have hP : va_P D vwCl (([(h0, .inr (4, [.ref g1, .ref g2, .ref g3, .ref g4, .ref g5, .int (zI cn), .int (zI bo), .int (zI ru), .ref g6, .ref g7])), (g3, .inl (cg3, 24, .inl f3)), (g7, .inl (cg7, 24, .inr (.inr (.inr (.inr (fo))))))] : va_W) ++ kRows pr gp_15 cy) H := hP
            have hD : va_D A (([(h0, .inr (4, [.ref g1, .ref g2, .ref g3, .ref g4, .ref g5, .int (zI cn), .int (zI bo), .int (zI ru), .ref g6, .ref g7])), (g3, .inl (cg3, 24, .inl f3)), (g7, .inl (cg7, 24, .inr (.inr (.inr (.inr (fo))))))] : va_W) ++ kRows pr gp_15 cy) := hD
            refine lv_iload hx hb dX4_findBehind_108 (lv_at hl 2 rfl) ?_
            refine lv_aload_n hx hb dX4_findBehind_110 rfl (lv_at hl 6 rfl) ?_
            refine va_get (D := D) (ci := 4) (v := .ref g7) (C := RX4) (T := TX4) (N := 10) hx hb hts (fun _ h9 => List.mem_cons_of_mem _ (List.mem_append_right _ h9)) hown hK hP 0 rfl rfl 9 (by decide) (hts (.fieldLink RX4 32 "FontRuns$Setting" "behind" "[[I") mw_X4_findBehind_2) (fun _ h9 => h9) rfl dX4_findBehind_111 ?_
            refine lv_iload_n hx hb dX4_findBehind_114 rfl (lv_at hl 4 rfl) ?_
            refine kz_aald hx hb hK hP 2 1 rfl rfl (by omega) dX4_findBehind_115 (q2 _ (by omega)) ?_
            refine lv_iload hx hb dX4_findBehind_116 (lv_at hl 1 rfl) ?_
            refine kz_rowld (X := [(h0, .inr (4, [.ref g1, .ref g2, .ref g3, .ref g4, .ref g5, .int (zI cn), .int (zI bo), .int (zI ru), .ref g6, .ref g7])), (g3, .inl (cg3, 24, .inl f3)), (g7, .inl (cg7, 24, .inr (.inr (.inr (.inr (fo))))))]) hx hb hK hP 2 rfl (by omega) (by omega) dX4_findBehind_118 (fun z_16 rz_16 ez_16 => ?_)
            refine kz_min hx hb (by rw [hml]; exact hl.1.symm) hown (hts (.methodLink RX4 85 Lib.Math.min.name) mw_X4_findBehind_3) (hts (.static Lib.Math.min.name) mw_X4_findBehind_4) (hts (.initialized "java/lang/Math") mw_X4_findBehind_5) (hts (.code Lib.Math.min.name Lib.Math.min.code 2 (some .int)) mw_X4_findBehind_6) (Nat.le_of_ble_eq_true rfl) (Nat.le_of_ble_eq_true rfl) (Nat.le_of_ble_eq_true rfl) (Nat.le_of_ble_eq_true rfl) (by omega) (by omega) dX4_findBehind_119 (fun z_17 rz_17 ez_17 => ?_)
            refine lv_istore (lv' := [(5, .int (zI z_17)), (7, .int (zI 0)), (6, .int (zI jf)), (4, .int (zI z_5)), (3, .int (zI jk)), (2, .int (zI jl)), (0, .ref h0), (1, .int (zI al))]) hx hb dX4_findBehind_122 hl (by decide) rfl (fun ls hl => ?_)
            refine lv_iinc (v := (zI (jf + 1))) (lv' := [(6, .int (zI (jf + 1))), (5, .int (zI z_17)), (7, .int (zI 0)), (4, .int (zI z_5)), (3, .int (zI jk)), (2, .int (zI jl)), (0, .ref h0), (1, .int (zI al))]) hx hb dX4_findBehind_124 hl (k := 2) rfl (kz_inc _ 1) (by decide) rfl (fun ls hl => ?_)
            refine lv_goto (tgt := 42) hx hb dX4_findBehind_127 (by decide) ?_
            exact ih42 _ (by omega) _ _ _ ⟨z_17, (jf + 1), gp_15, rfl, (by omega), (by omega), hP, hD, hS, lv_sub hl [0, 1, 3, 4, 5, 6, 7] rfl⟩
        · refine lv_aload_n hx hb dX4_findBehind_58 rfl (lv_at hl 5 rfl) ?_
          refine va_get (D := D) (ci := 4) (v := .ref g7) (C := RX4) (T := TX4) (N := 10) hx hb hts (fun _ h9 => List.mem_cons_of_mem _ (List.mem_append_right _ h9)) hown hK hP 0 rfl rfl 9 (by decide) (hts (.fieldLink RX4 32 "FontRuns$Setting" "behind" "[[I") mw_X4_findBehind_2) (fun _ h9 => h9) rfl dX4_findBehind_59 ?_
          refine lv_iload_n hx hb dX4_findBehind_62 rfl (lv_at hl 3 rfl) ?_
          refine lv_iconst (v := zI 1) hx hb dX4_findBehind_63 rfl ?_
          refine kz_iadd hx hb dX4_findBehind_64 ?_
          refine kz_aald hx hb hK hP 2 1 rfl rfl (by omega) dX4_findBehind_65 (q2 _ (by omega)) ?_
          refine lv_iload hx hb dX4_findBehind_66 (lv_at hl 0 rfl) ?_
          refine kz_rowld (X := [(h0, .inr (4, [.ref g1, .ref g2, .ref g3, .ref g4, .ref g5, .int (zI cn), .int (zI bo), .int (zI ru), .ref g6, .ref g7])), (g3, .inl (cg3, 24, .inl f3)), (g7, .inl (cg7, 24, .inr (.inr (.inr (.inr (fo))))))]) hx hb hK hP 2 rfl (by omega) (by omega) dX4_findBehind_68 (fun z_18 rz_18 ez_18 => ?_)
          refine lv_goto (tgt := 73) hx hb dX4_findBehind_69 (by decide) ?_
          refine lv_istore (lv' := [(7, .int (zI z_18)), (6, .int (zI jf)), (5, .int (zI jh)), (4, .int (zI z_5)), (3, .int (zI jk)), (2, .int (zI jl)), (0, .ref h0), (1, .int (zI al))]) hx hb dX4_findBehind_73 hl (by decide) rfl (fun ls hl => ?_)
          refine lv_aload_n hx hb dX4_findBehind_75 rfl (lv_at hl 6 rfl) ?_
          refine va_get (D := D) (ci := 4) (v := .ref g7) (C := RX4) (T := TX4) (N := 10) hx hb hts (fun _ h9 => List.mem_cons_of_mem _ (List.mem_append_right _ h9)) hown hK hP 0 rfl rfl 9 (by decide) (hts (.fieldLink RX4 32 "FontRuns$Setting" "behind" "[[I") mw_X4_findBehind_2) (fun _ h9 => h9) rfl dX4_findBehind_76 ?_
          refine lv_iload_n hx hb dX4_findBehind_79 rfl (lv_at hl 4 rfl) ?_
          refine kz_aald hx hb hK hP 2 1 rfl rfl (by omega) dX4_findBehind_80 (q2 _ (by omega)) ?_
          refine lv_iload hx hb dX4_findBehind_81 (lv_at hl 1 rfl) ?_
          refine lv_iload hx hb dX4_findBehind_83 (lv_at hl 3 rfl) ?_
          refine lv_iload hx hb dX4_findBehind_85 (lv_at hl 1 rfl) ?_
          refine lv_ishr hx hb dX4_findBehind_87 ?_
          refine kz_any (fun z_19 rz_19 ez_19 => ?_)
          refine lv_iconst (v := zI 1) hx hb dX4_findBehind_88 rfl ?_
          refine lv_iand hx hb dX4_findBehind_89 ?_
          refine kz_any (fun z_20 rz_20 ez_20 => ?_)
          refine kz_if_ne (tgt := 99) hx hb dX4_findBehind_90 (by decide) (by omega) (fun c_21 => ?_) (fun c_21 => ?_)
          · refine lv_iload hx hb dX4_findBehind_99 (lv_at hl 0 rfl) ?_
            refine lv_iload_n hx hb dX4_findBehind_101 rfl (lv_at hl 5 rfl) ?_
            refine lv_iconst (v := zI 1) hx hb dX4_findBehind_102 rfl ?_
            refine kz_iadd hx hb dX4_findBehind_103 ?_
            refine kz_min hx hb (by rw [hml]; exact hl.1.symm) hown (hts (.methodLink RX4 85 Lib.Math.min.name) mw_X4_findBehind_3) (hts (.static Lib.Math.min.name) mw_X4_findBehind_4) (hts (.initialized "java/lang/Math") mw_X4_findBehind_5) (hts (.code Lib.Math.min.name Lib.Math.min.code 2 (some .int)) mw_X4_findBehind_6) (Nat.le_of_ble_eq_true rfl) (Nat.le_of_ble_eq_true rfl) (Nat.le_of_ble_eq_true rfl) (Nat.le_of_ble_eq_true rfl) (by omega) (by omega) dX4_findBehind_104 (fun z_22 rz_22 ez_22 => ?_)
            refine kz_rowst (X := [(h0, .inr (4, [.ref g1, .ref g2, .ref g3, .ref g4, .ref g5, .int (zI cn), .int (zI bo), .int (zI ru), .ref g6, .ref g7])), (g3, .inl (cg3, 24, .inl f3)), (g7, .inl (cg7, 24, .inr (.inr (.inr (.inr (fo))))))]) hx hb hK hP hD hS 2 rfl (by omega) (by omega) dX4_findBehind_107 (fun H locs hP hD hS => ?_)
            generalize va_up jq (o + (jk).toNat) (upd (jq (o + (jk).toNat)) (jf).toNat (zI z_22)) = gp_23 at hP hD
            have hP : va_P D vwCl (([(h0, .inr (4, [.ref g1, .ref g2, .ref g3, .ref g4, .ref g5, .int (zI cn), .int (zI bo), .int (zI ru), .ref g6, .ref g7])), (g3, .inl (cg3, 24, .inl f3)), (g7, .inl (cg7, 24, .inr (.inr (.inr (.inr (fo))))))] : va_W) ++ kRows pr gp_23 cy) H := hP
            have hD : va_D A (([(h0, .inr (4, [.ref g1, .ref g2, .ref g3, .ref g4, .ref g5, .int (zI cn), .int (zI bo), .int (zI ru), .ref g6, .ref g7])), (g3, .inl (cg3, 24, .inl f3)), (g7, .inl (cg7, 24, .inr (.inr (.inr (.inr (fo))))))] : va_W) ++ kRows pr gp_23 cy) := hD
            refine lv_iload hx hb dX4_findBehind_108 (lv_at hl 2 rfl) ?_
            refine lv_aload_n hx hb dX4_findBehind_110 rfl (lv_at hl 6 rfl) ?_
            refine va_get (D := D) (ci := 4) (v := .ref g7) (C := RX4) (T := TX4) (N := 10) hx hb hts (fun _ h9 => List.mem_cons_of_mem _ (List.mem_append_right _ h9)) hown hK hP 0 rfl rfl 9 (by decide) (hts (.fieldLink RX4 32 "FontRuns$Setting" "behind" "[[I") mw_X4_findBehind_2) (fun _ h9 => h9) rfl dX4_findBehind_111 ?_
            refine lv_iload_n hx hb dX4_findBehind_114 rfl (lv_at hl 4 rfl) ?_
            refine kz_aald hx hb hK hP 2 1 rfl rfl (by omega) dX4_findBehind_115 (q2 _ (by omega)) ?_
            refine lv_iload hx hb dX4_findBehind_116 (lv_at hl 1 rfl) ?_
            refine kz_rowld (X := [(h0, .inr (4, [.ref g1, .ref g2, .ref g3, .ref g4, .ref g5, .int (zI cn), .int (zI bo), .int (zI ru), .ref g6, .ref g7])), (g3, .inl (cg3, 24, .inl f3)), (g7, .inl (cg7, 24, .inr (.inr (.inr (.inr (fo))))))]) hx hb hK hP 2 rfl (by omega) (by omega) dX4_findBehind_118 (fun z_24 rz_24 ez_24 => ?_)
            refine kz_min hx hb (by rw [hml]; exact hl.1.symm) hown (hts (.methodLink RX4 85 Lib.Math.min.name) mw_X4_findBehind_3) (hts (.static Lib.Math.min.name) mw_X4_findBehind_4) (hts (.initialized "java/lang/Math") mw_X4_findBehind_5) (hts (.code Lib.Math.min.name Lib.Math.min.code 2 (some .int)) mw_X4_findBehind_6) (Nat.le_of_ble_eq_true rfl) (Nat.le_of_ble_eq_true rfl) (Nat.le_of_ble_eq_true rfl) (Nat.le_of_ble_eq_true rfl) (by omega) (by omega) dX4_findBehind_119 (fun z_25 rz_25 ez_25 => ?_)
            refine lv_istore (lv' := [(5, .int (zI z_25)), (7, .int (zI z_18)), (6, .int (zI jf)), (4, .int (zI z_5)), (3, .int (zI jk)), (2, .int (zI jl)), (0, .ref h0), (1, .int (zI al))]) hx hb dX4_findBehind_122 hl (by decide) rfl (fun ls hl => ?_)
            refine lv_iinc (v := (zI (jf + 1))) (lv' := [(6, .int (zI (jf + 1))), (5, .int (zI z_25)), (7, .int (zI z_18)), (4, .int (zI z_5)), (3, .int (zI jk)), (2, .int (zI jl)), (0, .ref h0), (1, .int (zI al))]) hx hb dX4_findBehind_124 hl (k := 2) rfl (kz_inc _ 1) (by decide) rfl (fun ls hl => ?_)
            refine lv_goto (tgt := 42) hx hb dX4_findBehind_127 (by decide) ?_
            exact ih42 _ (by omega) _ _ _ ⟨z_25, (jf + 1), gp_23, rfl, (by omega), (by omega), hP, hD, hS, lv_sub hl [0, 1, 3, 4, 5, 6, 7] rfl⟩
          · refine lv_sipush (v := zI 1000) hx hb dX4_findBehind_93 (by decide) ?_
            refine lv_goto (tgt := 107) hx hb dX4_findBehind_96 (by decide) ?_
            refine kz_rowst (X := [(h0, .inr (4, [.ref g1, .ref g2, .ref g3, .ref g4, .ref g5, .int (zI cn), .int (zI bo), .int (zI ru), .ref g6, .ref g7])), (g3, .inl (cg3, 24, .inl f3)), (g7, .inl (cg7, 24, .inr (.inr (.inr (.inr (fo))))))]) hx hb hK hP hD hS 2 rfl (by omega) (by omega) dX4_findBehind_107 (fun H locs hP hD hS => ?_)
            generalize va_up jq (o + (jk).toNat) (upd (jq (o + (jk).toNat)) (jf).toNat (zI 1000)) = gp_26 at hP hD
            have hP : va_P D vwCl (([(h0, .inr (4, [.ref g1, .ref g2, .ref g3, .ref g4, .ref g5, .int (zI cn), .int (zI bo), .int (zI ru), .ref g6, .ref g7])), (g3, .inl (cg3, 24, .inl f3)), (g7, .inl (cg7, 24, .inr (.inr (.inr (.inr (fo))))))] : va_W) ++ kRows pr gp_26 cy) H := hP
            have hD : va_D A (([(h0, .inr (4, [.ref g1, .ref g2, .ref g3, .ref g4, .ref g5, .int (zI cn), .int (zI bo), .int (zI ru), .ref g6, .ref g7])), (g3, .inl (cg3, 24, .inl f3)), (g7, .inl (cg7, 24, .inr (.inr (.inr (.inr (fo))))))] : va_W) ++ kRows pr gp_26 cy) := hD
            refine lv_iload hx hb dX4_findBehind_108 (lv_at hl 2 rfl) ?_
            refine lv_aload_n hx hb dX4_findBehind_110 rfl (lv_at hl 6 rfl) ?_
            refine va_get (D := D) (ci := 4) (v := .ref g7) (C := RX4) (T := TX4) (N := 10) hx hb hts (fun _ h9 => List.mem_cons_of_mem _ (List.mem_append_right _ h9)) hown hK hP 0 rfl rfl 9 (by decide) (hts (.fieldLink RX4 32 "FontRuns$Setting" "behind" "[[I") mw_X4_findBehind_2) (fun _ h9 => h9) rfl dX4_findBehind_111 ?_
            refine lv_iload_n hx hb dX4_findBehind_114 rfl (lv_at hl 4 rfl) ?_
            refine kz_aald hx hb hK hP 2 1 rfl rfl (by omega) dX4_findBehind_115 (q2 _ (by omega)) ?_
            refine lv_iload hx hb dX4_findBehind_116 (lv_at hl 1 rfl) ?_
            refine kz_rowld (X := [(h0, .inr (4, [.ref g1, .ref g2, .ref g3, .ref g4, .ref g5, .int (zI cn), .int (zI bo), .int (zI ru), .ref g6, .ref g7])), (g3, .inl (cg3, 24, .inl f3)), (g7, .inl (cg7, 24, .inr (.inr (.inr (.inr (fo))))))]) hx hb hK hP 2 rfl (by omega) (by omega) dX4_findBehind_118 (fun z_27 rz_27 ez_27 => ?_)
            refine kz_min hx hb (by rw [hml]; exact hl.1.symm) hown (hts (.methodLink RX4 85 Lib.Math.min.name) mw_X4_findBehind_3) (hts (.static Lib.Math.min.name) mw_X4_findBehind_4) (hts (.initialized "java/lang/Math") mw_X4_findBehind_5) (hts (.code Lib.Math.min.name Lib.Math.min.code 2 (some .int)) mw_X4_findBehind_6) (Nat.le_of_ble_eq_true rfl) (Nat.le_of_ble_eq_true rfl) (Nat.le_of_ble_eq_true rfl) (Nat.le_of_ble_eq_true rfl) (by omega) (by omega) dX4_findBehind_119 (fun z_28 rz_28 ez_28 => ?_)
            refine lv_istore (lv' := [(5, .int (zI z_28)), (7, .int (zI z_18)), (6, .int (zI jf)), (4, .int (zI z_5)), (3, .int (zI jk)), (2, .int (zI jl)), (0, .ref h0), (1, .int (zI al))]) hx hb dX4_findBehind_122 hl (by decide) rfl (fun ls hl => ?_)
            refine lv_iinc (v := (zI (jf + 1))) (lv' := [(6, .int (zI (jf + 1))), (5, .int (zI z_28)), (7, .int (zI z_18)), (4, .int (zI z_5)), (3, .int (zI jk)), (2, .int (zI jl)), (0, .ref h0), (1, .int (zI al))]) hx hb dX4_findBehind_124 hl (k := 2) rfl (kz_inc _ 1) (by decide) rfl (fun ls hl => ?_)
            refine lv_goto (tgt := 42) hx hb dX4_findBehind_127 (by decide) ?_
            exact ih42 _ (by omega) _ _ _ ⟨z_28, (jf + 1), gp_26, rfl, (by omega), (by omega), hP, hD, hS, lv_sub hl [0, 1, 3, 4, 5, 6, 7] rfl⟩
    · refine lv_iload_n hx hb dX4_findBehind_22 rfl (lv_at hl 3 rfl) ?_
      refine lv_goto (tgt := 32) hx hb dX4_findBehind_23 (by decide) ?_
      refine kz_any (fun z_29 rz_29 ez_29 => ?_)
      refine lv_istore (lv' := [(4, .int (zI z_29)), (3, .int (zI jk)), (2, .int (zI jl)), (0, .ref h0), (1, .int (zI al))]) hx hb dX4_findBehind_32 hl (by decide) rfl (fun ls hl => ?_)
      refine lv_sipush (v := zI 1000) hx hb dX4_findBehind_34 (by decide) ?_
      refine lv_istore (lv' := [(5, .int (zI 1000)), (4, .int (zI z_29)), (3, .int (zI jk)), (2, .int (zI jl)), (0, .ref h0), (1, .int (zI al))]) hx hb dX4_findBehind_37 hl (by decide) rfl (fun ls hl => ?_)
      refine lv_iconst (v := zI 0) hx hb dX4_findBehind_39 rfl ?_
      refine lv_istore (lv' := [(6, .int (zI 0)), (5, .int (zI 1000)), (4, .int (zI z_29)), (3, .int (zI jk)), (2, .int (zI jl)), (0, .ref h0), (1, .int (zI al))]) hx hb dX4_findBehind_40 hl (by decide) rfl (fun ls hl => ?_)
      refine k_loopM (I := fun n9 H locs ls => ∃ (jh : Int) (jf : Int) (jq : Nat → Nat → Int32), n9 = (4 - jf).toNat ∧ (rg jh ∧ jh ≤ 1000) ∧ (0 ≤ jf ∧ jf ≤ 4) ∧ va_P D vwCl (([(h0, .inr (4, [.ref g1, .ref g2, .ref g3, .ref g4, .ref g5, .int (zI cn), .int (zI bo), .int (zI ru), .ref g6, .ref g7])), (g3, .inl (cg3, 24, .inl f3)), (g7, .inl (cg7, 24, .inr (.inr (.inr (.inr (fo))))))] : va_W) ++ kRows pr jq cy) H ∧ va_D A (([(h0, .inr (4, [.ref g1, .ref g2, .ref g3, .ref g4, .ref g5, .int (zI cn), .int (zI bo), .int (zI ru), .ref g6, .ref g7])), (g3, .inl (cg3, 24, .inl f3)), (g7, .inl (cg7, 24, .inr (.inr (.inr (.inr (fo))))))] : va_W) ++ kRows pr jq cy) ∧ va_S A s.heap H locs ∧ lv_has ls 8 [(6, .int (zI jf)), (5, .int (zI jh)), (4, .int (zI z_29)), (3, .int (zI jk)), (2, .int (zI jl)), (0, .ref h0), (1, .int (zI al))]) ?_ _ ⟨1000, 0, jp, rfl, (by omega), (by omega), hP, hD, hS, hl⟩
      intro n42 ih42 H locs ls hI
      obtain ⟨jh, jf, jq, en42, v_420, v_421, hP, hD, hS, hl⟩ := hI
      refine lv_iload hx hb dX4_findBehind_42 (lv_at hl 0 rfl) ?_
      refine lv_iconst (v := zI 4) hx hb dX4_findBehind_44 rfl ?_
      refine kz_icmp_ge (tgt := 130) hx hb dX4_findBehind_45 (by decide) (by omega) (by omega) (fun c_30 => ?_) (fun c_30 => ?_)
      · refine lv_iload hx hb dX4_findBehind_130 (lv_at hl 1 rfl) ?_
        refine lv_istore_n (lv' := [(2, .int (zI jh)), (6, .int (zI jf)), (5, .int (zI jh)), (4, .int (zI z_29)), (3, .int (zI jk)), (0, .ref h0), (1, .int (zI al))]) hx hb dX4_findBehind_132 rfl hl (by decide) rfl (fun ls hl => ?_)
        refine lv_iinc (v := (zI (jk - 1))) (lv' := [(3, .int (zI (jk - 1))), (2, .int (zI jh)), (6, .int (zI jf)), (5, .int (zI jh)), (4, .int (zI z_29)), (0, .ref h0), (1, .int (zI al))]) hx hb dX4_findBehind_133 hl (k := 4) rfl (kz_dec _ 1) (by decide) rfl (fun ls hl => ?_)
        refine lv_goto (tgt := 9) hx hb dX4_findBehind_136 (by decide) ?_
        exact ih9 _ (by omega) _ _ _ ⟨jh, (jk - 1), jq, rfl, v_420, (by omega), hP, hD, hS, lv_sub hl [0, 1, 5, 6] rfl⟩
      · refine lv_iload_n hx hb dX4_findBehind_48 rfl (lv_at hl 3 rfl) ?_
        refine lv_iconst (v := zI 1) hx hb dX4_findBehind_49 rfl ?_
        refine kz_iadd hx hb dX4_findBehind_50 ?_
        refine lv_aload_n hx hb dX4_findBehind_51 rfl (lv_at hl 5 rfl) ?_
        refine va_get (D := D) (ci := 4) (v := .int (zI cn)) (C := RX4) (T := TX4) (N := 10) hx hb hts (fun _ h9 => List.mem_cons_of_mem _ (List.mem_append_right _ h9)) hown hK hP 0 rfl rfl 5 (by decide) (hts (.fieldLink RX4 51 "FontRuns$Setting" "count" "I") mw_X4_findBehind_0) (fun _ h9 => h9) rfl dX4_findBehind_52 ?_
        refine kz_icmp_ge (tgt := 72) hx hb dX4_findBehind_55 (by decide) (by omega) (by omega) (fun c_31 => ?_) (fun c_31 => ?_)
        · refine lv_iconst (v := zI 0) hx hb dX4_findBehind_72 rfl ?_
          refine lv_istore (lv' := [(7, .int (zI 0)), (6, .int (zI jf)), (5, .int (zI jh)), (4, .int (zI z_29)), (3, .int (zI jk)), (2, .int (zI jl)), (0, .ref h0), (1, .int (zI al))]) hx hb dX4_findBehind_73 hl (by decide) rfl (fun ls hl => ?_)
          refine lv_aload_n hx hb dX4_findBehind_75 rfl (lv_at hl 6 rfl) ?_
          refine va_get (D := D) (ci := 4) (v := .ref g7) (C := RX4) (T := TX4) (N := 10) hx hb hts (fun _ h9 => List.mem_cons_of_mem _ (List.mem_append_right _ h9)) hown hK hP 0 rfl rfl 9 (by decide) (hts (.fieldLink RX4 32 "FontRuns$Setting" "behind" "[[I") mw_X4_findBehind_2) (fun _ h9 => h9) rfl dX4_findBehind_76 ?_
          refine lv_iload_n hx hb dX4_findBehind_79 rfl (lv_at hl 4 rfl) ?_
          refine kz_aald hx hb hK hP 2 1 rfl rfl (by omega) dX4_findBehind_80 (q2 _ (by omega)) ?_
          refine lv_iload hx hb dX4_findBehind_81 (lv_at hl 1 rfl) ?_
          refine lv_iload hx hb dX4_findBehind_83 (lv_at hl 3 rfl) ?_
          refine lv_iload hx hb dX4_findBehind_85 (lv_at hl 1 rfl) ?_
          refine lv_ishr hx hb dX4_findBehind_87 ?_
          refine kz_any (fun z_32 rz_32 ez_32 => ?_)
          refine lv_iconst (v := zI 1) hx hb dX4_findBehind_88 rfl ?_
          refine lv_iand hx hb dX4_findBehind_89 ?_
          refine kz_any (fun z_33 rz_33 ez_33 => ?_)
          refine kz_if_ne (tgt := 99) hx hb dX4_findBehind_90 (by decide) (by omega) (fun c_34 => ?_) (fun c_34 => ?_)
          · refine lv_iload hx hb dX4_findBehind_99 (lv_at hl 0 rfl) ?_
            refine lv_iload_n hx hb dX4_findBehind_101 rfl (lv_at hl 5 rfl) ?_
            refine lv_iconst (v := zI 1) hx hb dX4_findBehind_102 rfl ?_
            refine kz_iadd hx hb dX4_findBehind_103 ?_
            refine kz_min hx hb (by rw [hml]; exact hl.1.symm) hown (hts (.methodLink RX4 85 Lib.Math.min.name) mw_X4_findBehind_3) (hts (.static Lib.Math.min.name) mw_X4_findBehind_4) (hts (.initialized "java/lang/Math") mw_X4_findBehind_5) (hts (.code Lib.Math.min.name Lib.Math.min.code 2 (some .int)) mw_X4_findBehind_6) (Nat.le_of_ble_eq_true rfl) (Nat.le_of_ble_eq_true rfl) (Nat.le_of_ble_eq_true rfl) (Nat.le_of_ble_eq_true rfl) (by omega) (by omega) dX4_findBehind_104 (fun z_35 rz_35 ez_35 => ?_)
            refine kz_rowst (X := [(h0, .inr (4, [.ref g1, .ref g2, .ref g3, .ref g4, .ref g5, .int (zI cn), .int (zI bo), .int (zI ru), .ref g6, .ref g7])), (g3, .inl (cg3, 24, .inl f3)), (g7, .inl (cg7, 24, .inr (.inr (.inr (.inr (fo))))))]) hx hb hK hP hD hS 2 rfl (by omega) (by omega) dX4_findBehind_107 (fun H locs hP hD hS => ?_)
            generalize va_up jq (o + (jk).toNat) (upd (jq (o + (jk).toNat)) (jf).toNat (zI z_35)) = gp_36 at hP hD
            have hP : va_P D vwCl (([(h0, .inr (4, [.ref g1, .ref g2, .ref g3, .ref g4, .ref g5, .int (zI cn), .int (zI bo), .int (zI ru), .ref g6, .ref g7])), (g3, .inl (cg3, 24, .inl f3)), (g7, .inl (cg7, 24, .inr (.inr (.inr (.inr (fo))))))] : va_W) ++ kRows pr gp_36 cy) H := hP
            have hD : va_D A (([(h0, .inr (4, [.ref g1, .ref g2, .ref g3, .ref g4, .ref g5, .int (zI cn), .int (zI bo), .int (zI ru), .ref g6, .ref g7])), (g3, .inl (cg3, 24, .inl f3)), (g7, .inl (cg7, 24, .inr (.inr (.inr (.inr (fo))))))] : va_W) ++ kRows pr gp_36 cy) := hD
            refine lv_iload hx hb dX4_findBehind_108 (lv_at hl 2 rfl) ?_
            refine lv_aload_n hx hb dX4_findBehind_110 rfl (lv_at hl 6 rfl) ?_
            refine va_get (D := D) (ci := 4) (v := .ref g7) (C := RX4) (T := TX4) (N := 10) hx hb hts (fun _ h9 => List.mem_cons_of_mem _ (List.mem_append_right _ h9)) hown hK hP 0 rfl rfl 9 (by decide) (hts (.fieldLink RX4 32 "FontRuns$Setting" "behind" "[[I") mw_X4_findBehind_2) (fun _ h9 => h9) rfl dX4_findBehind_111 ?_
            refine lv_iload_n hx hb dX4_findBehind_114 rfl (lv_at hl 4 rfl) ?_
            refine kz_aald hx hb hK hP 2 1 rfl rfl (by omega) dX4_findBehind_115 (q2 _ (by omega)) ?_
            refine lv_iload hx hb dX4_findBehind_116 (lv_at hl 1 rfl) ?_
            refine kz_rowld (X := [(h0, .inr (4, [.ref g1, .ref g2, .ref g3, .ref g4, .ref g5, .int (zI cn), .int (zI bo), .int (zI ru), .ref g6, .ref g7])), (g3, .inl (cg3, 24, .inl f3)), (g7, .inl (cg7, 24, .inr (.inr (.inr (.inr (fo))))))]) hx hb hK hP 2 rfl (by omega) (by omega) dX4_findBehind_118 (fun z_37 rz_37 ez_37 => ?_)
            refine kz_min hx hb (by rw [hml]; exact hl.1.symm) hown (hts (.methodLink RX4 85 Lib.Math.min.name) mw_X4_findBehind_3) (hts (.static Lib.Math.min.name) mw_X4_findBehind_4) (hts (.initialized "java/lang/Math") mw_X4_findBehind_5) (hts (.code Lib.Math.min.name Lib.Math.min.code 2 (some .int)) mw_X4_findBehind_6) (Nat.le_of_ble_eq_true rfl) (Nat.le_of_ble_eq_true rfl) (Nat.le_of_ble_eq_true rfl) (Nat.le_of_ble_eq_true rfl) (by omega) (by omega) dX4_findBehind_119 (fun z_38 rz_38 ez_38 => ?_)
            refine lv_istore (lv' := [(5, .int (zI z_38)), (7, .int (zI 0)), (6, .int (zI jf)), (4, .int (zI z_29)), (3, .int (zI jk)), (2, .int (zI jl)), (0, .ref h0), (1, .int (zI al))]) hx hb dX4_findBehind_122 hl (by decide) rfl (fun ls hl => ?_)
            refine lv_iinc (v := (zI (jf + 1))) (lv' := [(6, .int (zI (jf + 1))), (5, .int (zI z_38)), (7, .int (zI 0)), (4, .int (zI z_29)), (3, .int (zI jk)), (2, .int (zI jl)), (0, .ref h0), (1, .int (zI al))]) hx hb dX4_findBehind_124 hl (k := 2) rfl (kz_inc _ 1) (by decide) rfl (fun ls hl => ?_)
            refine lv_goto (tgt := 42) hx hb dX4_findBehind_127 (by decide) ?_
            exact ih42 _ (by omega) _ _ _ ⟨z_38, (jf + 1), gp_36, rfl, (by omega), (by omega), hP, hD, hS, lv_sub hl [0, 1, 3, 4, 5, 6, 7] rfl⟩
          · refine lv_sipush (v := zI 1000) hx hb dX4_findBehind_93 (by decide) ?_
            refine lv_goto (tgt := 107) hx hb dX4_findBehind_96 (by decide) ?_
            refine kz_rowst (X := [(h0, .inr (4, [.ref g1, .ref g2, .ref g3, .ref g4, .ref g5, .int (zI cn), .int (zI bo), .int (zI ru), .ref g6, .ref g7])), (g3, .inl (cg3, 24, .inl f3)), (g7, .inl (cg7, 24, .inr (.inr (.inr (.inr (fo))))))]) hx hb hK hP hD hS 2 rfl (by omega) (by omega) dX4_findBehind_107 (fun H locs hP hD hS => ?_)
            generalize va_up jq (o + (jk).toNat) (upd (jq (o + (jk).toNat)) (jf).toNat (zI 1000)) = gp_39 at hP hD
            have hP : va_P D vwCl (([(h0, .inr (4, [.ref g1, .ref g2, .ref g3, .ref g4, .ref g5, .int (zI cn), .int (zI bo), .int (zI ru), .ref g6, .ref g7])), (g3, .inl (cg3, 24, .inl f3)), (g7, .inl (cg7, 24, .inr (.inr (.inr (.inr (fo))))))] : va_W) ++ kRows pr gp_39 cy) H := hP
            have hD : va_D A (([(h0, .inr (4, [.ref g1, .ref g2, .ref g3, .ref g4, .ref g5, .int (zI cn), .int (zI bo), .int (zI ru), .ref g6, .ref g7])), (g3, .inl (cg3, 24, .inl f3)), (g7, .inl (cg7, 24, .inr (.inr (.inr (.inr (fo))))))] : va_W) ++ kRows pr gp_39 cy) := hD
            refine lv_iload hx hb dX4_findBehind_108 (lv_at hl 2 rfl) ?_
            refine lv_aload_n hx hb dX4_findBehind_110 rfl (lv_at hl 6 rfl) ?_
            refine va_get (D := D) (ci := 4) (v := .ref g7) (C := RX4) (T := TX4) (N := 10) hx hb hts (fun _ h9 => List.mem_cons_of_mem _ (List.mem_append_right _ h9)) hown hK hP 0 rfl rfl 9 (by decide) (hts (.fieldLink RX4 32 "FontRuns$Setting" "behind" "[[I") mw_X4_findBehind_2) (fun _ h9 => h9) rfl dX4_findBehind_111 ?_
            refine lv_iload_n hx hb dX4_findBehind_114 rfl (lv_at hl 4 rfl) ?_
            refine kz_aald hx hb hK hP 2 1 rfl rfl (by omega) dX4_findBehind_115 (q2 _ (by omega)) ?_
            refine lv_iload hx hb dX4_findBehind_116 (lv_at hl 1 rfl) ?_
            refine kz_rowld (X := [(h0, .inr (4, [.ref g1, .ref g2, .ref g3, .ref g4, .ref g5, .int (zI cn), .int (zI bo), .int (zI ru), .ref g6, .ref g7])), (g3, .inl (cg3, 24, .inl f3)), (g7, .inl (cg7, 24, .inr (.inr (.inr (.inr (fo))))))]) hx hb hK hP 2 rfl (by omega) (by omega) dX4_findBehind_118 (fun z_40 rz_40 ez_40 => ?_)
            refine kz_min hx hb (by rw [hml]; exact hl.1.symm) hown (hts (.methodLink RX4 85 Lib.Math.min.name) mw_X4_findBehind_3) (hts (.static Lib.Math.min.name) mw_X4_findBehind_4) (hts (.initialized "java/lang/Math") mw_X4_findBehind_5) (hts (.code Lib.Math.min.name Lib.Math.min.code 2 (some .int)) mw_X4_findBehind_6) (Nat.le_of_ble_eq_true rfl) (Nat.le_of_ble_eq_true rfl) (Nat.le_of_ble_eq_true rfl) (Nat.le_of_ble_eq_true rfl) (by omega) (by omega) dX4_findBehind_119 (fun z_41 rz_41 ez_41 => ?_)
            refine lv_istore (lv' := [(5, .int (zI z_41)), (7, .int (zI 0)), (6, .int (zI jf)), (4, .int (zI z_29)), (3, .int (zI jk)), (2, .int (zI jl)), (0, .ref h0), (1, .int (zI al))]) hx hb dX4_findBehind_122 hl (by decide) rfl (fun ls hl => ?_)
            refine lv_iinc (v := (zI (jf + 1))) (lv' := [(6, .int (zI (jf + 1))), (5, .int (zI z_41)), (7, .int (zI 0)), (4, .int (zI z_29)), (3, .int (zI jk)), (2, .int (zI jl)), (0, .ref h0), (1, .int (zI al))]) hx hb dX4_findBehind_124 hl (k := 2) rfl (kz_inc _ 1) (by decide) rfl (fun ls hl => ?_)
            refine lv_goto (tgt := 42) hx hb dX4_findBehind_127 (by decide) ?_
            exact ih42 _ (by omega) _ _ _ ⟨z_41, (jf + 1), gp_39, rfl, (by omega), (by omega), hP, hD, hS, lv_sub hl [0, 1, 3, 4, 5, 6, 7] rfl⟩
        · refine lv_aload_n hx hb dX4_findBehind_58 rfl (lv_at hl 5 rfl) ?_
          refine va_get (D := D) (ci := 4) (v := .ref g7) (C := RX4) (T := TX4) (N := 10) hx hb hts (fun _ h9 => List.mem_cons_of_mem _ (List.mem_append_right _ h9)) hown hK hP 0 rfl rfl 9 (by decide) (hts (.fieldLink RX4 32 "FontRuns$Setting" "behind" "[[I") mw_X4_findBehind_2) (fun _ h9 => h9) rfl dX4_findBehind_59 ?_
          refine lv_iload_n hx hb dX4_findBehind_62 rfl (lv_at hl 3 rfl) ?_
          refine lv_iconst (v := zI 1) hx hb dX4_findBehind_63 rfl ?_
          refine kz_iadd hx hb dX4_findBehind_64 ?_
          refine kz_aald hx hb hK hP 2 1 rfl rfl (by omega) dX4_findBehind_65 (q2 _ (by omega)) ?_
          refine lv_iload hx hb dX4_findBehind_66 (lv_at hl 0 rfl) ?_
          refine kz_rowld (X := [(h0, .inr (4, [.ref g1, .ref g2, .ref g3, .ref g4, .ref g5, .int (zI cn), .int (zI bo), .int (zI ru), .ref g6, .ref g7])), (g3, .inl (cg3, 24, .inl f3)), (g7, .inl (cg7, 24, .inr (.inr (.inr (.inr (fo))))))]) hx hb hK hP 2 rfl (by omega) (by omega) dX4_findBehind_68 (fun z_42 rz_42 ez_42 => ?_)
          refine lv_goto (tgt := 73) hx hb dX4_findBehind_69 (by decide) ?_
          refine lv_istore (lv' := [(7, .int (zI z_42)), (6, .int (zI jf)), (5, .int (zI jh)), (4, .int (zI z_29)), (3, .int (zI jk)), (2, .int (zI jl)), (0, .ref h0), (1, .int (zI al))]) hx hb dX4_findBehind_73 hl (by decide) rfl (fun ls hl => ?_)
          refine lv_aload_n hx hb dX4_findBehind_75 rfl (lv_at hl 6 rfl) ?_
          refine va_get (D := D) (ci := 4) (v := .ref g7) (C := RX4) (T := TX4) (N := 10) hx hb hts (fun _ h9 => List.mem_cons_of_mem _ (List.mem_append_right _ h9)) hown hK hP 0 rfl rfl 9 (by decide) (hts (.fieldLink RX4 32 "FontRuns$Setting" "behind" "[[I") mw_X4_findBehind_2) (fun _ h9 => h9) rfl dX4_findBehind_76 ?_
          refine lv_iload_n hx hb dX4_findBehind_79 rfl (lv_at hl 4 rfl) ?_
          refine kz_aald hx hb hK hP 2 1 rfl rfl (by omega) dX4_findBehind_80 (q2 _ (by omega)) ?_
          refine lv_iload hx hb dX4_findBehind_81 (lv_at hl 1 rfl) ?_
          refine lv_iload hx hb dX4_findBehind_83 (lv_at hl 3 rfl) ?_
          refine lv_iload hx hb dX4_findBehind_85 (lv_at hl 1 rfl) ?_
          refine lv_ishr hx hb dX4_findBehind_87 ?_
          refine kz_any (fun z_43 rz_43 ez_43 => ?_)
          refine lv_iconst (v := zI 1) hx hb dX4_findBehind_88 rfl ?_
          refine lv_iand hx hb dX4_findBehind_89 ?_
          refine kz_any (fun z_44 rz_44 ez_44 => ?_)
          refine kz_if_ne (tgt := 99) hx hb dX4_findBehind_90 (by decide) (by omega) (fun c_45 => ?_) (fun c_45 => ?_)
          · refine lv_iload hx hb dX4_findBehind_99 (lv_at hl 0 rfl) ?_
            refine lv_iload_n hx hb dX4_findBehind_101 rfl (lv_at hl 5 rfl) ?_
            refine lv_iconst (v := zI 1) hx hb dX4_findBehind_102 rfl ?_
            refine kz_iadd hx hb dX4_findBehind_103 ?_
            refine kz_min hx hb (by rw [hml]; exact hl.1.symm) hown (hts (.methodLink RX4 85 Lib.Math.min.name) mw_X4_findBehind_3) (hts (.static Lib.Math.min.name) mw_X4_findBehind_4) (hts (.initialized "java/lang/Math") mw_X4_findBehind_5) (hts (.code Lib.Math.min.name Lib.Math.min.code 2 (some .int)) mw_X4_findBehind_6) (Nat.le_of_ble_eq_true rfl) (Nat.le_of_ble_eq_true rfl) (Nat.le_of_ble_eq_true rfl) (Nat.le_of_ble_eq_true rfl) (by omega) (by omega) dX4_findBehind_104 (fun z_46 rz_46 ez_46 => ?_)
            refine kz_rowst (X := [(h0, .inr (4, [.ref g1, .ref g2, .ref g3, .ref g4, .ref g5, .int (zI cn), .int (zI bo), .int (zI ru), .ref g6, .ref g7])), (g3, .inl (cg3, 24, .inl f3)), (g7, .inl (cg7, 24, .inr (.inr (.inr (.inr (fo))))))]) hx hb hK hP hD hS 2 rfl (by omega) (by omega) dX4_findBehind_107 (fun H locs hP hD hS => ?_)
            generalize va_up jq (o + (jk).toNat) (upd (jq (o + (jk).toNat)) (jf).toNat (zI z_46)) = gp_47 at hP hD
            have hP : va_P D vwCl (([(h0, .inr (4, [.ref g1, .ref g2, .ref g3, .ref g4, .ref g5, .int (zI cn), .int (zI bo), .int (zI ru), .ref g6, .ref g7])), (g3, .inl (cg3, 24, .inl f3)), (g7, .inl (cg7, 24, .inr (.inr (.inr (.inr (fo))))))] : va_W) ++ kRows pr gp_47 cy) H := hP
            have hD : va_D A (([(h0, .inr (4, [.ref g1, .ref g2, .ref g3, .ref g4, .ref g5, .int (zI cn), .int (zI bo), .int (zI ru), .ref g6, .ref g7])), (g3, .inl (cg3, 24, .inl f3)), (g7, .inl (cg7, 24, .inr (.inr (.inr (.inr (fo))))))] : va_W) ++ kRows pr gp_47 cy) := hD
            refine lv_iload hx hb dX4_findBehind_108 (lv_at hl 2 rfl) ?_
            refine lv_aload_n hx hb dX4_findBehind_110 rfl (lv_at hl 6 rfl) ?_
            refine va_get (D := D) (ci := 4) (v := .ref g7) (C := RX4) (T := TX4) (N := 10) hx hb hts (fun _ h9 => List.mem_cons_of_mem _ (List.mem_append_right _ h9)) hown hK hP 0 rfl rfl 9 (by decide) (hts (.fieldLink RX4 32 "FontRuns$Setting" "behind" "[[I") mw_X4_findBehind_2) (fun _ h9 => h9) rfl dX4_findBehind_111 ?_
            refine lv_iload_n hx hb dX4_findBehind_114 rfl (lv_at hl 4 rfl) ?_
            refine kz_aald hx hb hK hP 2 1 rfl rfl (by omega) dX4_findBehind_115 (q2 _ (by omega)) ?_
            refine lv_iload hx hb dX4_findBehind_116 (lv_at hl 1 rfl) ?_
            refine kz_rowld (X := [(h0, .inr (4, [.ref g1, .ref g2, .ref g3, .ref g4, .ref g5, .int (zI cn), .int (zI bo), .int (zI ru), .ref g6, .ref g7])), (g3, .inl (cg3, 24, .inl f3)), (g7, .inl (cg7, 24, .inr (.inr (.inr (.inr (fo))))))]) hx hb hK hP 2 rfl (by omega) (by omega) dX4_findBehind_118 (fun z_48 rz_48 ez_48 => ?_)
            refine kz_min hx hb (by rw [hml]; exact hl.1.symm) hown (hts (.methodLink RX4 85 Lib.Math.min.name) mw_X4_findBehind_3) (hts (.static Lib.Math.min.name) mw_X4_findBehind_4) (hts (.initialized "java/lang/Math") mw_X4_findBehind_5) (hts (.code Lib.Math.min.name Lib.Math.min.code 2 (some .int)) mw_X4_findBehind_6) (Nat.le_of_ble_eq_true rfl) (Nat.le_of_ble_eq_true rfl) (Nat.le_of_ble_eq_true rfl) (Nat.le_of_ble_eq_true rfl) (by omega) (by omega) dX4_findBehind_119 (fun z_49 rz_49 ez_49 => ?_)
            refine lv_istore (lv' := [(5, .int (zI z_49)), (7, .int (zI z_42)), (6, .int (zI jf)), (4, .int (zI z_29)), (3, .int (zI jk)), (2, .int (zI jl)), (0, .ref h0), (1, .int (zI al))]) hx hb dX4_findBehind_122 hl (by decide) rfl (fun ls hl => ?_)
            refine lv_iinc (v := (zI (jf + 1))) (lv' := [(6, .int (zI (jf + 1))), (5, .int (zI z_49)), (7, .int (zI z_42)), (4, .int (zI z_29)), (3, .int (zI jk)), (2, .int (zI jl)), (0, .ref h0), (1, .int (zI al))]) hx hb dX4_findBehind_124 hl (k := 2) rfl (kz_inc _ 1) (by decide) rfl (fun ls hl => ?_)
            refine lv_goto (tgt := 42) hx hb dX4_findBehind_127 (by decide) ?_
            exact ih42 _ (by omega) _ _ _ ⟨z_49, (jf + 1), gp_47, rfl, (by omega), (by omega), hP, hD, hS, lv_sub hl [0, 1, 3, 4, 5, 6, 7] rfl⟩
          · refine lv_sipush (v := zI 1000) hx hb dX4_findBehind_93 (by decide) ?_
            refine lv_goto (tgt := 107) hx hb dX4_findBehind_96 (by decide) ?_
            refine kz_rowst (X := [(h0, .inr (4, [.ref g1, .ref g2, .ref g3, .ref g4, .ref g5, .int (zI cn), .int (zI bo), .int (zI ru), .ref g6, .ref g7])), (g3, .inl (cg3, 24, .inl f3)), (g7, .inl (cg7, 24, .inr (.inr (.inr (.inr (fo))))))]) hx hb hK hP hD hS 2 rfl (by omega) (by omega) dX4_findBehind_107 (fun H locs hP hD hS => ?_)
            generalize va_up jq (o + (jk).toNat) (upd (jq (o + (jk).toNat)) (jf).toNat (zI 1000)) = gp_50 at hP hD
            have hP : va_P D vwCl (([(h0, .inr (4, [.ref g1, .ref g2, .ref g3, .ref g4, .ref g5, .int (zI cn), .int (zI bo), .int (zI ru), .ref g6, .ref g7])), (g3, .inl (cg3, 24, .inl f3)), (g7, .inl (cg7, 24, .inr (.inr (.inr (.inr (fo))))))] : va_W) ++ kRows pr gp_50 cy) H := hP
            have hD : va_D A (([(h0, .inr (4, [.ref g1, .ref g2, .ref g3, .ref g4, .ref g5, .int (zI cn), .int (zI bo), .int (zI ru), .ref g6, .ref g7])), (g3, .inl (cg3, 24, .inl f3)), (g7, .inl (cg7, 24, .inr (.inr (.inr (.inr (fo))))))] : va_W) ++ kRows pr gp_50 cy) := hD
            refine lv_iload hx hb dX4_findBehind_108 (lv_at hl 2 rfl) ?_
            refine lv_aload_n hx hb dX4_findBehind_110 rfl (lv_at hl 6 rfl) ?_
            refine va_get (D := D) (ci := 4) (v := .ref g7) (C := RX4) (T := TX4) (N := 10) hx hb hts (fun _ h9 => List.mem_cons_of_mem _ (List.mem_append_right _ h9)) hown hK hP 0 rfl rfl 9 (by decide) (hts (.fieldLink RX4 32 "FontRuns$Setting" "behind" "[[I") mw_X4_findBehind_2) (fun _ h9 => h9) rfl dX4_findBehind_111 ?_
            refine lv_iload_n hx hb dX4_findBehind_114 rfl (lv_at hl 4 rfl) ?_
            refine kz_aald hx hb hK hP 2 1 rfl rfl (by omega) dX4_findBehind_115 (q2 _ (by omega)) ?_
            refine lv_iload hx hb dX4_findBehind_116 (lv_at hl 1 rfl) ?_
            refine kz_rowld (X := [(h0, .inr (4, [.ref g1, .ref g2, .ref g3, .ref g4, .ref g5, .int (zI cn), .int (zI bo), .int (zI ru), .ref g6, .ref g7])), (g3, .inl (cg3, 24, .inl f3)), (g7, .inl (cg7, 24, .inr (.inr (.inr (.inr (fo))))))]) hx hb hK hP 2 rfl (by omega) (by omega) dX4_findBehind_118 (fun z_51 rz_51 ez_51 => ?_)
            refine kz_min hx hb (by rw [hml]; exact hl.1.symm) hown (hts (.methodLink RX4 85 Lib.Math.min.name) mw_X4_findBehind_3) (hts (.static Lib.Math.min.name) mw_X4_findBehind_4) (hts (.initialized "java/lang/Math") mw_X4_findBehind_5) (hts (.code Lib.Math.min.name Lib.Math.min.code 2 (some .int)) mw_X4_findBehind_6) (Nat.le_of_ble_eq_true rfl) (Nat.le_of_ble_eq_true rfl) (Nat.le_of_ble_eq_true rfl) (Nat.le_of_ble_eq_true rfl) (by omega) (by omega) dX4_findBehind_119 (fun z_52 rz_52 ez_52 => ?_)
            refine lv_istore (lv' := [(5, .int (zI z_52)), (7, .int (zI z_42)), (6, .int (zI jf)), (4, .int (zI z_29)), (3, .int (zI jk)), (2, .int (zI jl)), (0, .ref h0), (1, .int (zI al))]) hx hb dX4_findBehind_122 hl (by decide) rfl (fun ls hl => ?_)
            refine lv_iinc (v := (zI (jf + 1))) (lv' := [(6, .int (zI (jf + 1))), (5, .int (zI z_52)), (7, .int (zI z_42)), (4, .int (zI z_29)), (3, .int (zI jk)), (2, .int (zI jl)), (0, .ref h0), (1, .int (zI al))]) hx hb dX4_findBehind_124 hl (k := 2) rfl (kz_inc _ 1) (by decide) rfl (fun ls hl => ?_)
            refine lv_goto (tgt := 42) hx hb dX4_findBehind_127 (by decide) ?_
            exact ih42 _ (by omega) _ _ _ ⟨z_52, (jf + 1), gp_50, rfl, (by omega), (by omega), hP, hD, hS, lv_sub hl [0, 1, 3, 4, 5, 6, 7] rfl⟩
theorem dX4_firstOfBest_0 : decode cX4_firstOfBest 0 = .ok (.iconst 0, 1) := by decide +kernel
theorem dX4_firstOfBest_1 : decode cX4_firstOfBest 1 = .ok (.istore 4, 2) := by decide +kernel
theorem dX4_firstOfBest_3 : decode cX4_firstOfBest 3 = .ok (.sipush 1000, 3) := by decide +kernel
theorem dX4_firstOfBest_6 : decode cX4_firstOfBest 6 = .ok (.istore 5, 2) := by decide +kernel
theorem dX4_firstOfBest_8 : decode cX4_firstOfBest 8 = .ok (.iconst 0, 1) := by decide +kernel
theorem dX4_firstOfBest_9 : decode cX4_firstOfBest 9 = .ok (.istore 6, 2) := by decide +kernel
theorem dX4_firstOfBest_11 : decode cX4_firstOfBest 11 = .ok (.iload 6, 2) := by decide +kernel
theorem dX4_firstOfBest_13 : decode cX4_firstOfBest 13 = .ok (.aload_n 3, 1) := by decide +kernel
theorem dX4_firstOfBest_14 : decode cX4_firstOfBest 14 = .ok (.getfield 92, 3) := by decide +kernel
theorem dX4_firstOfBest_17 : decode cX4_firstOfBest 17 = .ok (.if_icmp .ge 62, 3) := by decide +kernel
theorem dX4_firstOfBest_20 : decode cX4_firstOfBest 20 = .ok (.aload_n 3, 1) := by decide +kernel
theorem dX4_firstOfBest_21 : decode cX4_firstOfBest 21 = .ok (.getfield 95, 3) := by decide +kernel
theorem dX4_firstOfBest_24 : decode cX4_firstOfBest 24 = .ok (.iload 6, 2) := by decide +kernel
theorem dX4_firstOfBest_26 : decode cX4_firstOfBest 26 = .ok (.iaload, 1) := by decide +kernel
theorem dX4_firstOfBest_27 : decode cX4_firstOfBest 27 = .ok (.istore 7, 2) := by decide +kernel
theorem dX4_firstOfBest_29 : decode cX4_firstOfBest 29 = .ok (.aload_n 0, 1) := by decide +kernel
theorem dX4_firstOfBest_30 : decode cX4_firstOfBest 30 = .ok (.getfield 32, 3) := by decide +kernel
theorem dX4_firstOfBest_33 : decode cX4_firstOfBest 33 = .ok (.iload_n 1, 1) := by decide +kernel
theorem dX4_firstOfBest_34 : decode cX4_firstOfBest 34 = .ok (.aaload, 1) := by decide +kernel
theorem dX4_firstOfBest_35 : decode cX4_firstOfBest 35 = .ok (.iload 7, 2) := by decide +kernel
theorem dX4_firstOfBest_37 : decode cX4_firstOfBest 37 = .ok (.iaload, 1) := by decide +kernel
theorem dX4_firstOfBest_38 : decode cX4_firstOfBest 38 = .ok (.iload 7, 2) := by decide +kernel
theorem dX4_firstOfBest_40 : decode cX4_firstOfBest 40 = .ok (.iload_n 2, 1) := by decide +kernel
theorem dX4_firstOfBest_41 : decode cX4_firstOfBest 41 = .ok (.if_icmp .eq 9, 3) := by decide +kernel
theorem dX4_firstOfBest_44 : decode cX4_firstOfBest 44 = .ok (.iload_n 2, 1) := by decide +kernel
theorem dX4_firstOfBest_45 : decode cX4_firstOfBest 45 = .ok (.bipush (-9), 2) := by decide +kernel
theorem dX4_firstOfBest_47 : decode cX4_firstOfBest 47 = .ok (.if_icmp .ne 7, 3) := by decide +kernel
theorem dX4_firstOfBest_50 : decode cX4_firstOfBest 50 = .ok (.iconst 0, 1) := by decide +kernel
theorem dX4_firstOfBest_51 : decode cX4_firstOfBest 51 = .ok (.goto 4, 3) := by decide +kernel
theorem dX4_firstOfBest_54 : decode cX4_firstOfBest 54 = .ok (.iconst 1, 1) := by decide +kernel
theorem dX4_firstOfBest_55 : decode cX4_firstOfBest 55 = .ok (.iadd, 1) := by decide +kernel
theorem dX4_firstOfBest_56 : decode cX4_firstOfBest 56 = .ok (.istore 8, 2) := by decide +kernel
theorem dX4_firstOfBest_58 : decode cX4_firstOfBest 58 = .ok (.iload 8, 2) := by decide +kernel
theorem dX4_firstOfBest_60 : decode cX4_firstOfBest 60 = .ok (.iload 5, 2) := by decide +kernel
theorem dX4_firstOfBest_62 : decode cX4_firstOfBest 62 = .ok (.if_icmp .ge 11, 3) := by decide +kernel
theorem dX4_firstOfBest_65 : decode cX4_firstOfBest 65 = .ok (.iload 8, 2) := by decide +kernel
theorem dX4_firstOfBest_67 : decode cX4_firstOfBest 67 = .ok (.istore 5, 2) := by decide +kernel
theorem dX4_firstOfBest_69 : decode cX4_firstOfBest 69 = .ok (.iload 7, 2) := by decide +kernel
theorem dX4_firstOfBest_71 : decode cX4_firstOfBest 71 = .ok (.istore 4, 2) := by decide +kernel
theorem dX4_firstOfBest_73 : decode cX4_firstOfBest 73 = .ok (.iinc 6 1, 3) := by decide +kernel
theorem dX4_firstOfBest_76 : decode cX4_firstOfBest 76 = .ok (.goto (-65), 3) := by decide +kernel
theorem dX4_firstOfBest_79 : decode cX4_firstOfBest 79 = .ok (.iload 4, 2) := by decide +kernel
theorem dX4_firstOfBest_81 : decode cX4_firstOfBest 81 = .ok (.ireturn, 1) := by decide +kernel
set_option maxRecDepth 20000 in
theorem mw_X4_firstOfBest_0 : (.fieldLink RX4 92 "FontRuns$Preference" "count" "I" : Cond) ∈ wsX4_firstOfBest := List.mem_cons_of_mem _ (List.mem_append_left _ (List.mem_append_left _ (List.mem_of_getElem? (i := 0) rfl)))
set_option maxRecDepth 20000 in
theorem mw_X4_firstOfBest_1 : (.fieldLink RX4 95 "FontRuns$Preference" "row" "[I" : Cond) ∈ wsX4_firstOfBest := List.mem_cons_of_mem _ (List.mem_append_left _ (List.mem_append_left _ (List.mem_of_getElem? (i := 1) rfl)))
set_option maxRecDepth 20000 in
theorem mw_X4_firstOfBest_2 : (.fieldLink RX4 32 "FontRuns$Setting" "behind" "[[I" : Cond) ∈ wsX4_firstOfBest := List.mem_cons_of_mem _ (List.mem_append_left _ (List.mem_append_left _ (List.mem_of_getElem? (i := 2) rfl)))
set_option maxHeartbeats 4000000 in
set_option maxRecDepth 100000 in
theorem c_X4_firstOfBest (l : Launch) (D : va_G) (sz : Nat) (k : Int) (be : Int) (pf : Nat) (h0 : Nat) (g1 : Nat) (g2 : Nat) (g3 : Nat) (g4 : Nat) (g5 : Nat) (cn : Int) (bo : Int) (ru : Int) (g6 : Nat) (g7 : Nat) (cg7 : ClassId) (fo : Nat → Option Nat) (o : Nat) (p1 : Nat) (pn : Int) (cp1 : ClassId) (fp : Nat → Int32) (pr : Nat → Nat) (gp : Nat → Nat → Int32) (cy : ClassId) (q0 : 0 ≤ k ∧ k ≤ 23) (q1 : rg be) (q2 : 0 ≤ pn ∧ pn ≤ 4) (q3 : kPr fp) (q4 : kOut fo pr o 24) (q5 : o + 24 ≤ 56) : Met l yX4_firstOfBest wsX4_firstOfBest ({ frames := 0, cells := 0, slots := 0, locals := 0 }) (kPre [.ref h0, .int (zI k), .int (zI be), .ref pf] D (([(h0, .inr (4, [.ref g1, .ref g2, .ref g3, .ref g4, .ref g5, .int (zI cn), .int (zI bo), .int (zI ru), .ref g6, .ref g7])), (g7, .inl (cg7, 24, .inr (.inr (.inr (.inr (fo)))))), (pf, .inr (1, [.ref p1, .int (zI pn)])), (p1, .inl (cp1, 4, .inl fp))] : va_W) ++ kRows pr gp cy) [(cg7, .array .int), (cp1, .int), (cy, .int)] sz) (QcP (fun rz => 0 ≤ rz ∧ rz ≤ 3)) 0 0 (fun _ => False) := by
  refine Met.ofW (cc := cX4_firstOfBest) (maxL := 9) (ret := (some .int)) (by decide) rfl ?_
  intro p e s m args below meth c s₁ B hml hv
  obtain ⟨rfl, hsz, hP, hK, hD0, hN⟩ := hv
  have hx := B.exec
  have hb := B.bytes
  have hr := B.returns
  have hts := atoms_spec (ws := wsX4_firstOfBest) B.pre
  have hown : s.vm.findClass RX4 = some m.cls := findClass_of_methodNamed B.named
  have hlocks := B.notSynchronized
  subst hsz
  have hD := hD0
  have hP : va_P D vwCl (([(h0, .inr (4, [.ref g1, .ref g2, .ref g3, .ref g4, .ref g5, .int (zI cn), .int (zI bo), .int (zI ru), .ref g6, .ref g7])), (g7, .inl (cg7, 24, .inr (.inr (.inr (.inr (fo)))))), (pf, .inr (1, [.ref p1, .int (zI pn)])), (p1, .inl (cp1, 4, .inl fp))] : va_W) ++ kRows pr gp cy) s.heap := hP
  have hl := lv_entry ([.ref h0, .int (zI k), .int (zI be), .ref pf]) (n := 9) (Nat.le_of_ble_eq_true rfl)
  rw [lg_entry_eq]
  generalize (lg_sl ([.ref h0, .int (zI k), .int (zI be), .ref pf]) ++ List.replicate (9 - (lg_sl ([.ref h0, .int (zI k), .int (zI be), .ref pf])).length) Slot.unset).toArray = ls at hl ⊢
  have hl : lv_has ls 9 [(0, .ref h0), (1, .int (zI k)), (2, .int (zI be)), (3, .ref pf)] := hl
  refine lv_iconst (v := zI 0) hx hb dX4_firstOfBest_0 rfl ?_
  refine lv_istore (lv' := [(4, .int (zI 0)), (0, .ref h0), (1, .int (zI k)), (2, .int (zI be)), (3, .ref pf)]) hx hb dX4_firstOfBest_1 hl (by decide) rfl (fun ls hl => ?_)
  refine lv_sipush (v := zI 1000) hx hb dX4_firstOfBest_3 (by decide) ?_
  refine lv_istore (lv' := [(5, .int (zI 1000)), (4, .int (zI 0)), (0, .ref h0), (1, .int (zI k)), (2, .int (zI be)), (3, .ref pf)]) hx hb dX4_firstOfBest_6 hl (by decide) rfl (fun ls hl => ?_)
  refine lv_iconst (v := zI 0) hx hb dX4_firstOfBest_8 rfl ?_
  refine lv_istore (lv' := [(6, .int (zI 0)), (5, .int (zI 1000)), (4, .int (zI 0)), (0, .ref h0), (1, .int (zI k)), (2, .int (zI be)), (3, .ref pf)]) hx hb dX4_firstOfBest_9 hl (by decide) rfl (fun ls hl => ?_)
  refine k_loopM (I := fun n9 H locs ls => ∃ (jx : Int) (jl : Int) (jk : Int), n9 = (pn - jk).toNat ∧ (0 ≤ jx ∧ jx ≤ 3) ∧ (rg jl ∧ jl ≤ 1000) ∧ (0 ≤ jk ∧ jk ≤ pn) ∧ H = s.heap ∧ locs = [] ∧ lv_has ls 9 [(6, .int (zI jk)), (5, .int (zI jl)), (4, .int (zI jx)), (0, .ref h0), (1, .int (zI k)), (2, .int (zI be)), (3, .ref pf)]) ?_ _ ⟨0, 1000, 0, rfl, (by omega), (by omega), (by omega), rfl, rfl, hl⟩
  intro n11 ih11 H locs ls hI
  obtain ⟨jx, jl, jk, en11, v_110, v_111, v_112, eH, eL, hl⟩ := hI
  subst eH
  subst eL
  refine lv_iload hx hb dX4_firstOfBest_11 (lv_at hl 0 rfl) ?_
  refine lv_aload_n hx hb dX4_firstOfBest_13 rfl (lv_at hl 6 rfl) ?_
  refine va_get (D := D) (ci := 1) (v := .int (zI pn)) (C := RX1) (T := TX1) (N := 2) hx hb hts (fun _ h9 => List.mem_cons_of_mem _ (List.mem_append_left _ (List.mem_append_right _ h9))) hown hK hP 2 rfl rfl 1 (by decide) (hts (.fieldLink RX4 92 "FontRuns$Preference" "count" "I") mw_X4_firstOfBest_0) (fun _ h9 => h9) rfl dX4_firstOfBest_14 ?_
  refine kz_icmp_ge (tgt := 79) hx hb dX4_firstOfBest_17 (by decide) (by omega) (by omega) (fun c_1 => ?_) (fun c_1 => ?_)
  · refine lv_iload hx hb dX4_firstOfBest_79 (lv_at hl 2 rfl) ?_
    exact W.iret (v := (zI jx)) hx hb hr (fun t ht hW => QcP_of (by omega) v_110 ht) (fun _ h9 => by cases h9) dX4_firstOfBest_81
  · refine lv_aload_n hx hb dX4_firstOfBest_20 rfl (lv_at hl 6 rfl) ?_
    refine va_get (D := D) (ci := 1) (v := .ref p1) (C := RX1) (T := TX1) (N := 2) hx hb hts (fun _ h9 => List.mem_cons_of_mem _ (List.mem_append_left _ (List.mem_append_right _ h9))) hown hK hP 2 rfl rfl 0 (by decide) (hts (.fieldLink RX4 95 "FontRuns$Preference" "row" "[I") mw_X4_firstOfBest_1) (fun _ h9 => h9) rfl dX4_firstOfBest_21 ?_
    refine lv_iload hx hb dX4_firstOfBest_24 (lv_at hl 0 rfl) ?_
    refine kz_iald hx hb hK hP 3 1 rfl rfl (by omega) dX4_firstOfBest_26 (fun z_2 rz_2 ez_2 => ?_)
    have bz_2 := kPr_at q3 (by omega) rz_2 ez_2
    refine lv_istore (lv' := [(7, .int (zI z_2)), (6, .int (zI jk)), (5, .int (zI jl)), (4, .int (zI jx)), (0, .ref h0), (1, .int (zI k)), (2, .int (zI be)), (3, .ref pf)]) hx hb dX4_firstOfBest_27 hl (by decide) rfl (fun ls hl => ?_)
    refine lv_aload_n hx hb dX4_firstOfBest_29 rfl (lv_at hl 4 rfl) ?_
    refine va_get (D := D) (ci := 4) (v := .ref g7) (C := RX4) (T := TX4) (N := 10) hx hb hts (fun _ h9 => List.mem_cons_of_mem _ (List.mem_append_right _ h9)) hown hK hP 0 rfl rfl 9 (by decide) (hts (.fieldLink RX4 32 "FontRuns$Setting" "behind" "[[I") mw_X4_firstOfBest_2) (fun _ h9 => h9) rfl dX4_firstOfBest_30 ?_
    refine lv_iload_n hx hb dX4_firstOfBest_33 rfl (lv_at hl 5 rfl) ?_
    refine kz_aald hx hb hK hP 1 0 rfl rfl (by omega) dX4_firstOfBest_34 (q4 _ (by omega)) ?_
    refine lv_iload hx hb dX4_firstOfBest_35 (lv_at hl 0 rfl) ?_
    refine kz_rowld (X := [(h0, .inr (4, [.ref g1, .ref g2, .ref g3, .ref g4, .ref g5, .int (zI cn), .int (zI bo), .int (zI ru), .ref g6, .ref g7])), (g7, .inl (cg7, 24, .inr (.inr (.inr (.inr (fo)))))), (pf, .inr (1, [.ref p1, .int (zI pn)])), (p1, .inl (cp1, 4, .inl fp))]) hx hb hK hP 2 rfl (by omega) (by omega) dX4_firstOfBest_37 (fun z_3 rz_3 ez_3 => ?_)
    refine lv_iload hx hb dX4_firstOfBest_38 (lv_at hl 0 rfl) ?_
    refine lv_iload_n hx hb dX4_firstOfBest_40 rfl (lv_at hl 6 rfl) ?_
    refine kz_icmp_eq (tgt := 50) hx hb dX4_firstOfBest_41 (by decide) (by omega) (by omega) (fun c_4 => ?_) (fun c_4 => ?_)
    · refine lv_iconst (v := zI 0) hx hb dX4_firstOfBest_50 rfl ?_
      refine lv_goto (tgt := 55) hx hb dX4_firstOfBest_51 (by decide) ?_
      refine kz_iadd hx hb dX4_firstOfBest_55 ?_
      refine kz_any (fun z_5 rz_5 ez_5 => ?_)
      refine lv_istore (lv' := [(8, .int (zI z_5)), (7, .int (zI z_2)), (6, .int (zI jk)), (5, .int (zI jl)), (4, .int (zI jx)), (0, .ref h0), (1, .int (zI k)), (2, .int (zI be)), (3, .ref pf)]) hx hb dX4_firstOfBest_56 hl (by decide) rfl (fun ls hl => ?_)
      refine lv_iload hx hb dX4_firstOfBest_58 (lv_at hl 0 rfl) ?_
      refine lv_iload hx hb dX4_firstOfBest_60 (lv_at hl 3 rfl) ?_
      refine kz_icmp_ge (tgt := 73) hx hb dX4_firstOfBest_62 (by decide) (by omega) (by omega) (fun c_6 => ?_) (fun c_6 => ?_)
      · refine lv_iinc (v := (zI (jk + 1))) (lv' := [(6, .int (zI (jk + 1))), (8, .int (zI z_5)), (7, .int (zI z_2)), (5, .int (zI jl)), (4, .int (zI jx)), (0, .ref h0), (1, .int (zI k)), (2, .int (zI be)), (3, .ref pf)]) hx hb dX4_firstOfBest_73 hl (k := 2) rfl (kz_inc _ 1) (by decide) rfl (fun ls hl => ?_)
        refine lv_goto (tgt := 11) hx hb dX4_firstOfBest_76 (by decide) ?_
        exact ih11 _ (by omega) _ _ _ ⟨jx, jl, (jk + 1), rfl, v_110, v_111, (by omega), rfl, rfl, lv_sub hl [0, 3, 4, 5, 6, 7, 8] rfl⟩
      · refine lv_iload hx hb dX4_firstOfBest_65 (lv_at hl 0 rfl) ?_
        refine lv_istore (lv' := [(5, .int (zI z_5)), (8, .int (zI z_5)), (7, .int (zI z_2)), (6, .int (zI jk)), (4, .int (zI jx)), (0, .ref h0), (1, .int (zI k)), (2, .int (zI be)), (3, .ref pf)]) hx hb dX4_firstOfBest_67 hl (by decide) rfl (fun ls hl => ?_)
        refine lv_iload hx hb dX4_firstOfBest_69 (lv_at hl 2 rfl) ?_
        refine lv_istore (lv' := [(4, .int (zI z_2)), (5, .int (zI z_5)), (8, .int (zI z_5)), (7, .int (zI z_2)), (6, .int (zI jk)), (0, .ref h0), (1, .int (zI k)), (2, .int (zI be)), (3, .ref pf)]) hx hb dX4_firstOfBest_71 hl (by decide) rfl (fun ls hl => ?_)
        refine lv_iinc (v := (zI (jk + 1))) (lv' := [(6, .int (zI (jk + 1))), (4, .int (zI z_2)), (5, .int (zI z_5)), (8, .int (zI z_5)), (7, .int (zI z_2)), (0, .ref h0), (1, .int (zI k)), (2, .int (zI be)), (3, .ref pf)]) hx hb dX4_firstOfBest_73 hl (k := 4) rfl (kz_inc _ 1) (by decide) rfl (fun ls hl => ?_)
        refine lv_goto (tgt := 11) hx hb dX4_firstOfBest_76 (by decide) ?_
        exact ih11 _ (by omega) _ _ _ ⟨z_2, z_5, (jk + 1), rfl, (by omega), (by omega), (by omega), rfl, rfl, lv_sub hl [0, 2, 1, 5, 6, 7, 8] rfl⟩
    · refine lv_iload_n hx hb dX4_firstOfBest_44 rfl (lv_at hl 6 rfl) ?_
      refine lv_bipush (v := zI (-9)) hx hb dX4_firstOfBest_45 (by decide) ?_
      refine kz_icmp_ne (tgt := 54) hx hb dX4_firstOfBest_47 (by decide) (by omega) (by omega) (fun c_7 => ?_) (fun c_7 => ?_)
      · refine lv_iconst (v := zI 1) hx hb dX4_firstOfBest_54 rfl ?_
        refine kz_iadd hx hb dX4_firstOfBest_55 ?_
        refine kz_any (fun z_8 rz_8 ez_8 => ?_)
        refine lv_istore (lv' := [(8, .int (zI z_8)), (7, .int (zI z_2)), (6, .int (zI jk)), (5, .int (zI jl)), (4, .int (zI jx)), (0, .ref h0), (1, .int (zI k)), (2, .int (zI be)), (3, .ref pf)]) hx hb dX4_firstOfBest_56 hl (by decide) rfl (fun ls hl => ?_)
        refine lv_iload hx hb dX4_firstOfBest_58 (lv_at hl 0 rfl) ?_
        refine lv_iload hx hb dX4_firstOfBest_60 (lv_at hl 3 rfl) ?_
        refine kz_icmp_ge (tgt := 73) hx hb dX4_firstOfBest_62 (by decide) (by omega) (by omega) (fun c_9 => ?_) (fun c_9 => ?_)
        · refine lv_iinc (v := (zI (jk + 1))) (lv' := [(6, .int (zI (jk + 1))), (8, .int (zI z_8)), (7, .int (zI z_2)), (5, .int (zI jl)), (4, .int (zI jx)), (0, .ref h0), (1, .int (zI k)), (2, .int (zI be)), (3, .ref pf)]) hx hb dX4_firstOfBest_73 hl (k := 2) rfl (kz_inc _ 1) (by decide) rfl (fun ls hl => ?_)
          refine lv_goto (tgt := 11) hx hb dX4_firstOfBest_76 (by decide) ?_
          exact ih11 _ (by omega) _ _ _ ⟨jx, jl, (jk + 1), rfl, v_110, v_111, (by omega), rfl, rfl, lv_sub hl [0, 3, 4, 5, 6, 7, 8] rfl⟩
        · refine lv_iload hx hb dX4_firstOfBest_65 (lv_at hl 0 rfl) ?_
          refine lv_istore (lv' := [(5, .int (zI z_8)), (8, .int (zI z_8)), (7, .int (zI z_2)), (6, .int (zI jk)), (4, .int (zI jx)), (0, .ref h0), (1, .int (zI k)), (2, .int (zI be)), (3, .ref pf)]) hx hb dX4_firstOfBest_67 hl (by decide) rfl (fun ls hl => ?_)
          refine lv_iload hx hb dX4_firstOfBest_69 (lv_at hl 2 rfl) ?_
          refine lv_istore (lv' := [(4, .int (zI z_2)), (5, .int (zI z_8)), (8, .int (zI z_8)), (7, .int (zI z_2)), (6, .int (zI jk)), (0, .ref h0), (1, .int (zI k)), (2, .int (zI be)), (3, .ref pf)]) hx hb dX4_firstOfBest_71 hl (by decide) rfl (fun ls hl => ?_)
          refine lv_iinc (v := (zI (jk + 1))) (lv' := [(6, .int (zI (jk + 1))), (4, .int (zI z_2)), (5, .int (zI z_8)), (8, .int (zI z_8)), (7, .int (zI z_2)), (0, .ref h0), (1, .int (zI k)), (2, .int (zI be)), (3, .ref pf)]) hx hb dX4_firstOfBest_73 hl (k := 4) rfl (kz_inc _ 1) (by decide) rfl (fun ls hl => ?_)
          refine lv_goto (tgt := 11) hx hb dX4_firstOfBest_76 (by decide) ?_
          exact ih11 _ (by omega) _ _ _ ⟨z_2, z_8, (jk + 1), rfl, (by omega), (by omega), (by omega), rfl, rfl, lv_sub hl [0, 2, 1, 5, 6, 7, 8] rfl⟩
      · refine lv_iconst (v := zI 0) hx hb dX4_firstOfBest_50 rfl ?_
        refine lv_goto (tgt := 55) hx hb dX4_firstOfBest_51 (by decide) ?_
        refine kz_iadd hx hb dX4_firstOfBest_55 ?_
        refine kz_any (fun z_10 rz_10 ez_10 => ?_)
        refine lv_istore (lv' := [(8, .int (zI z_10)), (7, .int (zI z_2)), (6, .int (zI jk)), (5, .int (zI jl)), (4, .int (zI jx)), (0, .ref h0), (1, .int (zI k)), (2, .int (zI be)), (3, .ref pf)]) hx hb dX4_firstOfBest_56 hl (by decide) rfl (fun ls hl => ?_)
        refine lv_iload hx hb dX4_firstOfBest_58 (lv_at hl 0 rfl) ?_
        refine lv_iload hx hb dX4_firstOfBest_60 (lv_at hl 3 rfl) ?_
        refine kz_icmp_ge (tgt := 73) hx hb dX4_firstOfBest_62 (by decide) (by omega) (by omega) (fun c_11 => ?_) (fun c_11 => ?_)
        · refine lv_iinc (v := (zI (jk + 1))) (lv' := [(6, .int (zI (jk + 1))), (8, .int (zI z_10)), (7, .int (zI z_2)), (5, .int (zI jl)), (4, .int (zI jx)), (0, .ref h0), (1, .int (zI k)), (2, .int (zI be)), (3, .ref pf)]) hx hb dX4_firstOfBest_73 hl (k := 2) rfl (kz_inc _ 1) (by decide) rfl (fun ls hl => ?_)
          refine lv_goto (tgt := 11) hx hb dX4_firstOfBest_76 (by decide) ?_
          exact ih11 _ (by omega) _ _ _ ⟨jx, jl, (jk + 1), rfl, v_110, v_111, (by omega), rfl, rfl, lv_sub hl [0, 3, 4, 5, 6, 7, 8] rfl⟩
        · refine lv_iload hx hb dX4_firstOfBest_65 (lv_at hl 0 rfl) ?_
          refine lv_istore (lv' := [(5, .int (zI z_10)), (8, .int (zI z_10)), (7, .int (zI z_2)), (6, .int (zI jk)), (4, .int (zI jx)), (0, .ref h0), (1, .int (zI k)), (2, .int (zI be)), (3, .ref pf)]) hx hb dX4_firstOfBest_67 hl (by decide) rfl (fun ls hl => ?_)
          refine lv_iload hx hb dX4_firstOfBest_69 (lv_at hl 2 rfl) ?_
          refine lv_istore (lv' := [(4, .int (zI z_2)), (5, .int (zI z_10)), (8, .int (zI z_10)), (7, .int (zI z_2)), (6, .int (zI jk)), (0, .ref h0), (1, .int (zI k)), (2, .int (zI be)), (3, .ref pf)]) hx hb dX4_firstOfBest_71 hl (by decide) rfl (fun ls hl => ?_)
          refine lv_iinc (v := (zI (jk + 1))) (lv' := [(6, .int (zI (jk + 1))), (4, .int (zI z_2)), (5, .int (zI z_10)), (8, .int (zI z_10)), (7, .int (zI z_2)), (0, .ref h0), (1, .int (zI k)), (2, .int (zI be)), (3, .ref pf)]) hx hb dX4_firstOfBest_73 hl (k := 4) rfl (kz_inc _ 1) (by decide) rfl (fun ls hl => ?_)
          refine lv_goto (tgt := 11) hx hb dX4_firstOfBest_76 (by decide) ?_
          exact ih11 _ (by omega) _ _ _ ⟨z_2, z_10, (jk + 1), rfl, (by omega), (by omega), (by omega), rfl, rfl, lv_sub hl [0, 2, 1, 5, 6, 7, 8] rfl⟩
theorem dX4_choose_0 : decode cX4_choose 0 = .ok (.aload_n 0, 1) := by decide +kernel
theorem dX4_choose_1 : decode cX4_choose 1 = .ok (.iconst 0, 1) := by decide +kernel
theorem dX4_choose_2 : decode cX4_choose 2 = .ok (.putfield 59, 3) := by decide +kernel
theorem dX4_choose_5 : decode cX4_choose 5 = .ok (.iconst 0, 1) := by decide +kernel
theorem dX4_choose_6 : decode cX4_choose 6 = .ok (.istore_n 2, 1) := by decide +kernel
theorem dX4_choose_7 : decode cX4_choose 7 = .ok (.iload_n 2, 1) := by decide +kernel
theorem dX4_choose_8 : decode cX4_choose 8 = .ok (.aload_n 0, 1) := by decide +kernel
theorem dX4_choose_9 : decode cX4_choose 9 = .ok (.getfield 51, 3) := by decide +kernel
theorem dX4_choose_12 : decode cX4_choose 12 = .ok (.if_icmp .ge 72, 3) := by decide +kernel
theorem dX4_choose_15 : decode cX4_choose 15 = .ok (.iload_n 2, 1) := by decide +kernel
theorem dX4_choose_16 : decode cX4_choose 16 = .ok (.ifCond .ne 8, 3) := by decide +kernel
theorem dX4_choose_19 : decode cX4_choose 19 = .ok (.bipush (-9), 2) := by decide +kernel
theorem dX4_choose_21 : decode cX4_choose 21 = .ok (.goto 11, 3) := by decide +kernel
theorem dX4_choose_24 : decode cX4_choose 24 = .ok (.aload_n 0, 1) := by decide +kernel
theorem dX4_choose_25 : decode cX4_choose 25 = .ok (.getfield 21, 3) := by decide +kernel
theorem dX4_choose_28 : decode cX4_choose 28 = .ok (.iload_n 2, 1) := by decide +kernel
theorem dX4_choose_29 : decode cX4_choose 29 = .ok (.iconst 1, 1) := by decide +kernel
theorem dX4_choose_30 : decode cX4_choose 30 = .ok (.isub, 1) := by decide +kernel
theorem dX4_choose_31 : decode cX4_choose 31 = .ok (.iaload, 1) := by decide +kernel
theorem dX4_choose_32 : decode cX4_choose 32 = .ok (.istore_n 3, 1) := by decide +kernel
theorem dX4_choose_33 : decode cX4_choose 33 = .ok (.aload_n 0, 1) := by decide +kernel
theorem dX4_choose_34 : decode cX4_choose 34 = .ok (.getfield 21, 3) := by decide +kernel
theorem dX4_choose_37 : decode cX4_choose 37 = .ok (.iload_n 2, 1) := by decide +kernel
theorem dX4_choose_38 : decode cX4_choose 38 = .ok (.aload_n 0, 1) := by decide +kernel
theorem dX4_choose_39 : decode cX4_choose 39 = .ok (.iload_n 2, 1) := by decide +kernel
theorem dX4_choose_40 : decode cX4_choose 40 = .ok (.iload_n 3, 1) := by decide +kernel
theorem dX4_choose_41 : decode cX4_choose 41 = .ok (.aload_n 1, 1) := by decide +kernel
theorem dX4_choose_42 : decode cX4_choose 42 = .ok (.invokevirtual 88, 3) := by decide +kernel
theorem dX4_choose_45 : decode cX4_choose 45 = .ok (.iastore, 1) := by decide +kernel
theorem dX4_choose_46 : decode cX4_choose 46 = .ok (.aload_n 0, 1) := by decide +kernel
theorem dX4_choose_47 : decode cX4_choose 47 = .ok (.getfield 21, 3) := by decide +kernel
theorem dX4_choose_50 : decode cX4_choose 50 = .ok (.iload_n 2, 1) := by decide +kernel
theorem dX4_choose_51 : decode cX4_choose 51 = .ok (.iaload, 1) := by decide +kernel
theorem dX4_choose_52 : decode cX4_choose 52 = .ok (.iload_n 3, 1) := by decide +kernel
theorem dX4_choose_53 : decode cX4_choose 53 = .ok (.if_icmp .eq 13, 3) := by decide +kernel
theorem dX4_choose_56 : decode cX4_choose 56 = .ok (.aload_n 0, 1) := by decide +kernel
theorem dX4_choose_57 : decode cX4_choose 57 = .ok (.dup, 1) := by decide +kernel
theorem dX4_choose_58 : decode cX4_choose 58 = .ok (.getfield 59, 3) := by decide +kernel
theorem dX4_choose_61 : decode cX4_choose 61 = .ok (.iconst 1, 1) := by decide +kernel
theorem dX4_choose_62 : decode cX4_choose 62 = .ok (.iadd, 1) := by decide +kernel
theorem dX4_choose_63 : decode cX4_choose 63 = .ok (.putfield 59, 3) := by decide +kernel
theorem dX4_choose_66 : decode cX4_choose 66 = .ok (.aload_n 0, 1) := by decide +kernel
theorem dX4_choose_67 : decode cX4_choose 67 = .ok (.getfield 24, 3) := by decide +kernel
theorem dX4_choose_70 : decode cX4_choose 70 = .ok (.iload_n 2, 1) := by decide +kernel
theorem dX4_choose_71 : decode cX4_choose 71 = .ok (.aload_n 0, 1) := by decide +kernel
theorem dX4_choose_72 : decode cX4_choose 72 = .ok (.getfield 59, 3) := by decide +kernel
theorem dX4_choose_75 : decode cX4_choose 75 = .ok (.iconst 1, 1) := by decide +kernel
theorem dX4_choose_76 : decode cX4_choose 76 = .ok (.isub, 1) := by decide +kernel
theorem dX4_choose_77 : decode cX4_choose 77 = .ok (.iastore, 1) := by decide +kernel
theorem dX4_choose_78 : decode cX4_choose 78 = .ok (.iinc 2 1, 3) := by decide +kernel
theorem dX4_choose_81 : decode cX4_choose 81 = .ok (.goto (-74), 3) := by decide +kernel
theorem dX4_choose_84 : decode cX4_choose 84 = .ok (.return_, 1) := by decide +kernel
set_option maxRecDepth 20000 in
theorem ggX4_choose_X4_firstOfBest : GoodIn wsX4_choose wsX4_firstOfBest := goodIn_4 _ (List.forall_mem_cons.mpr ⟨List.mem_cons_of_mem _ (List.mem_append_left _ (List.mem_append_left _ (List.mem_of_getElem? (i := 8) rfl))), List.forall_mem_append.mpr ⟨List.forall_mem_append.mpr ⟨List.forall_mem_cons.mpr ⟨List.mem_cons_of_mem _ (List.mem_append_left _ (List.mem_append_left _ (List.mem_of_getElem? (i := 9) rfl))), List.forall_mem_cons.mpr ⟨List.mem_cons_of_mem _ (List.mem_append_left _ (List.mem_append_left _ (List.mem_of_getElem? (i := 10) rfl))), List.forall_mem_cons.mpr ⟨List.mem_cons_of_mem _ (List.mem_append_left _ (List.mem_append_left _ (List.mem_of_getElem? (i := 11) rfl))), fun _ h9 => absurd h9 List.not_mem_nil⟩⟩⟩, fun w h9 => List.mem_cons_of_mem _ (List.mem_append_right _ (h9))⟩, fun w h9 => List.mem_cons_of_mem _ (List.mem_append_left _ (List.mem_append_right _ (h9)))⟩⟩) (by decide +kernel)
set_option maxRecDepth 20000 in
theorem gX4_choose_X4_firstOfBest : GoodIn wsX4_choose (wsV RX4 88 RX4 yX4_firstOfBest wsX4_firstOfBest) := goodIn_app (goodIn_4 _ (List.forall_mem_cons.mpr ⟨List.mem_cons_of_mem _ (List.mem_append_left _ (List.mem_append_left _ (List.mem_of_getElem? (i := 4) rfl))), List.forall_mem_cons.mpr ⟨List.mem_cons_of_mem _ (List.mem_append_left _ (List.mem_append_left _ (List.mem_of_getElem? (i := 5) rfl))), List.forall_mem_cons.mpr ⟨List.mem_cons_of_mem _ (List.mem_append_left _ (List.mem_append_left _ (List.mem_of_getElem? (i := 6) rfl))), List.forall_mem_cons.mpr ⟨List.mem_cons_of_mem _ (List.mem_append_left _ (List.mem_append_left _ (List.mem_of_getElem? (i := 7) rfl))), fun _ h9 => absurd h9 List.not_mem_nil⟩⟩⟩⟩) (by decide +kernel)) ggX4_choose_X4_firstOfBest
set_option maxRecDepth 20000 in
theorem mw_X4_choose_0 : (.fieldLink RX4 59 "FontRuns$Setting" "runs" "I" : Cond) ∈ wsX4_choose := List.mem_cons_of_mem _ (List.mem_append_left _ (List.mem_append_left _ (List.mem_of_getElem? (i := 0) rfl)))
set_option maxRecDepth 20000 in
theorem mw_X4_choose_1 : (.fieldLink RX4 51 "FontRuns$Setting" "count" "I" : Cond) ∈ wsX4_choose := List.mem_cons_of_mem _ (List.mem_append_left _ (List.mem_append_left _ (List.mem_of_getElem? (i := 1) rfl)))
set_option maxRecDepth 20000 in
theorem mw_X4_choose_2 : (.fieldLink RX4 21 "FontRuns$Setting" "chosen" "[I" : Cond) ∈ wsX4_choose := List.mem_cons_of_mem _ (List.mem_append_left _ (List.mem_append_left _ (List.mem_of_getElem? (i := 2) rfl)))
set_option maxRecDepth 20000 in
theorem mw_X4_choose_3 : (.fieldLink RX4 24 "FontRuns$Setting" "runOf" "[I" : Cond) ∈ wsX4_choose := List.mem_cons_of_mem _ (List.mem_append_left _ (List.mem_append_left _ (List.mem_of_getElem? (i := 3) rfl)))
theorem ax_X4_choose_0 {e0 e1 e2 e3 e4 e5 : Nat × va_E} : ([0, 1, 2, 3, 4, 5] : List Nat).map (fun i => ([e0, e1, e2, e3, e4, e5] : va_W)[i]?) = ([e0, e1, e2, e3, e4, e5] : va_W).map some := rfl
theorem ax_X4_choose_1 {e0 e1 e2 e3 e4 e5 : Nat × va_E} : ([0, 3, 4, 5] : List Nat).map (fun i => ([e0, e1, e2, e3, e4, e5] : va_W)[i]?) = ([e0, e3, e4, e5] : va_W).map some := rfl
set_option maxHeartbeats 4000000 in
set_option maxRecDepth 100000 in
theorem c_X4_choose (l : Launch) (D : va_G) (sz : Nat) (pf : Nat) (h0 : Nat) (g1 : Nat) (g2 : Nat) (g3 : Nat) (g4 : Nat) (g5 : Nat) (cn : Int) (bo : Int) (ru : Int) (g6 : Nat) (g7 : Nat) (cg4 : ClassId) (f4 : Nat → Int32) (cg5 : ClassId) (f5 : Nat → Int32) (cg7 : ClassId) (fo : Nat → Option Nat) (o : Nat) (p1 : Nat) (pn : Int) (cp1 : ClassId) (fp : Nat → Int32) (pr : Nat → Nat) (gp : Nat → Nat → Int32) (cy : ClassId) (q0 : 0 ≤ cn ∧ cn ≤ 24) (q1 : 0 ≤ pn ∧ pn ≤ 4) (q2 : kPr fp) (q3 : kOut fo pr o 24) (q4 : o + 24 ≤ 56) : Met l yX4_choose wsX4_choose ({ frames := 1, cells := 0, slots := 0, locals := 28 }) (kPre [.ref h0, .ref pf] D (([(h0, .inr (4, [.ref g1, .ref g2, .ref g3, .ref g4, .ref g5, .int (zI cn), .int (zI bo), .int (zI ru), .ref g6, .ref g7])), (g4, .inl (cg4, 24, .inl f4)), (g5, .inl (cg5, 24, .inl f5)), (g7, .inl (cg7, 24, .inr (.inr (.inr (.inr (fo)))))), (pf, .inr (1, [.ref p1, .int (zI pn)])), (p1, .inl (cp1, 4, .inl fp))] : va_W) ++ kRows pr gp cy) [(cg4, .int), (cg5, .int), (cg7, .array .int), (cp1, .int), (cy, .int)] sz) (kQV (fun t => ∃ (ur : Int) (v4 : Nat → Int32) (v5 : Nat → Int32), (0 ≤ ur ∧ ur ≤ cn) ∧ va_P D vwCl (([(h0, .inr (4, [.ref g1, .ref g2, .ref g3, .ref g4, .ref g5, .int (zI cn), .int (zI bo), .int (zI ur), .ref g6, .ref g7])), (g4, .inl (cg4, 24, .inl v4)), (g5, .inl (cg5, 24, .inl v5)), (g7, .inl (cg7, 24, .inr (.inr (.inr (.inr (fo)))))), (pf, .inr (1, [.ref p1, .int (zI pn)])), (p1, .inl (cp1, 4, .inl fp))] : va_W) ++ kRows pr gp cy) t.heap ∧ va_D (va_A (([(h0, .inr (4, [.ref g1, .ref g2, .ref g3, .ref g4, .ref g5, .int (zI cn), .int (zI bo), .int (zI ru), .ref g6, .ref g7])), (g4, .inl (cg4, 24, .inl f4)), (g5, .inl (cg5, 24, .inl f5)), (g7, .inl (cg7, 24, .inr (.inr (.inr (.inr (fo)))))), (pf, .inr (1, [.ref p1, .int (zI pn)])), (p1, .inl (cp1, 4, .inl fp))] : va_W) ++ kRows pr gp cy) sz) (([(h0, .inr (4, [.ref g1, .ref g2, .ref g3, .ref g4, .ref g5, .int (zI cn), .int (zI bo), .int (zI ur), .ref g6, .ref g7])), (g4, .inl (cg4, 24, .inl v4)), (g5, .inl (cg5, 24, .inl v5)), (g7, .inl (cg7, 24, .inr (.inr (.inr (.inr (fo)))))), (pf, .inr (1, [.ref p1, .int (zI pn)])), (p1, .inl (cp1, 4, .inl fp))] : va_W) ++ kRows pr gp cy)) (va_A (([(h0, .inr (4, [.ref g1, .ref g2, .ref g3, .ref g4, .ref g5, .int (zI cn), .int (zI bo), .int (zI ru), .ref g6, .ref g7])), (g4, .inl (cg4, 24, .inl f4)), (g5, .inl (cg5, 24, .inl f5)), (g7, .inl (cg7, 24, .inr (.inr (.inr (.inr (fo)))))), (pf, .inr (1, [.ref p1, .int (zI pn)])), (p1, .inl (cp1, 4, .inl fp))] : va_W) ++ kRows pr gp cy) sz)) 0 0 (va_A (([(h0, .inr (4, [.ref g1, .ref g2, .ref g3, .ref g4, .ref g5, .int (zI cn), .int (zI bo), .int (zI ru), .ref g6, .ref g7])), (g4, .inl (cg4, 24, .inl f4)), (g5, .inl (cg5, 24, .inl f5)), (g7, .inl (cg7, 24, .inr (.inr (.inr (.inr (fo)))))), (pf, .inr (1, [.ref p1, .int (zI pn)])), (p1, .inl (cp1, 4, .inl fp))] : va_W) ++ kRows pr gp cy) sz) := by
  refine Met.ofW (cc := cX4_choose) (maxL := 4) (ret := none) (by decide) rfl ?_
  intro p e s m args below meth c s₁ B hml hv
  obtain ⟨rfl, hsz, hP, hK, hD0, hN⟩ := hv
  have hx := B.exec
  have hb := B.bytes
  have hr := B.returns
  have hts := atoms_spec (ws := wsX4_choose) B.pre
  have hown : s.vm.findClass RX4 = some m.cls := findClass_of_methodNamed B.named
  have hlocks := B.notSynchronized
  subst hsz
  have hD := hD0.self (sz := s.heap.size)
  generalize hAe : va_A (([(h0, .inr (4, [.ref g1, .ref g2, .ref g3, .ref g4, .ref g5, .int (zI cn), .int (zI bo), .int (zI ru), .ref g6, .ref g7])), (g4, .inl (cg4, 24, .inl f4)), (g5, .inl (cg5, 24, .inl f5)), (g7, .inl (cg7, 24, .inr (.inr (.inr (.inr (fo)))))), (pf, .inr (1, [.ref p1, .int (zI pn)])), (p1, .inl (cp1, 4, .inl fp))] : va_W) ++ kRows pr gp cy) s.heap.size = A at hD ⊢
  have hA : ∀ q : Nat, s.heap.size ≤ q → A q := fun q h => by rw [← hAe]; exact Or.inr h
  have hS : va_S A s.heap s.heap [] := va_S.rf
  have hP : va_P D vwCl (([(h0, .inr (4, [.ref g1, .ref g2, .ref g3, .ref g4, .ref g5, .int (zI cn), .int (zI bo), .int (zI ru), .ref g6, .ref g7])), (g4, .inl (cg4, 24, .inl f4)), (g5, .inl (cg5, 24, .inl f5)), (g7, .inl (cg7, 24, .inr (.inr (.inr (.inr (fo)))))), (pf, .inr (1, [.ref p1, .int (zI pn)])), (p1, .inl (cp1, 4, .inl fp))] : va_W) ++ kRows pr gp cy) s.heap := hP
  have hl := lv_entry ([.ref h0, .ref pf]) (n := 4) (Nat.le_of_ble_eq_true rfl)
  rw [lg_entry_eq]
  generalize (lg_sl ([.ref h0, .ref pf]) ++ List.replicate (4 - (lg_sl ([.ref h0, .ref pf])).length) Slot.unset).toArray = ls at hl ⊢
  have hl : lv_has ls 4 [(0, .ref h0), (1, .ref pf)] := hl
  refine lv_aload_n hx hb dX4_choose_0 rfl (lv_at hl 0 rfl) ?_
  refine lv_iconst (v := zI 0) hx hb dX4_choose_1 rfl ?_
  refine va_put (D := D) (ci := 4) (v := .int (zI 0)) (ty := .int) (C := RX4) (T := TX4) (N := 10) hx hb hts (fun _ h9 => List.mem_cons_of_mem _ (List.mem_append_left _ (List.mem_append_right _ h9))) tyX4 tyX4_ok nmX4 hown hK hP hD hS 0 rfl rfl 7 (by decide) (hts (.fieldLink RX4 59 "FontRuns$Setting" "runs" "I") mw_X4_choose_0) (fun _ h9 => h9) rfl (by decide +kernel) rfl rfl (Nat.le_of_ble_eq_true rfl) dX4_choose_2 (fun H locs hP hD hS => ?_)
  have hP : va_P D vwCl (([(h0, .inr (4, [.ref g1, .ref g2, .ref g3, .ref g4, .ref g5, .int (zI cn), .int (zI bo), .int (zI 0), .ref g6, .ref g7])), (g4, .inl (cg4, 24, .inl f4)), (g5, .inl (cg5, 24, .inl f5)), (g7, .inl (cg7, 24, .inr (.inr (.inr (.inr (fo)))))), (pf, .inr (1, [.ref p1, .int (zI pn)])), (p1, .inl (cp1, 4, .inl fp))] : va_W) ++ kRows pr gp cy) H := hP
  have hD : va_D A (([(h0, .inr (4, [.ref g1, .ref g2, .ref g3, .ref g4, .ref g5, .int (zI cn), .int (zI bo), .int (zI 0), .ref g6, .ref g7])), (g4, .inl (cg4, 24, .inl f4)), (g5, .inl (cg5, 24, .inl f5)), (g7, .inl (cg7, 24, .inr (.inr (.inr (.inr (fo)))))), (pf, .inr (1, [.ref p1, .int (zI pn)])), (p1, .inl (cp1, 4, .inl fp))] : va_W) ++ kRows pr gp cy) := hD
  refine lv_iconst (v := zI 0) hx hb dX4_choose_5 rfl ?_
  refine lv_istore_n (lv' := [(2, .int (zI 0)), (0, .ref h0), (1, .ref pf)]) hx hb dX4_choose_6 rfl hl (by decide) rfl (fun ls hl => ?_)
  refine k_loopM (I := fun n9 H locs ls => ∃ (jk : Int) (jr : Int) (ja : Nat → Int32) (jb : Nat → Int32), n9 = (cn - jk).toNat ∧ (0 ≤ jk ∧ jk ≤ cn) ∧ (0 ≤ jr ∧ jr ≤ jk) ∧ va_P D vwCl (([(h0, .inr (4, [.ref g1, .ref g2, .ref g3, .ref g4, .ref g5, .int (zI cn), .int (zI bo), .int (zI jr), .ref g6, .ref g7])), (g4, .inl (cg4, 24, .inl ja)), (g5, .inl (cg5, 24, .inl jb)), (g7, .inl (cg7, 24, .inr (.inr (.inr (.inr (fo)))))), (pf, .inr (1, [.ref p1, .int (zI pn)])), (p1, .inl (cp1, 4, .inl fp))] : va_W) ++ kRows pr gp cy) H ∧ va_D A (([(h0, .inr (4, [.ref g1, .ref g2, .ref g3, .ref g4, .ref g5, .int (zI cn), .int (zI bo), .int (zI jr), .ref g6, .ref g7])), (g4, .inl (cg4, 24, .inl ja)), (g5, .inl (cg5, 24, .inl jb)), (g7, .inl (cg7, 24, .inr (.inr (.inr (.inr (fo)))))), (pf, .inr (1, [.ref p1, .int (zI pn)])), (p1, .inl (cp1, 4, .inl fp))] : va_W) ++ kRows pr gp cy) ∧ va_S A s.heap H locs ∧ lv_has ls 4 [(2, .int (zI jk)), (0, .ref h0), (1, .ref pf)]) ?_ _ ⟨0, 0, f4, f5, rfl, (by omega), (by omega), hP, hD, hS, hl⟩
  intro n7 ih7 H locs ls hI
  obtain ⟨jk, jr, ja, jb, en7, v_70, v_71, hP, hD, hS, hl⟩ := hI
  refine lv_iload_n hx hb dX4_choose_7 rfl (lv_at hl 0 rfl) ?_
  refine lv_aload_n hx hb dX4_choose_8 rfl (lv_at hl 1 rfl) ?_
  refine va_get (D := D) (ci := 4) (v := .int (zI cn)) (C := RX4) (T := TX4) (N := 10) hx hb hts (fun _ h9 => List.mem_cons_of_mem _ (List.mem_append_left _ (List.mem_append_right _ h9))) hown hK hP 0 rfl rfl 5 (by decide) (hts (.fieldLink RX4 51 "FontRuns$Setting" "count" "I") mw_X4_choose_1) (fun _ h9 => h9) rfl dX4_choose_9 ?_
  refine kz_icmp_ge (tgt := 84) hx hb dX4_choose_12 (by decide) (by omega) (by omega) (fun c_1 => ?_) (fun c_1 => ?_)
  · have hP9 : va_P D vwCl (([(h0, .inr (4, [.ref g1, .ref g2, .ref g3, .ref g4, .ref g5, .int (zI cn), .int (zI bo), .int (zI jr), .ref g6, .ref g7])), (g4, .inl (cg4, 24, .inl ja)), (g5, .inl (cg5, 24, .inl jb)), (g7, .inl (cg7, 24, .inr (.inr (.inr (.inr (fo)))))), (pf, .inr (1, [.ref p1, .int (zI pn)])), (p1, .inl (cp1, 4, .inl fp))] : va_W) ++ kRows pr gp cy) H := hP.part [0, 1, 2, 3, 4, 5] ax_X4_choose_0
    have hD9 : va_D A (([(h0, .inr (4, [.ref g1, .ref g2, .ref g3, .ref g4, .ref g5, .int (zI cn), .int (zI bo), .int (zI jr), .ref g6, .ref g7])), (g4, .inl (cg4, 24, .inl ja)), (g5, .inl (cg5, 24, .inl jb)), (g7, .inl (cg7, 24, .inr (.inr (.inr (.inr (fo)))))), (pf, .inr (1, [.ref p1, .int (zI pn)])), (p1, .inl (cp1, 4, .inl fp))] : va_W) ++ kRows pr gp cy) := hD.part [0, 1, 2, 3, 4, 5] (by decide +kernel) ax_X4_choose_0
    exact W.vret hx hb hr (fun t ht hW => kQV_of ⟨jr, ja, jb, (by omega), by rw [ht]; exact hP9, hD9⟩ (hS.F ht)) hS.2.2 dX4_choose_84
  · refine lv_iload_n hx hb dX4_choose_15 rfl (lv_at hl 0 rfl) ?_
    refine kz_if_ne (tgt := 24) hx hb dX4_choose_16 (by decide) (by omega) (fun c_2 => ?_) (fun c_2 => ?_)
    · refine lv_aload_n hx hb dX4_choose_24 rfl (lv_at hl 1 rfl) ?_
      refine va_get (D := D) (ci := 4) (v := .ref g4) (C := RX4) (T := TX4) (N := 10) hx hb hts (fun _ h9 => List.mem_cons_of_mem _ (List.mem_append_left _ (List.mem_append_right _ h9))) hown hK hP 0 rfl rfl 3 (by decide) (hts (.fieldLink RX4 21 "FontRuns$Setting" "chosen" "[I") mw_X4_choose_2) (fun _ h9 => h9) rfl dX4_choose_25 ?_
      refine lv_iload_n hx hb dX4_choose_28 rfl (lv_at hl 0 rfl) ?_
      refine lv_iconst (v := zI 1) hx hb dX4_choose_29 rfl ?_
      refine kz_isub hx hb dX4_choose_30 ?_
      refine kz_iald hx hb hK hP 1 0 rfl rfl (by omega) dX4_choose_31 (fun z_3 rz_3 ez_3 => ?_)
      refine lv_istore_n (lv' := [(3, .int (zI z_3)), (2, .int (zI jk)), (0, .ref h0), (1, .ref pf)]) hx hb dX4_choose_32 rfl hl (by decide) rfl (fun ls hl => ?_)
      refine lv_aload_n hx hb dX4_choose_33 rfl (lv_at hl 2 rfl) ?_
      refine va_get (D := D) (ci := 4) (v := .ref g4) (C := RX4) (T := TX4) (N := 10) hx hb hts (fun _ h9 => List.mem_cons_of_mem _ (List.mem_append_left _ (List.mem_append_right _ h9))) hown hK hP 0 rfl rfl 3 (by decide) (hts (.fieldLink RX4 21 "FontRuns$Setting" "chosen" "[I") mw_X4_choose_2) (fun _ h9 => h9) rfl dX4_choose_34 ?_
      refine lv_iload_n hx hb dX4_choose_37 rfl (lv_at hl 1 rfl) ?_
      refine lv_aload_n hx hb dX4_choose_38 rfl (lv_at hl 2 rfl) ?_
      refine lv_iload_n hx hb dX4_choose_39 rfl (lv_at hl 1 rfl) ?_
      refine lv_iload_n hx hb dX4_choose_40 rfl (lv_at hl 0 rfl) ?_
      refine lv_aload_n hx hb dX4_choose_41 rfl (lv_at hl 3 rfl) ?_
      refine k_callP (va_runV (As := [.int (zI jk), .int (zI z_3), .ref pf]) (rest := [.int (zI jk), .ref g4]) ⟨hx, hb, hml, hown, hts⟩ (c_X4_firstOfBest l D H.size (k := jk) (be := z_3) (pf := pf) (h0 := h0) (g1 := g1) (g2 := g2) (g3 := g3) (g4 := g4) (g5 := g5) (cn := cn) (bo := bo) (ru := jr) (g6 := g6) (g7 := g7) (cg7 := cg7) (fo := fo) (o := o) (p1 := p1) (pn := pn) (cp1 := cp1) (fp := fp) (pr := pr) (gp := gp) (cy := cy) (by omega) (by omega) q1 q2 q3 q4) (cwV 3 hts gX4_choose_X4_firstOfBest rfl rfl rfl (by decide +kernel) ⟨Nat.le_of_ble_eq_true rfl, Nat.le_of_ble_eq_true rfl⟩) (kPreVP hP (kD0 hD) hK hN [0, 3, 4, 5] [2, 3, 4] ax_X4_choose_1 rfl (by decide +kernel) 0 4 rfl rfl) rfl rfl hl.1 rfl (lv_room (Nat.le_of_ble_eq_true rfl)) dX4_choose_42 ⟨Nat.le_of_ble_eq_true rfl, Nat.le_of_ble_eq_true rfl⟩) (fun z_4 rz_4 h_5 => ?_)
      refine kz_iast hx hb hK hP hD hS 1 0 rfl rfl (by omega) dX4_choose_45 (fun H locs hP hD hS => ?_)
      have hP : va_P D vwCl (([(h0, .inr (4, [.ref g1, .ref g2, .ref g3, .ref g4, .ref g5, .int (zI cn), .int (zI bo), .int (zI jr), .ref g6, .ref g7])), (g4, .inl (cg4, 24, .inl (upd ja (jk).toNat (zI z_4)))), (g5, .inl (cg5, 24, .inl jb)), (g7, .inl (cg7, 24, .inr (.inr (.inr (.inr (fo)))))), (pf, .inr (1, [.ref p1, .int (zI pn)])), (p1, .inl (cp1, 4, .inl fp))] : va_W) ++ kRows pr gp cy) H := hP
      have hD : va_D A (([(h0, .inr (4, [.ref g1, .ref g2, .ref g3, .ref g4, .ref g5, .int (zI cn), .int (zI bo), .int (zI jr), .ref g6, .ref g7])), (g4, .inl (cg4, 24, .inl (upd ja (jk).toNat (zI z_4)))), (g5, .inl (cg5, 24, .inl jb)), (g7, .inl (cg7, 24, .inr (.inr (.inr (.inr (fo)))))), (pf, .inr (1, [.ref p1, .int (zI pn)])), (p1, .inl (cp1, 4, .inl fp))] : va_W) ++ kRows pr gp cy) := hD
      generalize ef_6 : upd ja (jk).toNat (zI z_4) = f_6 at hP hD
      refine lv_aload_n hx hb dX4_choose_46 rfl (lv_at hl 2 rfl) ?_
      refine va_get (D := D) (ci := 4) (v := .ref g4) (C := RX4) (T := TX4) (N := 10) hx hb hts (fun _ h9 => List.mem_cons_of_mem _ (List.mem_append_left _ (List.mem_append_right _ h9))) hown hK hP 0 rfl rfl 3 (by decide) (hts (.fieldLink RX4 21 "FontRuns$Setting" "chosen" "[I") mw_X4_choose_2) (fun _ h9 => h9) rfl dX4_choose_47 ?_
      refine lv_iload_n hx hb dX4_choose_50 rfl (lv_at hl 1 rfl) ?_
      refine kz_iald hx hb hK hP 1 0 rfl rfl (by omega) dX4_choose_51 (fun z_7 rz_7 ez_7 => ?_)
      refine lv_iload_n hx hb dX4_choose_52 rfl (lv_at hl 0 rfl) ?_
      refine kz_icmp_eq (tgt := 66) hx hb dX4_choose_53 (by decide) (by omega) (by omega) (fun c_8 => ?_) (fun c_8 => ?_)
      · refine lv_aload_n hx hb dX4_choose_66 rfl (lv_at hl 2 rfl) ?_
        refine va_get (D := D) (ci := 4) (v := .ref g5) (C := RX4) (T := TX4) (N := 10) hx hb hts (fun _ h9 => List.mem_cons_of_mem _ (List.mem_append_left _ (List.mem_append_right _ h9))) hown hK hP 0 rfl rfl 4 (by decide) (hts (.fieldLink RX4 24 "FontRuns$Setting" "runOf" "[I") mw_X4_choose_3) (fun _ h9 => h9) rfl dX4_choose_67 ?_
        refine lv_iload_n hx hb dX4_choose_70 rfl (lv_at hl 1 rfl) ?_
        refine lv_aload_n hx hb dX4_choose_71 rfl (lv_at hl 2 rfl) ?_
        refine va_get (D := D) (ci := 4) (v := .int (zI jr)) (C := RX4) (T := TX4) (N := 10) hx hb hts (fun _ h9 => List.mem_cons_of_mem _ (List.mem_append_left _ (List.mem_append_right _ h9))) hown hK hP 0 rfl rfl 7 (by decide) (hts (.fieldLink RX4 59 "FontRuns$Setting" "runs" "I") mw_X4_choose_0) (fun _ h9 => h9) rfl dX4_choose_72 ?_
        refine lv_iconst (v := zI 1) hx hb dX4_choose_75 rfl ?_
        refine kz_isub hx hb dX4_choose_76 ?_
        refine kz_iast hx hb hK hP hD hS 2 1 rfl rfl (by omega) dX4_choose_77 (fun H locs hP hD hS => ?_)
        have hP : va_P D vwCl (([(h0, .inr (4, [.ref g1, .ref g2, .ref g3, .ref g4, .ref g5, .int (zI cn), .int (zI bo), .int (zI jr), .ref g6, .ref g7])), (g4, .inl (cg4, 24, .inl f_6)), (g5, .inl (cg5, 24, .inl (upd jb (jk).toNat (zI (jr - 1))))), (g7, .inl (cg7, 24, .inr (.inr (.inr (.inr (fo)))))), (pf, .inr (1, [.ref p1, .int (zI pn)])), (p1, .inl (cp1, 4, .inl fp))] : va_W) ++ kRows pr gp cy) H := hP
        have hD : va_D A (([(h0, .inr (4, [.ref g1, .ref g2, .ref g3, .ref g4, .ref g5, .int (zI cn), .int (zI bo), .int (zI jr), .ref g6, .ref g7])), (g4, .inl (cg4, 24, .inl f_6)), (g5, .inl (cg5, 24, .inl (upd jb (jk).toNat (zI (jr - 1))))), (g7, .inl (cg7, 24, .inr (.inr (.inr (.inr (fo)))))), (pf, .inr (1, [.ref p1, .int (zI pn)])), (p1, .inl (cp1, 4, .inl fp))] : va_W) ++ kRows pr gp cy) := hD
        generalize ef_9 : upd jb (jk).toNat (zI (jr - 1)) = f_9 at hP hD
        refine lv_iinc (v := (zI (jk + 1))) (lv' := [(2, .int (zI (jk + 1))), (3, .int (zI z_3)), (0, .ref h0), (1, .ref pf)]) hx hb dX4_choose_78 hl (k := 1) rfl (kz_inc _ 1) (by decide) rfl (fun ls hl => ?_)
        refine lv_goto (tgt := 7) hx hb dX4_choose_81 (by decide) ?_
        exact ih7 _ (by omega) _ _ _ ⟨(jk + 1), jr, f_6, f_9, rfl, (by omega), (by omega), hP, hD, hS, lv_sub hl [0, 2, 3] rfl⟩
      · refine lv_aload_n hx hb dX4_choose_56 rfl (lv_at hl 2 rfl) ?_
        refine lv_dup hx hb dX4_choose_57 rfl ?_
        refine va_get (D := D) (ci := 4) (v := .int (zI jr)) (C := RX4) (T := TX4) (N := 10) hx hb hts (fun _ h9 => List.mem_cons_of_mem _ (List.mem_append_left _ (List.mem_append_right _ h9))) hown hK hP 0 rfl rfl 7 (by decide) (hts (.fieldLink RX4 59 "FontRuns$Setting" "runs" "I") mw_X4_choose_0) (fun _ h9 => h9) rfl dX4_choose_58 ?_
        refine lv_iconst (v := zI 1) hx hb dX4_choose_61 rfl ?_
        refine kz_iadd hx hb dX4_choose_62 ?_
        refine va_put (D := D) (ci := 4) (v := .int (zI (jr + 1))) (ty := .int) (C := RX4) (T := TX4) (N := 10) hx hb hts (fun _ h9 => List.mem_cons_of_mem _ (List.mem_append_left _ (List.mem_append_right _ h9))) tyX4 tyX4_ok nmX4 hown hK hP hD hS 0 rfl rfl 7 (by decide) (hts (.fieldLink RX4 59 "FontRuns$Setting" "runs" "I") mw_X4_choose_0) (fun _ h9 => h9) rfl (by decide +kernel) rfl rfl (Nat.le_of_ble_eq_true rfl) dX4_choose_63 (fun H locs hP hD hS => ?_)
        have hP : va_P D vwCl (([(h0, .inr (4, [.ref g1, .ref g2, .ref g3, .ref g4, .ref g5, .int (zI cn), .int (zI bo), .int (zI (jr + 1)), .ref g6, .ref g7])), (g4, .inl (cg4, 24, .inl f_6)), (g5, .inl (cg5, 24, .inl jb)), (g7, .inl (cg7, 24, .inr (.inr (.inr (.inr (fo)))))), (pf, .inr (1, [.ref p1, .int (zI pn)])), (p1, .inl (cp1, 4, .inl fp))] : va_W) ++ kRows pr gp cy) H := hP
        have hD : va_D A (([(h0, .inr (4, [.ref g1, .ref g2, .ref g3, .ref g4, .ref g5, .int (zI cn), .int (zI bo), .int (zI (jr + 1)), .ref g6, .ref g7])), (g4, .inl (cg4, 24, .inl f_6)), (g5, .inl (cg5, 24, .inl jb)), (g7, .inl (cg7, 24, .inr (.inr (.inr (.inr (fo)))))), (pf, .inr (1, [.ref p1, .int (zI pn)])), (p1, .inl (cp1, 4, .inl fp))] : va_W) ++ kRows pr gp cy) := hD
        refine lv_aload_n hx hb dX4_choose_66 rfl (lv_at hl 2 rfl) ?_
        refine va_get (D := D) (ci := 4) (v := .ref g5) (C := RX4) (T := TX4) (N := 10) hx hb hts (fun _ h9 => List.mem_cons_of_mem _ (List.mem_append_left _ (List.mem_append_right _ h9))) hown hK hP 0 rfl rfl 4 (by decide) (hts (.fieldLink RX4 24 "FontRuns$Setting" "runOf" "[I") mw_X4_choose_3) (fun _ h9 => h9) rfl dX4_choose_67 ?_
        refine lv_iload_n hx hb dX4_choose_70 rfl (lv_at hl 1 rfl) ?_
        refine lv_aload_n hx hb dX4_choose_71 rfl (lv_at hl 2 rfl) ?_
        refine va_get (D := D) (ci := 4) (v := .int (zI (jr + 1))) (C := RX4) (T := TX4) (N := 10) hx hb hts (fun _ h9 => List.mem_cons_of_mem _ (List.mem_append_left _ (List.mem_append_right _ h9))) hown hK hP 0 rfl rfl 7 (by decide) (hts (.fieldLink RX4 59 "FontRuns$Setting" "runs" "I") mw_X4_choose_0) (fun _ h9 => h9) rfl dX4_choose_72 ?_
        refine lv_iconst (v := zI 1) hx hb dX4_choose_75 rfl ?_
        refine kz_isub hx hb dX4_choose_76 ?_
        refine kz_iast hx hb hK hP hD hS 2 1 rfl rfl (by omega) dX4_choose_77 (fun H locs hP hD hS => ?_)
        have hP : va_P D vwCl (([(h0, .inr (4, [.ref g1, .ref g2, .ref g3, .ref g4, .ref g5, .int (zI cn), .int (zI bo), .int (zI (jr + 1)), .ref g6, .ref g7])), (g4, .inl (cg4, 24, .inl f_6)), (g5, .inl (cg5, 24, .inl (upd jb (jk).toNat (zI ((jr + 1) - 1))))), (g7, .inl (cg7, 24, .inr (.inr (.inr (.inr (fo)))))), (pf, .inr (1, [.ref p1, .int (zI pn)])), (p1, .inl (cp1, 4, .inl fp))] : va_W) ++ kRows pr gp cy) H := hP
        have hD : va_D A (([(h0, .inr (4, [.ref g1, .ref g2, .ref g3, .ref g4, .ref g5, .int (zI cn), .int (zI bo), .int (zI (jr + 1)), .ref g6, .ref g7])), (g4, .inl (cg4, 24, .inl f_6)), (g5, .inl (cg5, 24, .inl (upd jb (jk).toNat (zI ((jr + 1) - 1))))), (g7, .inl (cg7, 24, .inr (.inr (.inr (.inr (fo)))))), (pf, .inr (1, [.ref p1, .int (zI pn)])), (p1, .inl (cp1, 4, .inl fp))] : va_W) ++ kRows pr gp cy) := hD
        generalize ef_10 : upd jb (jk).toNat (zI ((jr + 1) - 1)) = f_10 at hP hD
        refine lv_iinc (v := (zI (jk + 1))) (lv' := [(2, .int (zI (jk + 1))), (3, .int (zI z_3)), (0, .ref h0), (1, .ref pf)]) hx hb dX4_choose_78 hl (k := 1) rfl (kz_inc _ 1) (by decide) rfl (fun ls hl => ?_)
        refine lv_goto (tgt := 7) hx hb dX4_choose_81 (by decide) ?_
        exact ih7 _ (by omega) _ _ _ ⟨(jk + 1), (jr + 1), f_6, f_10, rfl, (by omega), (by omega), hP, hD, hS, lv_sub hl [0, 2, 3] rfl⟩
    · refine lv_bipush (v := zI (-9)) hx hb dX4_choose_19 (by decide) ?_
      refine lv_goto (tgt := 32) hx hb dX4_choose_21 (by decide) ?_
      refine lv_istore_n (lv' := [(3, .int (zI (-9))), (2, .int (zI jk)), (0, .ref h0), (1, .ref pf)]) hx hb dX4_choose_32 rfl hl (by decide) rfl (fun ls hl => ?_)
      refine lv_aload_n hx hb dX4_choose_33 rfl (lv_at hl 2 rfl) ?_
      refine va_get (D := D) (ci := 4) (v := .ref g4) (C := RX4) (T := TX4) (N := 10) hx hb hts (fun _ h9 => List.mem_cons_of_mem _ (List.mem_append_left _ (List.mem_append_right _ h9))) hown hK hP 0 rfl rfl 3 (by decide) (hts (.fieldLink RX4 21 "FontRuns$Setting" "chosen" "[I") mw_X4_choose_2) (fun _ h9 => h9) rfl dX4_choose_34 ?_
      refine lv_iload_n hx hb dX4_choose_37 rfl (lv_at hl 1 rfl) ?_
      refine lv_aload_n hx hb dX4_choose_38 rfl (lv_at hl 2 rfl) ?_
      refine lv_iload_n hx hb dX4_choose_39 rfl (lv_at hl 1 rfl) ?_
      refine lv_iload_n hx hb dX4_choose_40 rfl (lv_at hl 0 rfl) ?_
      refine lv_aload_n hx hb dX4_choose_41 rfl (lv_at hl 3 rfl) ?_
      refine k_callP (va_runV (As := [.int (zI jk), .int (zI (-9)), .ref pf]) (rest := [.int (zI jk), .ref g4]) ⟨hx, hb, hml, hown, hts⟩ (c_X4_firstOfBest l D H.size (k := jk) (be := (-9)) (pf := pf) (h0 := h0) (g1 := g1) (g2 := g2) (g3 := g3) (g4 := g4) (g5 := g5) (cn := cn) (bo := bo) (ru := jr) (g6 := g6) (g7 := g7) (cg7 := cg7) (fo := fo) (o := o) (p1 := p1) (pn := pn) (cp1 := cp1) (fp := fp) (pr := pr) (gp := gp) (cy := cy) (by omega) (by omega) q1 q2 q3 q4) (cwV 3 hts gX4_choose_X4_firstOfBest rfl rfl rfl (by decide +kernel) ⟨Nat.le_of_ble_eq_true rfl, Nat.le_of_ble_eq_true rfl⟩) (kPreVP hP (kD0 hD) hK hN [0, 3, 4, 5] [2, 3, 4] ax_X4_choose_1 rfl (by decide +kernel) 0 4 rfl rfl) rfl rfl hl.1 rfl (lv_room (Nat.le_of_ble_eq_true rfl)) dX4_choose_42 ⟨Nat.le_of_ble_eq_true rfl, Nat.le_of_ble_eq_true rfl⟩) (fun z_11 rz_11 h_12 => ?_)
      refine kz_iast hx hb hK hP hD hS 1 0 rfl rfl (by omega) dX4_choose_45 (fun H locs hP hD hS => ?_)
      have hP : va_P D vwCl (([(h0, .inr (4, [.ref g1, .ref g2, .ref g3, .ref g4, .ref g5, .int (zI cn), .int (zI bo), .int (zI jr), .ref g6, .ref g7])), (g4, .inl (cg4, 24, .inl (upd ja (jk).toNat (zI z_11)))), (g5, .inl (cg5, 24, .inl jb)), (g7, .inl (cg7, 24, .inr (.inr (.inr (.inr (fo)))))), (pf, .inr (1, [.ref p1, .int (zI pn)])), (p1, .inl (cp1, 4, .inl fp))] : va_W) ++ kRows pr gp cy) H := hP
      have hD : va_D A (([(h0, .inr (4, [.ref g1, .ref g2, .ref g3, .ref g4, .ref g5, .int (zI cn), .int (zI bo), .int (zI jr), .ref g6, .ref g7])), (g4, .inl (cg4, 24, .inl (upd ja (jk).toNat (zI z_11)))), (g5, .inl (cg5, 24, .inl jb)), (g7, .inl (cg7, 24, .inr (.inr (.inr (.inr (fo)))))), (pf, .inr (1, [.ref p1, .int (zI pn)])), (p1, .inl (cp1, 4, .inl fp))] : va_W) ++ kRows pr gp cy) := hD
      generalize ef_13 : upd ja (jk).toNat (zI z_11) = f_13 at hP hD
      refine lv_aload_n hx hb dX4_choose_46 rfl (lv_at hl 2 rfl) ?_
      refine va_get (D := D) (ci := 4) (v := .ref g4) (C := RX4) (T := TX4) (N := 10) hx hb hts (fun _ h9 => List.mem_cons_of_mem _ (List.mem_append_left _ (List.mem_append_right _ h9))) hown hK hP 0 rfl rfl 3 (by decide) (hts (.fieldLink RX4 21 "FontRuns$Setting" "chosen" "[I") mw_X4_choose_2) (fun _ h9 => h9) rfl dX4_choose_47 ?_
      refine lv_iload_n hx hb dX4_choose_50 rfl (lv_at hl 1 rfl) ?_
      refine kz_iald hx hb hK hP 1 0 rfl rfl (by omega) dX4_choose_51 (fun z_14 rz_14 ez_14 => ?_)
      refine lv_iload_n hx hb dX4_choose_52 rfl (lv_at hl 0 rfl) ?_
      refine kz_icmp_eq (tgt := 66) hx hb dX4_choose_53 (by decide) (by omega) (by omega) (fun c_15 => ?_) (fun c_15 => ?_)
      · refine lv_aload_n hx hb dX4_choose_66 rfl (lv_at hl 2 rfl) ?_
        refine va_get (D := D) (ci := 4) (v := .ref g5) (C := RX4) (T := TX4) (N := 10) hx hb hts (fun _ h9 => List.mem_cons_of_mem _ (List.mem_append_left _ (List.mem_append_right _ h9))) hown hK hP 0 rfl rfl 4 (by decide) (hts (.fieldLink RX4 24 "FontRuns$Setting" "runOf" "[I") mw_X4_choose_3) (fun _ h9 => h9) rfl dX4_choose_67 ?_
        refine lv_iload_n hx hb dX4_choose_70 rfl (lv_at hl 1 rfl) ?_
        refine lv_aload_n hx hb dX4_choose_71 rfl (lv_at hl 2 rfl) ?_
        refine va_get (D := D) (ci := 4) (v := .int (zI jr)) (C := RX4) (T := TX4) (N := 10) hx hb hts (fun _ h9 => List.mem_cons_of_mem _ (List.mem_append_left _ (List.mem_append_right _ h9))) hown hK hP 0 rfl rfl 7 (by decide) (hts (.fieldLink RX4 59 "FontRuns$Setting" "runs" "I") mw_X4_choose_0) (fun _ h9 => h9) rfl dX4_choose_72 ?_
        refine lv_iconst (v := zI 1) hx hb dX4_choose_75 rfl ?_
        refine kz_isub hx hb dX4_choose_76 ?_
        refine kz_iast hx hb hK hP hD hS 2 1 rfl rfl (by omega) dX4_choose_77 (fun H locs hP hD hS => ?_)
        have hP : va_P D vwCl (([(h0, .inr (4, [.ref g1, .ref g2, .ref g3, .ref g4, .ref g5, .int (zI cn), .int (zI bo), .int (zI jr), .ref g6, .ref g7])), (g4, .inl (cg4, 24, .inl f_13)), (g5, .inl (cg5, 24, .inl (upd jb (jk).toNat (zI (jr - 1))))), (g7, .inl (cg7, 24, .inr (.inr (.inr (.inr (fo)))))), (pf, .inr (1, [.ref p1, .int (zI pn)])), (p1, .inl (cp1, 4, .inl fp))] : va_W) ++ kRows pr gp cy) H := hP
        have hD : va_D A (([(h0, .inr (4, [.ref g1, .ref g2, .ref g3, .ref g4, .ref g5, .int (zI cn), .int (zI bo), .int (zI jr), .ref g6, .ref g7])), (g4, .inl (cg4, 24, .inl f_13)), (g5, .inl (cg5, 24, .inl (upd jb (jk).toNat (zI (jr - 1))))), (g7, .inl (cg7, 24, .inr (.inr (.inr (.inr (fo)))))), (pf, .inr (1, [.ref p1, .int (zI pn)])), (p1, .inl (cp1, 4, .inl fp))] : va_W) ++ kRows pr gp cy) := hD
        generalize ef_16 : upd jb (jk).toNat (zI (jr - 1)) = f_16 at hP hD
        refine lv_iinc (v := (zI (jk + 1))) (lv' := [(2, .int (zI (jk + 1))), (3, .int (zI (-9))), (0, .ref h0), (1, .ref pf)]) hx hb dX4_choose_78 hl (k := 1) rfl (kz_inc _ 1) (by decide) rfl (fun ls hl => ?_)
        refine lv_goto (tgt := 7) hx hb dX4_choose_81 (by decide) ?_
        exact ih7 _ (by omega) _ _ _ ⟨(jk + 1), jr, f_13, f_16, rfl, (by omega), (by omega), hP, hD, hS, lv_sub hl [0, 2, 3] rfl⟩
      · refine lv_aload_n hx hb dX4_choose_56 rfl (lv_at hl 2 rfl) ?_
        refine lv_dup hx hb dX4_choose_57 rfl ?_
        refine va_get (D := D) (ci := 4) (v := .int (zI jr)) (C := RX4) (T := TX4) (N := 10) hx hb hts (fun _ h9 => List.mem_cons_of_mem _ (List.mem_append_left _ (List.mem_append_right _ h9))) hown hK hP 0 rfl rfl 7 (by decide) (hts (.fieldLink RX4 59 "FontRuns$Setting" "runs" "I") mw_X4_choose_0) (fun _ h9 => h9) rfl dX4_choose_58 ?_
        refine lv_iconst (v := zI 1) hx hb dX4_choose_61 rfl ?_
        refine kz_iadd hx hb dX4_choose_62 ?_
        refine va_put (D := D) (ci := 4) (v := .int (zI (jr + 1))) (ty := .int) (C := RX4) (T := TX4) (N := 10) hx hb hts (fun _ h9 => List.mem_cons_of_mem _ (List.mem_append_left _ (List.mem_append_right _ h9))) tyX4 tyX4_ok nmX4 hown hK hP hD hS 0 rfl rfl 7 (by decide) (hts (.fieldLink RX4 59 "FontRuns$Setting" "runs" "I") mw_X4_choose_0) (fun _ h9 => h9) rfl (by decide +kernel) rfl rfl (Nat.le_of_ble_eq_true rfl) dX4_choose_63 (fun H locs hP hD hS => ?_)
        have hP : va_P D vwCl (([(h0, .inr (4, [.ref g1, .ref g2, .ref g3, .ref g4, .ref g5, .int (zI cn), .int (zI bo), .int (zI (jr + 1)), .ref g6, .ref g7])), (g4, .inl (cg4, 24, .inl f_13)), (g5, .inl (cg5, 24, .inl jb)), (g7, .inl (cg7, 24, .inr (.inr (.inr (.inr (fo)))))), (pf, .inr (1, [.ref p1, .int (zI pn)])), (p1, .inl (cp1, 4, .inl fp))] : va_W) ++ kRows pr gp cy) H := hP
        have hD : va_D A (([(h0, .inr (4, [.ref g1, .ref g2, .ref g3, .ref g4, .ref g5, .int (zI cn), .int (zI bo), .int (zI (jr + 1)), .ref g6, .ref g7])), (g4, .inl (cg4, 24, .inl f_13)), (g5, .inl (cg5, 24, .inl jb)), (g7, .inl (cg7, 24, .inr (.inr (.inr (.inr (fo)))))), (pf, .inr (1, [.ref p1, .int (zI pn)])), (p1, .inl (cp1, 4, .inl fp))] : va_W) ++ kRows pr gp cy) := hD
        refine lv_aload_n hx hb dX4_choose_66 rfl (lv_at hl 2 rfl) ?_
        refine va_get (D := D) (ci := 4) (v := .ref g5) (C := RX4) (T := TX4) (N := 10) hx hb hts (fun _ h9 => List.mem_cons_of_mem _ (List.mem_append_left _ (List.mem_append_right _ h9))) hown hK hP 0 rfl rfl 4 (by decide) (hts (.fieldLink RX4 24 "FontRuns$Setting" "runOf" "[I") mw_X4_choose_3) (fun _ h9 => h9) rfl dX4_choose_67 ?_
        refine lv_iload_n hx hb dX4_choose_70 rfl (lv_at hl 1 rfl) ?_
        refine lv_aload_n hx hb dX4_choose_71 rfl (lv_at hl 2 rfl) ?_
        refine va_get (D := D) (ci := 4) (v := .int (zI (jr + 1))) (C := RX4) (T := TX4) (N := 10) hx hb hts (fun _ h9 => List.mem_cons_of_mem _ (List.mem_append_left _ (List.mem_append_right _ h9))) hown hK hP 0 rfl rfl 7 (by decide) (hts (.fieldLink RX4 59 "FontRuns$Setting" "runs" "I") mw_X4_choose_0) (fun _ h9 => h9) rfl dX4_choose_72 ?_
        refine lv_iconst (v := zI 1) hx hb dX4_choose_75 rfl ?_
        refine kz_isub hx hb dX4_choose_76 ?_
        refine kz_iast hx hb hK hP hD hS 2 1 rfl rfl (by omega) dX4_choose_77 (fun H locs hP hD hS => ?_)
        have hP : va_P D vwCl (([(h0, .inr (4, [.ref g1, .ref g2, .ref g3, .ref g4, .ref g5, .int (zI cn), .int (zI bo), .int (zI (jr + 1)), .ref g6, .ref g7])), (g4, .inl (cg4, 24, .inl f_13)), (g5, .inl (cg5, 24, .inl (upd jb (jk).toNat (zI ((jr + 1) - 1))))), (g7, .inl (cg7, 24, .inr (.inr (.inr (.inr (fo)))))), (pf, .inr (1, [.ref p1, .int (zI pn)])), (p1, .inl (cp1, 4, .inl fp))] : va_W) ++ kRows pr gp cy) H := hP
        have hD : va_D A (([(h0, .inr (4, [.ref g1, .ref g2, .ref g3, .ref g4, .ref g5, .int (zI cn), .int (zI bo), .int (zI (jr + 1)), .ref g6, .ref g7])), (g4, .inl (cg4, 24, .inl f_13)), (g5, .inl (cg5, 24, .inl (upd jb (jk).toNat (zI ((jr + 1) - 1))))), (g7, .inl (cg7, 24, .inr (.inr (.inr (.inr (fo)))))), (pf, .inr (1, [.ref p1, .int (zI pn)])), (p1, .inl (cp1, 4, .inl fp))] : va_W) ++ kRows pr gp cy) := hD
        generalize ef_17 : upd jb (jk).toNat (zI ((jr + 1) - 1)) = f_17 at hP hD
        refine lv_iinc (v := (zI (jk + 1))) (lv' := [(2, .int (zI (jk + 1))), (3, .int (zI (-9))), (0, .ref h0), (1, .ref pf)]) hx hb dX4_choose_78 hl (k := 1) rfl (kz_inc _ 1) (by decide) rfl (fun ls hl => ?_)
        refine lv_goto (tgt := 7) hx hb dX4_choose_81 (by decide) ?_
        exact ih7 _ (by omega) _ _ _ ⟨(jk + 1), (jr + 1), f_13, f_17, rfl, (by omega), (by omega), hP, hD, hS, lv_sub hl [0, 2, 3] rfl⟩
theorem dX4_make_0 : decode cX4_make 0 = .ok (.aload_n 0, 1) := by decide +kernel
theorem dX4_make_1 : decode cX4_make 1 = .ok (.aload_n 1, 1) := by decide +kernel
theorem dX4_make_2 : decode cX4_make 2 = .ok (.invokevirtual 35, 3) := by decide +kernel
theorem dX4_make_5 : decode cX4_make 5 = .ok (.aload_n 0, 1) := by decide +kernel
theorem dX4_make_6 : decode cX4_make 6 = .ok (.aload_n 2, 1) := by decide +kernel
theorem dX4_make_7 : decode cX4_make 7 = .ok (.iload 4, 2) := by decide +kernel
theorem dX4_make_9 : decode cX4_make 9 = .ok (.invokevirtual 39, 3) := by decide +kernel
theorem dX4_make_12 : decode cX4_make 12 = .ok (.aload_n 0, 1) := by decide +kernel
theorem dX4_make_13 : decode cX4_make 13 = .ok (.iload 4, 2) := by decide +kernel
theorem dX4_make_15 : decode cX4_make 15 = .ok (.invokevirtual 43, 3) := by decide +kernel
theorem dX4_make_18 : decode cX4_make 18 = .ok (.aload_n 0, 1) := by decide +kernel
theorem dX4_make_19 : decode cX4_make 19 = .ok (.aload_n 3, 1) := by decide +kernel
theorem dX4_make_20 : decode cX4_make 20 = .ok (.invokevirtual 47, 3) := by decide +kernel
theorem dX4_make_23 : decode cX4_make 23 = .ok (.return_, 1) := by decide +kernel
set_option maxRecDepth 20000 in
theorem ggX4_make_X4_choose : GoodIn wsX4_make wsX4_choose := goodIn_4 _ (List.forall_mem_cons.mpr ⟨List.mem_cons_of_mem _ (List.mem_append_left _ (List.mem_append_left _ (List.mem_append_left _ (List.mem_append_left _ (List.mem_append_right _ (List.mem_of_getElem? (i := 12) rfl)))))), List.forall_mem_append.mpr ⟨List.forall_mem_append.mpr ⟨List.forall_mem_cons.mpr ⟨List.mem_cons_of_mem _ (List.mem_append_left _ (List.mem_append_left _ (List.mem_append_left _ (List.mem_append_left _ (List.mem_append_right _ (List.mem_of_getElem? (i := 13) rfl)))))), List.forall_mem_cons.mpr ⟨List.mem_cons_of_mem _ (List.mem_append_left _ (List.mem_append_left _ (List.mem_append_left _ (List.mem_append_left _ (List.mem_append_left _ (List.mem_of_getElem? (i := 5) rfl)))))), List.forall_mem_cons.mpr ⟨List.mem_cons_of_mem _ (List.mem_append_left _ (List.mem_append_left _ (List.mem_append_left _ (List.mem_append_left _ (List.mem_append_right _ (List.mem_of_getElem? (i := 14) rfl)))))), List.forall_mem_cons.mpr ⟨List.mem_cons_of_mem _ (List.mem_append_left _ (List.mem_append_left _ (List.mem_append_left _ (List.mem_append_left _ (List.mem_append_right _ (List.mem_of_getElem? (i := 15) rfl)))))), List.forall_mem_cons.mpr ⟨List.mem_cons_of_mem _ (List.mem_append_left _ (List.mem_append_left _ (List.mem_append_left _ (List.mem_append_left _ (List.mem_append_right _ (List.mem_of_getElem? (i := 16) rfl)))))), List.forall_mem_cons.mpr ⟨List.mem_cons_of_mem _ (List.mem_append_left _ (List.mem_append_left _ (List.mem_append_left _ (List.mem_append_left _ (List.mem_append_right _ (List.mem_of_getElem? (i := 17) rfl)))))), List.forall_mem_cons.mpr ⟨List.mem_cons_of_mem _ (List.mem_append_left _ (List.mem_append_left _ (List.mem_append_left _ (List.mem_append_left _ (List.mem_append_right _ (List.mem_of_getElem? (i := 18) rfl)))))), List.forall_mem_cons.mpr ⟨List.mem_cons_of_mem _ (List.mem_append_left _ (List.mem_append_left _ (List.mem_append_left _ (List.mem_append_left _ (List.mem_append_left _ (List.mem_of_getElem? (i := 3) rfl)))))), List.forall_mem_cons.mpr ⟨List.mem_cons_of_mem _ (List.mem_append_left _ (List.mem_append_left _ (List.mem_append_left _ (List.mem_append_left _ (List.mem_append_right _ (List.mem_of_getElem? (i := 19) rfl)))))), List.forall_mem_cons.mpr ⟨List.mem_cons_of_mem _ (List.mem_append_left _ (List.mem_append_left _ (List.mem_append_left _ (List.mem_append_left _ (List.mem_append_right _ (List.mem_of_getElem? (i := 20) rfl)))))), List.forall_mem_cons.mpr ⟨List.mem_cons_of_mem _ (List.mem_append_left _ (List.mem_append_left _ (List.mem_append_left _ (List.mem_append_left _ (List.mem_append_right _ (List.mem_of_getElem? (i := 21) rfl)))))), List.forall_mem_cons.mpr ⟨List.mem_cons_of_mem _ (List.mem_append_left _ (List.mem_append_left _ (List.mem_append_left _ (List.mem_append_left _ (List.mem_append_right _ (List.mem_of_getElem? (i := 4) rfl)))))), fun _ h9 => absurd h9 List.not_mem_nil⟩⟩⟩⟩⟩⟩⟩⟩⟩⟩⟩⟩, fun w h9 => List.mem_cons_of_mem _ (List.mem_append_left _ (List.mem_append_left _ (List.mem_append_left _ (List.mem_append_right _ (h9)))))⟩, fun w h9 => List.mem_cons_of_mem _ (List.mem_append_right _ (h9))⟩⟩) (by decide +kernel)
set_option maxRecDepth 20000 in
theorem gX4_make_X4_choose : GoodIn wsX4_make (wsV RX4 47 RX4 yX4_choose wsX4_choose) := goodIn_app (goodIn_4 _ (List.forall_mem_cons.mpr ⟨List.mem_cons_of_mem _ (List.mem_append_left _ (List.mem_append_left _ (List.mem_append_left _ (List.mem_append_left _ (List.mem_append_right _ (List.mem_of_getElem? (i := 9) rfl)))))), List.forall_mem_cons.mpr ⟨List.mem_cons_of_mem _ (List.mem_append_left _ (List.mem_append_left _ (List.mem_append_left _ (List.mem_append_left _ (List.mem_append_right _ (List.mem_of_getElem? (i := 10) rfl)))))), List.forall_mem_cons.mpr ⟨List.mem_cons_of_mem _ (List.mem_append_left _ (List.mem_append_left _ (List.mem_append_left _ (List.mem_append_left _ (List.mem_append_right _ (List.mem_of_getElem? (i := 11) rfl)))))), List.forall_mem_cons.mpr ⟨List.mem_cons_of_mem _ (List.mem_append_left _ (List.mem_append_left _ (List.mem_append_left _ (List.mem_append_left _ (List.mem_append_left _ (List.mem_of_getElem? (i := 3) rfl)))))), fun _ h9 => absurd h9 List.not_mem_nil⟩⟩⟩⟩) (by decide +kernel)) ggX4_make_X4_choose
set_option maxRecDepth 20000 in
theorem ggX4_make_X4_cut : GoodIn wsX4_make wsX4_cut := goodIn_4 _ (List.forall_mem_cons.mpr ⟨List.mem_cons_of_mem _ (List.mem_append_left _ (List.mem_append_left _ (List.mem_append_left _ (List.mem_append_left _ (List.mem_append_left _ (List.mem_of_getElem? (i := 4) rfl)))))), List.forall_mem_append.mpr ⟨List.forall_mem_append.mpr ⟨List.forall_mem_cons.mpr ⟨List.mem_cons_of_mem _ (List.mem_append_left _ (List.mem_append_left _ (List.mem_append_left _ (List.mem_append_left _ (List.mem_append_left _ (List.mem_of_getElem? (i := 5) rfl)))))), List.forall_mem_cons.mpr ⟨List.mem_cons_of_mem _ (List.mem_append_left _ (List.mem_append_left _ (List.mem_append_left _ (List.mem_append_left _ (List.mem_append_left _ (List.mem_of_getElem? (i := 6) rfl)))))), List.forall_mem_cons.mpr ⟨List.mem_cons_of_mem _ (List.mem_append_left _ (List.mem_append_left _ (List.mem_append_left _ (List.mem_append_left _ (List.mem_append_left _ (List.mem_of_getElem? (i := 7) rfl)))))), List.forall_mem_cons.mpr ⟨List.mem_cons_of_mem _ (List.mem_append_left _ (List.mem_append_left _ (List.mem_append_left _ (List.mem_append_left _ (List.mem_append_left _ (List.mem_of_getElem? (i := 8) rfl)))))), List.forall_mem_cons.mpr ⟨List.mem_cons_of_mem _ (List.mem_append_left _ (List.mem_append_left _ (List.mem_append_left _ (List.mem_append_left _ (List.mem_append_left _ (List.mem_of_getElem? (i := 9) rfl)))))), List.forall_mem_cons.mpr ⟨List.mem_cons_of_mem _ (List.mem_append_left _ (List.mem_append_left _ (List.mem_append_left _ (List.mem_append_left _ (List.mem_append_left _ (List.mem_of_getElem? (i := 10) rfl)))))), fun _ h9 => absurd h9 List.not_mem_nil⟩⟩⟩⟩⟩⟩, fun w h9 => List.mem_cons_of_mem _ (List.mem_append_left _ (List.mem_append_left _ (List.mem_append_left _ (List.mem_append_right _ (h9)))))⟩, fun w h9 => List.mem_cons_of_mem _ (List.mem_append_left _ (List.mem_append_left _ (List.mem_append_right _ (h9))))⟩⟩) (by decide +kernel)
set_option maxRecDepth 20000 in
theorem gX4_make_X4_cut : GoodIn wsX4_make (wsV RX4 35 RX4 yX4_cut wsX4_cut) := goodIn_app (goodIn_4 _ (List.forall_mem_cons.mpr ⟨List.mem_cons_of_mem _ (List.mem_append_left _ (List.mem_append_left _ (List.mem_append_left _ (List.mem_append_left _ (List.mem_append_left _ (List.mem_of_getElem? (i := 0) rfl)))))), List.forall_mem_cons.mpr ⟨List.mem_cons_of_mem _ (List.mem_append_left _ (List.mem_append_left _ (List.mem_append_left _ (List.mem_append_left _ (List.mem_append_left _ (List.mem_of_getElem? (i := 1) rfl)))))), List.forall_mem_cons.mpr ⟨List.mem_cons_of_mem _ (List.mem_append_left _ (List.mem_append_left _ (List.mem_append_left _ (List.mem_append_left _ (List.mem_append_left _ (List.mem_of_getElem? (i := 2) rfl)))))), List.forall_mem_cons.mpr ⟨List.mem_cons_of_mem _ (List.mem_append_left _ (List.mem_append_left _ (List.mem_append_left _ (List.mem_append_left _ (List.mem_append_left _ (List.mem_of_getElem? (i := 3) rfl)))))), fun _ h9 => absurd h9 List.not_mem_nil⟩⟩⟩⟩) (by decide +kernel)) ggX4_make_X4_cut
set_option maxRecDepth 20000 in
theorem ggX4_make_X4_findBehind : GoodIn wsX4_make wsX4_findBehind := goodIn_4 _ (List.forall_mem_cons.mpr ⟨List.mem_cons_of_mem _ (List.mem_append_left _ (List.mem_append_left _ (List.mem_append_left _ (List.mem_append_left _ (List.mem_append_right _ (List.mem_of_getElem? (i := 3) rfl)))))), List.forall_mem_append.mpr ⟨List.forall_mem_cons.mpr ⟨List.mem_cons_of_mem _ (List.mem_append_left _ (List.mem_append_left _ (List.mem_append_left _ (List.mem_append_left _ (List.mem_append_left _ (List.mem_of_getElem? (i := 5) rfl)))))), List.forall_mem_cons.mpr ⟨List.mem_cons_of_mem _ (List.mem_append_left _ (List.mem_append_left _ (List.mem_append_left _ (List.mem_append_left _ (List.mem_append_left _ (List.mem_of_getElem? (i := 16) rfl)))))), List.forall_mem_cons.mpr ⟨List.mem_cons_of_mem _ (List.mem_append_left _ (List.mem_append_left _ (List.mem_append_left _ (List.mem_append_left _ (List.mem_append_right _ (List.mem_of_getElem? (i := 4) rfl)))))), List.forall_mem_cons.mpr ⟨List.mem_cons_of_mem _ (List.mem_append_left _ (List.mem_append_left _ (List.mem_append_left _ (List.mem_append_left _ (List.mem_append_right _ (List.mem_of_getElem? (i := 5) rfl)))))), List.forall_mem_cons.mpr ⟨List.mem_cons_of_mem _ (List.mem_append_left _ (List.mem_append_left _ (List.mem_append_left _ (List.mem_append_left _ (List.mem_append_right _ (List.mem_of_getElem? (i := 6) rfl)))))), List.forall_mem_cons.mpr ⟨List.mem_cons_of_mem _ (List.mem_append_left _ (List.mem_append_left _ (List.mem_append_left _ (List.mem_append_left _ (List.mem_append_right _ (List.mem_of_getElem? (i := 7) rfl)))))), List.forall_mem_cons.mpr ⟨List.mem_cons_of_mem _ (List.mem_append_left _ (List.mem_append_left _ (List.mem_append_left _ (List.mem_append_left _ (List.mem_append_right _ (List.mem_of_getElem? (i := 8) rfl)))))), fun _ h9 => absurd h9 List.not_mem_nil⟩⟩⟩⟩⟩⟩⟩, fun w h9 => List.mem_cons_of_mem _ (List.mem_append_left _ (List.mem_append_left _ (List.mem_append_left _ (List.mem_append_right _ (h9)))))⟩⟩) (by decide +kernel)
set_option maxRecDepth 20000 in
theorem gX4_make_X4_findBehind : GoodIn wsX4_make (wsV RX4 43 RX4 yX4_findBehind wsX4_findBehind) := goodIn_app (goodIn_4 _ (List.forall_mem_cons.mpr ⟨List.mem_cons_of_mem _ (List.mem_append_left _ (List.mem_append_left _ (List.mem_append_left _ (List.mem_append_left _ (List.mem_append_right _ (List.mem_of_getElem? (i := 0) rfl)))))), List.forall_mem_cons.mpr ⟨List.mem_cons_of_mem _ (List.mem_append_left _ (List.mem_append_left _ (List.mem_append_left _ (List.mem_append_left _ (List.mem_append_right _ (List.mem_of_getElem? (i := 1) rfl)))))), List.forall_mem_cons.mpr ⟨List.mem_cons_of_mem _ (List.mem_append_left _ (List.mem_append_left _ (List.mem_append_left _ (List.mem_append_left _ (List.mem_append_right _ (List.mem_of_getElem? (i := 2) rfl)))))), List.forall_mem_cons.mpr ⟨List.mem_cons_of_mem _ (List.mem_append_left _ (List.mem_append_left _ (List.mem_append_left _ (List.mem_append_left _ (List.mem_append_left _ (List.mem_of_getElem? (i := 3) rfl)))))), fun _ h9 => absurd h9 List.not_mem_nil⟩⟩⟩⟩) (by decide +kernel)) ggX4_make_X4_findBehind
set_option maxRecDepth 20000 in
theorem ggX4_make_X4_findFitting : GoodIn wsX4_make wsX4_findFitting := goodIn_4 _ (List.forall_mem_cons.mpr ⟨List.mem_cons_of_mem _ (List.mem_append_left _ (List.mem_append_left _ (List.mem_append_left _ (List.mem_append_left _ (List.mem_append_left _ (List.mem_of_getElem? (i := 14) rfl)))))), List.forall_mem_append.mpr ⟨List.forall_mem_append.mpr ⟨List.forall_mem_cons.mpr ⟨List.mem_cons_of_mem _ (List.mem_append_left _ (List.mem_append_left _ (List.mem_append_left _ (List.mem_append_left _ (List.mem_append_left _ (List.mem_of_getElem? (i := 15) rfl)))))), List.forall_mem_cons.mpr ⟨List.mem_cons_of_mem _ (List.mem_append_left _ (List.mem_append_left _ (List.mem_append_left _ (List.mem_append_left _ (List.mem_append_left _ (List.mem_of_getElem? (i := 5) rfl)))))), List.forall_mem_cons.mpr ⟨List.mem_cons_of_mem _ (List.mem_append_left _ (List.mem_append_left _ (List.mem_append_left _ (List.mem_append_left _ (List.mem_append_left _ (List.mem_of_getElem? (i := 16) rfl)))))), List.forall_mem_cons.mpr ⟨List.mem_cons_of_mem _ (List.mem_append_left _ (List.mem_append_left _ (List.mem_append_left _ (List.mem_append_left _ (List.mem_append_left _ (List.mem_of_getElem? (i := 10) rfl)))))), List.forall_mem_cons.mpr ⟨List.mem_cons_of_mem _ (List.mem_append_left _ (List.mem_append_left _ (List.mem_append_left _ (List.mem_append_left _ (List.mem_append_left _ (List.mem_of_getElem? (i := 17) rfl)))))), List.forall_mem_cons.mpr ⟨List.mem_cons_of_mem _ (List.mem_append_left _ (List.mem_append_left _ (List.mem_append_left _ (List.mem_append_left _ (List.mem_append_left _ (List.mem_of_getElem? (i := 18) rfl)))))), List.forall_mem_cons.mpr ⟨List.mem_cons_of_mem _ (List.mem_append_left _ (List.mem_append_left _ (List.mem_append_left _ (List.mem_append_left _ (List.mem_append_left _ (List.mem_of_getElem? (i := 19) rfl)))))), List.forall_mem_cons.mpr ⟨List.mem_cons_of_mem _ (List.mem_append_left _ (List.mem_append_left _ (List.mem_append_left _ (List.mem_append_left _ (List.mem_append_left _ (List.mem_of_getElem? (i := 20) rfl)))))), List.forall_mem_cons.mpr ⟨List.mem_cons_of_mem _ (List.mem_append_left _ (List.mem_append_left _ (List.mem_append_left _ (List.mem_append_left _ (List.mem_append_left _ (List.mem_of_getElem? (i := 21) rfl)))))), List.forall_mem_cons.mpr ⟨List.mem_cons_of_mem _ (List.mem_append_left _ (List.mem_append_left _ (List.mem_append_left _ (List.mem_append_left _ (List.mem_append_left _ (List.mem_of_getElem? (i := 22) rfl)))))), List.forall_mem_cons.mpr ⟨List.mem_cons_of_mem _ (List.mem_append_left _ (List.mem_append_left _ (List.mem_append_left _ (List.mem_append_left _ (List.mem_append_left _ (List.mem_of_getElem? (i := 23) rfl)))))), fun _ h9 => absurd h9 List.not_mem_nil⟩⟩⟩⟩⟩⟩⟩⟩⟩⟩⟩, fun w h9 => List.mem_cons_of_mem _ (List.mem_append_left _ (List.mem_append_left _ (List.mem_append_left _ (List.mem_append_right _ (h9)))))⟩, fun w h9 => List.mem_cons_of_mem _ (List.mem_append_left _ (List.mem_append_right _ (h9)))⟩⟩) (by decide +kernel)
set_option maxRecDepth 20000 in
theorem gX4_make_X4_findFitting : GoodIn wsX4_make (wsV RX4 39 RX4 yX4_findFitting wsX4_findFitting) := goodIn_app (goodIn_4 _ (List.forall_mem_cons.mpr ⟨List.mem_cons_of_mem _ (List.mem_append_left _ (List.mem_append_left _ (List.mem_append_left _ (List.mem_append_left _ (List.mem_append_left _ (List.mem_of_getElem? (i := 11) rfl)))))), List.forall_mem_cons.mpr ⟨List.mem_cons_of_mem _ (List.mem_append_left _ (List.mem_append_left _ (List.mem_append_left _ (List.mem_append_left _ (List.mem_append_left _ (List.mem_of_getElem? (i := 12) rfl)))))), List.forall_mem_cons.mpr ⟨List.mem_cons_of_mem _ (List.mem_append_left _ (List.mem_append_left _ (List.mem_append_left _ (List.mem_append_left _ (List.mem_append_left _ (List.mem_of_getElem? (i := 13) rfl)))))), List.forall_mem_cons.mpr ⟨List.mem_cons_of_mem _ (List.mem_append_left _ (List.mem_append_left _ (List.mem_append_left _ (List.mem_append_left _ (List.mem_append_left _ (List.mem_of_getElem? (i := 3) rfl)))))), fun _ h9 => absurd h9 List.not_mem_nil⟩⟩⟩⟩) (by decide +kernel)) ggX4_make_X4_findFitting
theorem ax_X4_make_0 {e0 e1 e2 e3 e4 e5 e6 e7 e8 e9 e10 e11 e12 e13 : Nat × va_E} {k : va_W} : ([0, 1, 2, 6, 8, 9] : List Nat).map (fun i => (([e0, e1, e2, e3, e4, e5, e6, e7, e8, e9, e10, e11, e12, e13] : va_W) ++ k)[i]?) = ([e0, e1, e2, e6, e8, e9] : va_W).map some := rfl
theorem ax_X4_make_1 {e0 e1 e2 e3 e4 e5 e6 e7 e8 e9 e10 e11 e12 e13 : Nat × va_E} : ([0, 1, 2, 6, 8, 9] : List Nat).map (fun i => ([e0, e1, e2, e3, e4, e5, e6, e7, e8, e9, e10, e11, e12, e13] : va_W)[i]?) = ([e0, e1, e2, e6, e8, e9] : va_W).map some := rfl
theorem ax_X4_make_2 {e0 e1 e2 e3 e4 e5 e6 e7 e8 e9 e10 e11 e12 e13 : Nat × va_E} : ([3, 4, 5, 7, 10, 11, 12, 13] : List Nat).map (fun i => ([e0, e1, e2, e3, e4, e5, e6, e7, e8, e9, e10, e11, e12, e13] : va_W)[i]?) = ([e3, e4, e5, e7, e10, e11, e12, e13] : va_W).map some := rfl
theorem ax_X4_make_3 {D : va_G} {cl : List vw_C} {H : Heap} {e0 e1 e2 e3 e4 e5 e6 e7 f0 f1 f2 f3 f4 f5 : Nat × va_E} {k : va_W} (h : va_P D cl ((([e0, e1, e2, e3, e4, e5, e6, e7] : va_W) ++ ([f0, f1, f2, f3, f4, f5] : va_W)) ++ k) H) : va_P D cl (([e0, e1, e2, e3, e4, e5, e6, e7, f0, f1, f2, f3, f4, f5] : va_W) ++ k) H := h
theorem ax_X4_make_4 {A : Nat → Prop} {e0 e1 e2 e3 e4 e5 e6 e7 f0 f1 f2 f3 f4 f5 : Nat × va_E} {k : va_W} (h : va_D A ((([e0, e1, e2, e3, e4, e5, e6, e7] : va_W) ++ ([f0, f1, f2, f3, f4, f5] : va_W)) ++ k)) : va_D A (([e0, e1, e2, e3, e4, e5, e6, e7, f0, f1, f2, f3, f4, f5] : va_W) ++ k) := h
theorem ax_X4_make_5 {e0 e1 e2 e3 e4 e5 e6 e7 e8 e9 e10 e11 e12 e13 : Nat × va_E} {k : va_W} : ([8, 0, 11, 4, 5] : List Nat).map (fun i => (([e0, e1, e2, e3, e4, e5, e6, e7, e8, e9, e10, e11, e12, e13] : va_W) ++ k)[i]?) = ([e8, e0, e11, e4, e5] : va_W).map some := rfl
theorem ax_X4_make_6 {e0 e1 e2 e3 e4 e5 e6 e7 e8 e9 e10 e11 e12 e13 : Nat × va_E} : ([8, 0, 11, 4, 5] : List Nat).map (fun i => ([e0, e1, e2, e3, e4, e5, e6, e7, e8, e9, e10, e11, e12, e13] : va_W)[i]?) = ([e8, e0, e11, e4, e5] : va_W).map some := rfl
theorem ax_X4_make_7 {e0 e1 e2 e3 e4 e5 e6 e7 e8 e9 e10 e11 e12 e13 : Nat × va_E} : ([1, 2, 3, 6, 7, 9, 10, 12, 13] : List Nat).map (fun i => ([e0, e1, e2, e3, e4, e5, e6, e7, e8, e9, e10, e11, e12, e13] : va_W)[i]?) = ([e1, e2, e3, e6, e7, e9, e10, e12, e13] : va_W).map some := rfl
theorem ax_X4_make_8 {D : va_G} {cl : List vw_C} {H : Heap} {e0 e1 e2 e3 e4 e5 e6 e7 e8 f0 f1 f2 f3 f4 : Nat × va_E} {k : va_W} (h : va_P D cl ((([e0, e1, e2, e3, e4, e5, e6, e7, e8] : va_W) ++ ([f0, f1, f2, f3, f4] : va_W)) ++ k) H) : va_P D cl (([e0, e1, e2, e3, e4, e5, e6, e7, e8, f0, f1, f2, f3, f4] : va_W) ++ k) H := h
theorem ax_X4_make_9 {A : Nat → Prop} {e0 e1 e2 e3 e4 e5 e6 e7 e8 f0 f1 f2 f3 f4 : Nat × va_E} {k : va_W} (h : va_D A ((([e0, e1, e2, e3, e4, e5, e6, e7, e8] : va_W) ++ ([f0, f1, f2, f3, f4] : va_W)) ++ k)) : va_D A (([e0, e1, e2, e3, e4, e5, e6, e7, e8, f0, f1, f2, f3, f4] : va_W) ++ k) := h
theorem ax_X4_make_10 {e0 e1 e2 e3 e4 e5 e6 e7 e8 e9 e10 e11 e12 e13 : Nat × va_E} : ([9, 10, 2] : List Nat).map (fun i => ([e0, e1, e2, e3, e4, e5, e6, e7, e8, e9, e10, e11, e12, e13] : va_W)[i]?) = ([e9, e10, e2] : va_W).map some := rfl
theorem ax_X4_make_11 {e0 e1 e2 e3 e4 e5 e6 e7 e8 e9 e10 e11 e12 e13 : Nat × va_E} : ([0, 1, 3, 4, 5, 6, 7, 8, 11, 12, 13] : List Nat).map (fun i => ([e0, e1, e2, e3, e4, e5, e6, e7, e8, e9, e10, e11, e12, e13] : va_W)[i]?) = ([e0, e1, e3, e4, e5, e6, e7, e8, e11, e12, e13] : va_W).map some := rfl
theorem ax_X4_make_12 {D : va_G} {cl : List vw_C} {H : Heap} {e0 e1 e2 e3 e4 e5 e6 e7 e8 e9 e10 f0 f1 f2 : Nat × va_E} {k : va_W} (h : va_P D cl ((([e0, e1, e2, e3, e4, e5, e6, e7, e8, e9, e10] : va_W) ++ ([f0, f1, f2] : va_W)) ++ k) H) : va_P D cl (([e0, e1, e2, e3, e4, e5, e6, e7, e8, e9, e10, f0, f1, f2] : va_W) ++ k) H := h
theorem ax_X4_make_13 {A : Nat → Prop} {e0 e1 e2 e3 e4 e5 e6 e7 e8 e9 e10 f0 f1 f2 : Nat × va_E} {k : va_W} (h : va_D A ((([e0, e1, e2, e3, e4, e5, e6, e7, e8, e9, e10] : va_W) ++ ([f0, f1, f2] : va_W)) ++ k)) : va_D A (([e0, e1, e2, e3, e4, e5, e6, e7, e8, e9, e10, f0, f1, f2] : va_W) ++ k) := h
theorem ax_X4_make_14 {e0 e1 e2 e3 e4 e5 e6 e7 e8 e9 e10 e11 e12 e13 : Nat × va_E} : ([11, 0, 1, 13, 2, 3] : List Nat).map (fun i => ([e0, e1, e2, e3, e4, e5, e6, e7, e8, e9, e10, e11, e12, e13] : va_W)[i]?) = ([e11, e0, e1, e13, e2, e3] : va_W).map some := rfl
theorem ax_X4_make_15 {e0 e1 e2 e3 e4 e5 e6 e7 e8 e9 e10 e11 e12 e13 : Nat × va_E} : ([4, 5, 6, 7, 8, 9, 10, 12] : List Nat).map (fun i => ([e0, e1, e2, e3, e4, e5, e6, e7, e8, e9, e10, e11, e12, e13] : va_W)[i]?) = ([e4, e5, e6, e7, e8, e9, e10, e12] : va_W).map some := rfl
theorem ax_X4_make_16 {e0 e1 e2 e3 e4 e5 e6 e7 e8 e9 e10 e11 e12 e13 : Nat × va_E} : ([8, 0, 1, 7, 9, 10, 4, 11, 2, 3, 5, 6, 12, 13] : List Nat).map (fun i => ([e0, e1, e2, e3, e4, e5, e6, e7, e8, e9, e10, e11, e12, e13] : va_W)[i]?) = ([e8, e0, e1, e7, e9, e10, e4, e11, e2, e3, e5, e6, e12, e13] : va_W).map some := rfl
set_option maxHeartbeats 4000000 in
set_option maxRecDepth 100000 in
theorem c_X4_make (l : Launch) (D : va_G) (sz : Nat) (wr : Nat) (fr : Nat) (pf : Nat) (al : Int) (h0 : Nat) (g1 : Nat) (g2 : Nat) (g3 : Nat) (g4 : Nat) (g5 : Nat) (cn : Int) (bo : Int) (ru : Int) (g6 : Nat) (g7 : Nat) (cg1 : ClassId) (f1 : Nat → Int32) (cg2 : ClassId) (f2 : Nat → Int32) (cg3 : ClassId) (f3 : Nat → Int32) (cg4 : ClassId) (f4 : Nat → Int32) (cg5 : ClassId) (f5 : Nat → Int32) (cg6 : ClassId) (f6 : Nat → Int32) (cg7 : ClassId) (fo : Nat → Option Nat) (o : Nat) (w1 : Nat) (wn : Int) (cw1 : ClassId) (fw : Nat → Int32) (k1 : Nat) (k2 : Nat) (k3 : Nat) (n : Int) (ck3 : ClassId) (fh : Nat → Int32) (p1 : Nat) (pn : Int) (cp1 : ClassId) (fp : Nat → Int32) (pr : Nat → Nat) (gp : Nat → Nat → Int32) (cy : ClassId) (q0 : rg al) (q1 : 0 ≤ wn ∧ wn ≤ 24) (q2 : 0 ≤ n ∧ n ≤ 4) (q3 : 0 ≤ pn ∧ pn ≤ 4) (q4 : kPr fp) (q5 : kOut fo pr o 24) (q6 : o + 24 ≤ 56) : Met l yX4_make wsX4_make ({ frames := 2, cells := 0, slots := 0, locals := 51 }) (kPre [.ref h0, .ref wr, .ref fr, .ref pf, .int (zI al)] D (([(h0, .inr (4, [.ref g1, .ref g2, .ref g3, .ref g4, .ref g5, .int (zI cn), .int (zI bo), .int (zI ru), .ref g6, .ref g7])), (g1, .inl (cg1, 24, .inl f1)), (g2, .inl (cg2, 24, .inl f2)), (g3, .inl (cg3, 24, .inl f3)), (g4, .inl (cg4, 24, .inl f4)), (g5, .inl (cg5, 24, .inl f5)), (g6, .inl (cg6, 24, .inl f6)), (g7, .inl (cg7, 24, .inr (.inr (.inr (.inr (fo)))))), (wr, .inr (7, [.ref w1, .int (zI wn)])), (w1, .inl (cw1, 24, .inl fw)), (fr, .inr (0, [.ref k1, .ref k2, .ref k3, .int (zI n)])), (k3, .inl (ck3, 4, .inl fh)), (pf, .inr (1, [.ref p1, .int (zI pn)])), (p1, .inl (cp1, 4, .inl fp))] : va_W) ++ kRows pr gp cy) [(cg1, .int), (cg2, .int), (cg3, .int), (cg4, .int), (cg5, .int), (cg6, .int), (cg7, .array .int), (cw1, .int), (ck3, .int), (cp1, .int), (cy, .int)] sz) (kQV (fun t => ∃ (uc : Int) (ub : Int) (ur : Int) (v1 : Nat → Int32) (v2 : Nat → Int32) (v3 : Nat → Int32) (v4 : Nat → Int32) (v5 : Nat → Int32) (v6 : Nat → Int32) (ug : Nat → Nat → Int32), (0 ≤ uc ∧ uc ≤ 24) ∧ (0 ≤ ub ∧ ub ≤ 24) ∧ (0 ≤ ur ∧ ur ≤ uc) ∧ va_P D vwCl (([(h0, .inr (4, [.ref g1, .ref g2, .ref g3, .ref g4, .ref g5, .int (zI uc), .int (zI ub), .int (zI ur), .ref g6, .ref g7])), (g1, .inl (cg1, 24, .inl v1)), (g2, .inl (cg2, 24, .inl v2)), (g3, .inl (cg3, 24, .inl v3)), (g4, .inl (cg4, 24, .inl v4)), (g5, .inl (cg5, 24, .inl v5)), (g6, .inl (cg6, 24, .inl v6)), (g7, .inl (cg7, 24, .inr (.inr (.inr (.inr (fo)))))), (wr, .inr (7, [.ref w1, .int (zI wn)])), (w1, .inl (cw1, 24, .inl fw)), (fr, .inr (0, [.ref k1, .ref k2, .ref k3, .int (zI n)])), (k3, .inl (ck3, 4, .inl fh)), (pf, .inr (1, [.ref p1, .int (zI pn)])), (p1, .inl (cp1, 4, .inl fp))] : va_W) ++ kRows pr ug cy) t.heap ∧ va_D (va_A (([(h0, .inr (4, [.ref g1, .ref g2, .ref g3, .ref g4, .ref g5, .int (zI cn), .int (zI bo), .int (zI ru), .ref g6, .ref g7])), (g1, .inl (cg1, 24, .inl f1)), (g2, .inl (cg2, 24, .inl f2)), (g3, .inl (cg3, 24, .inl f3)), (g4, .inl (cg4, 24, .inl f4)), (g5, .inl (cg5, 24, .inl f5)), (g6, .inl (cg6, 24, .inl f6)), (g7, .inl (cg7, 24, .inr (.inr (.inr (.inr (fo)))))), (wr, .inr (7, [.ref w1, .int (zI wn)])), (w1, .inl (cw1, 24, .inl fw)), (fr, .inr (0, [.ref k1, .ref k2, .ref k3, .int (zI n)])), (k3, .inl (ck3, 4, .inl fh)), (pf, .inr (1, [.ref p1, .int (zI pn)])), (p1, .inl (cp1, 4, .inl fp))] : va_W) ++ kRows pr gp cy) sz) (([(h0, .inr (4, [.ref g1, .ref g2, .ref g3, .ref g4, .ref g5, .int (zI uc), .int (zI ub), .int (zI ur), .ref g6, .ref g7])), (g1, .inl (cg1, 24, .inl v1)), (g2, .inl (cg2, 24, .inl v2)), (g3, .inl (cg3, 24, .inl v3)), (g4, .inl (cg4, 24, .inl v4)), (g5, .inl (cg5, 24, .inl v5)), (g6, .inl (cg6, 24, .inl v6)), (g7, .inl (cg7, 24, .inr (.inr (.inr (.inr (fo)))))), (wr, .inr (7, [.ref w1, .int (zI wn)])), (w1, .inl (cw1, 24, .inl fw)), (fr, .inr (0, [.ref k1, .ref k2, .ref k3, .int (zI n)])), (k3, .inl (ck3, 4, .inl fh)), (pf, .inr (1, [.ref p1, .int (zI pn)])), (p1, .inl (cp1, 4, .inl fp))] : va_W) ++ kRows pr ug cy)) (va_A (([(h0, .inr (4, [.ref g1, .ref g2, .ref g3, .ref g4, .ref g5, .int (zI cn), .int (zI bo), .int (zI ru), .ref g6, .ref g7])), (g1, .inl (cg1, 24, .inl f1)), (g2, .inl (cg2, 24, .inl f2)), (g3, .inl (cg3, 24, .inl f3)), (g4, .inl (cg4, 24, .inl f4)), (g5, .inl (cg5, 24, .inl f5)), (g6, .inl (cg6, 24, .inl f6)), (g7, .inl (cg7, 24, .inr (.inr (.inr (.inr (fo)))))), (wr, .inr (7, [.ref w1, .int (zI wn)])), (w1, .inl (cw1, 24, .inl fw)), (fr, .inr (0, [.ref k1, .ref k2, .ref k3, .int (zI n)])), (k3, .inl (ck3, 4, .inl fh)), (pf, .inr (1, [.ref p1, .int (zI pn)])), (p1, .inl (cp1, 4, .inl fp))] : va_W) ++ kRows pr gp cy) sz)) 0 0 (va_A (([(h0, .inr (4, [.ref g1, .ref g2, .ref g3, .ref g4, .ref g5, .int (zI cn), .int (zI bo), .int (zI ru), .ref g6, .ref g7])), (g1, .inl (cg1, 24, .inl f1)), (g2, .inl (cg2, 24, .inl f2)), (g3, .inl (cg3, 24, .inl f3)), (g4, .inl (cg4, 24, .inl f4)), (g5, .inl (cg5, 24, .inl f5)), (g6, .inl (cg6, 24, .inl f6)), (g7, .inl (cg7, 24, .inr (.inr (.inr (.inr (fo)))))), (wr, .inr (7, [.ref w1, .int (zI wn)])), (w1, .inl (cw1, 24, .inl fw)), (fr, .inr (0, [.ref k1, .ref k2, .ref k3, .int (zI n)])), (k3, .inl (ck3, 4, .inl fh)), (pf, .inr (1, [.ref p1, .int (zI pn)])), (p1, .inl (cp1, 4, .inl fp))] : va_W) ++ kRows pr gp cy) sz) := by
  refine Met.ofW (cc := cX4_make) (maxL := 5) (ret := none) (by decide) rfl ?_
  intro p e s m args below meth c s₁ B hml hv
  obtain ⟨rfl, hsz, hP, hK, hD0, hN⟩ := hv
  have hx := B.exec
  have hb := B.bytes
  have hr := B.returns
  have hts := atoms_spec (ws := wsX4_make) B.pre
  have hown : s.vm.findClass RX4 = some m.cls := findClass_of_methodNamed B.named
  have hlocks := B.notSynchronized
  subst hsz
  have hD := hD0.self (sz := s.heap.size)
  generalize hAe : va_A (([(h0, .inr (4, [.ref g1, .ref g2, .ref g3, .ref g4, .ref g5, .int (zI cn), .int (zI bo), .int (zI ru), .ref g6, .ref g7])), (g1, .inl (cg1, 24, .inl f1)), (g2, .inl (cg2, 24, .inl f2)), (g3, .inl (cg3, 24, .inl f3)), (g4, .inl (cg4, 24, .inl f4)), (g5, .inl (cg5, 24, .inl f5)), (g6, .inl (cg6, 24, .inl f6)), (g7, .inl (cg7, 24, .inr (.inr (.inr (.inr (fo)))))), (wr, .inr (7, [.ref w1, .int (zI wn)])), (w1, .inl (cw1, 24, .inl fw)), (fr, .inr (0, [.ref k1, .ref k2, .ref k3, .int (zI n)])), (k3, .inl (ck3, 4, .inl fh)), (pf, .inr (1, [.ref p1, .int (zI pn)])), (p1, .inl (cp1, 4, .inl fp))] : va_W) ++ kRows pr gp cy) s.heap.size = A at hD ⊢
  have hA : ∀ q : Nat, s.heap.size ≤ q → A q := fun q h => by rw [← hAe]; exact Or.inr h
  have hS : va_S A s.heap s.heap [] := va_S.rf
  have hP : va_P D vwCl (([(h0, .inr (4, [.ref g1, .ref g2, .ref g3, .ref g4, .ref g5, .int (zI cn), .int (zI bo), .int (zI ru), .ref g6, .ref g7])), (g1, .inl (cg1, 24, .inl f1)), (g2, .inl (cg2, 24, .inl f2)), (g3, .inl (cg3, 24, .inl f3)), (g4, .inl (cg4, 24, .inl f4)), (g5, .inl (cg5, 24, .inl f5)), (g6, .inl (cg6, 24, .inl f6)), (g7, .inl (cg7, 24, .inr (.inr (.inr (.inr (fo)))))), (wr, .inr (7, [.ref w1, .int (zI wn)])), (w1, .inl (cw1, 24, .inl fw)), (fr, .inr (0, [.ref k1, .ref k2, .ref k3, .int (zI n)])), (k3, .inl (ck3, 4, .inl fh)), (pf, .inr (1, [.ref p1, .int (zI pn)])), (p1, .inl (cp1, 4, .inl fp))] : va_W) ++ kRows pr gp cy) s.heap := hP
  have hl := lv_entry ([.ref h0, .ref wr, .ref fr, .ref pf, .int (zI al)]) (n := 5) (Nat.le_of_ble_eq_true rfl)
  rw [lg_entry_eq]
  generalize (lg_sl ([.ref h0, .ref wr, .ref fr, .ref pf, .int (zI al)]) ++ List.replicate (5 - (lg_sl ([.ref h0, .ref wr, .ref fr, .ref pf, .int (zI al)])).length) Slot.unset).toArray = ls at hl ⊢
  have hl : lv_has ls 5 [(0, .ref h0), (1, .ref wr), (2, .ref fr), (3, .ref pf), (4, .int (zI al))] := hl
  refine lv_aload_n hx hb dX4_make_0 rfl (lv_at hl 0 rfl) ?_
  refine lv_aload_n hx hb dX4_make_1 rfl (lv_at hl 1 rfl) ?_
  have hFc := va_free (wc := [(h0, .inr (4, [.ref g1, .ref g2, .ref g3, .ref g4, .ref g5, .int (zI cn), .int (zI bo), .int (zI ru), .ref g6, .ref g7])), (g1, .inl (cg1, 24, .inl f1)), (g2, .inl (cg2, 24, .inl f2)), (g6, .inl (cg6, 24, .inl f6)), (wr, .inr (7, [.ref w1, .int (zI wn)])), (w1, .inl (cw1, 24, .inl fw))]) hD hS hA [0, 1, 2, 6, 8, 9] ax_X4_make_0
  refine va_callv (va_runV (As := [.ref wr]) (rest := []) ⟨hx, hb, hml, hown, hts⟩ (c_X4_cut l D s.heap.size (wr := wr) (h0 := h0) (g1 := g1) (g2 := g2) (g3 := g3) (g4 := g4) (g5 := g5) (cn := cn) (bo := bo) (ru := ru) (g6 := g6) (g7 := g7) (cg1 := cg1) (f1 := f1) (cg2 := cg2) (f2 := f2) (cg6 := cg6) (f6 := f6) (w1 := w1) (wn := wn) (cw1 := cw1) (fw := fw) q1) (cwV 1 hts gX4_make_X4_cut rfl rfl rfl (by decide +kernel) ⟨Nat.le_of_ble_eq_true rfl, Nat.le_of_ble_eq_true rfl⟩) (kPreV hP (kD0 hD) hK hN [0, 1, 2, 6, 8, 9] [0, 1, 5, 7] ax_X4_make_0 rfl (by decide +kernel) 0 4 rfl rfl) rfl rfl hl.1 rfl (lv_room (Nat.le_of_ble_eq_true rfl)) dX4_make_2 ⟨Nat.le_of_ble_eq_true rfl, Nat.le_of_ble_eq_true rfl⟩) hS (fun q _ h => hFc q h) hFc (fun u t H1 locs ht hvm hw hB hz1 hk1 hS => ?_)
  refine Exists.elim hB (fun uc_1 hB1 => Exists.elim hB1 (fun v1_2 hB2 => Exists.elim hB2 (fun v2_3 hB3 => Exists.elim hB3 (fun v6_4 hB4 => ?_))))
  have h_5 := hB4.1
  have hP1 := hB4.2.1
  have hD1 := hB4.2.2
  clear hB hB1 hB2 hB3 hB4
  rw [ht] at hP1
  obtain ⟨hP, hD⟩ := va_joinQ (X := [(h0, .inr (4, [.ref g1, .ref g2, .ref g3, .ref g4, .ref g5, .int (zI cn), .int (zI bo), .int (zI ru), .ref g6, .ref g7])), (g1, .inl (cg1, 24, .inl f1)), (g2, .inl (cg2, 24, .inl f2)), (g3, .inl (cg3, 24, .inl f3)), (g4, .inl (cg4, 24, .inl f4)), (g5, .inl (cg5, 24, .inl f5)), (g6, .inl (cg6, 24, .inl f6)), (g7, .inl (cg7, 24, .inr (.inr (.inr (.inr (fo)))))), (wr, .inr (7, [.ref w1, .int (zI wn)])), (w1, .inl (cw1, 24, .inl fw)), (fr, .inr (0, [.ref k1, .ref k2, .ref k3, .int (zI n)])), (k3, .inl (ck3, 4, .inl fh)), (pf, .inr (1, [.ref p1, .int (zI pn)])), (p1, .inl (cp1, 4, .inl fp))]) (wr := [(g3, .inl (cg3, 24, .inl f3)), (g4, .inl (cg4, 24, .inl f4)), (g5, .inl (cg5, 24, .inl f5)), (g7, .inl (cg7, 24, .inr (.inr (.inr (.inr (fo)))))), (fr, .inr (0, [.ref k1, .ref k2, .ref k3, .int (zI n)])), (k3, .inl (ck3, 4, .inl fh)), (pf, .inr (1, [.ref p1, .int (zI pn)])), (p1, .inl (cp1, 4, .inl fp))]) (w1 := [(h0, .inr (4, [.ref g1, .ref g2, .ref g3, .ref g4, .ref g5, .int (zI uc_1), .int (zI bo), .int (zI ru), .ref g6, .ref g7])), (g1, .inl (cg1, 24, .inl v1_2)), (g2, .inl (cg2, 24, .inl v2_3)), (g6, .inl (cg6, 24, .inl v6_4)), (wr, .inr (7, [.ref w1, .int (zI wn)])), (w1, .inl (cw1, 24, .inl fw))]) hP hD [0, 1, 2, 6, 8, 9] [3, 4, 5, 7, 10, 11, 12, 13] ax_X4_make_1 ax_X4_make_2 (by decide +kernel) (by decide +kernel) hk1 hFc hP1 hD1
  have hP := ax_X4_make_3 hP
  have hD := ax_X4_make_4 hD
  generalize H1 = H at hP hS ⊢
  have hP : va_P D vwCl (([(g3, .inl (cg3, 24, .inl f3)), (g4, .inl (cg4, 24, .inl f4)), (g5, .inl (cg5, 24, .inl f5)), (g7, .inl (cg7, 24, .inr (.inr (.inr (.inr (fo)))))), (fr, .inr (0, [.ref k1, .ref k2, .ref k3, .int (zI n)])), (k3, .inl (ck3, 4, .inl fh)), (pf, .inr (1, [.ref p1, .int (zI pn)])), (p1, .inl (cp1, 4, .inl fp)), (h0, .inr (4, [.ref g1, .ref g2, .ref g3, .ref g4, .ref g5, .int (zI uc_1), .int (zI bo), .int (zI ru), .ref g6, .ref g7])), (g1, .inl (cg1, 24, .inl v1_2)), (g2, .inl (cg2, 24, .inl v2_3)), (g6, .inl (cg6, 24, .inl v6_4)), (wr, .inr (7, [.ref w1, .int (zI wn)])), (w1, .inl (cw1, 24, .inl fw))] : va_W) ++ kRows pr gp cy) H := hP
  have hD : va_D A (([(g3, .inl (cg3, 24, .inl f3)), (g4, .inl (cg4, 24, .inl f4)), (g5, .inl (cg5, 24, .inl f5)), (g7, .inl (cg7, 24, .inr (.inr (.inr (.inr (fo)))))), (fr, .inr (0, [.ref k1, .ref k2, .ref k3, .int (zI n)])), (k3, .inl (ck3, 4, .inl fh)), (pf, .inr (1, [.ref p1, .int (zI pn)])), (p1, .inl (cp1, 4, .inl fp)), (h0, .inr (4, [.ref g1, .ref g2, .ref g3, .ref g4, .ref g5, .int (zI uc_1), .int (zI bo), .int (zI ru), .ref g6, .ref g7])), (g1, .inl (cg1, 24, .inl v1_2)), (g2, .inl (cg2, 24, .inl v2_3)), (g6, .inl (cg6, 24, .inl v6_4)), (wr, .inr (7, [.ref w1, .int (zI wn)])), (w1, .inl (cw1, 24, .inl fw))] : va_W) ++ kRows pr gp cy) := hD
  refine lv_aload_n hx hb dX4_make_5 rfl (lv_at hl 0 rfl) ?_
  refine lv_aload_n hx hb dX4_make_6 rfl (lv_at hl 2 rfl) ?_
  refine lv_iload hx hb dX4_make_7 (lv_at hl 4 rfl) ?_
  have hFc := va_free (wc := [(h0, .inr (4, [.ref g1, .ref g2, .ref g3, .ref g4, .ref g5, .int (zI uc_1), .int (zI bo), .int (zI ru), .ref g6, .ref g7])), (g3, .inl (cg3, 24, .inl f3)), (g6, .inl (cg6, 24, .inl v6_4)), (fr, .inr (0, [.ref k1, .ref k2, .ref k3, .int (zI n)])), (k3, .inl (ck3, 4, .inl fh))]) hD hS hA [8, 0, 11, 4, 5] ax_X4_make_5
  refine va_callv (va_runV (As := [.ref fr, .int (zI al)]) (rest := []) ⟨hx, hb, hml, hown, hts⟩ (c_X4_findFitting l D H.size (fr := fr) (al := al) (h0 := h0) (g1 := g1) (g2 := g2) (g3 := g3) (g4 := g4) (g5 := g5) (cn := uc_1) (bo := bo) (ru := ru) (g6 := g6) (g7 := g7) (cg3 := cg3) (f3 := f3) (cg6 := cg6) (f6 := v6_4) (k1 := k1) (k2 := k2) (k3 := k3) (n := n) (ck3 := ck3) (fh := fh) q0 h_5 q2) (cwV 2 hts gX4_make_X4_findFitting rfl rfl rfl (by decide +kernel) ⟨Nat.le_of_ble_eq_true rfl, Nat.le_of_ble_eq_true rfl⟩) (kPreV hP (kD0 hD) hK hN [8, 0, 11, 4, 5] [2, 5, 8] ax_X4_make_5 rfl (by decide +kernel) 8 4 rfl rfl) rfl rfl hl.1 rfl (lv_room (Nat.le_of_ble_eq_true rfl)) dX4_make_9 ⟨Nat.le_of_ble_eq_true rfl, Nat.le_of_ble_eq_true rfl⟩) hS (fun q _ h => hFc q h) hFc (fun u t H1 locs ht hvm hw hB hz1 hk1 hS => ?_)
  refine Exists.elim hB (fun ub_6 hB1 => Exists.elim hB1 (fun v3_7 hB2 => ?_))
  have h_8 := hB2.1
  have hP1 := hB2.2.1
  have hD1 := hB2.2.2
  clear hB hB1 hB2
  rw [ht] at hP1
  obtain ⟨hP, hD⟩ := va_joinQ (X := [(g3, .inl (cg3, 24, .inl f3)), (g4, .inl (cg4, 24, .inl f4)), (g5, .inl (cg5, 24, .inl f5)), (g7, .inl (cg7, 24, .inr (.inr (.inr (.inr (fo)))))), (fr, .inr (0, [.ref k1, .ref k2, .ref k3, .int (zI n)])), (k3, .inl (ck3, 4, .inl fh)), (pf, .inr (1, [.ref p1, .int (zI pn)])), (p1, .inl (cp1, 4, .inl fp)), (h0, .inr (4, [.ref g1, .ref g2, .ref g3, .ref g4, .ref g5, .int (zI uc_1), .int (zI bo), .int (zI ru), .ref g6, .ref g7])), (g1, .inl (cg1, 24, .inl v1_2)), (g2, .inl (cg2, 24, .inl v2_3)), (g6, .inl (cg6, 24, .inl v6_4)), (wr, .inr (7, [.ref w1, .int (zI wn)])), (w1, .inl (cw1, 24, .inl fw))]) (wr := [(g4, .inl (cg4, 24, .inl f4)), (g5, .inl (cg5, 24, .inl f5)), (g7, .inl (cg7, 24, .inr (.inr (.inr (.inr (fo)))))), (pf, .inr (1, [.ref p1, .int (zI pn)])), (p1, .inl (cp1, 4, .inl fp)), (g1, .inl (cg1, 24, .inl v1_2)), (g2, .inl (cg2, 24, .inl v2_3)), (wr, .inr (7, [.ref w1, .int (zI wn)])), (w1, .inl (cw1, 24, .inl fw))]) (w1 := [(h0, .inr (4, [.ref g1, .ref g2, .ref g3, .ref g4, .ref g5, .int (zI uc_1), .int (zI ub_6), .int (zI ru), .ref g6, .ref g7])), (g3, .inl (cg3, 24, .inl v3_7)), (g6, .inl (cg6, 24, .inl v6_4)), (fr, .inr (0, [.ref k1, .ref k2, .ref k3, .int (zI n)])), (k3, .inl (ck3, 4, .inl fh))]) hP hD [8, 0, 11, 4, 5] [1, 2, 3, 6, 7, 9, 10, 12, 13] ax_X4_make_6 ax_X4_make_7 (by decide +kernel) (by decide +kernel) hk1 hFc hP1 hD1
  have hP := ax_X4_make_8 hP
  have hD := ax_X4_make_9 hD
  generalize H1 = H at hP hS ⊢
  have hP : va_P D vwCl (([(g4, .inl (cg4, 24, .inl f4)), (g5, .inl (cg5, 24, .inl f5)), (g7, .inl (cg7, 24, .inr (.inr (.inr (.inr (fo)))))), (pf, .inr (1, [.ref p1, .int (zI pn)])), (p1, .inl (cp1, 4, .inl fp)), (g1, .inl (cg1, 24, .inl v1_2)), (g2, .inl (cg2, 24, .inl v2_3)), (wr, .inr (7, [.ref w1, .int (zI wn)])), (w1, .inl (cw1, 24, .inl fw)), (h0, .inr (4, [.ref g1, .ref g2, .ref g3, .ref g4, .ref g5, .int (zI uc_1), .int (zI ub_6), .int (zI ru), .ref g6, .ref g7])), (g3, .inl (cg3, 24, .inl v3_7)), (g6, .inl (cg6, 24, .inl v6_4)), (fr, .inr (0, [.ref k1, .ref k2, .ref k3, .int (zI n)])), (k3, .inl (ck3, 4, .inl fh))] : va_W) ++ kRows pr gp cy) H := hP
  have hD : va_D A (([(g4, .inl (cg4, 24, .inl f4)), (g5, .inl (cg5, 24, .inl f5)), (g7, .inl (cg7, 24, .inr (.inr (.inr (.inr (fo)))))), (pf, .inr (1, [.ref p1, .int (zI pn)])), (p1, .inl (cp1, 4, .inl fp)), (g1, .inl (cg1, 24, .inl v1_2)), (g2, .inl (cg2, 24, .inl v2_3)), (wr, .inr (7, [.ref w1, .int (zI wn)])), (w1, .inl (cw1, 24, .inl fw)), (h0, .inr (4, [.ref g1, .ref g2, .ref g3, .ref g4, .ref g5, .int (zI uc_1), .int (zI ub_6), .int (zI ru), .ref g6, .ref g7])), (g3, .inl (cg3, 24, .inl v3_7)), (g6, .inl (cg6, 24, .inl v6_4)), (fr, .inr (0, [.ref k1, .ref k2, .ref k3, .int (zI n)])), (k3, .inl (ck3, 4, .inl fh))] : va_W) ++ kRows pr gp cy) := hD
  refine lv_aload_n hx hb dX4_make_12 rfl (lv_at hl 0 rfl) ?_
  refine lv_iload hx hb dX4_make_13 (lv_at hl 4 rfl) ?_
  have hFc := va_freeP (cx := [(h0, .inr (4, [.ref g1, .ref g2, .ref g3, .ref g4, .ref g5, .int (zI uc_1), .int (zI ub_6), .int (zI ru), .ref g6, .ref g7])), (g3, .inl (cg3, 24, .inl v3_7)), (g7, .inl (cg7, 24, .inr (.inr (.inr (.inr (fo))))))]) hD hS hA [9, 10, 2] ax_X4_make_10
  refine va_callv (va_runV (As := [.int (zI al)]) (rest := []) ⟨hx, hb, hml, hown, hts⟩ (c_X4_findBehind l D H.size (al := al) (h0 := h0) (g1 := g1) (g2 := g2) (g3 := g3) (g4 := g4) (g5 := g5) (cn := uc_1) (bo := ub_6) (ru := ru) (g6 := g6) (g7 := g7) (cg3 := cg3) (f3 := v3_7) (cg7 := cg7) (fo := fo) (o := o) (pr := pr) (gp := gp) (cy := cy) q0 h_5 q5 q6) (cwV 1 hts gX4_make_X4_findBehind rfl rfl rfl (by decide +kernel) ⟨Nat.le_of_ble_eq_true rfl, Nat.le_of_ble_eq_true rfl⟩) (kPreVP hP (kD0 hD) hK hN [9, 10, 2] [2, 6, 10] ax_X4_make_10 rfl (by decide +kernel) 9 4 rfl rfl) rfl rfl hl.1 rfl (lv_room (Nat.le_of_ble_eq_true rfl)) dX4_make_15 ⟨Nat.le_of_ble_eq_true rfl, Nat.le_of_ble_eq_true rfl⟩) hS (fun q _ h => hFc q h) hFc (fun u t H1 locs ht hvm hw hB hz1 hk1 hS => ?_)
  refine Exists.elim hB (fun ug_9 hB1 => ?_)
  have hP1 := hB1.1
  have hD1 := hB1.2
  clear hB hB1
  rw [ht] at hP1
  obtain ⟨hP, hD⟩ := va_joinP (X := [(g4, .inl (cg4, 24, .inl f4)), (g5, .inl (cg5, 24, .inl f5)), (g7, .inl (cg7, 24, .inr (.inr (.inr (.inr (fo)))))), (pf, .inr (1, [.ref p1, .int (zI pn)])), (p1, .inl (cp1, 4, .inl fp)), (g1, .inl (cg1, 24, .inl v1_2)), (g2, .inl (cg2, 24, .inl v2_3)), (wr, .inr (7, [.ref w1, .int (zI wn)])), (w1, .inl (cw1, 24, .inl fw)), (h0, .inr (4, [.ref g1, .ref g2, .ref g3, .ref g4, .ref g5, .int (zI uc_1), .int (zI ub_6), .int (zI ru), .ref g6, .ref g7])), (g3, .inl (cg3, 24, .inl v3_7)), (g6, .inl (cg6, 24, .inl v6_4)), (fr, .inr (0, [.ref k1, .ref k2, .ref k3, .int (zI n)])), (k3, .inl (ck3, 4, .inl fh))]) (wr := [(g4, .inl (cg4, 24, .inl f4)), (g5, .inl (cg5, 24, .inl f5)), (pf, .inr (1, [.ref p1, .int (zI pn)])), (p1, .inl (cp1, 4, .inl fp)), (g1, .inl (cg1, 24, .inl v1_2)), (g2, .inl (cg2, 24, .inl v2_3)), (wr, .inr (7, [.ref w1, .int (zI wn)])), (w1, .inl (cw1, 24, .inl fw)), (g6, .inl (cg6, 24, .inl v6_4)), (fr, .inr (0, [.ref k1, .ref k2, .ref k3, .int (zI n)])), (k3, .inl (ck3, 4, .inl fh))]) (rx := [(h0, .inr (4, [.ref g1, .ref g2, .ref g3, .ref g4, .ref g5, .int (zI uc_1), .int (zI ub_6), .int (zI ru), .ref g6, .ref g7])), (g3, .inl (cg3, 24, .inl v3_7)), (g7, .inl (cg7, 24, .inr (.inr (.inr (.inr (fo))))))]) hP hD [9, 10, 2] [0, 1, 3, 4, 5, 6, 7, 8, 11, 12, 13] ax_X4_make_10 ax_X4_make_11 (by decide +kernel) (by decide +kernel) hk1 hFc hP1 hD1
  have hP := ax_X4_make_12 hP
  have hD := ax_X4_make_13 hD
  generalize H1 = H at hP hS ⊢
  have hP : va_P D vwCl (([(g4, .inl (cg4, 24, .inl f4)), (g5, .inl (cg5, 24, .inl f5)), (pf, .inr (1, [.ref p1, .int (zI pn)])), (p1, .inl (cp1, 4, .inl fp)), (g1, .inl (cg1, 24, .inl v1_2)), (g2, .inl (cg2, 24, .inl v2_3)), (wr, .inr (7, [.ref w1, .int (zI wn)])), (w1, .inl (cw1, 24, .inl fw)), (g6, .inl (cg6, 24, .inl v6_4)), (fr, .inr (0, [.ref k1, .ref k2, .ref k3, .int (zI n)])), (k3, .inl (ck3, 4, .inl fh)), (h0, .inr (4, [.ref g1, .ref g2, .ref g3, .ref g4, .ref g5, .int (zI uc_1), .int (zI ub_6), .int (zI ru), .ref g6, .ref g7])), (g3, .inl (cg3, 24, .inl v3_7)), (g7, .inl (cg7, 24, .inr (.inr (.inr (.inr (fo))))))] : va_W) ++ kRows pr ug_9 cy) H := hP
  have hD : va_D A (([(g4, .inl (cg4, 24, .inl f4)), (g5, .inl (cg5, 24, .inl f5)), (pf, .inr (1, [.ref p1, .int (zI pn)])), (p1, .inl (cp1, 4, .inl fp)), (g1, .inl (cg1, 24, .inl v1_2)), (g2, .inl (cg2, 24, .inl v2_3)), (wr, .inr (7, [.ref w1, .int (zI wn)])), (w1, .inl (cw1, 24, .inl fw)), (g6, .inl (cg6, 24, .inl v6_4)), (fr, .inr (0, [.ref k1, .ref k2, .ref k3, .int (zI n)])), (k3, .inl (ck3, 4, .inl fh)), (h0, .inr (4, [.ref g1, .ref g2, .ref g3, .ref g4, .ref g5, .int (zI uc_1), .int (zI ub_6), .int (zI ru), .ref g6, .ref g7])), (g3, .inl (cg3, 24, .inl v3_7)), (g7, .inl (cg7, 24, .inr (.inr (.inr (.inr (fo))))))] : va_W) ++ kRows pr ug_9 cy) := hD
  refine lv_aload_n hx hb dX4_make_18 rfl (lv_at hl 0 rfl) ?_
  refine lv_aload_n hx hb dX4_make_19 rfl (lv_at hl 3 rfl) ?_
  have hFc := va_freeP (cx := [(h0, .inr (4, [.ref g1, .ref g2, .ref g3, .ref g4, .ref g5, .int (zI uc_1), .int (zI ub_6), .int (zI ru), .ref g6, .ref g7])), (g4, .inl (cg4, 24, .inl f4)), (g5, .inl (cg5, 24, .inl f5)), (g7, .inl (cg7, 24, .inr (.inr (.inr (.inr (fo)))))), (pf, .inr (1, [.ref p1, .int (zI pn)])), (p1, .inl (cp1, 4, .inl fp))]) hD hS hA [11, 0, 1, 13, 2, 3] ax_X4_make_14
  refine va_callv (va_runV (As := [.ref pf]) (rest := []) ⟨hx, hb, hml, hown, hts⟩ (c_X4_choose l D H.size (pf := pf) (h0 := h0) (g1 := g1) (g2 := g2) (g3 := g3) (g4 := g4) (g5 := g5) (cn := uc_1) (bo := ub_6) (ru := ru) (g6 := g6) (g7 := g7) (cg4 := cg4) (f4 := f4) (cg5 := cg5) (f5 := f5) (cg7 := cg7) (fo := fo) (o := o) (p1 := p1) (pn := pn) (cp1 := cp1) (fp := fp) (pr := pr) (gp := ug_9) (cy := cy) h_5 q3 q4 q5 q6) (cwV 1 hts gX4_make_X4_choose rfl rfl rfl (by decide +kernel) ⟨Nat.le_of_ble_eq_true rfl, Nat.le_of_ble_eq_true rfl⟩) (kPreVP hP (kD0 hD) hK hN [11, 0, 1, 13, 2, 3] [3, 4, 6, 9, 10] ax_X4_make_14 rfl (by decide +kernel) 11 4 rfl rfl) rfl rfl hl.1 rfl (lv_room (Nat.le_of_ble_eq_true rfl)) dX4_make_20 ⟨Nat.le_of_ble_eq_true rfl, Nat.le_of_ble_eq_true rfl⟩) hS (fun q _ h => hFc q h) hFc (fun u t H1 locs ht hvm hw hB hz1 hk1 hS => ?_)
  refine Exists.elim hB (fun ur_10 hB1 => Exists.elim hB1 (fun v4_11 hB2 => Exists.elim hB2 (fun v5_12 hB3 => ?_)))
  have h_13 := hB3.1
  have hP1 := hB3.2.1
  have hD1 := hB3.2.2
  clear hB hB1 hB2 hB3
  rw [ht] at hP1
  obtain ⟨hP, hD⟩ := va_joinP (X := [(g4, .inl (cg4, 24, .inl f4)), (g5, .inl (cg5, 24, .inl f5)), (pf, .inr (1, [.ref p1, .int (zI pn)])), (p1, .inl (cp1, 4, .inl fp)), (g1, .inl (cg1, 24, .inl v1_2)), (g2, .inl (cg2, 24, .inl v2_3)), (wr, .inr (7, [.ref w1, .int (zI wn)])), (w1, .inl (cw1, 24, .inl fw)), (g6, .inl (cg6, 24, .inl v6_4)), (fr, .inr (0, [.ref k1, .ref k2, .ref k3, .int (zI n)])), (k3, .inl (ck3, 4, .inl fh)), (h0, .inr (4, [.ref g1, .ref g2, .ref g3, .ref g4, .ref g5, .int (zI uc_1), .int (zI ub_6), .int (zI ru), .ref g6, .ref g7])), (g3, .inl (cg3, 24, .inl v3_7)), (g7, .inl (cg7, 24, .inr (.inr (.inr (.inr (fo))))))]) (wr := [(g1, .inl (cg1, 24, .inl v1_2)), (g2, .inl (cg2, 24, .inl v2_3)), (wr, .inr (7, [.ref w1, .int (zI wn)])), (w1, .inl (cw1, 24, .inl fw)), (g6, .inl (cg6, 24, .inl v6_4)), (fr, .inr (0, [.ref k1, .ref k2, .ref k3, .int (zI n)])), (k3, .inl (ck3, 4, .inl fh)), (g3, .inl (cg3, 24, .inl v3_7))]) (rx := [(h0, .inr (4, [.ref g1, .ref g2, .ref g3, .ref g4, .ref g5, .int (zI uc_1), .int (zI ub_6), .int (zI ur_10), .ref g6, .ref g7])), (g4, .inl (cg4, 24, .inl v4_11)), (g5, .inl (cg5, 24, .inl v5_12)), (g7, .inl (cg7, 24, .inr (.inr (.inr (.inr (fo)))))), (pf, .inr (1, [.ref p1, .int (zI pn)])), (p1, .inl (cp1, 4, .inl fp))]) hP hD [11, 0, 1, 13, 2, 3] [4, 5, 6, 7, 8, 9, 10, 12] ax_X4_make_14 ax_X4_make_15 (by decide +kernel) (by decide +kernel) hk1 hFc hP1 hD1
  have hP := ax_X4_make_3 hP
  have hD := ax_X4_make_4 hD
  generalize H1 = H at hP hS ⊢
  have hP : va_P D vwCl (([(g1, .inl (cg1, 24, .inl v1_2)), (g2, .inl (cg2, 24, .inl v2_3)), (wr, .inr (7, [.ref w1, .int (zI wn)])), (w1, .inl (cw1, 24, .inl fw)), (g6, .inl (cg6, 24, .inl v6_4)), (fr, .inr (0, [.ref k1, .ref k2, .ref k3, .int (zI n)])), (k3, .inl (ck3, 4, .inl fh)), (g3, .inl (cg3, 24, .inl v3_7)), (h0, .inr (4, [.ref g1, .ref g2, .ref g3, .ref g4, .ref g5, .int (zI uc_1), .int (zI ub_6), .int (zI ur_10), .ref g6, .ref g7])), (g4, .inl (cg4, 24, .inl v4_11)), (g5, .inl (cg5, 24, .inl v5_12)), (g7, .inl (cg7, 24, .inr (.inr (.inr (.inr (fo)))))), (pf, .inr (1, [.ref p1, .int (zI pn)])), (p1, .inl (cp1, 4, .inl fp))] : va_W) ++ kRows pr ug_9 cy) H := hP
  have hD : va_D A (([(g1, .inl (cg1, 24, .inl v1_2)), (g2, .inl (cg2, 24, .inl v2_3)), (wr, .inr (7, [.ref w1, .int (zI wn)])), (w1, .inl (cw1, 24, .inl fw)), (g6, .inl (cg6, 24, .inl v6_4)), (fr, .inr (0, [.ref k1, .ref k2, .ref k3, .int (zI n)])), (k3, .inl (ck3, 4, .inl fh)), (g3, .inl (cg3, 24, .inl v3_7)), (h0, .inr (4, [.ref g1, .ref g2, .ref g3, .ref g4, .ref g5, .int (zI uc_1), .int (zI ub_6), .int (zI ur_10), .ref g6, .ref g7])), (g4, .inl (cg4, 24, .inl v4_11)), (g5, .inl (cg5, 24, .inl v5_12)), (g7, .inl (cg7, 24, .inr (.inr (.inr (.inr (fo)))))), (pf, .inr (1, [.ref p1, .int (zI pn)])), (p1, .inl (cp1, 4, .inl fp))] : va_W) ++ kRows pr ug_9 cy) := hD
  have hP9 : va_P D vwCl (([(h0, .inr (4, [.ref g1, .ref g2, .ref g3, .ref g4, .ref g5, .int (zI uc_1), .int (zI ub_6), .int (zI ur_10), .ref g6, .ref g7])), (g1, .inl (cg1, 24, .inl v1_2)), (g2, .inl (cg2, 24, .inl v2_3)), (g3, .inl (cg3, 24, .inl v3_7)), (g4, .inl (cg4, 24, .inl v4_11)), (g5, .inl (cg5, 24, .inl v5_12)), (g6, .inl (cg6, 24, .inl v6_4)), (g7, .inl (cg7, 24, .inr (.inr (.inr (.inr (fo)))))), (wr, .inr (7, [.ref w1, .int (zI wn)])), (w1, .inl (cw1, 24, .inl fw)), (fr, .inr (0, [.ref k1, .ref k2, .ref k3, .int (zI n)])), (k3, .inl (ck3, 4, .inl fh)), (pf, .inr (1, [.ref p1, .int (zI pn)])), (p1, .inl (cp1, 4, .inl fp))] : va_W) ++ kRows pr ug_9 cy) H := hP.part [8, 0, 1, 7, 9, 10, 4, 11, 2, 3, 5, 6, 12, 13] ax_X4_make_16
  have hD9 : va_D A (([(h0, .inr (4, [.ref g1, .ref g2, .ref g3, .ref g4, .ref g5, .int (zI uc_1), .int (zI ub_6), .int (zI ur_10), .ref g6, .ref g7])), (g1, .inl (cg1, 24, .inl v1_2)), (g2, .inl (cg2, 24, .inl v2_3)), (g3, .inl (cg3, 24, .inl v3_7)), (g4, .inl (cg4, 24, .inl v4_11)), (g5, .inl (cg5, 24, .inl v5_12)), (g6, .inl (cg6, 24, .inl v6_4)), (g7, .inl (cg7, 24, .inr (.inr (.inr (.inr (fo)))))), (wr, .inr (7, [.ref w1, .int (zI wn)])), (w1, .inl (cw1, 24, .inl fw)), (fr, .inr (0, [.ref k1, .ref k2, .ref k3, .int (zI n)])), (k3, .inl (ck3, 4, .inl fh)), (pf, .inr (1, [.ref p1, .int (zI pn)])), (p1, .inl (cp1, 4, .inl fp))] : va_W) ++ kRows pr ug_9 cy) := hD.part [8, 0, 1, 7, 9, 10, 4, 11, 2, 3, 5, 6, 12, 13] (by decide +kernel) ax_X4_make_16
  exact W.vret hx hb hr (fun t ht hW => kQV_of ⟨uc_1, ub_6, ur_10, v1_2, v2_3, v3_7, v4_11, v5_12, v6_4, ug_9, h_5, h_8, h_13, by rw [ht]; exact hP9, hD9⟩ (hS.F ht)) hS.2.2 dX4_make_23
theorem dX2_add_0 : decode cX2_add 0 = .ok (.aload_n 0, 1) := by decide +kernel
theorem dX2_add_1 : decode cX2_add 1 = .ok (.getfield 20, 3) := by decide +kernel
theorem dX2_add_4 : decode cX2_add 4 = .ok (.iconst 0, 1) := by decide +kernel
theorem dX2_add_5 : decode cX2_add 5 = .ok (.bipush 7, 2) := by decide +kernel
theorem dX2_add_7 : decode cX2_add 7 = .ok (.invokestatic 24, 3) := by decide +kernel
theorem dX2_add_10 : decode cX2_add 10 = .ok (.ifCond .ne 5, 3) := by decide +kernel
theorem dX2_add_13 : decode cX2_add 13 = .ok (.iconst 0, 1) := by decide +kernel
theorem dX2_add_14 : decode cX2_add 14 = .ok (.ireturn, 1) := by decide +kernel
theorem dX2_add_15 : decode cX2_add 15 = .ok (.aload_n 0, 1) := by decide +kernel
theorem dX2_add_16 : decode cX2_add 16 = .ok (.getfield 9, 3) := by decide +kernel
theorem dX2_add_19 : decode cX2_add 19 = .ok (.aload_n 0, 1) := by decide +kernel
theorem dX2_add_20 : decode cX2_add 20 = .ok (.getfield 20, 3) := by decide +kernel
theorem dX2_add_23 : decode cX2_add 23 = .ok (.iload_n 2, 1) := by decide +kernel
theorem dX2_add_24 : decode cX2_add 24 = .ok (.iastore, 1) := by decide +kernel
theorem dX2_add_25 : decode cX2_add 25 = .ok (.iconst 0, 1) := by decide +kernel
theorem dX2_add_26 : decode cX2_add 26 = .ok (.istore_n 3, 1) := by decide +kernel
theorem dX2_add_27 : decode cX2_add 27 = .ok (.iload_n 3, 1) := by decide +kernel
theorem dX2_add_28 : decode cX2_add 28 = .ok (.iconst 4, 1) := by decide +kernel
theorem dX2_add_29 : decode cX2_add 29 = .ok (.if_icmp .ge 25, 3) := by decide +kernel
theorem dX2_add_32 : decode cX2_add 32 = .ok (.aload_n 0, 1) := by decide +kernel
theorem dX2_add_33 : decode cX2_add 33 = .ok (.getfield 17, 3) := by decide +kernel
theorem dX2_add_36 : decode cX2_add 36 = .ok (.aload_n 0, 1) := by decide +kernel
theorem dX2_add_37 : decode cX2_add 37 = .ok (.getfield 20, 3) := by decide +kernel
theorem dX2_add_40 : decode cX2_add 40 = .ok (.aaload, 1) := by decide +kernel
theorem dX2_add_41 : decode cX2_add 41 = .ok (.iload_n 3, 1) := by decide +kernel
theorem dX2_add_42 : decode cX2_add 42 = .ok (.aload_n 1, 1) := by decide +kernel
theorem dX2_add_43 : decode cX2_add 43 = .ok (.iload_n 3, 1) := by decide +kernel
theorem dX2_add_44 : decode cX2_add 44 = .ok (.invokevirtual 28, 3) := by decide +kernel
theorem dX2_add_47 : decode cX2_add 47 = .ok (.iastore, 1) := by decide +kernel
theorem dX2_add_48 : decode cX2_add 48 = .ok (.iinc 3 1, 3) := by decide +kernel
theorem dX2_add_51 : decode cX2_add 51 = .ok (.goto (-24), 3) := by decide +kernel
theorem dX2_add_54 : decode cX2_add 54 = .ok (.aload_n 0, 1) := by decide +kernel
theorem dX2_add_55 : decode cX2_add 55 = .ok (.dup, 1) := by decide +kernel
theorem dX2_add_56 : decode cX2_add 56 = .ok (.getfield 20, 3) := by decide +kernel
theorem dX2_add_59 : decode cX2_add 59 = .ok (.iconst 1, 1) := by decide +kernel
theorem dX2_add_60 : decode cX2_add 60 = .ok (.iadd, 1) := by decide +kernel
theorem dX2_add_61 : decode cX2_add 61 = .ok (.putfield 20, 3) := by decide +kernel
theorem dX2_add_64 : decode cX2_add 64 = .ok (.iconst 1, 1) := by decide +kernel
theorem dX2_add_65 : decode cX2_add 65 = .ok (.ireturn, 1) := by decide +kernel
set_option maxRecDepth 20000 in
theorem ggX2_add_X4_clustersIn : GoodIn wsX2_add wsX4_clustersIn := goodIn_4 _ (List.forall_mem_cons.mpr ⟨List.mem_cons_of_mem _ (List.mem_append_left _ (List.mem_append_left _ (List.mem_of_getElem? (i := 10) rfl))), List.forall_mem_append.mpr ⟨List.forall_mem_cons.mpr ⟨List.mem_cons_of_mem _ (List.mem_append_left _ (List.mem_append_left _ (List.mem_of_getElem? (i := 11) rfl))), List.forall_mem_cons.mpr ⟨List.mem_cons_of_mem _ (List.mem_append_left _ (List.mem_append_left _ (List.mem_of_getElem? (i := 12) rfl))), fun _ h9 => absurd h9 List.not_mem_nil⟩⟩, fun w h9 => List.mem_cons_of_mem _ (List.mem_append_right _ (h9))⟩⟩) (by decide +kernel)
set_option maxRecDepth 20000 in
theorem gX2_add_X4_clustersIn : GoodIn wsX2_add (wsV RX2 28 RX4 yX4_clustersIn wsX4_clustersIn) := goodIn_app (goodIn_4 _ (List.forall_mem_cons.mpr ⟨List.mem_cons_of_mem _ (List.mem_append_left _ (List.mem_append_left _ (List.mem_of_getElem? (i := 6) rfl))), List.forall_mem_cons.mpr ⟨List.mem_cons_of_mem _ (List.mem_append_left _ (List.mem_append_left _ (List.mem_of_getElem? (i := 7) rfl))), List.forall_mem_cons.mpr ⟨List.mem_cons_of_mem _ (List.mem_append_left _ (List.mem_append_left _ (List.mem_of_getElem? (i := 8) rfl))), List.forall_mem_cons.mpr ⟨List.mem_cons_of_mem _ (List.mem_append_left _ (List.mem_append_left _ (List.mem_of_getElem? (i := 9) rfl))), fun _ h9 => absurd h9 List.not_mem_nil⟩⟩⟩⟩) (by decide +kernel)) ggX2_add_X4_clustersIn
set_option maxRecDepth 20000 in
theorem ggX2_add_X8_isWithin : GoodIn wsX2_add wsX8_isWithin := goodIn_4 _ (List.forall_mem_cons.mpr ⟨List.mem_cons_of_mem _ (List.mem_append_left _ (List.mem_append_left _ (List.mem_of_getElem? (i := 5) rfl))), fun _ h9 => absurd h9 List.not_mem_nil⟩) (by decide +kernel)
set_option maxRecDepth 20000 in
theorem gX2_add_X8_isWithin_n24 : GoodIn wsX2_add (wsX8_isWithin) := ggX2_add_X8_isWithin
set_option maxRecDepth 20000 in
theorem mw_X2_add_0 : (.fieldLink RX2 20 "FontRuns$Readings" "count" "I" : Cond) ∈ wsX2_add := List.mem_cons_of_mem _ (List.mem_append_left _ (List.mem_append_left _ (List.mem_of_getElem? (i := 0) rfl)))
set_option maxRecDepth 20000 in
theorem mw_X2_add_1 : (.initialized RX8 : Cond) ∈ wsX2_add := List.mem_cons_of_mem _ (List.mem_append_left _ (List.mem_append_left _ (List.mem_of_getElem? (i := 4) rfl)))
set_option maxRecDepth 20000 in
theorem mw_X2_add_2 : (.static yX8_isWithin : Cond) ∈ wsX2_add := List.mem_cons_of_mem _ (List.mem_append_left _ (List.mem_append_left _ (List.mem_of_getElem? (i := 3) rfl)))
set_option maxRecDepth 20000 in
theorem mw_X2_add_3 : (.fieldLink RX2 9 "FontRuns$Readings" "value" "[I" : Cond) ∈ wsX2_add := List.mem_cons_of_mem _ (List.mem_append_left _ (List.mem_append_left _ (List.mem_of_getElem? (i := 1) rfl)))
set_option maxRecDepth 20000 in
theorem mw_X2_add_4 : (.fieldLink RX2 17 "FontRuns$Readings" "clusters" "[[I" : Cond) ∈ wsX2_add := List.mem_cons_of_mem _ (List.mem_append_left _ (List.mem_append_left _ (List.mem_of_getElem? (i := 2) rfl)))
theorem ax_X2_add_0 {e0 e1 e2 e3 e4 : Nat × va_E} {k : va_W} : ([] : List Nat).map (fun i => (([e0, e1, e2, e3, e4] : va_W) ++ k)[i]?) = ([] : va_W).map some := rfl
theorem ax_X2_add_1 {e0 e1 e2 e3 e4 : Nat × va_E} : ([0, 1, 2, 3, 4] : List Nat).map (fun i => ([e0, e1, e2, e3, e4] : va_W)[i]?) = ([e0, e1, e2, e3, e4] : va_W).map some := rfl
theorem ax_X2_add_2 {e0 e1 e2 e3 e4 : Nat × va_E} {k : va_W} : ([3, 4] : List Nat).map (fun i => (([e0, e1, e2, e3, e4] : va_W) ++ k)[i]?) = ([e3, e4] : va_W).map some := rfl
set_option maxHeartbeats 4000000 in
set_option maxRecDepth 100000 in
theorem c_X2_add (l : Launch) (D : va_G) (sz : Nat) (se : Nat) (x : Int) (h0 : Nat) (n : Int) (v1 : Nat) (v2 : Nat) (cv1 : ClassId) (fv : Nat → Int32) (cv2 : ClassId) (fq : Nat → Option Nat) (o2 : Nat) (g1 : Nat) (g2 : Nat) (g3 : Nat) (g4 : Nat) (g5 : Nat) (cn : Int) (bo : Int) (ru : Int) (g6 : Nat) (g7 : Nat) (cg4 : ClassId) (f4 : Nat → Int32) (pr : Nat → Nat) (gp : Nat → Nat → Int32) (cy : ClassId) (q0 : rg x) (q1 : 0 ≤ n ∧ n ≤ 8) (q2 : 0 ≤ cn ∧ cn ≤ 24) (q3 : 0 ≤ bo ∧ bo ≤ 24) (q4 : 0 ≤ ru ∧ ru ≤ cn) (q5 : kOut fq pr o2 8) (q6 : o2 + 8 ≤ 56) : Met l yX2_add wsX2_add ({ frames := 1, cells := 0, slots := 0, locals := 23 }) (kPre [.ref h0, .ref se, .int (zI x)] D (([(h0, .inr (2, [.int (zI n), .ref v1, .ref v2])), (v1, .inl (cv1, 8, .inl fv)), (v2, .inl (cv2, 8, .inr (.inr (.inr (.inr (fq)))))), (se, .inr (4, [.ref g1, .ref g2, .ref g3, .ref g4, .ref g5, .int (zI cn), .int (zI bo), .int (zI ru), .ref g6, .ref g7])), (g4, .inl (cg4, 24, .inl f4))] : va_W) ++ kRows pr gp cy) [(cv1, .int), (cv2, .array .int), (cg4, .int), (cy, .int)] sz) (kQS (fun rz t => ∃ (un : Int) (uf : Nat → Int32) (ug : Nat → Nat → Int32), (0 ≤ un ∧ un ≤ 8) ∧ (rz = 0 ∨ rz = 1) ∧ va_P D vwCl (([(h0, .inr (2, [.int (zI un), .ref v1, .ref v2])), (v1, .inl (cv1, 8, .inl uf)), (v2, .inl (cv2, 8, .inr (.inr (.inr (.inr (fq)))))), (se, .inr (4, [.ref g1, .ref g2, .ref g3, .ref g4, .ref g5, .int (zI cn), .int (zI bo), .int (zI ru), .ref g6, .ref g7])), (g4, .inl (cg4, 24, .inl f4))] : va_W) ++ kRows pr ug cy) t.heap ∧ va_D (va_A (([(h0, .inr (2, [.int (zI n), .ref v1, .ref v2])), (v1, .inl (cv1, 8, .inl fv)), (v2, .inl (cv2, 8, .inr (.inr (.inr (.inr (fq)))))), (se, .inr (4, [.ref g1, .ref g2, .ref g3, .ref g4, .ref g5, .int (zI cn), .int (zI bo), .int (zI ru), .ref g6, .ref g7])), (g4, .inl (cg4, 24, .inl f4))] : va_W) ++ kRows pr gp cy) sz) (([(h0, .inr (2, [.int (zI un), .ref v1, .ref v2])), (v1, .inl (cv1, 8, .inl uf)), (v2, .inl (cv2, 8, .inr (.inr (.inr (.inr (fq)))))), (se, .inr (4, [.ref g1, .ref g2, .ref g3, .ref g4, .ref g5, .int (zI cn), .int (zI bo), .int (zI ru), .ref g6, .ref g7])), (g4, .inl (cg4, 24, .inl f4))] : va_W) ++ kRows pr ug cy)) (va_A (([(h0, .inr (2, [.int (zI n), .ref v1, .ref v2])), (v1, .inl (cv1, 8, .inl fv)), (v2, .inl (cv2, 8, .inr (.inr (.inr (.inr (fq)))))), (se, .inr (4, [.ref g1, .ref g2, .ref g3, .ref g4, .ref g5, .int (zI cn), .int (zI bo), .int (zI ru), .ref g6, .ref g7])), (g4, .inl (cg4, 24, .inl f4))] : va_W) ++ kRows pr gp cy) sz)) 0 0 (va_A (([(h0, .inr (2, [.int (zI n), .ref v1, .ref v2])), (v1, .inl (cv1, 8, .inl fv)), (v2, .inl (cv2, 8, .inr (.inr (.inr (.inr (fq)))))), (se, .inr (4, [.ref g1, .ref g2, .ref g3, .ref g4, .ref g5, .int (zI cn), .int (zI bo), .int (zI ru), .ref g6, .ref g7])), (g4, .inl (cg4, 24, .inl f4))] : va_W) ++ kRows pr gp cy) sz) := by
  refine Met.ofW (cc := cX2_add) (maxL := 4) (ret := (some .boolean)) (by decide) rfl ?_
  intro p e s m args below meth c s₁ B hml hv
  obtain ⟨rfl, hsz, hP, hK, hD0, hN⟩ := hv
  have hx := B.exec
  have hb := B.bytes
  have hr := B.returns
  have hts := atoms_spec (ws := wsX2_add) B.pre
  have hown : s.vm.findClass RX2 = some m.cls := findClass_of_methodNamed B.named
  have hlocks := B.notSynchronized
  subst hsz
  have hD := hD0.self (sz := s.heap.size)
  generalize hAe : va_A (([(h0, .inr (2, [.int (zI n), .ref v1, .ref v2])), (v1, .inl (cv1, 8, .inl fv)), (v2, .inl (cv2, 8, .inr (.inr (.inr (.inr (fq)))))), (se, .inr (4, [.ref g1, .ref g2, .ref g3, .ref g4, .ref g5, .int (zI cn), .int (zI bo), .int (zI ru), .ref g6, .ref g7])), (g4, .inl (cg4, 24, .inl f4))] : va_W) ++ kRows pr gp cy) s.heap.size = A at hD ⊢
  have hA : ∀ q : Nat, s.heap.size ≤ q → A q := fun q h => by rw [← hAe]; exact Or.inr h
  have hS : va_S A s.heap s.heap [] := va_S.rf
  have hP : va_P D vwCl (([(h0, .inr (2, [.int (zI n), .ref v1, .ref v2])), (v1, .inl (cv1, 8, .inl fv)), (v2, .inl (cv2, 8, .inr (.inr (.inr (.inr (fq)))))), (se, .inr (4, [.ref g1, .ref g2, .ref g3, .ref g4, .ref g5, .int (zI cn), .int (zI bo), .int (zI ru), .ref g6, .ref g7])), (g4, .inl (cg4, 24, .inl f4))] : va_W) ++ kRows pr gp cy) s.heap := hP
  have hl := lv_entry ([.ref h0, .ref se, .int (zI x)]) (n := 4) (Nat.le_of_ble_eq_true rfl)
  rw [lg_entry_eq]
  generalize (lg_sl ([.ref h0, .ref se, .int (zI x)]) ++ List.replicate (4 - (lg_sl ([.ref h0, .ref se, .int (zI x)])).length) Slot.unset).toArray = ls at hl ⊢
  have hl : lv_has ls 4 [(0, .ref h0), (1, .ref se), (2, .int (zI x))] := hl
  refine lv_aload_n hx hb dX2_add_0 rfl (lv_at hl 0 rfl) ?_
  refine va_get (D := D) (ci := 2) (v := .int (zI n)) (C := RX2) (T := TX2) (N := 3) hx hb hts (fun _ h9 => List.mem_cons_of_mem _ (List.mem_append_left _ (List.mem_append_right _ h9))) hown hK hP 0 rfl rfl 0 (by decide) (hts (.fieldLink RX2 20 "FontRuns$Readings" "count" "I") mw_X2_add_0) (fun _ h9 => h9) rfl dX2_add_1 ?_
  refine lv_iconst (v := zI 0) hx hb dX2_add_4 rfl ?_
  refine lv_bipush (v := zI 7) hx hb dX2_add_5 (by decide) ?_
  refine k_callR (va_runSN (As := [.int (zI n), .int (zI 0), .int (zI 7)]) (rest := []) ⟨hx, hb, hml, hown, hts⟩ (c_X8_isWithin l D s.heap.size (v := n) (a := 0) (b := 7) (by omega) (by omega) (by omega)) (⟨va_cnB 3 hts gX2_add_X8_isWithin_n24 rfl rfl rfl (hN.1 (RX2, 24, yX8_isWithin) (by decide +kernel)) (hts (.initialized RX8) mw_X2_add_1) (by decide +kernel) ⟨Nat.le_of_ble_eq_true rfl, Nat.le_of_ble_eq_true rfl⟩, (hts (.static yX8_isWithin) mw_X2_add_2), trivial⟩) (kPreS hP (kD0 hD) hK hN [] [] ax_X2_add_0 rfl (by decide +kernel)) rfl rfl hl.1 rfl (lv_room (Nat.le_of_ble_eq_true rfl)) dX2_add_7 ⟨Nat.le_of_ble_eq_true rfl, Nat.le_of_ble_eq_true rfl⟩) ?_
  refine lv_if_ne (tgt := 15) hx hb dX2_add_10 (by decide) (fun c_1 => ?_) (fun c_1 => ?_)
  · have c_1 : 0 ≤ n ∧ n ≤ 7 := b01t c_1
    refine lv_aload_n hx hb dX2_add_15 rfl (lv_at hl 0 rfl) ?_
    refine va_get (D := D) (ci := 2) (v := .ref v1) (C := RX2) (T := TX2) (N := 3) hx hb hts (fun _ h9 => List.mem_cons_of_mem _ (List.mem_append_left _ (List.mem_append_right _ h9))) hown hK hP 0 rfl rfl 1 (by decide) (hts (.fieldLink RX2 9 "FontRuns$Readings" "value" "[I") mw_X2_add_3) (fun _ h9 => h9) rfl dX2_add_16 ?_
    refine lv_aload_n hx hb dX2_add_19 rfl (lv_at hl 0 rfl) ?_
    refine va_get (D := D) (ci := 2) (v := .int (zI n)) (C := RX2) (T := TX2) (N := 3) hx hb hts (fun _ h9 => List.mem_cons_of_mem _ (List.mem_append_left _ (List.mem_append_right _ h9))) hown hK hP 0 rfl rfl 0 (by decide) (hts (.fieldLink RX2 20 "FontRuns$Readings" "count" "I") mw_X2_add_0) (fun _ h9 => h9) rfl dX2_add_20 ?_
    refine lv_iload_n hx hb dX2_add_23 rfl (lv_at hl 2 rfl) ?_
    refine kz_iast hx hb hK hP hD hS 1 0 rfl rfl (by omega) dX2_add_24 (fun H locs hP hD hS => ?_)
    have hP : va_P D vwCl (([(h0, .inr (2, [.int (zI n), .ref v1, .ref v2])), (v1, .inl (cv1, 8, .inl (upd fv (n).toNat (zI x)))), (v2, .inl (cv2, 8, .inr (.inr (.inr (.inr (fq)))))), (se, .inr (4, [.ref g1, .ref g2, .ref g3, .ref g4, .ref g5, .int (zI cn), .int (zI bo), .int (zI ru), .ref g6, .ref g7])), (g4, .inl (cg4, 24, .inl f4))] : va_W) ++ kRows pr gp cy) H := hP
    have hD : va_D A (([(h0, .inr (2, [.int (zI n), .ref v1, .ref v2])), (v1, .inl (cv1, 8, .inl (upd fv (n).toNat (zI x)))), (v2, .inl (cv2, 8, .inr (.inr (.inr (.inr (fq)))))), (se, .inr (4, [.ref g1, .ref g2, .ref g3, .ref g4, .ref g5, .int (zI cn), .int (zI bo), .int (zI ru), .ref g6, .ref g7])), (g4, .inl (cg4, 24, .inl f4))] : va_W) ++ kRows pr gp cy) := hD
    generalize ef_2 : upd fv (n).toNat (zI x) = f_2 at hP hD
    refine lv_iconst (v := zI 0) hx hb dX2_add_25 rfl ?_
    refine lv_istore_n (lv' := [(3, .int (zI 0)), (0, .ref h0), (1, .ref se), (2, .int (zI x))]) hx hb dX2_add_26 rfl hl (by decide) rfl (fun ls hl => ?_)
    refine k_loopM (I := fun n9 H locs ls => ∃ (jk : Int) (jp : Nat → Nat → Int32), n9 = (4 - jk).toNat ∧ (0 ≤ jk ∧ jk ≤ 4) ∧ va_P D vwCl (([(h0, .inr (2, [.int (zI n), .ref v1, .ref v2])), (v1, .inl (cv1, 8, .inl f_2)), (v2, .inl (cv2, 8, .inr (.inr (.inr (.inr (fq)))))), (se, .inr (4, [.ref g1, .ref g2, .ref g3, .ref g4, .ref g5, .int (zI cn), .int (zI bo), .int (zI ru), .ref g6, .ref g7])), (g4, .inl (cg4, 24, .inl f4))] : va_W) ++ kRows pr jp cy) H ∧ va_D A (([(h0, .inr (2, [.int (zI n), .ref v1, .ref v2])), (v1, .inl (cv1, 8, .inl f_2)), (v2, .inl (cv2, 8, .inr (.inr (.inr (.inr (fq)))))), (se, .inr (4, [.ref g1, .ref g2, .ref g3, .ref g4, .ref g5, .int (zI cn), .int (zI bo), .int (zI ru), .ref g6, .ref g7])), (g4, .inl (cg4, 24, .inl f4))] : va_W) ++ kRows pr jp cy) ∧ va_S A s.heap H locs ∧ lv_has ls 4 [(3, .int (zI jk)), (0, .ref h0), (1, .ref se), (2, .int (zI x))]) ?_ _ ⟨0, gp, rfl, (by omega), hP, hD, hS, hl⟩
    intro n27 ih27 H locs ls hI
    obtain ⟨jk, jp, en27, v_270, hP, hD, hS, hl⟩ := hI
    refine lv_iload_n hx hb dX2_add_27 rfl (lv_at hl 0 rfl) ?_
    refine lv_iconst (v := zI 4) hx hb dX2_add_28 rfl ?_
    refine kz_icmp_ge (tgt := 54) hx hb dX2_add_29 (by decide) (by omega) (by omega) (fun c_3 => ?_) (fun c_3 => ?_)
    · refine lv_aload_n hx hb dX2_add_54 rfl (lv_at hl 1 rfl) ?_
      refine lv_dup hx hb dX2_add_55 rfl ?_
      refine va_get (D := D) (ci := 2) (v := .int (zI n)) (C := RX2) (T := TX2) (N := 3) hx hb hts (fun _ h9 => List.mem_cons_of_mem _ (List.mem_append_left _ (List.mem_append_right _ h9))) hown hK hP 0 rfl rfl 0 (by decide) (hts (.fieldLink RX2 20 "FontRuns$Readings" "count" "I") mw_X2_add_0) (fun _ h9 => h9) rfl dX2_add_56 ?_
      refine lv_iconst (v := zI 1) hx hb dX2_add_59 rfl ?_
      refine kz_iadd hx hb dX2_add_60 ?_
      refine va_put (D := D) (ci := 2) (v := .int (zI (n + 1))) (ty := .int) (C := RX2) (T := TX2) (N := 3) hx hb hts (fun _ h9 => List.mem_cons_of_mem _ (List.mem_append_left _ (List.mem_append_right _ h9))) tyX2 tyX2_ok nmX2 hown hK hP hD hS 0 rfl rfl 0 (by decide) (hts (.fieldLink RX2 20 "FontRuns$Readings" "count" "I") mw_X2_add_0) (fun _ h9 => h9) rfl (by decide +kernel) rfl rfl (Nat.le_of_ble_eq_true rfl) dX2_add_61 (fun H locs hP hD hS => ?_)
      have hP : va_P D vwCl (([(h0, .inr (2, [.int (zI (n + 1)), .ref v1, .ref v2])), (v1, .inl (cv1, 8, .inl f_2)), (v2, .inl (cv2, 8, .inr (.inr (.inr (.inr (fq)))))), (se, .inr (4, [.ref g1, .ref g2, .ref g3, .ref g4, .ref g5, .int (zI cn), .int (zI bo), .int (zI ru), .ref g6, .ref g7])), (g4, .inl (cg4, 24, .inl f4))] : va_W) ++ kRows pr jp cy) H := hP
      have hD : va_D A (([(h0, .inr (2, [.int (zI (n + 1)), .ref v1, .ref v2])), (v1, .inl (cv1, 8, .inl f_2)), (v2, .inl (cv2, 8, .inr (.inr (.inr (.inr (fq)))))), (se, .inr (4, [.ref g1, .ref g2, .ref g3, .ref g4, .ref g5, .int (zI cn), .int (zI bo), .int (zI ru), .ref g6, .ref g7])), (g4, .inl (cg4, 24, .inl f4))] : va_W) ++ kRows pr jp cy) := hD
      refine lv_iconst (v := zI 1) hx hb dX2_add_64 rfl ?_
      have hP9 : va_P D vwCl (([(h0, .inr (2, [.int (zI (n + 1)), .ref v1, .ref v2])), (v1, .inl (cv1, 8, .inl f_2)), (v2, .inl (cv2, 8, .inr (.inr (.inr (.inr (fq)))))), (se, .inr (4, [.ref g1, .ref g2, .ref g3, .ref g4, .ref g5, .int (zI cn), .int (zI bo), .int (zI ru), .ref g6, .ref g7])), (g4, .inl (cg4, 24, .inl f4))] : va_W) ++ kRows pr jp cy) H := hP.part [0, 1, 2, 3, 4] ax_X2_add_1
      have hD9 : va_D A (([(h0, .inr (2, [.int (zI (n + 1)), .ref v1, .ref v2])), (v1, .inl (cv1, 8, .inl f_2)), (v2, .inl (cv2, 8, .inr (.inr (.inr (.inr (fq)))))), (se, .inr (4, [.ref g1, .ref g2, .ref g3, .ref g4, .ref g5, .int (zI cn), .int (zI bo), .int (zI ru), .ref g6, .ref g7])), (g4, .inl (cg4, 24, .inl f4))] : va_W) ++ kRows pr jp cy) := hD.part [0, 1, 2, 3, 4] (by decide +kernel) ax_X2_add_1
      exact W.zret (v := (zI 1)) hx hb hr rfl (fun t ht hW => kQS_of (by omega) ⟨(n + 1), f_2, jp, (by omega), (by omega), by rw [ht]; exact hP9, hD9⟩ (hS.F ht)) hS.2.2 dX2_add_65
    · refine lv_aload_n hx hb dX2_add_32 rfl (lv_at hl 1 rfl) ?_
      refine va_get (D := D) (ci := 2) (v := .ref v2) (C := RX2) (T := TX2) (N := 3) hx hb hts (fun _ h9 => List.mem_cons_of_mem _ (List.mem_append_left _ (List.mem_append_right _ h9))) hown hK hP 0 rfl rfl 2 (by decide) (hts (.fieldLink RX2 17 "FontRuns$Readings" "clusters" "[[I") mw_X2_add_4) (fun _ h9 => h9) rfl dX2_add_33 ?_
      refine lv_aload_n hx hb dX2_add_36 rfl (lv_at hl 1 rfl) ?_
      refine va_get (D := D) (ci := 2) (v := .int (zI n)) (C := RX2) (T := TX2) (N := 3) hx hb hts (fun _ h9 => List.mem_cons_of_mem _ (List.mem_append_left _ (List.mem_append_right _ h9))) hown hK hP 0 rfl rfl 0 (by decide) (hts (.fieldLink RX2 20 "FontRuns$Readings" "count" "I") mw_X2_add_0) (fun _ h9 => h9) rfl dX2_add_37 ?_
      refine kz_aald hx hb hK hP 2 1 rfl rfl (by omega) dX2_add_40 (q5 _ (by omega)) ?_
      refine lv_iload_n hx hb dX2_add_41 rfl (lv_at hl 0 rfl) ?_
      refine lv_aload_n hx hb dX2_add_42 rfl (lv_at hl 2 rfl) ?_
      refine lv_iload_n hx hb dX2_add_43 rfl (lv_at hl 0 rfl) ?_
      refine k_callP (va_runV (As := [.int (zI jk)]) (rest := [.int (zI jk), .ref (pr (o2 + (n).toNat))]) ⟨hx, hb, hml, hown, hts⟩ (c_X4_clustersIn l D H.size (f := jk) (h0 := se) (g1 := g1) (g2 := g2) (g3 := g3) (g4 := g4) (g5 := g5) (cn := cn) (bo := bo) (ru := ru) (g6 := g6) (g7 := g7) (cg4 := cg4) (f4 := f4) (by omega) q2 q3 q4) (cwV 1 hts gX2_add_X4_clustersIn rfl rfl rfl (by decide +kernel) ⟨Nat.le_of_ble_eq_true rfl, Nat.le_of_ble_eq_true rfl⟩) (kPreV hP (kD0 hD) hK hN [3, 4] [2] ax_X2_add_2 rfl (by decide +kernel) 3 4 rfl rfl) rfl rfl hl.1 rfl (lv_room (Nat.le_of_ble_eq_true rfl)) dX2_add_44 ⟨Nat.le_of_ble_eq_true rfl, Nat.le_of_ble_eq_true rfl⟩) (fun z_4 rz_4 h_5 => ?_)
      refine kz_rowst (X := [(h0, .inr (2, [.int (zI n), .ref v1, .ref v2])), (v1, .inl (cv1, 8, .inl f_2)), (v2, .inl (cv2, 8, .inr (.inr (.inr (.inr (fq)))))), (se, .inr (4, [.ref g1, .ref g2, .ref g3, .ref g4, .ref g5, .int (zI cn), .int (zI bo), .int (zI ru), .ref g6, .ref g7])), (g4, .inl (cg4, 24, .inl f4))]) hx hb hK hP hD hS 3 rfl (by omega) (by omega) dX2_add_47 (fun H locs hP hD hS => ?_)
      generalize va_up jp (o2 + (n).toNat) (upd (jp (o2 + (n).toNat)) (jk).toNat (zI z_4)) = gp_6 at hP hD
      have hP : va_P D vwCl (([(h0, .inr (2, [.int (zI n), .ref v1, .ref v2])), (v1, .inl (cv1, 8, .inl f_2)), (v2, .inl (cv2, 8, .inr (.inr (.inr (.inr (fq)))))), (se, .inr (4, [.ref g1, .ref g2, .ref g3, .ref g4, .ref g5, .int (zI cn), .int (zI bo), .int (zI ru), .ref g6, .ref g7])), (g4, .inl (cg4, 24, .inl f4))] : va_W) ++ kRows pr gp_6 cy) H := hP
      have hD : va_D A (([(h0, .inr (2, [.int (zI n), .ref v1, .ref v2])), (v1, .inl (cv1, 8, .inl f_2)), (v2, .inl (cv2, 8, .inr (.inr (.inr (.inr (fq)))))), (se, .inr (4, [.ref g1, .ref g2, .ref g3, .ref g4, .ref g5, .int (zI cn), .int (zI bo), .int (zI ru), .ref g6, .ref g7])), (g4, .inl (cg4, 24, .inl f4))] : va_W) ++ kRows pr gp_6 cy) := hD
      refine lv_iinc (v := (zI (jk + 1))) (lv' := [(3, .int (zI (jk + 1))), (0, .ref h0), (1, .ref se), (2, .int (zI x))]) hx hb dX2_add_48 hl (k := 0) rfl (kz_inc _ 1) (by decide) rfl (fun ls hl => ?_)
      refine lv_goto (tgt := 27) hx hb dX2_add_51 (by decide) ?_
      exact ih27 _ (by omega) _ _ _ ⟨(jk + 1), gp_6, rfl, (by omega), hP, hD, hS, lv_sub hl [0, 1, 2, 3] rfl⟩
  · have c_1 : ¬ (0 ≤ n ∧ n ≤ 7) := b01f c_1
    refine lv_iconst (v := zI 0) hx hb dX2_add_13 rfl ?_
    have hP9 : va_P D vwCl (([(h0, .inr (2, [.int (zI n), .ref v1, .ref v2])), (v1, .inl (cv1, 8, .inl fv)), (v2, .inl (cv2, 8, .inr (.inr (.inr (.inr (fq)))))), (se, .inr (4, [.ref g1, .ref g2, .ref g3, .ref g4, .ref g5, .int (zI cn), .int (zI bo), .int (zI ru), .ref g6, .ref g7])), (g4, .inl (cg4, 24, .inl f4))] : va_W) ++ kRows pr gp cy) s.heap := hP.part [0, 1, 2, 3, 4] ax_X2_add_1
    have hD9 : va_D A (([(h0, .inr (2, [.int (zI n), .ref v1, .ref v2])), (v1, .inl (cv1, 8, .inl fv)), (v2, .inl (cv2, 8, .inr (.inr (.inr (.inr (fq)))))), (se, .inr (4, [.ref g1, .ref g2, .ref g3, .ref g4, .ref g5, .int (zI cn), .int (zI bo), .int (zI ru), .ref g6, .ref g7])), (g4, .inl (cg4, 24, .inl f4))] : va_W) ++ kRows pr gp cy) := hD.part [0, 1, 2, 3, 4] (by decide +kernel) ax_X2_add_1
    exact W.zret (v := (zI 0)) hx hb hr rfl (fun t ht hW => kQS_of (by omega) ⟨n, fv, gp, q1, (by omega), by rw [ht]; exact hP9, hD9⟩ (hS.F ht)) hS.2.2 dX2_add_14
theorem dX2_areSo_0 : decode cX2_areSo 0 = .ok (.iconst 0, 1) := by decide +kernel
theorem dX2_areSo_1 : decode cX2_areSo 1 = .ok (.istore 4, 2) := by decide +kernel
theorem dX2_areSo_3 : decode cX2_areSo 3 = .ok (.iload 4, 2) := by decide +kernel
theorem dX2_areSo_5 : decode cX2_areSo 5 = .ok (.aload_n 0, 1) := by decide +kernel
theorem dX2_areSo_6 : decode cX2_areSo 6 = .ok (.getfield 20, 3) := by decide +kernel
theorem dX2_areSo_9 : decode cX2_areSo 9 = .ok (.if_icmp .ge 76, 3) := by decide +kernel
theorem dX2_areSo_12 : decode cX2_areSo 12 = .ok (.iconst 0, 1) := by decide +kernel
theorem dX2_areSo_13 : decode cX2_areSo 13 = .ok (.istore 5, 2) := by decide +kernel
theorem dX2_areSo_15 : decode cX2_areSo 15 = .ok (.iconst 0, 1) := by decide +kernel
theorem dX2_areSo_16 : decode cX2_areSo 16 = .ok (.istore 6, 2) := by decide +kernel
theorem dX2_areSo_18 : decode cX2_areSo 18 = .ok (.iload 6, 2) := by decide +kernel
theorem dX2_areSo_20 : decode cX2_areSo 20 = .ok (.aload_n 1, 1) := by decide +kernel
theorem dX2_areSo_21 : decode cX2_areSo 21 = .ok (.getfield 34, 3) := by decide +kernel
theorem dX2_areSo_24 : decode cX2_areSo 24 = .ok (.if_icmp .ge 41, 3) := by decide +kernel
theorem dX2_areSo_27 : decode cX2_areSo 27 = .ok (.iload 5, 2) := by decide +kernel
theorem dX2_areSo_29 : decode cX2_areSo 29 = .ok (.aload_n 0, 1) := by decide +kernel
theorem dX2_areSo_30 : decode cX2_areSo 30 = .ok (.getfield 17, 3) := by decide +kernel
theorem dX2_areSo_33 : decode cX2_areSo 33 = .ok (.iload 4, 2) := by decide +kernel
theorem dX2_areSo_35 : decode cX2_areSo 35 = .ok (.aaload, 1) := by decide +kernel
theorem dX2_areSo_36 : decode cX2_areSo 36 = .ok (.iload 6, 2) := by decide +kernel
theorem dX2_areSo_38 : decode cX2_areSo 38 = .ok (.iaload, 1) := by decide +kernel
theorem dX2_areSo_39 : decode cX2_areSo 39 = .ok (.iload 6, 2) := by decide +kernel
theorem dX2_areSo_41 : decode cX2_areSo 41 = .ok (.iload_n 2, 1) := by decide +kernel
theorem dX2_areSo_42 : decode cX2_areSo 42 = .ok (.if_icmp .ne 7, 3) := by decide +kernel
theorem dX2_areSo_45 : decode cX2_areSo 45 = .ok (.iload_n 3, 1) := by decide +kernel
theorem dX2_areSo_46 : decode cX2_areSo 46 = .ok (.goto 9, 3) := by decide +kernel
theorem dX2_areSo_49 : decode cX2_areSo 49 = .ok (.aload_n 1, 1) := by decide +kernel
theorem dX2_areSo_50 : decode cX2_areSo 50 = .ok (.iload 6, 2) := by decide +kernel
theorem dX2_areSo_52 : decode cX2_areSo 52 = .ok (.invokevirtual 37, 3) := by decide +kernel
theorem dX2_areSo_55 : decode cX2_areSo 55 = .ok (.imul, 1) := by decide +kernel
theorem dX2_areSo_56 : decode cX2_areSo 56 = .ok (.iadd, 1) := by decide +kernel
theorem dX2_areSo_57 : decode cX2_areSo 57 = .ok (.istore 5, 2) := by decide +kernel
theorem dX2_areSo_59 : decode cX2_areSo 59 = .ok (.iinc 6 1, 3) := by decide +kernel
theorem dX2_areSo_62 : decode cX2_areSo 62 = .ok (.goto (-44), 3) := by decide +kernel
theorem dX2_areSo_65 : decode cX2_areSo 65 = .ok (.iload 5, 2) := by decide +kernel
theorem dX2_areSo_67 : decode cX2_areSo 67 = .ok (.aload_n 0, 1) := by decide +kernel
theorem dX2_areSo_68 : decode cX2_areSo 68 = .ok (.getfield 9, 3) := by decide +kernel
theorem dX2_areSo_71 : decode cX2_areSo 71 = .ok (.iload 4, 2) := by decide +kernel
theorem dX2_areSo_73 : decode cX2_areSo 73 = .ok (.iaload, 1) := by decide +kernel
theorem dX2_areSo_74 : decode cX2_areSo 74 = .ok (.if_icmp .eq 5, 3) := by decide +kernel
theorem dX2_areSo_77 : decode cX2_areSo 77 = .ok (.iconst 0, 1) := by decide +kernel
theorem dX2_areSo_78 : decode cX2_areSo 78 = .ok (.ireturn, 1) := by decide +kernel
theorem dX2_areSo_79 : decode cX2_areSo 79 = .ok (.iinc 4 1, 3) := by decide +kernel
theorem dX2_areSo_82 : decode cX2_areSo 82 = .ok (.goto (-79), 3) := by decide +kernel
theorem dX2_areSo_85 : decode cX2_areSo 85 = .ok (.iconst 1, 1) := by decide +kernel
theorem dX2_areSo_86 : decode cX2_areSo 86 = .ok (.ireturn, 1) := by decide +kernel
set_option maxRecDepth 20000 in
theorem ggX2_areSo_X0_step : GoodIn wsX2_areSo wsX0_step := goodIn_4 _ (List.forall_mem_cons.mpr ⟨List.mem_cons_of_mem _ (List.mem_append_left _ (List.mem_append_left _ (List.mem_of_getElem? (i := 8) rfl))), List.forall_mem_append.mpr ⟨List.forall_mem_cons.mpr ⟨List.mem_cons_of_mem _ (List.mem_append_left _ (List.mem_append_left _ (List.mem_of_getElem? (i := 9) rfl))), List.forall_mem_cons.mpr ⟨List.mem_cons_of_mem _ (List.mem_append_left _ (List.mem_append_left _ (List.mem_of_getElem? (i := 10) rfl))), List.forall_mem_cons.mpr ⟨List.mem_cons_of_mem _ (List.mem_append_left _ (List.mem_append_left _ (List.mem_of_getElem? (i := 11) rfl))), List.forall_mem_cons.mpr ⟨List.mem_cons_of_mem _ (List.mem_append_left _ (List.mem_append_left _ (List.mem_of_getElem? (i := 12) rfl))), List.forall_mem_cons.mpr ⟨List.mem_cons_of_mem _ (List.mem_append_left _ (List.mem_append_left _ (List.mem_of_getElem? (i := 13) rfl))), List.forall_mem_cons.mpr ⟨List.mem_cons_of_mem _ (List.mem_append_left _ (List.mem_append_left _ (List.mem_of_getElem? (i := 7) rfl))), List.forall_mem_cons.mpr ⟨List.mem_cons_of_mem _ (List.mem_append_left _ (List.mem_append_left _ (List.mem_of_getElem? (i := 14) rfl))), List.forall_mem_cons.mpr ⟨List.mem_cons_of_mem _ (List.mem_append_left _ (List.mem_append_left _ (List.mem_of_getElem? (i := 15) rfl))), List.forall_mem_cons.mpr ⟨List.mem_cons_of_mem _ (List.mem_append_left _ (List.mem_append_left _ (List.mem_of_getElem? (i := 16) rfl))), List.forall_mem_cons.mpr ⟨List.mem_cons_of_mem _ (List.mem_append_left _ (List.mem_append_left _ (List.mem_of_getElem? (i := 17) rfl))), List.forall_mem_cons.mpr ⟨List.mem_cons_of_mem _ (List.mem_append_left _ (List.mem_append_left _ (List.mem_of_getElem? (i := 18) rfl))), List.forall_mem_cons.mpr ⟨List.mem_cons_of_mem _ (List.mem_append_left _ (List.mem_append_left _ (List.mem_of_getElem? (i := 19) rfl))), List.forall_mem_cons.mpr ⟨List.mem_cons_of_mem _ (List.mem_append_left _ (List.mem_append_left _ (List.mem_of_getElem? (i := 20) rfl))), fun _ h9 => absurd h9 List.not_mem_nil⟩⟩⟩⟩⟩⟩⟩⟩⟩⟩⟩⟩⟩, fun w h9 => List.mem_cons_of_mem _ (List.mem_append_right _ (h9))⟩⟩) (by decide +kernel)
set_option maxRecDepth 20000 in
theorem gX2_areSo_X0_step : GoodIn wsX2_areSo (wsV RX2 37 RX0 yX0_step wsX0_step) := goodIn_app (goodIn_4 _ (List.forall_mem_cons.mpr ⟨List.mem_cons_of_mem _ (List.mem_append_left _ (List.mem_append_left _ (List.mem_of_getElem? (i := 4) rfl))), List.forall_mem_cons.mpr ⟨List.mem_cons_of_mem _ (List.mem_append_left _ (List.mem_append_left _ (List.mem_of_getElem? (i := 5) rfl))), List.forall_mem_cons.mpr ⟨List.mem_cons_of_mem _ (List.mem_append_left _ (List.mem_append_left _ (List.mem_of_getElem? (i := 6) rfl))), List.forall_mem_cons.mpr ⟨List.mem_cons_of_mem _ (List.mem_append_left _ (List.mem_append_left _ (List.mem_of_getElem? (i := 7) rfl))), fun _ h9 => absurd h9 List.not_mem_nil⟩⟩⟩⟩) (by decide +kernel)) ggX2_areSo_X0_step
set_option maxRecDepth 20000 in
theorem mw_X2_areSo_0 : (.fieldLink RX2 20 "FontRuns$Readings" "count" "I" : Cond) ∈ wsX2_areSo := List.mem_cons_of_mem _ (List.mem_append_left _ (List.mem_append_left _ (List.mem_of_getElem? (i := 0) rfl)))
set_option maxRecDepth 20000 in
theorem mw_X2_areSo_1 : (.fieldLink RX2 34 "FontRuns$FontRow" "count" "I" : Cond) ∈ wsX2_areSo := List.mem_cons_of_mem _ (List.mem_append_left _ (List.mem_append_left _ (List.mem_of_getElem? (i := 1) rfl)))
set_option maxRecDepth 20000 in
theorem mw_X2_areSo_2 : (.fieldLink RX2 9 "FontRuns$Readings" "value" "[I" : Cond) ∈ wsX2_areSo := List.mem_cons_of_mem _ (List.mem_append_left _ (List.mem_append_left _ (List.mem_of_getElem? (i := 3) rfl)))
set_option maxRecDepth 20000 in
theorem mw_X2_areSo_3 : (.fieldLink RX2 17 "FontRuns$Readings" "clusters" "[[I" : Cond) ∈ wsX2_areSo := List.mem_cons_of_mem _ (List.mem_append_left _ (List.mem_append_left _ (List.mem_of_getElem? (i := 2) rfl)))
theorem ax_X2_areSo_0 {e0 e1 e2 e3 e4 e5 : Nat × va_E} {k : va_W} : ([3, 4, 5] : List Nat).map (fun i => (([e0, e1, e2, e3, e4, e5] : va_W) ++ k)[i]?) = ([e3, e4, e5] : va_W).map some := rfl
set_option maxHeartbeats 4000000 in
set_option maxRecDepth 100000 in
theorem c_X2_areSo (l : Launch) (D : va_G) (sz : Nat) (fr : Nat) (ch : Int) (sp : Int) (h0 : Nat) (rn : Int) (v1 : Nat) (v2 : Nat) (cv1 : ClassId) (fv : Nat → Int32) (cv2 : ClassId) (fq : Nat → Option Nat) (o2 : Nat) (k1 : Nat) (k2 : Nat) (k3 : Nat) (n : Int) (ck1 : ClassId) (fk : Nat → Int32) (ck2 : ClassId) (fb : Nat → Int32) (pr : Nat → Nat) (gp : Nat → Nat → Int32) (cy : ClassId) (q0 : rg ch) (q1 : rg sp) (q2 : 0 ≤ rn ∧ rn ≤ 8) (q3 : 0 ≤ n ∧ n ≤ 4) (q4 : kOut fq pr o2 8) (q5 : o2 + 8 ≤ 56) : Met l yX2_areSo wsX2_areSo ({ frames := 3, cells := 0, slots := 0, locals := 64 }) (kPre [.ref h0, .ref fr, .int (zI ch), .int (zI sp)] D (([(h0, .inr (2, [.int (zI rn), .ref v1, .ref v2])), (v1, .inl (cv1, 8, .inl fv)), (v2, .inl (cv2, 8, .inr (.inr (.inr (.inr (fq)))))), (fr, .inr (0, [.ref k1, .ref k2, .ref k3, .int (zI n)])), (k1, .inl (ck1, 4, .inl fk)), (k2, .inl (ck2, 4, .inl fb))] : va_W) ++ kRows pr gp cy) [(cv1, .int), (cv2, .array .int), (ck1, .int), (ck2, .int), (cy, .int)] sz) (QcP (fun rz => True)) 0 0 (fun _ => False) := by
  refine Met.ofW (cc := cX2_areSo) (maxL := 7) (ret := (some .boolean)) (by decide) rfl ?_
  intro p e s m args below meth c s₁ B hml hv
  obtain ⟨rfl, hsz, hP, hK, hD0, hN⟩ := hv
  have hx := B.exec
  have hb := B.bytes
  have hr := B.returns
  have hts := atoms_spec (ws := wsX2_areSo) B.pre
  have hown : s.vm.findClass RX2 = some m.cls := findClass_of_methodNamed B.named
  have hlocks := B.notSynchronized
  subst hsz
  have hD := hD0
  have hP : va_P D vwCl (([(h0, .inr (2, [.int (zI rn), .ref v1, .ref v2])), (v1, .inl (cv1, 8, .inl fv)), (v2, .inl (cv2, 8, .inr (.inr (.inr (.inr (fq)))))), (fr, .inr (0, [.ref k1, .ref k2, .ref k3, .int (zI n)])), (k1, .inl (ck1, 4, .inl fk)), (k2, .inl (ck2, 4, .inl fb))] : va_W) ++ kRows pr gp cy) s.heap := hP
  have hl := lv_entry ([.ref h0, .ref fr, .int (zI ch), .int (zI sp)]) (n := 7) (Nat.le_of_ble_eq_true rfl)
  rw [lg_entry_eq]
  generalize (lg_sl ([.ref h0, .ref fr, .int (zI ch), .int (zI sp)]) ++ List.replicate (7 - (lg_sl ([.ref h0, .ref fr, .int (zI ch), .int (zI sp)])).length) Slot.unset).toArray = ls at hl ⊢
  have hl : lv_has ls 7 [(0, .ref h0), (1, .ref fr), (2, .int (zI ch)), (3, .int (zI sp))] := hl
  refine lv_iconst (v := zI 0) hx hb dX2_areSo_0 rfl ?_
  refine lv_istore (lv' := [(4, .int (zI 0)), (0, .ref h0), (1, .ref fr), (2, .int (zI ch)), (3, .int (zI sp))]) hx hb dX2_areSo_1 hl (by decide) rfl (fun ls hl => ?_)
  refine k_loopM (I := fun n9 H locs ls => ∃ (jr : Int), n9 = (rn - jr).toNat ∧ (0 ≤ jr ∧ jr ≤ rn) ∧ H = s.heap ∧ locs = [] ∧ lv_has ls 7 [(4, .int (zI jr)), (0, .ref h0), (1, .ref fr), (2, .int (zI ch)), (3, .int (zI sp))]) ?_ _ ⟨0, rfl, (by omega), rfl, rfl, hl⟩
  intro n3 ih3 H locs ls hI
  obtain ⟨jr, en3, v_30, eH, eL, hl⟩ := hI
  subst eH
  subst eL
  refine lv_iload hx hb dX2_areSo_3 (lv_at hl 0 rfl) ?_
  refine lv_aload_n hx hb dX2_areSo_5 rfl (lv_at hl 1 rfl) ?_
  refine va_get (D := D) (ci := 2) (v := .int (zI rn)) (C := RX2) (T := TX2) (N := 3) hx hb hts (fun _ h9 => List.mem_cons_of_mem _ (List.mem_append_left _ (List.mem_append_right _ h9))) hown hK hP 0 rfl rfl 0 (by decide) (hts (.fieldLink RX2 20 "FontRuns$Readings" "count" "I") mw_X2_areSo_0) (fun _ h9 => h9) rfl dX2_areSo_6 ?_
  refine kz_icmp_ge (tgt := 85) hx hb dX2_areSo_9 (by decide) (by omega) (by omega) (fun c_1 => ?_) (fun c_1 => ?_)
  · refine lv_iconst (v := zI 1) hx hb dX2_areSo_85 rfl ?_
    exact W.zret (v := (zI 1)) hx hb hr rfl (fun t ht hW => QcP_of (by omega) trivial ht) (fun _ h9 => by cases h9) dX2_areSo_86
  · refine lv_iconst (v := zI 0) hx hb dX2_areSo_12 rfl ?_
    refine lv_istore (lv' := [(5, .int (zI 0)), (4, .int (zI jr)), (0, .ref h0), (1, .ref fr), (2, .int (zI ch)), (3, .int (zI sp))]) hx hb dX2_areSo_13 hl (by decide) rfl (fun ls hl => ?_)
    refine lv_iconst (v := zI 0) hx hb dX2_areSo_15 rfl ?_
    refine lv_istore (lv' := [(6, .int (zI 0)), (5, .int (zI 0)), (4, .int (zI jr)), (0, .ref h0), (1, .ref fr), (2, .int (zI ch)), (3, .int (zI sp))]) hx hb dX2_areSo_16 hl (by decide) rfl (fun ls hl => ?_)
    refine k_loopM (I := fun n9 H locs ls => ∃ (js : Int) (jf : Int), n9 = (n - jf).toNat ∧ (rg js) ∧ (0 ≤ jf ∧ jf ≤ n) ∧ H = s.heap ∧ locs = [] ∧ lv_has ls 7 [(6, .int (zI jf)), (5, .int (zI js)), (4, .int (zI jr)), (0, .ref h0), (1, .ref fr), (2, .int (zI ch)), (3, .int (zI sp))]) ?_ _ ⟨0, 0, rfl, (by omega), (by omega), rfl, rfl, hl⟩
    intro n18 ih18 H locs ls hI
    obtain ⟨js, jf, en18, v_180, v_181, eH, eL, hl⟩ := hI
    subst eH
    subst eL
    refine lv_iload hx hb dX2_areSo_18 (lv_at hl 0 rfl) ?_
    refine lv_aload_n hx hb dX2_areSo_20 rfl (lv_at hl 4 rfl) ?_
    refine va_get (D := D) (ci := 0) (v := .int (zI n)) (C := RX0) (T := TX0) (N := 4) hx hb hts (fun _ h9 => List.mem_cons_of_mem _ (List.mem_append_right _ h9)) hown hK hP 3 rfl rfl 3 (by decide) (hts (.fieldLink RX2 34 "FontRuns$FontRow" "count" "I") mw_X2_areSo_1) (fun _ h9 => h9) rfl dX2_areSo_21 ?_
    refine kz_icmp_ge (tgt := 65) hx hb dX2_areSo_24 (by decide) (by omega) (by omega) (fun c_2 => ?_) (fun c_2 => ?_)
    · refine lv_iload hx hb dX2_areSo_65 (lv_at hl 1 rfl) ?_
      refine lv_aload_n hx hb dX2_areSo_67 rfl (lv_at hl 3 rfl) ?_
      refine va_get (D := D) (ci := 2) (v := .ref v1) (C := RX2) (T := TX2) (N := 3) hx hb hts (fun _ h9 => List.mem_cons_of_mem _ (List.mem_append_left _ (List.mem_append_right _ h9))) hown hK hP 0 rfl rfl 1 (by decide) (hts (.fieldLink RX2 9 "FontRuns$Readings" "value" "[I") mw_X2_areSo_2) (fun _ h9 => h9) rfl dX2_areSo_68 ?_
      refine lv_iload hx hb dX2_areSo_71 (lv_at hl 2 rfl) ?_
      refine kz_iald hx hb hK hP 1 0 rfl rfl (by omega) dX2_areSo_73 (fun z_3 rz_3 ez_3 => ?_)
      refine kz_icmp_eq (tgt := 79) hx hb dX2_areSo_74 (by decide) (by omega) (by omega) (fun c_4 => ?_) (fun c_4 => ?_)
      · refine lv_iinc (v := (zI (jr + 1))) (lv' := [(4, .int (zI (jr + 1))), (6, .int (zI jf)), (5, .int (zI js)), (0, .ref h0), (1, .ref fr), (2, .int (zI ch)), (3, .int (zI sp))]) hx hb dX2_areSo_79 hl (k := 2) rfl (kz_inc _ 1) (by decide) rfl (fun ls hl => ?_)
        refine lv_goto (tgt := 3) hx hb dX2_areSo_82 (by decide) ?_
        exact ih3 _ (by omega) _ _ _ ⟨(jr + 1), rfl, (by omega), rfl, rfl, lv_sub hl [0, 3, 4, 5, 6] rfl⟩
      · refine lv_iconst (v := zI 0) hx hb dX2_areSo_77 rfl ?_
        exact W.zret (v := (zI 0)) hx hb hr rfl (fun t ht hW => QcP_of (by omega) trivial ht) (fun _ h9 => by cases h9) dX2_areSo_78
    · refine lv_iload hx hb dX2_areSo_27 (lv_at hl 1 rfl) ?_
      refine lv_aload_n hx hb dX2_areSo_29 rfl (lv_at hl 3 rfl) ?_
      refine va_get (D := D) (ci := 2) (v := .ref v2) (C := RX2) (T := TX2) (N := 3) hx hb hts (fun _ h9 => List.mem_cons_of_mem _ (List.mem_append_left _ (List.mem_append_right _ h9))) hown hK hP 0 rfl rfl 2 (by decide) (hts (.fieldLink RX2 17 "FontRuns$Readings" "clusters" "[[I") mw_X2_areSo_3) (fun _ h9 => h9) rfl dX2_areSo_30 ?_
      refine lv_iload hx hb dX2_areSo_33 (lv_at hl 2 rfl) ?_
      refine kz_aald hx hb hK hP 2 1 rfl rfl (by omega) dX2_areSo_35 (q4 _ (by omega)) ?_
      refine lv_iload hx hb dX2_areSo_36 (lv_at hl 0 rfl) ?_
      refine kz_rowld (X := [(h0, .inr (2, [.int (zI rn), .ref v1, .ref v2])), (v1, .inl (cv1, 8, .inl fv)), (v2, .inl (cv2, 8, .inr (.inr (.inr (.inr (fq)))))), (fr, .inr (0, [.ref k1, .ref k2, .ref k3, .int (zI n)])), (k1, .inl (ck1, 4, .inl fk)), (k2, .inl (ck2, 4, .inl fb))]) hx hb hK hP 4 rfl (by omega) (by omega) dX2_areSo_38 (fun z_5 rz_5 ez_5 => ?_)
      refine lv_iload hx hb dX2_areSo_39 (lv_at hl 0 rfl) ?_
      refine lv_iload_n hx hb dX2_areSo_41 rfl (lv_at hl 5 rfl) ?_
      refine kz_icmp_ne (tgt := 49) hx hb dX2_areSo_42 (by decide) (by omega) (by omega) (fun c_6 => ?_) (fun c_6 => ?_)
      · refine lv_aload_n hx hb dX2_areSo_49 rfl (lv_at hl 4 rfl) ?_
        refine lv_iload hx hb dX2_areSo_50 (lv_at hl 0 rfl) ?_
        refine k_callP (va_runV (As := [.int (zI jf)]) (rest := [.int (zI z_5), .int (zI js)]) ⟨hx, hb, hml, hown, hts⟩ (c_X0_step l D s.heap.size (f := jf) (h0 := fr) (k1 := k1) (k2 := k2) (k3 := k3) (n := n) (ck1 := ck1) (fk := fk) (ck2 := ck2) (fb := fb) (by omega) q3) (cwV 1 hts gX2_areSo_X0_step rfl rfl rfl (by decide +kernel) ⟨Nat.le_of_ble_eq_true rfl, Nat.le_of_ble_eq_true rfl⟩) (kPreV hP (kD0 hD) hK hN [3, 4, 5] [2, 3] ax_X2_areSo_0 rfl (by decide +kernel) 3 0 rfl rfl) rfl rfl hl.1 rfl (lv_room (Nat.le_of_ble_eq_true rfl)) dX2_areSo_52 ⟨Nat.le_of_ble_eq_true rfl, Nat.le_of_ble_eq_true rfl⟩) (fun z_7 rz_7 h_8 => ?_)
        refine kz_imul hx hb dX2_areSo_55 ?_
        refine kz_any (fun z_9 rz_9 ez_9 => ?_)
        refine kz_iadd hx hb dX2_areSo_56 ?_
        refine kz_any (fun z_10 rz_10 ez_10 => ?_)
        refine lv_istore (lv' := [(5, .int (zI z_10)), (6, .int (zI jf)), (4, .int (zI jr)), (0, .ref h0), (1, .ref fr), (2, .int (zI ch)), (3, .int (zI sp))]) hx hb dX2_areSo_57 hl (by decide) rfl (fun ls hl => ?_)
        refine lv_iinc (v := (zI (jf + 1))) (lv' := [(6, .int (zI (jf + 1))), (5, .int (zI z_10)), (4, .int (zI jr)), (0, .ref h0), (1, .ref fr), (2, .int (zI ch)), (3, .int (zI sp))]) hx hb dX2_areSo_59 hl (k := 1) rfl (kz_inc _ 1) (by decide) rfl (fun ls hl => ?_)
        refine lv_goto (tgt := 18) hx hb dX2_areSo_62 (by decide) ?_
        exact ih18 _ (by omega) _ _ _ ⟨z_10, (jf + 1), rfl, (by omega), (by omega), rfl, rfl, lv_sub hl [0, 1, 2, 3, 4, 5, 6] rfl⟩
      · refine lv_iload_n hx hb dX2_areSo_45 rfl (lv_at hl 6 rfl) ?_
        refine lv_goto (tgt := 55) hx hb dX2_areSo_46 (by decide) ?_
        refine kz_imul hx hb dX2_areSo_55 ?_
        refine kz_any (fun z_11 rz_11 ez_11 => ?_)
        refine kz_iadd hx hb dX2_areSo_56 ?_
        refine kz_any (fun z_12 rz_12 ez_12 => ?_)
        refine lv_istore (lv' := [(5, .int (zI z_12)), (6, .int (zI jf)), (4, .int (zI jr)), (0, .ref h0), (1, .ref fr), (2, .int (zI ch)), (3, .int (zI sp))]) hx hb dX2_areSo_57 hl (by decide) rfl (fun ls hl => ?_)
        refine lv_iinc (v := (zI (jf + 1))) (lv' := [(6, .int (zI (jf + 1))), (5, .int (zI z_12)), (4, .int (zI jr)), (0, .ref h0), (1, .ref fr), (2, .int (zI ch)), (3, .int (zI sp))]) hx hb dX2_areSo_59 hl (k := 1) rfl (kz_inc _ 1) (by decide) rfl (fun ls hl => ?_)
        refine lv_goto (tgt := 18) hx hb dX2_areSo_62 (by decide) ?_
        exact ih18 _ (by omega) _ _ _ ⟨z_12, (jf + 1), rfl, (by omega), (by omega), rfl, rfl, lv_sub hl [0, 1, 2, 3, 4, 5, 6] rfl⟩
theorem dX8_faultOfLane_0 : decode cX8_faultOfLane 0 = .ok (.aload_n 0, 1) := by decide +kernel
theorem dX8_faultOfLane_1 : decode cX8_faultOfLane 1 = .ok (.getfield 288, 3) := by decide +kernel
theorem dX8_faultOfLane_4 : decode cX8_faultOfLane 4 = .ok (.ifCond .ne 5, 3) := by decide +kernel
theorem dX8_faultOfLane_7 : decode cX8_faultOfLane 7 = .ok (.iconst 1, 1) := by decide +kernel
theorem dX8_faultOfLane_8 : decode cX8_faultOfLane 8 = .ok (.ireturn, 1) := by decide +kernel
theorem dX8_faultOfLane_9 : decode cX8_faultOfLane 9 = .ok (.aload_n 0, 1) := by decide +kernel
theorem dX8_faultOfLane_10 : decode cX8_faultOfLane 10 = .ok (.getfield 301, 3) := by decide +kernel
theorem dX8_faultOfLane_13 : decode cX8_faultOfLane 13 = .ok (.iload_n 1, 1) := by decide +kernel
theorem dX8_faultOfLane_14 : decode cX8_faultOfLane 14 = .ok (.if_icmp .ne 7, 3) := by decide +kernel
theorem dX8_faultOfLane_17 : decode cX8_faultOfLane 17 = .ok (.iconst 0, 1) := by decide +kernel
theorem dX8_faultOfLane_18 : decode cX8_faultOfLane 18 = .ok (.goto 4, 3) := by decide +kernel
theorem dX8_faultOfLane_21 : decode cX8_faultOfLane 21 = .ok (.iconst 2, 1) := by decide +kernel
theorem dX8_faultOfLane_22 : decode cX8_faultOfLane 22 = .ok (.ireturn, 1) := by decide +kernel
set_option maxRecDepth 20000 in
theorem mw_X8_faultOfLane_0 : (.fieldLink RX8 288 "FontRuns$Sheet" "isThere" "Z" : Cond) ∈ wsX8_faultOfLane := List.mem_cons_of_mem _ (List.mem_append_left _ (List.mem_of_getElem? (i := 0) rfl))
set_option maxRecDepth 20000 in
theorem mw_X8_faultOfLane_1 : (.fieldLink RX8 301 "FontRuns$Sheet" "lane" "I" : Cond) ∈ wsX8_faultOfLane := List.mem_cons_of_mem _ (List.mem_append_left _ (List.mem_of_getElem? (i := 1) rfl))
set_option maxHeartbeats 4000000 in
set_option maxRecDepth 100000 in
theorem c_X8_faultOfLane (l : Launch) (D : va_G) (sz : Nat) (ro : Nat) (x : Int) (r1 : Nat) (th : Int) (la : Int) (sz0 : Int) (q0 : rg x) (q1 : th = 0 ∨ th = 1) (q2 : rg la) (q3 : 0 ≤ sz0 ∧ sz0 ≤ 60) : Met l yX8_faultOfLane wsX8_faultOfLane ({ frames := 0, cells := 0, slots := 0, locals := 0 }) (kPre [.ref ro, .int (zI x)] D [(ro, .inr (5, [.ref r1, .int (zI th), .int (zI la), .int (zI sz0)]))] [] sz) (QcP (fun rz => (rz = 1 ∧ th = 0) ∨ (rz = 0 ∧ th = 1 ∧ la = x) ∨ (rz = 2 ∧ th = 1 ∧ ¬ la = x))) 0 0 (fun _ => False) := by
  refine Met.ofW (cc := cX8_faultOfLane) (maxL := 2) (ret := (some .int)) (by decide) rfl ?_
  intro p e s m args below meth c s₁ B hml hv
  obtain ⟨rfl, hsz, hP, hK, hD0, hN⟩ := hv
  have hx := B.exec
  have hb := B.bytes
  have hr := B.returns
  have hts := atoms_spec (ws := wsX8_faultOfLane) B.pre
  have hown : s.vm.findClass RX8 = some m.cls := findClass_of_methodNamed B.named
  have hlocks := B.notSynchronized
  subst hsz
  have hD := hD0
  have hP : va_P D vwCl [(ro, .inr (5, [.ref r1, .int (zI th), .int (zI la), .int (zI sz0)]))] s.heap := hP
  have hl := lv_entry ([.ref ro, .int (zI x)]) (n := 2) (Nat.le_of_ble_eq_true rfl)
  rw [lg_entry_eq]
  generalize (lg_sl ([.ref ro, .int (zI x)]) ++ List.replicate (2 - (lg_sl ([.ref ro, .int (zI x)])).length) Slot.unset).toArray = ls at hl ⊢
  have hl : lv_has ls 2 [(0, .ref ro), (1, .int (zI x))] := hl
  refine lv_aload_n hx hb dX8_faultOfLane_0 rfl (lv_at hl 0 rfl) ?_
  refine va_get (D := D) (ci := 5) (v := .int (zI th)) (C := RX5) (T := TX5) (N := 4) hx hb hts (fun _ h9 => List.mem_cons_of_mem _ (List.mem_append_right _ h9)) hown hK hP 0 rfl rfl 1 (by decide) (hts (.fieldLink RX8 288 "FontRuns$Sheet" "isThere" "Z") mw_X8_faultOfLane_0) (fun _ h9 => h9) rfl dX8_faultOfLane_1 ?_
  refine kz_if_ne (tgt := 9) hx hb dX8_faultOfLane_4 (by decide) (by omega) (fun c_1 => ?_) (fun c_1 => ?_)
  · refine lv_aload_n hx hb dX8_faultOfLane_9 rfl (lv_at hl 0 rfl) ?_
    refine va_get (D := D) (ci := 5) (v := .int (zI la)) (C := RX5) (T := TX5) (N := 4) hx hb hts (fun _ h9 => List.mem_cons_of_mem _ (List.mem_append_right _ h9)) hown hK hP 0 rfl rfl 2 (by decide) (hts (.fieldLink RX8 301 "FontRuns$Sheet" "lane" "I") mw_X8_faultOfLane_1) (fun _ h9 => h9) rfl dX8_faultOfLane_10 ?_
    refine lv_iload_n hx hb dX8_faultOfLane_13 rfl (lv_at hl 1 rfl) ?_
    refine kz_icmp_ne (tgt := 21) hx hb dX8_faultOfLane_14 (by decide) (by omega) (by omega) (fun c_2 => ?_) (fun c_2 => ?_)
    · refine lv_iconst (v := zI 2) hx hb dX8_faultOfLane_21 rfl ?_
      exact W.iret (v := (zI 2)) hx hb hr (fun t ht hW => QcP_of (by omega) (by omega) ht) (fun _ h9 => by cases h9) dX8_faultOfLane_22
    · refine lv_iconst (v := zI 0) hx hb dX8_faultOfLane_17 rfl ?_
      refine lv_goto (tgt := 22) hx hb dX8_faultOfLane_18 (by decide) ?_
      exact W.iret (v := (zI 0)) hx hb hr (fun t ht hW => QcP_of (by omega) (by omega) ht) (fun _ h9 => by cases h9) dX8_faultOfLane_22
  · refine lv_iconst (v := zI 1) hx hb dX8_faultOfLane_7 rfl ?_
    exact W.iret (v := (zI 1)) hx hb hr (fun t ht hW => QcP_of (by omega) (by omega) ht) (fun _ h9 => by cases h9) dX8_faultOfLane_8
theorem dX8_faultOfCells_0 : decode cX8_faultOfCells 0 = .ok (.aload_n 0, 1) := by decide +kernel
theorem dX8_faultOfCells_1 : decode cX8_faultOfCells 1 = .ok (.iload_n 1, 1) := by decide +kernel
theorem dX8_faultOfCells_2 : decode cX8_faultOfCells 2 = .ok (.invokestatic 87, 3) := by decide +kernel
theorem dX8_faultOfCells_5 : decode cX8_faultOfCells 5 = .ok (.istore 4, 2) := by decide +kernel
theorem dX8_faultOfCells_7 : decode cX8_faultOfCells 7 = .ok (.iload 4, 2) := by decide +kernel
theorem dX8_faultOfCells_9 : decode cX8_faultOfCells 9 = .ok (.ifCond .eq 6, 3) := by decide +kernel
theorem dX8_faultOfCells_12 : decode cX8_faultOfCells 12 = .ok (.iload 4, 2) := by decide +kernel
theorem dX8_faultOfCells_14 : decode cX8_faultOfCells 14 = .ok (.ireturn, 1) := by decide +kernel
theorem dX8_faultOfCells_15 : decode cX8_faultOfCells 15 = .ok (.aload_n 0, 1) := by decide +kernel
theorem dX8_faultOfCells_16 : decode cX8_faultOfCells 16 = .ok (.iload_n 2, 1) := by decide +kernel
theorem dX8_faultOfCells_17 : decode cX8_faultOfCells 17 = .ok (.iload_n 3, 1) := by decide +kernel
theorem dX8_faultOfCells_18 : decode cX8_faultOfCells 18 = .ok (.invokevirtual 91, 3) := by decide +kernel
theorem dX8_faultOfCells_21 : decode cX8_faultOfCells 21 = .ok (.ifCond .eq 7, 3) := by decide +kernel
theorem dX8_faultOfCells_24 : decode cX8_faultOfCells 24 = .ok (.iconst 0, 1) := by decide +kernel
theorem dX8_faultOfCells_25 : decode cX8_faultOfCells 25 = .ok (.goto 4, 3) := by decide +kernel
theorem dX8_faultOfCells_28 : decode cX8_faultOfCells 28 = .ok (.iconst 3, 1) := by decide +kernel
theorem dX8_faultOfCells_29 : decode cX8_faultOfCells 29 = .ok (.ireturn, 1) := by decide +kernel
set_option maxRecDepth 20000 in
theorem ggX8_faultOfCells_X5_hasCells : GoodIn wsX8_faultOfCells wsX5_hasCells := goodIn_4 _ (List.forall_mem_cons.mpr ⟨List.mem_cons_of_mem _ (List.mem_append_left _ (List.mem_of_getElem? (i := 10) rfl)), List.forall_mem_append.mpr ⟨List.forall_mem_cons.mpr ⟨List.mem_cons_of_mem _ (List.mem_append_left _ (List.mem_of_getElem? (i := 11) rfl)), List.forall_mem_cons.mpr ⟨List.mem_cons_of_mem _ (List.mem_append_left _ (List.mem_of_getElem? (i := 12) rfl)), List.forall_mem_cons.mpr ⟨List.mem_cons_of_mem _ (List.mem_append_left _ (List.mem_of_getElem? (i := 13) rfl)), List.forall_mem_cons.mpr ⟨List.mem_cons_of_mem _ (List.mem_append_left _ (List.mem_of_getElem? (i := 2) rfl)), List.forall_mem_cons.mpr ⟨List.mem_cons_of_mem _ (List.mem_append_left _ (List.mem_of_getElem? (i := 14) rfl)), fun _ h9 => absurd h9 List.not_mem_nil⟩⟩⟩⟩⟩, fun w h9 => List.mem_cons_of_mem _ (List.mem_append_right _ (h9))⟩⟩) (by decide +kernel)
set_option maxRecDepth 20000 in
theorem gX8_faultOfCells_X5_hasCells : GoodIn wsX8_faultOfCells (wsV RX8 91 RX5 yX5_hasCells wsX5_hasCells) := goodIn_app (goodIn_4 _ (List.forall_mem_cons.mpr ⟨List.mem_cons_of_mem _ (List.mem_append_left _ (List.mem_of_getElem? (i := 6) rfl)), List.forall_mem_cons.mpr ⟨List.mem_cons_of_mem _ (List.mem_append_left _ (List.mem_of_getElem? (i := 7) rfl)), List.forall_mem_cons.mpr ⟨List.mem_cons_of_mem _ (List.mem_append_left _ (List.mem_of_getElem? (i := 8) rfl)), List.forall_mem_cons.mpr ⟨List.mem_cons_of_mem _ (List.mem_append_left _ (List.mem_of_getElem? (i := 9) rfl)), fun _ h9 => absurd h9 List.not_mem_nil⟩⟩⟩⟩) (by decide +kernel)) ggX8_faultOfCells_X5_hasCells
set_option maxRecDepth 20000 in
theorem ggX8_faultOfCells_X8_faultOfLane : GoodIn wsX8_faultOfCells wsX8_faultOfLane := goodIn_4 _ (List.forall_mem_cons.mpr ⟨List.mem_cons_of_mem _ (List.mem_append_left _ (List.mem_of_getElem? (i := 3) rfl)), List.forall_mem_append.mpr ⟨List.forall_mem_cons.mpr ⟨List.mem_cons_of_mem _ (List.mem_append_left _ (List.mem_of_getElem? (i := 4) rfl)), List.forall_mem_cons.mpr ⟨List.mem_cons_of_mem _ (List.mem_append_left _ (List.mem_of_getElem? (i := 5) rfl)), fun _ h9 => absurd h9 List.not_mem_nil⟩⟩, fun w h9 => List.mem_cons_of_mem _ (List.mem_append_right _ (h9))⟩⟩) (by decide +kernel)
set_option maxRecDepth 20000 in
theorem gX8_faultOfCells_X8_faultOfLane : GoodIn wsX8_faultOfCells (va_wsS RX8 87 yX8_faultOfLane wsX8_faultOfLane) := goodIn_app (goodIn_4 _ (List.forall_mem_cons.mpr ⟨List.mem_cons_of_mem _ (List.mem_append_left _ (List.mem_of_getElem? (i := 0) rfl)), List.forall_mem_cons.mpr ⟨List.mem_cons_of_mem _ (List.mem_append_left _ (List.mem_of_getElem? (i := 1) rfl)), List.forall_mem_cons.mpr ⟨List.mem_cons_of_mem _ (List.mem_append_left _ (List.mem_of_getElem? (i := 2) rfl)), fun _ h9 => absurd h9 List.not_mem_nil⟩⟩⟩) (by decide +kernel)) ggX8_faultOfCells_X8_faultOfLane
theorem ax_X8_faultOfCells_0 {e0 : Nat × va_E} : ([0] : List Nat).map (fun i => ([e0] : va_W)[i]?) = ([e0] : va_W).map some := rfl
set_option maxHeartbeats 4000000 in
set_option maxRecDepth 100000 in
theorem c_X8_faultOfCells (l : Launch) (D : va_G) (sz : Nat) (ro : Nat) (x : Int) (i : Int) (k : Int) (r1 : Nat) (th : Int) (la : Int) (sz0 : Int) (q0 : rg x) (q1 : rg i) (q2 : rg k) (q3 : th = 0 ∨ th = 1) (q4 : rg la) (q5 : 0 ≤ sz0 ∧ sz0 ≤ 60) : Met l yX8_faultOfCells wsX8_faultOfCells ({ frames := 2, cells := 0, slots := 0, locals := 44 }) (kPre [.ref ro, .int (zI x), .int (zI i), .int (zI k)] D [(ro, .inr (5, [.ref r1, .int (zI th), .int (zI la), .int (zI sz0)]))] [] sz) (QcP (fun rz => (rz = 0 ∧ th = 1 ∧ la = x ∧ 0 ≤ i ∧ 0 ≤ k ∧ i + k ≤ sz0) ∨ (1 ≤ rz ∧ rz ≤ 3))) 0 0 (fun _ => False) := by
  refine Met.ofW (cc := cX8_faultOfCells) (maxL := 5) (ret := (some .int)) (by decide) rfl ?_
  intro p e s m args below meth c s₁ B hml hv
  obtain ⟨rfl, hsz, hP, hK, hD0, hN⟩ := hv
  have hx := B.exec
  have hb := B.bytes
  have hr := B.returns
  have hts := atoms_spec (ws := wsX8_faultOfCells) B.pre
  have hown : s.vm.findClass RX8 = some m.cls := findClass_of_methodNamed B.named
  have hlocks := B.notSynchronized
  subst hsz
  have hD := hD0
  have hP : va_P D vwCl [(ro, .inr (5, [.ref r1, .int (zI th), .int (zI la), .int (zI sz0)]))] s.heap := hP
  have hl := lv_entry ([.ref ro, .int (zI x), .int (zI i), .int (zI k)]) (n := 5) (Nat.le_of_ble_eq_true rfl)
  rw [lg_entry_eq]
  generalize (lg_sl ([.ref ro, .int (zI x), .int (zI i), .int (zI k)]) ++ List.replicate (5 - (lg_sl ([.ref ro, .int (zI x), .int (zI i), .int (zI k)])).length) Slot.unset).toArray = ls at hl ⊢
  have hl : lv_has ls 5 [(0, .ref ro), (1, .int (zI x)), (2, .int (zI i)), (3, .int (zI k))] := hl
  refine lv_aload_n hx hb dX8_faultOfCells_0 rfl (lv_at hl 0 rfl) ?_
  refine lv_iload_n hx hb dX8_faultOfCells_1 rfl (lv_at hl 1 rfl) ?_
  refine k_callP (va_runS (As := [.ref ro, .int (zI x)]) (rest := []) ⟨hx, hb, hml, hown, hts⟩ (c_X8_faultOfLane l D s.heap.size (ro := ro) (x := x) (r1 := r1) (th := th) (la := la) (sz0 := sz0) q0 q3 q4 q5) (va_cwS 2 hts gX8_faultOfCells_X8_faultOfLane rfl rfl rfl (by decide +kernel) ⟨Nat.le_of_ble_eq_true rfl, Nat.le_of_ble_eq_true rfl⟩) (kPreS hP (kD0 hD) hK hN [0] [] ax_X8_faultOfCells_0 rfl (by decide +kernel)) rfl rfl hl.1 rfl (lv_room (Nat.le_of_ble_eq_true rfl)) dX8_faultOfCells_2 ⟨Nat.le_of_ble_eq_true rfl, Nat.le_of_ble_eq_true rfl⟩) (fun z_1 rz_1 h_2 => ?_)
  refine lv_istore (lv' := [(4, .int (zI z_1)), (0, .ref ro), (1, .int (zI x)), (2, .int (zI i)), (3, .int (zI k))]) hx hb dX8_faultOfCells_5 hl (by decide) rfl (fun ls hl => ?_)
  refine lv_iload hx hb dX8_faultOfCells_7 (lv_at hl 0 rfl) ?_
  refine kz_if_eq (tgt := 15) hx hb dX8_faultOfCells_9 (by decide) (by omega) (fun c_3 => ?_) (fun c_3 => ?_)
  · refine lv_aload_n hx hb dX8_faultOfCells_15 rfl (lv_at hl 1 rfl) ?_
    refine lv_iload_n hx hb dX8_faultOfCells_16 rfl (lv_at hl 3 rfl) ?_
    refine lv_iload_n hx hb dX8_faultOfCells_17 rfl (lv_at hl 4 rfl) ?_
    refine k_callR (va_runV (As := [.int (zI i), .int (zI k)]) (rest := []) ⟨hx, hb, hml, hown, hts⟩ (c_X5_hasCells l D s.heap.size (i := i) (k := k) (h0 := ro) (r1 := r1) (th := th) (la := la) (n := sz0) q1 q2 q3 q4 q5) (cwV 2 hts gX8_faultOfCells_X5_hasCells rfl rfl rfl (by decide +kernel) ⟨Nat.le_of_ble_eq_true rfl, Nat.le_of_ble_eq_true rfl⟩) (kPreV hP (kD0 hD) hK hN [0] [] ax_X8_faultOfCells_0 rfl (by decide +kernel) 0 5 rfl rfl) rfl rfl hl.1 rfl (lv_room (Nat.le_of_ble_eq_true rfl)) dX8_faultOfCells_18 ⟨Nat.le_of_ble_eq_true rfl, Nat.le_of_ble_eq_true rfl⟩) ?_
    refine lv_if_eq (tgt := 28) hx hb dX8_faultOfCells_21 (by decide) (fun c_4 => ?_) (fun c_4 => ?_)
    · have c_4 : ¬ (th = 1 ∧ (0 ≤ i ∧ i ≤ sz0) ∧ (0 ≤ k ∧ k ≤ sz0 - i)) := b01f c_4
      refine lv_iconst (v := zI 3) hx hb dX8_faultOfCells_28 rfl ?_
      exact W.iret (v := (zI 3)) hx hb hr (fun t ht hW => QcP_of (by omega) (by omega) ht) (fun _ h9 => by cases h9) dX8_faultOfCells_29
    · have c_4 : th = 1 ∧ (0 ≤ i ∧ i ≤ sz0) ∧ (0 ≤ k ∧ k ≤ sz0 - i) := b01t c_4
      refine lv_iconst (v := zI 0) hx hb dX8_faultOfCells_24 rfl ?_
      refine lv_goto (tgt := 29) hx hb dX8_faultOfCells_25 (by decide) ?_
      exact W.iret (v := (zI 0)) hx hb hr (fun t ht hW => QcP_of (by omega) (by omega) ht) (fun _ h9 => by cases h9) dX8_faultOfCells_29
  · refine lv_iload hx hb dX8_faultOfCells_12 (lv_at hl 0 rfl) ?_
    exact W.iret (v := (zI z_1)) hx hb hr (fun t ht hW => QcP_of (by omega) (by omega) ht) (fun _ h9 => by cases h9) dX8_faultOfCells_14
theorem dX8_failWith_0 : decode cX8_failWith 0 = .ok (.aload_n 0, 1) := by decide +kernel
theorem dX8_failWith_1 : decode cX8_failWith 1 = .ok (.iload_n 1, 1) := by decide +kernel
theorem dX8_failWith_2 : decode cX8_failWith 2 = .ok (.putfield 76, 3) := by decide +kernel
theorem dX8_failWith_5 : decode cX8_failWith 5 = .ok (.bipush (-10), 2) := by decide +kernel
theorem dX8_failWith_7 : decode cX8_failWith 7 = .ok (.iload_n 1, 1) := by decide +kernel
theorem dX8_failWith_8 : decode cX8_failWith 8 = .ok (.isub, 1) := by decide +kernel
theorem dX8_failWith_9 : decode cX8_failWith 9 = .ok (.ireturn, 1) := by decide +kernel
set_option maxRecDepth 20000 in
theorem mw_X8_failWith_0 : (.fieldLink RX8 76 "FontRuns" "latestFault" "I" : Cond) ∈ wsX8_failWith := List.mem_cons_of_mem _ (List.mem_append_left _ (List.mem_of_getElem? (i := 0) rfl))
theorem ax_X8_failWith_0 {e0 : Nat × va_E} : ([0] : List Nat).map (fun i => ([e0] : va_W)[i]?) = ([e0] : va_W).map some := rfl
set_option maxHeartbeats 4000000 in
set_option maxRecDepth 100000 in
theorem c_X8_failWith (l : Launch) (D : va_G) (sz : Nat) (f : Int) (h0 : Nat) (sh : Nat) (rd : Nat) (fr : Nat) (wr : Nat) (pf : Nat) (rc : Nat) (se : Nat) (rs : Nat) (sw : Nat) (sp : Nat) (ss : Nat) (ew : Int) (wc : Int64) (tr : Int) (lf : Int) (q0 : 0 ≤ f ∧ f ≤ 4) : Met l yX8_failWith wsX8_failWith ({ frames := 0, cells := 0, slots := 0, locals := 0 }) (kPre [.ref h0, .int (zI f)] D [(h0, .inr (8, [.ref sh, .ref rd, .ref fr, .ref wr, .ref pf, .ref rc, .ref se, .ref rs, .ref sw, .ref sp, .ref ss, .int (zI ew), .long wc, .int (zI tr), .int (zI lf)]))] [] sz) (kQS (fun rz t => (rz = -10 - f) ∧ va_P D vwCl [(h0, .inr (8, [.ref sh, .ref rd, .ref fr, .ref wr, .ref pf, .ref rc, .ref se, .ref rs, .ref sw, .ref sp, .ref ss, .int (zI ew), .long wc, .int (zI tr), .int (zI f)]))] t.heap ∧ va_D (va_A [(h0, .inr (8, [.ref sh, .ref rd, .ref fr, .ref wr, .ref pf, .ref rc, .ref se, .ref rs, .ref sw, .ref sp, .ref ss, .int (zI ew), .long wc, .int (zI tr), .int (zI lf)]))] sz) [(h0, .inr (8, [.ref sh, .ref rd, .ref fr, .ref wr, .ref pf, .ref rc, .ref se, .ref rs, .ref sw, .ref sp, .ref ss, .int (zI ew), .long wc, .int (zI tr), .int (zI f)]))]) (va_A [(h0, .inr (8, [.ref sh, .ref rd, .ref fr, .ref wr, .ref pf, .ref rc, .ref se, .ref rs, .ref sw, .ref sp, .ref ss, .int (zI ew), .long wc, .int (zI tr), .int (zI lf)]))] sz)) 0 0 (va_A [(h0, .inr (8, [.ref sh, .ref rd, .ref fr, .ref wr, .ref pf, .ref rc, .ref se, .ref rs, .ref sw, .ref sp, .ref ss, .int (zI ew), .long wc, .int (zI tr), .int (zI lf)]))] sz) := by
  refine Met.ofW (cc := cX8_failWith) (maxL := 2) (ret := (some .int)) (by decide) rfl ?_
  intro p e s m args below meth c s₁ B hml hv
  obtain ⟨rfl, hsz, hP, hK, hD0, hN⟩ := hv
  have hx := B.exec
  have hb := B.bytes
  have hr := B.returns
  have hts := atoms_spec (ws := wsX8_failWith) B.pre
  have hown : s.vm.findClass RX8 = some m.cls := findClass_of_methodNamed B.named
  have hlocks := B.notSynchronized
  subst hsz
  have hD := hD0.self (sz := s.heap.size)
  generalize hAe : va_A [(h0, .inr (8, [.ref sh, .ref rd, .ref fr, .ref wr, .ref pf, .ref rc, .ref se, .ref rs, .ref sw, .ref sp, .ref ss, .int (zI ew), .long wc, .int (zI tr), .int (zI lf)]))] s.heap.size = A at hD ⊢
  have hA : ∀ q : Nat, s.heap.size ≤ q → A q := fun q h => by rw [← hAe]; exact Or.inr h
  have hS : va_S A s.heap s.heap [] := va_S.rf
  have hP : va_P D vwCl [(h0, .inr (8, [.ref sh, .ref rd, .ref fr, .ref wr, .ref pf, .ref rc, .ref se, .ref rs, .ref sw, .ref sp, .ref ss, .int (zI ew), .long wc, .int (zI tr), .int (zI lf)]))] s.heap := hP
  have hl := lv_entry ([.ref h0, .int (zI f)]) (n := 2) (Nat.le_of_ble_eq_true rfl)
  rw [lg_entry_eq]
  generalize (lg_sl ([.ref h0, .int (zI f)]) ++ List.replicate (2 - (lg_sl ([.ref h0, .int (zI f)])).length) Slot.unset).toArray = ls at hl ⊢
  have hl : lv_has ls 2 [(0, .ref h0), (1, .int (zI f))] := hl
  refine lv_aload_n hx hb dX8_failWith_0 rfl (lv_at hl 0 rfl) ?_
  refine lv_iload_n hx hb dX8_failWith_1 rfl (lv_at hl 1 rfl) ?_
  refine va_put (D := D) (ci := 8) (v := .int (zI f)) (ty := .int) (C := RX8) (T := TX8) (N := 15) hx hb hts (fun _ h9 => List.mem_cons_of_mem _ (List.mem_append_right _ h9)) tyX8 tyX8_ok nmX8 hown hK hP hD hS 0 rfl rfl 14 (by decide) (hts (.fieldLink RX8 76 "FontRuns" "latestFault" "I") mw_X8_failWith_0) (fun _ h9 => h9) rfl (by decide +kernel) rfl rfl (Nat.le_of_ble_eq_true rfl) dX8_failWith_2 (fun H locs hP hD hS => ?_)
  have hP : va_P D vwCl [(h0, .inr (8, [.ref sh, .ref rd, .ref fr, .ref wr, .ref pf, .ref rc, .ref se, .ref rs, .ref sw, .ref sp, .ref ss, .int (zI ew), .long wc, .int (zI tr), .int (zI f)]))] H := hP
  have hD : va_D A [(h0, .inr (8, [.ref sh, .ref rd, .ref fr, .ref wr, .ref pf, .ref rc, .ref se, .ref rs, .ref sw, .ref sp, .ref ss, .int (zI ew), .long wc, .int (zI tr), .int (zI f)]))] := hD
  refine lv_bipush (v := zI (-10)) hx hb dX8_failWith_5 (by decide) ?_
  refine lv_iload_n hx hb dX8_failWith_7 rfl (lv_at hl 1 rfl) ?_
  refine kz_isub hx hb dX8_failWith_8 ?_
  have hP9 := hP.sub (ws' := [(h0, .inr (8, [.ref sh, .ref rd, .ref fr, .ref wr, .ref pf, .ref rc, .ref se, .ref rs, .ref sw, .ref sp, .ref ss, .int (zI ew), .long wc, .int (zI tr), .int (zI f)]))]) [0] rfl
  have hD9 := hD.sub (ws' := [(h0, .inr (8, [.ref sh, .ref rd, .ref fr, .ref wr, .ref pf, .ref rc, .ref se, .ref rs, .ref sw, .ref sp, .ref ss, .int (zI ew), .long wc, .int (zI tr), .int (zI f)]))]) [0] (by decide +kernel) rfl
  exact W.iret (v := (zI ((-10) - f))) hx hb hr (fun t ht hW => kQS_of (by omega) ⟨(by omega), by rw [ht]; exact hP9, hD9⟩ (hS.F ht)) hS.2.2 dX8_failWith_9
theorem dX8_areLetters_0 : decode cX8_areLetters 0 = .ok (.iconst 0, 1) := by decide +kernel
theorem dX8_areLetters_1 : decode cX8_areLetters 1 = .ok (.istore_n 3, 1) := by decide +kernel
theorem dX8_areLetters_2 : decode cX8_areLetters 2 = .ok (.iload_n 3, 1) := by decide +kernel
theorem dX8_areLetters_3 : decode cX8_areLetters 3 = .ok (.iload_n 2, 1) := by decide +kernel
theorem dX8_areLetters_4 : decode cX8_areLetters 4 = .ok (.if_icmp .ge 27, 3) := by decide +kernel
theorem dX8_areLetters_7 : decode cX8_areLetters 7 = .ok (.aload_n 0, 1) := by decide +kernel
theorem dX8_areLetters_8 : decode cX8_areLetters 8 = .ok (.iload_n 1, 1) := by decide +kernel
theorem dX8_areLetters_9 : decode cX8_areLetters 9 = .ok (.iload_n 3, 1) := by decide +kernel
theorem dX8_areLetters_10 : decode cX8_areLetters 10 = .ok (.iadd, 1) := by decide +kernel
theorem dX8_areLetters_11 : decode cX8_areLetters 11 = .ok (.invokevirtual 157, 3) := by decide +kernel
theorem dX8_areLetters_14 : decode cX8_areLetters 14 = .ok (.iconst 0, 1) := by decide +kernel
theorem dX8_areLetters_15 : decode cX8_areLetters 15 = .ok (.bipush 15, 2) := by decide +kernel
theorem dX8_areLetters_17 : decode cX8_areLetters 17 = .ok (.invokestatic 128, 3) := by decide +kernel
theorem dX8_areLetters_20 : decode cX8_areLetters 20 = .ok (.ifCond .ne 5, 3) := by decide +kernel
theorem dX8_areLetters_23 : decode cX8_areLetters 23 = .ok (.iconst 0, 1) := by decide +kernel
theorem dX8_areLetters_24 : decode cX8_areLetters 24 = .ok (.ireturn, 1) := by decide +kernel
theorem dX8_areLetters_25 : decode cX8_areLetters 25 = .ok (.iinc 3 1, 3) := by decide +kernel
theorem dX8_areLetters_28 : decode cX8_areLetters 28 = .ok (.goto (-26), 3) := by decide +kernel
theorem dX8_areLetters_31 : decode cX8_areLetters 31 = .ok (.iconst 1, 1) := by decide +kernel
theorem dX8_areLetters_32 : decode cX8_areLetters 32 = .ok (.ireturn, 1) := by decide +kernel
set_option maxRecDepth 20000 in
theorem ggX8_areLetters_X5_at : GoodIn wsX8_areLetters wsX5_at := goodIn_4 _ (List.forall_mem_cons.mpr ⟨List.mem_cons_of_mem _ (List.mem_append_left _ (List.mem_of_getElem? (i := 4) rfl)), List.forall_mem_append.mpr ⟨List.forall_mem_cons.mpr ⟨List.mem_cons_of_mem _ (List.mem_append_left _ (List.mem_of_getElem? (i := 5) rfl)), List.forall_mem_cons.mpr ⟨List.mem_cons_of_mem _ (List.mem_append_left _ (List.mem_of_getElem? (i := 6) rfl)), List.forall_mem_cons.mpr ⟨List.mem_cons_of_mem _ (List.mem_append_left _ (List.mem_of_getElem? (i := 7) rfl)), List.forall_mem_cons.mpr ⟨List.mem_cons_of_mem _ (List.mem_append_left _ (List.mem_of_getElem? (i := 8) rfl)), List.forall_mem_cons.mpr ⟨List.mem_cons_of_mem _ (List.mem_append_left _ (List.mem_of_getElem? (i := 3) rfl)), List.forall_mem_cons.mpr ⟨List.mem_cons_of_mem _ (List.mem_append_left _ (List.mem_of_getElem? (i := 9) rfl)), List.forall_mem_cons.mpr ⟨List.mem_cons_of_mem _ (List.mem_append_left _ (List.mem_of_getElem? (i := 10) rfl)), List.forall_mem_cons.mpr ⟨List.mem_cons_of_mem _ (List.mem_append_left _ (List.mem_of_getElem? (i := 11) rfl)), List.forall_mem_cons.mpr ⟨List.mem_cons_of_mem _ (List.mem_append_left _ (List.mem_of_getElem? (i := 12) rfl)), List.forall_mem_cons.mpr ⟨List.mem_cons_of_mem _ (List.mem_append_left _ (List.mem_of_getElem? (i := 13) rfl)), List.forall_mem_cons.mpr ⟨List.mem_cons_of_mem _ (List.mem_append_left _ (List.mem_of_getElem? (i := 14) rfl)), fun _ h9 => absurd h9 List.not_mem_nil⟩⟩⟩⟩⟩⟩⟩⟩⟩⟩⟩, fun w h9 => List.mem_cons_of_mem _ (List.mem_append_right _ (h9))⟩⟩) (by decide +kernel)
set_option maxRecDepth 20000 in
theorem gX8_areLetters_X5_at : GoodIn wsX8_areLetters (wsV RX8 157 RX5 yX5_at wsX5_at) := goodIn_app (goodIn_4 _ (List.forall_mem_cons.mpr ⟨List.mem_cons_of_mem _ (List.mem_append_left _ (List.mem_of_getElem? (i := 0) rfl)), List.forall_mem_cons.mpr ⟨List.mem_cons_of_mem _ (List.mem_append_left _ (List.mem_of_getElem? (i := 1) rfl)), List.forall_mem_cons.mpr ⟨List.mem_cons_of_mem _ (List.mem_append_left _ (List.mem_of_getElem? (i := 2) rfl)), List.forall_mem_cons.mpr ⟨List.mem_cons_of_mem _ (List.mem_append_left _ (List.mem_of_getElem? (i := 3) rfl)), fun _ h9 => absurd h9 List.not_mem_nil⟩⟩⟩⟩) (by decide +kernel)) ggX8_areLetters_X5_at
set_option maxRecDepth 20000 in
theorem ggX8_areLetters_X8_isWithin : GoodIn wsX8_areLetters wsX8_isWithin := goodIn_4 _ (List.forall_mem_cons.mpr ⟨List.mem_cons_of_mem _ (List.mem_append_left _ (List.mem_of_getElem? (i := 14) rfl)), fun _ h9 => absurd h9 List.not_mem_nil⟩) (by decide +kernel)
set_option maxRecDepth 20000 in
theorem gX8_areLetters_X8_isWithin : GoodIn wsX8_areLetters (va_wsS RX8 128 yX8_isWithin wsX8_isWithin) := goodIn_app (goodIn_4 _ (List.forall_mem_cons.mpr ⟨List.mem_cons_of_mem _ (List.mem_append_left _ (List.mem_of_getElem? (i := 15) rfl)), List.forall_mem_cons.mpr ⟨List.mem_cons_of_mem _ (List.mem_append_left _ (List.mem_of_getElem? (i := 12) rfl)), List.forall_mem_cons.mpr ⟨List.mem_cons_of_mem _ (List.mem_append_left _ (List.mem_of_getElem? (i := 13) rfl)), fun _ h9 => absurd h9 List.not_mem_nil⟩⟩⟩) (by decide +kernel)) ggX8_areLetters_X8_isWithin
theorem ax_X8_areLetters_0 {e0 e1 : Nat × va_E} : ([0, 1] : List Nat).map (fun i => ([e0, e1] : va_W)[i]?) = ([e0, e1] : va_W).map some := rfl
theorem ax_X8_areLetters_1 {e0 e1 : Nat × va_E} : ([] : List Nat).map (fun i => ([e0, e1] : va_W)[i]?) = ([] : va_W).map some := rfl
set_option maxHeartbeats 4000000 in
set_option maxRecDepth 100000 in
theorem c_X8_areLetters (l : Launch) (D : va_G) (sz : Nat) (ro : Nat) (i : Int) (k : Int) (r1 : Nat) (th : Int) (la : Int) (sz0 : Int) (cr1 : ClassId) (fr : Nat → Int32) (q0 : 0 ≤ i ∧ 0 ≤ k ∧ i + k ≤ 60) (q1 : th = 0 ∨ th = 1) (q2 : rg la) (q3 : 0 ≤ sz0 ∧ sz0 ≤ 60) : Met l yX8_areLetters wsX8_areLetters ({ frames := 3, cells := 0, slots := 0, locals := 64 }) (kPre [.ref ro, .int (zI i), .int (zI k)] D [(ro, .inr (5, [.ref r1, .int (zI th), .int (zI la), .int (zI sz0)])), (r1, .inl (cr1, 60, .inl fr))] [(cr1, .int)] sz) (QcP (fun rz => True)) 0 0 (fun _ => False) := by
  refine Met.ofW (cc := cX8_areLetters) (maxL := 4) (ret := (some .boolean)) (by decide) rfl ?_
  intro p e s m args below meth c s₁ B hml hv
  obtain ⟨rfl, hsz, hP, hK, hD0, hN⟩ := hv
  have hx := B.exec
  have hb := B.bytes
  have hr := B.returns
  have hts := atoms_spec (ws := wsX8_areLetters) B.pre
  have hown : s.vm.findClass RX8 = some m.cls := findClass_of_methodNamed B.named
  have hlocks := B.notSynchronized
  subst hsz
  have hD := hD0
  have hP : va_P D vwCl [(ro, .inr (5, [.ref r1, .int (zI th), .int (zI la), .int (zI sz0)])), (r1, .inl (cr1, 60, .inl fr))] s.heap := hP
  have hl := lv_entry ([.ref ro, .int (zI i), .int (zI k)]) (n := 4) (Nat.le_of_ble_eq_true rfl)
  rw [lg_entry_eq]
  generalize (lg_sl ([.ref ro, .int (zI i), .int (zI k)]) ++ List.replicate (4 - (lg_sl ([.ref ro, .int (zI i), .int (zI k)])).length) Slot.unset).toArray = ls at hl ⊢
  have hl : lv_has ls 4 [(0, .ref ro), (1, .int (zI i)), (2, .int (zI k))] := hl
  refine lv_iconst (v := zI 0) hx hb dX8_areLetters_0 rfl ?_
  refine lv_istore_n (lv' := [(3, .int (zI 0)), (0, .ref ro), (1, .int (zI i)), (2, .int (zI k))]) hx hb dX8_areLetters_1 rfl hl (by decide) rfl (fun ls hl => ?_)
  refine k_loopM (I := fun n9 H locs ls => ∃ (jk : Int), n9 = (k - jk).toNat ∧ (0 ≤ jk ∧ jk ≤ k) ∧ H = s.heap ∧ locs = [] ∧ lv_has ls 4 [(3, .int (zI jk)), (0, .ref ro), (1, .int (zI i)), (2, .int (zI k))]) ?_ _ ⟨0, rfl, (by omega), rfl, rfl, hl⟩
  intro n2 ih2 H locs ls hI
  obtain ⟨jk, en2, v_20, eH, eL, hl⟩ := hI
  subst eH
  subst eL
  refine lv_iload_n hx hb dX8_areLetters_2 rfl (lv_at hl 0 rfl) ?_
  refine lv_iload_n hx hb dX8_areLetters_3 rfl (lv_at hl 3 rfl) ?_
  refine kz_icmp_ge (tgt := 31) hx hb dX8_areLetters_4 (by decide) (by omega) (by omega) (fun c_1 => ?_) (fun c_1 => ?_)
  · refine lv_iconst (v := zI 1) hx hb dX8_areLetters_31 rfl ?_
    exact W.zret (v := (zI 1)) hx hb hr rfl (fun t ht hW => QcP_of (by omega) trivial ht) (fun _ h9 => by cases h9) dX8_areLetters_32
  · refine lv_aload_n hx hb dX8_areLetters_7 rfl (lv_at hl 1 rfl) ?_
    refine lv_iload_n hx hb dX8_areLetters_8 rfl (lv_at hl 2 rfl) ?_
    refine lv_iload_n hx hb dX8_areLetters_9 rfl (lv_at hl 0 rfl) ?_
    refine kz_iadd hx hb dX8_areLetters_10 ?_
    refine k_callP (va_runV (As := [.int (zI (i + jk))]) (rest := []) ⟨hx, hb, hml, hown, hts⟩ (c_X5_at l D s.heap.size (i := (i + jk)) (h0 := ro) (r1 := r1) (th := th) (la := la) (n := sz0) (cr1 := cr1) (fr := fr) (by omega) q1 q2 q3) (cwV 1 hts gX8_areLetters_X5_at rfl rfl rfl (by decide +kernel) ⟨Nat.le_of_ble_eq_true rfl, Nat.le_of_ble_eq_true rfl⟩) (kPreV hP (kD0 hD) hK hN [0, 1] [0] ax_X8_areLetters_0 rfl (by decide +kernel) 0 5 rfl rfl) rfl rfl hl.1 rfl (lv_room (Nat.le_of_ble_eq_true rfl)) dX8_areLetters_11 ⟨Nat.le_of_ble_eq_true rfl, Nat.le_of_ble_eq_true rfl⟩) (fun z_2 rz_2 h_3 => ?_)
    refine lv_iconst (v := zI 0) hx hb dX8_areLetters_14 rfl ?_
    refine lv_bipush (v := zI 15) hx hb dX8_areLetters_15 (by decide) ?_
    refine k_callR (va_runS (As := [.int (zI z_2), .int (zI 0), .int (zI 15)]) (rest := []) ⟨hx, hb, hml, hown, hts⟩ (c_X8_isWithin l D s.heap.size (v := z_2) (a := 0) (b := 15) (by omega) (by omega) (by omega)) (va_cwS 3 hts gX8_areLetters_X8_isWithin rfl rfl rfl (by decide +kernel) ⟨Nat.le_of_ble_eq_true rfl, Nat.le_of_ble_eq_true rfl⟩) (kPreS hP (kD0 hD) hK hN [] [] ax_X8_areLetters_1 rfl (by decide +kernel)) rfl rfl hl.1 rfl (lv_room (Nat.le_of_ble_eq_true rfl)) dX8_areLetters_17 ⟨Nat.le_of_ble_eq_true rfl, Nat.le_of_ble_eq_true rfl⟩) ?_
    refine lv_if_ne (tgt := 25) hx hb dX8_areLetters_20 (by decide) (fun c_4 => ?_) (fun c_4 => ?_)
    · have c_4 : 0 ≤ z_2 ∧ z_2 ≤ 15 := b01t c_4
      refine lv_iinc (v := (zI (jk + 1))) (lv' := [(3, .int (zI (jk + 1))), (0, .ref ro), (1, .int (zI i)), (2, .int (zI k))]) hx hb dX8_areLetters_25 hl (k := 0) rfl (kz_inc _ 1) (by decide) rfl (fun ls hl => ?_)
      refine lv_goto (tgt := 2) hx hb dX8_areLetters_28 (by decide) ?_
      exact ih2 _ (by omega) _ _ _ ⟨(jk + 1), rfl, (by omega), rfl, rfl, lv_sub hl [0, 1, 2, 3] rfl⟩
    · have c_4 : ¬ (0 ≤ z_2 ∧ z_2 ≤ 15) := b01f c_4
      refine lv_iconst (v := zI 0) hx hb dX8_areLetters_23 rfl ?_
      exact W.zret (v := (zI 0)) hx hb hr rfl (fun t ht hW => QcP_of (by omega) trivial ht) (fun _ h9 => by cases h9) dX8_areLetters_24
theorem dX8_areActs_0 : decode cX8_areActs 0 = .ok (.iconst 0, 1) := by decide +kernel
theorem dX8_areActs_1 : decode cX8_areActs 1 = .ok (.istore_n 3, 1) := by decide +kernel
theorem dX8_areActs_2 : decode cX8_areActs 2 = .ok (.iload_n 3, 1) := by decide +kernel
theorem dX8_areActs_3 : decode cX8_areActs 3 = .ok (.iload_n 2, 1) := by decide +kernel
theorem dX8_areActs_4 : decode cX8_areActs 4 = .ok (.if_icmp .ge 37, 3) := by decide +kernel
theorem dX8_areActs_7 : decode cX8_areActs 7 = .ok (.aload_n 0, 1) := by decide +kernel
theorem dX8_areActs_8 : decode cX8_areActs 8 = .ok (.iload_n 1, 1) := by decide +kernel
theorem dX8_areActs_9 : decode cX8_areActs 9 = .ok (.iconst 2, 1) := by decide +kernel
theorem dX8_areActs_10 : decode cX8_areActs 10 = .ok (.iload_n 3, 1) := by decide +kernel
theorem dX8_areActs_11 : decode cX8_areActs 11 = .ok (.imul, 1) := by decide +kernel
theorem dX8_areActs_12 : decode cX8_areActs 12 = .ok (.iadd, 1) := by decide +kernel
theorem dX8_areActs_13 : decode cX8_areActs 13 = .ok (.invokevirtual 157, 3) := by decide +kernel
theorem dX8_areActs_16 : decode cX8_areActs 16 = .ok (.aload_n 0, 1) := by decide +kernel
theorem dX8_areActs_17 : decode cX8_areActs 17 = .ok (.iload_n 1, 1) := by decide +kernel
theorem dX8_areActs_18 : decode cX8_areActs 18 = .ok (.iconst 2, 1) := by decide +kernel
theorem dX8_areActs_19 : decode cX8_areActs 19 = .ok (.iload_n 3, 1) := by decide +kernel
theorem dX8_areActs_20 : decode cX8_areActs 20 = .ok (.imul, 1) := by decide +kernel
theorem dX8_areActs_21 : decode cX8_areActs 21 = .ok (.iadd, 1) := by decide +kernel
theorem dX8_areActs_22 : decode cX8_areActs 22 = .ok (.iconst 1, 1) := by decide +kernel
theorem dX8_areActs_23 : decode cX8_areActs 23 = .ok (.iadd, 1) := by decide +kernel
theorem dX8_areActs_24 : decode cX8_areActs 24 = .ok (.invokevirtual 157, 3) := by decide +kernel
theorem dX8_areActs_27 : decode cX8_areActs 27 = .ok (.invokestatic 235, 3) := by decide +kernel
theorem dX8_areActs_30 : decode cX8_areActs 30 = .ok (.ifCond .ne 5, 3) := by decide +kernel
theorem dX8_areActs_33 : decode cX8_areActs 33 = .ok (.iconst 0, 1) := by decide +kernel
theorem dX8_areActs_34 : decode cX8_areActs 34 = .ok (.ireturn, 1) := by decide +kernel
theorem dX8_areActs_35 : decode cX8_areActs 35 = .ok (.iinc 3 1, 3) := by decide +kernel
theorem dX8_areActs_38 : decode cX8_areActs 38 = .ok (.goto (-36), 3) := by decide +kernel
theorem dX8_areActs_41 : decode cX8_areActs 41 = .ok (.iconst 1, 1) := by decide +kernel
theorem dX8_areActs_42 : decode cX8_areActs 42 = .ok (.ireturn, 1) := by decide +kernel
set_option maxRecDepth 20000 in
theorem ggX8_areActs_X5_at : GoodIn wsX8_areActs wsX5_at := goodIn_4 _ (List.forall_mem_cons.mpr ⟨List.mem_cons_of_mem _ (List.mem_append_left _ (List.mem_of_getElem? (i := 4) rfl)), List.forall_mem_append.mpr ⟨List.forall_mem_cons.mpr ⟨List.mem_cons_of_mem _ (List.mem_append_left _ (List.mem_of_getElem? (i := 5) rfl)), List.forall_mem_cons.mpr ⟨List.mem_cons_of_mem _ (List.mem_append_left _ (List.mem_of_getElem? (i := 6) rfl)), List.forall_mem_cons.mpr ⟨List.mem_cons_of_mem _ (List.mem_append_left _ (List.mem_of_getElem? (i := 7) rfl)), List.forall_mem_cons.mpr ⟨List.mem_cons_of_mem _ (List.mem_append_left _ (List.mem_of_getElem? (i := 8) rfl)), List.forall_mem_cons.mpr ⟨List.mem_cons_of_mem _ (List.mem_append_left _ (List.mem_of_getElem? (i := 3) rfl)), List.forall_mem_cons.mpr ⟨List.mem_cons_of_mem _ (List.mem_append_left _ (List.mem_of_getElem? (i := 9) rfl)), List.forall_mem_cons.mpr ⟨List.mem_cons_of_mem _ (List.mem_append_left _ (List.mem_of_getElem? (i := 10) rfl)), List.forall_mem_cons.mpr ⟨List.mem_cons_of_mem _ (List.mem_append_left _ (List.mem_of_getElem? (i := 11) rfl)), List.forall_mem_cons.mpr ⟨List.mem_cons_of_mem _ (List.mem_append_left _ (List.mem_of_getElem? (i := 12) rfl)), List.forall_mem_cons.mpr ⟨List.mem_cons_of_mem _ (List.mem_append_left _ (List.mem_of_getElem? (i := 13) rfl)), List.forall_mem_cons.mpr ⟨List.mem_cons_of_mem _ (List.mem_append_left _ (List.mem_of_getElem? (i := 14) rfl)), fun _ h9 => absurd h9 List.not_mem_nil⟩⟩⟩⟩⟩⟩⟩⟩⟩⟩⟩, fun w h9 => List.mem_cons_of_mem _ (List.mem_append_right _ (h9))⟩⟩) (by decide +kernel)
set_option maxRecDepth 20000 in
theorem gX8_areActs_X5_at : GoodIn wsX8_areActs (wsV RX8 157 RX5 yX5_at wsX5_at) := goodIn_app (goodIn_4 _ (List.forall_mem_cons.mpr ⟨List.mem_cons_of_mem _ (List.mem_append_left _ (List.mem_of_getElem? (i := 0) rfl)), List.forall_mem_cons.mpr ⟨List.mem_cons_of_mem _ (List.mem_append_left _ (List.mem_of_getElem? (i := 1) rfl)), List.forall_mem_cons.mpr ⟨List.mem_cons_of_mem _ (List.mem_append_left _ (List.mem_of_getElem? (i := 2) rfl)), List.forall_mem_cons.mpr ⟨List.mem_cons_of_mem _ (List.mem_append_left _ (List.mem_of_getElem? (i := 3) rfl)), fun _ h9 => absurd h9 List.not_mem_nil⟩⟩⟩⟩) (by decide +kernel)) ggX8_areActs_X5_at
set_option maxRecDepth 20000 in
theorem ggX8_areActs_X8_isAct : GoodIn wsX8_areActs wsX8_isAct := goodIn_4 _ (List.forall_mem_cons.mpr ⟨List.mem_cons_of_mem _ (List.mem_append_left _ (List.mem_of_getElem? (i := 17) rfl)), List.forall_mem_cons.mpr ⟨List.mem_cons_of_mem _ (List.mem_append_left _ (List.mem_of_getElem? (i := 18) rfl)), List.forall_mem_cons.mpr ⟨List.mem_cons_of_mem _ (List.mem_append_left _ (List.mem_of_getElem? (i := 12) rfl)), List.forall_mem_cons.mpr ⟨List.mem_cons_of_mem _ (List.mem_append_left _ (List.mem_of_getElem? (i := 13) rfl)), List.forall_mem_cons.mpr ⟨List.mem_cons_of_mem _ (List.mem_append_left _ (List.mem_of_getElem? (i := 14) rfl)), fun _ h9 => absurd h9 List.not_mem_nil⟩⟩⟩⟩⟩) (by decide +kernel)
set_option maxRecDepth 20000 in
theorem gX8_areActs_X8_isAct : GoodIn wsX8_areActs (va_wsS RX8 235 yX8_isAct wsX8_isAct) := goodIn_app (goodIn_4 _ (List.forall_mem_cons.mpr ⟨List.mem_cons_of_mem _ (List.mem_append_left _ (List.mem_of_getElem? (i := 15) rfl)), List.forall_mem_cons.mpr ⟨List.mem_cons_of_mem _ (List.mem_append_left _ (List.mem_of_getElem? (i := 16) rfl)), List.forall_mem_cons.mpr ⟨List.mem_cons_of_mem _ (List.mem_append_left _ (List.mem_of_getElem? (i := 13) rfl)), fun _ h9 => absurd h9 List.not_mem_nil⟩⟩⟩) (by decide +kernel)) ggX8_areActs_X8_isAct
theorem ax_X8_areActs_0 {e0 e1 : Nat × va_E} : ([0, 1] : List Nat).map (fun i => ([e0, e1] : va_W)[i]?) = ([e0, e1] : va_W).map some := rfl
theorem ax_X8_areActs_1 {e0 e1 : Nat × va_E} : ([] : List Nat).map (fun i => ([e0, e1] : va_W)[i]?) = ([] : va_W).map some := rfl
set_option maxHeartbeats 4000000 in
set_option maxRecDepth 100000 in
theorem c_X8_areActs (l : Launch) (D : va_G) (sz : Nat) (ro : Nat) (i : Int) (k : Int) (r1 : Nat) (th : Int) (la : Int) (sz0 : Int) (cr1 : ClassId) (fr : Nat → Int32) (q0 : 0 ≤ i ∧ 0 ≤ k ∧ i + 2 * k ≤ 60) (q1 : th = 0 ∨ th = 1) (q2 : rg la) (q3 : 0 ≤ sz0 ∧ sz0 ≤ 60) : Met l yX8_areActs wsX8_areActs ({ frames := 3, cells := 0, slots := 0, locals := 64 }) (kPre [.ref ro, .int (zI i), .int (zI k)] D [(ro, .inr (5, [.ref r1, .int (zI th), .int (zI la), .int (zI sz0)])), (r1, .inl (cr1, 60, .inl fr))] [(cr1, .int)] sz) (QcP (fun rz => True)) 0 0 (fun _ => False) := by
  refine Met.ofW (cc := cX8_areActs) (maxL := 4) (ret := (some .boolean)) (by decide) rfl ?_
  intro p e s m args below meth c s₁ B hml hv
  obtain ⟨rfl, hsz, hP, hK, hD0, hN⟩ := hv
  have hx := B.exec
  have hb := B.bytes
  have hr := B.returns
  have hts := atoms_spec (ws := wsX8_areActs) B.pre
  have hown : s.vm.findClass RX8 = some m.cls := findClass_of_methodNamed B.named
  have hlocks := B.notSynchronized
  subst hsz
  have hD := hD0
  have hP : va_P D vwCl [(ro, .inr (5, [.ref r1, .int (zI th), .int (zI la), .int (zI sz0)])), (r1, .inl (cr1, 60, .inl fr))] s.heap := hP
  have hl := lv_entry ([.ref ro, .int (zI i), .int (zI k)]) (n := 4) (Nat.le_of_ble_eq_true rfl)
  rw [lg_entry_eq]
  generalize (lg_sl ([.ref ro, .int (zI i), .int (zI k)]) ++ List.replicate (4 - (lg_sl ([.ref ro, .int (zI i), .int (zI k)])).length) Slot.unset).toArray = ls at hl ⊢
  have hl : lv_has ls 4 [(0, .ref ro), (1, .int (zI i)), (2, .int (zI k))] := hl
  refine lv_iconst (v := zI 0) hx hb dX8_areActs_0 rfl ?_
  refine lv_istore_n (lv' := [(3, .int (zI 0)), (0, .ref ro), (1, .int (zI i)), (2, .int (zI k))]) hx hb dX8_areActs_1 rfl hl (by decide) rfl (fun ls hl => ?_)
  refine k_loopM (I := fun n9 H locs ls => ∃ (jk : Int), n9 = (k - jk).toNat ∧ (0 ≤ jk ∧ jk ≤ k) ∧ H = s.heap ∧ locs = [] ∧ lv_has ls 4 [(3, .int (zI jk)), (0, .ref ro), (1, .int (zI i)), (2, .int (zI k))]) ?_ _ ⟨0, rfl, (by omega), rfl, rfl, hl⟩
  intro n2 ih2 H locs ls hI
  obtain ⟨jk, en2, v_20, eH, eL, hl⟩ := hI
  subst eH
  subst eL
  refine lv_iload_n hx hb dX8_areActs_2 rfl (lv_at hl 0 rfl) ?_
  refine lv_iload_n hx hb dX8_areActs_3 rfl (lv_at hl 3 rfl) ?_
  refine kz_icmp_ge (tgt := 41) hx hb dX8_areActs_4 (by decide) (by omega) (by omega) (fun c_1 => ?_) (fun c_1 => ?_)
  · refine lv_iconst (v := zI 1) hx hb dX8_areActs_41 rfl ?_
    exact W.zret (v := (zI 1)) hx hb hr rfl (fun t ht hW => QcP_of (by omega) trivial ht) (fun _ h9 => by cases h9) dX8_areActs_42
  · refine lv_aload_n hx hb dX8_areActs_7 rfl (lv_at hl 1 rfl) ?_
    refine lv_iload_n hx hb dX8_areActs_8 rfl (lv_at hl 2 rfl) ?_
    refine lv_iconst (v := zI 2) hx hb dX8_areActs_9 rfl ?_
    refine lv_iload_n hx hb dX8_areActs_10 rfl (lv_at hl 0 rfl) ?_
    refine kz_imul hx hb dX8_areActs_11 ?_
    refine kz_iadd hx hb dX8_areActs_12 ?_
    refine k_callP (va_runV (As := [.int (zI (i + (2 * jk)))]) (rest := []) ⟨hx, hb, hml, hown, hts⟩ (c_X5_at l D s.heap.size (i := (i + (2 * jk))) (h0 := ro) (r1 := r1) (th := th) (la := la) (n := sz0) (cr1 := cr1) (fr := fr) (by omega) q1 q2 q3) (cwV 1 hts gX8_areActs_X5_at rfl rfl rfl (by decide +kernel) ⟨Nat.le_of_ble_eq_true rfl, Nat.le_of_ble_eq_true rfl⟩) (kPreV hP (kD0 hD) hK hN [0, 1] [0] ax_X8_areActs_0 rfl (by decide +kernel) 0 5 rfl rfl) rfl rfl hl.1 rfl (lv_room (Nat.le_of_ble_eq_true rfl)) dX8_areActs_13 ⟨Nat.le_of_ble_eq_true rfl, Nat.le_of_ble_eq_true rfl⟩) (fun z_2 rz_2 h_3 => ?_)
    refine lv_aload_n hx hb dX8_areActs_16 rfl (lv_at hl 1 rfl) ?_
    refine lv_iload_n hx hb dX8_areActs_17 rfl (lv_at hl 2 rfl) ?_
    refine lv_iconst (v := zI 2) hx hb dX8_areActs_18 rfl ?_
    refine lv_iload_n hx hb dX8_areActs_19 rfl (lv_at hl 0 rfl) ?_
    refine kz_imul hx hb dX8_areActs_20 ?_
    refine kz_iadd hx hb dX8_areActs_21 ?_
    refine lv_iconst (v := zI 1) hx hb dX8_areActs_22 rfl ?_
    refine kz_iadd hx hb dX8_areActs_23 ?_
    refine k_callP (va_runV (As := [.int (zI ((i + (2 * jk)) + 1))]) (rest := [.int (zI z_2)]) ⟨hx, hb, hml, hown, hts⟩ (c_X5_at l D s.heap.size (i := ((i + (2 * jk)) + 1)) (h0 := ro) (r1 := r1) (th := th) (la := la) (n := sz0) (cr1 := cr1) (fr := fr) (by omega) q1 q2 q3) (cwV 1 hts gX8_areActs_X5_at rfl rfl rfl (by decide +kernel) ⟨Nat.le_of_ble_eq_true rfl, Nat.le_of_ble_eq_true rfl⟩) (kPreV hP (kD0 hD) hK hN [0, 1] [0] ax_X8_areActs_0 rfl (by decide +kernel) 0 5 rfl rfl) rfl rfl hl.1 rfl (lv_room (Nat.le_of_ble_eq_true rfl)) dX8_areActs_24 ⟨Nat.le_of_ble_eq_true rfl, Nat.le_of_ble_eq_true rfl⟩) (fun z_4 rz_4 h_5 => ?_)
    refine k_callR (va_runS (As := [.int (zI z_2), .int (zI z_4)]) (rest := []) ⟨hx, hb, hml, hown, hts⟩ (c_X8_isAct l D s.heap.size (k := z_2) (a := z_4) (by omega) (by omega)) (va_cwS 2 hts gX8_areActs_X8_isAct rfl rfl rfl (by decide +kernel) ⟨Nat.le_of_ble_eq_true rfl, Nat.le_of_ble_eq_true rfl⟩) (kPreS hP (kD0 hD) hK hN [] [] ax_X8_areActs_1 rfl (by decide +kernel)) rfl rfl hl.1 rfl (lv_room (Nat.le_of_ble_eq_true rfl)) dX8_areActs_27 ⟨Nat.le_of_ble_eq_true rfl, Nat.le_of_ble_eq_true rfl⟩) ?_
    refine lv_if_ne (tgt := 35) hx hb dX8_areActs_30 (by decide) (fun c_6 => ?_) (fun c_6 => ?_)
    · have c_6 : (z_4 = 20 ∧ 0 ≤ z_2 ∧ z_2 ≤ 15) ∨ (z_4 = 21 ∧ 0 ≤ z_2 ∧ z_2 ≤ 24) ∨ (z_4 = 22 ∧ 0 ≤ z_2 ∧ z_2 ≤ 3) := b01t c_6
      refine lv_iinc (v := (zI (jk + 1))) (lv' := [(3, .int (zI (jk + 1))), (0, .ref ro), (1, .int (zI i)), (2, .int (zI k))]) hx hb dX8_areActs_35 hl (k := 0) rfl (kz_inc _ 1) (by decide) rfl (fun ls hl => ?_)
      refine lv_goto (tgt := 2) hx hb dX8_areActs_38 (by decide) ?_
      exact ih2 _ (by omega) _ _ _ ⟨(jk + 1), rfl, (by omega), rfl, rfl, lv_sub hl [0, 1, 2, 3] rfl⟩
    · have c_6 : ¬ ((z_4 = 20 ∧ 0 ≤ z_2 ∧ z_2 ≤ 15) ∨ (z_4 = 21 ∧ 0 ≤ z_2 ∧ z_2 ≤ 24) ∨ (z_4 = 22 ∧ 0 ≤ z_2 ∧ z_2 ≤ 3)) := b01f c_6
      refine lv_iconst (v := zI 0) hx hb dX8_areActs_33 rfl ?_
      exact W.zret (v := (zI 0)) hx hb hr rfl (fun t ht hW => QcP_of (by omega) trivial ht) (fun _ h9 => by cases h9) dX8_areActs_34

theorem dX8_settle_0 : decode cX8_settle 0 = .ok (.aload_n 0, 1) := by decide +kernel
theorem dX8_settle_1 : decode cX8_settle 1 = .ok (.getfield 56, 3) := by decide +kernel
theorem dX8_settle_4 : decode cX8_settle 4 = .ok (.aload_n 0, 1) := by decide +kernel
theorem dX8_settle_5 : decode cX8_settle 5 = .ok (.getfield 35, 3) := by decide +kernel
theorem dX8_settle_8 : decode cX8_settle 8 = .ok (.aload_n 0, 1) := by decide +kernel
theorem dX8_settle_9 : decode cX8_settle 9 = .ok (.getfield 28, 3) := by decide +kernel
theorem dX8_settle_12 : decode cX8_settle 12 = .ok (.aload_n 0, 1) := by decide +kernel
theorem dX8_settle_13 : decode cX8_settle 13 = .ok (.getfield 42, 3) := by decide +kernel
theorem dX8_settle_16 : decode cX8_settle 16 = .ok (.aload_n 0, 1) := by decide +kernel
theorem dX8_settle_17 : decode cX8_settle 17 = .ok (.getfield 28, 3) := by decide +kernel
theorem dX8_settle_20 : decode cX8_settle 20 = .ok (.invokevirtual 227, 3) := by decide +kernel
theorem dX8_settle_23 : decode cX8_settle 23 = .ok (.invokevirtual 231, 3) := by decide +kernel
theorem dX8_settle_26 : decode cX8_settle 26 = .ok (.return_, 1) := by decide +kernel
set_option maxRecDepth 20000 in
theorem ggX8_settle_X0_all : GoodIn wsX8_settle wsX0_all := goodIn_4 _ (List.forall_mem_cons.mpr ⟨List.mem_cons_of_mem _ (List.mem_append_left _ (List.mem_append_left _ (List.mem_append_left _ (List.mem_append_left _ (List.mem_append_left _ (List.mem_append_left _ (List.mem_of_getElem? (i := 8) rfl))))))), List.forall_mem_append.mpr ⟨List.forall_mem_cons.mpr ⟨List.mem_cons_of_mem _ (List.mem_append_left _ (List.mem_append_left _ (List.mem_append_left _ (List.mem_append_left _ (List.mem_append_left _ (List.mem_append_left _ (List.mem_of_getElem? (i := 9) rfl))))))), fun _ h9 => absurd h9 List.not_mem_nil⟩, fun w h9 => List.mem_cons_of_mem _ (List.mem_append_left _ (List.mem_append_left _ (List.mem_append_left _ (List.mem_append_right _ (h9)))))⟩⟩) (by decide +kernel)
set_option maxRecDepth 20000 in
theorem gX8_settle_X0_all : GoodIn wsX8_settle (wsV RX8 227 RX0 yX0_all wsX0_all) := goodIn_app (goodIn_4 _ (List.forall_mem_cons.mpr ⟨List.mem_cons_of_mem _ (List.mem_append_left _ (List.mem_append_left _ (List.mem_append_left _ (List.mem_append_left _ (List.mem_append_left _ (List.mem_append_left _ (List.mem_of_getElem? (i := 4) rfl))))))), List.forall_mem_cons.mpr ⟨List.mem_cons_of_mem _ (List.mem_append_left _ (List.mem_append_left _ (List.mem_append_left _ (List.mem_append_left _ (List.mem_append_left _ (List.mem_append_left _ (List.mem_of_getElem? (i := 5) rfl))))))), List.forall_mem_cons.mpr ⟨List.mem_cons_of_mem _ (List.mem_append_left _ (List.mem_append_left _ (List.mem_append_left _ (List.mem_append_left _ (List.mem_append_left _ (List.mem_append_left _ (List.mem_of_getElem? (i := 6) rfl))))))), List.forall_mem_cons.mpr ⟨List.mem_cons_of_mem _ (List.mem_append_left _ (List.mem_append_left _ (List.mem_append_left _ (List.mem_append_left _ (List.mem_append_left _ (List.mem_append_left _ (List.mem_of_getElem? (i := 7) rfl))))))), fun _ h9 => absurd h9 List.not_mem_nil⟩⟩⟩⟩) (by decide +kernel)) ggX8_settle_X0_all
set_option maxRecDepth 20000 in
theorem ggX8_settle_X4_make : GoodIn wsX8_settle wsX4_make := goodIn_4 _ (List.forall_mem_cons.mpr ⟨List.mem_cons_of_mem _ (List.mem_append_left _ (List.mem_append_left _ (List.mem_append_left _ (List.mem_append_left _ (List.mem_append_left _ (List.mem_append_left _ (List.mem_of_getElem? (i := 14) rfl))))))), List.forall_mem_append.mpr ⟨List.forall_mem_append.mpr ⟨List.forall_mem_append.mpr ⟨List.forall_mem_append.mpr ⟨List.forall_mem_append.mpr ⟨List.forall_mem_cons.mpr ⟨List.mem_cons_of_mem _ (List.mem_append_left _ (List.mem_append_left _ (List.mem_append_left _ (List.mem_append_left _ (List.mem_append_left _ (List.mem_append_left _ (List.mem_of_getElem? (i := 15) rfl))))))), List.forall_mem_cons.mpr ⟨List.mem_cons_of_mem _ (List.mem_append_left _ (List.mem_append_left _ (List.mem_append_left _ (List.mem_append_left _ (List.mem_append_left _ (List.mem_append_left _ (List.mem_of_getElem? (i := 16) rfl))))))), List.forall_mem_cons.mpr ⟨List.mem_cons_of_mem _ (List.mem_append_left _ (List.mem_append_left _ (List.mem_append_left _ (List.mem_append_left _ (List.mem_append_left _ (List.mem_append_left _ (List.mem_of_getElem? (i := 17) rfl))))))), List.forall_mem_cons.mpr ⟨List.mem_cons_of_mem _ (List.mem_append_left _ (List.mem_append_left _ (List.mem_append_left _ (List.mem_append_left _ (List.mem_append_left _ (List.mem_append_left _ (List.mem_of_getElem? (i := 13) rfl))))))), List.forall_mem_cons.mpr ⟨List.mem_cons_of_mem _ (List.mem_append_left _ (List.mem_append_left _ (List.mem_append_left _ (List.mem_append_left _ (List.mem_append_left _ (List.mem_append_left _ (List.mem_of_getElem? (i := 18) rfl))))))), List.forall_mem_cons.mpr ⟨List.mem_cons_of_mem _ (List.mem_append_left _ (List.mem_append_left _ (List.mem_append_left _ (List.mem_append_left _ (List.mem_append_left _ (List.mem_append_left _ (List.mem_of_getElem? (i := 19) rfl))))))), List.forall_mem_cons.mpr ⟨List.mem_cons_of_mem _ (List.mem_append_left _ (List.mem_append_left _ (List.mem_append_left _ (List.mem_append_left _ (List.mem_append_left _ (List.mem_append_left _ (List.mem_of_getElem? (i := 20) rfl))))))), List.forall_mem_cons.mpr ⟨List.mem_cons_of_mem _ (List.mem_append_left _ (List.mem_append_left _ (List.mem_append_left _ (List.mem_append_left _ (List.mem_append_left _ (List.mem_append_left _ (List.mem_of_getElem? (i := 21) rfl))))))), List.forall_mem_cons.mpr ⟨List.mem_cons_of_mem _ (List.mem_append_left _ (List.mem_append_left _ (List.mem_append_left _ (List.mem_append_left _ (List.mem_append_left _ (List.mem_append_left _ (List.mem_of_getElem? (i := 22) rfl))))))), List.forall_mem_cons.mpr ⟨List.mem_cons_of_mem _ (List.mem_append_left _ (List.mem_append_left _ (List.mem_append_left _ (List.mem_append_left _ (List.mem_append_left _ (List.mem_append_left _ (List.mem_of_getElem? (i := 23) rfl))))))), List.forall_mem_cons.mpr ⟨List.mem_cons_of_mem _ (List.mem_append_left _ (List.mem_append_left _ (List.mem_append_left _ (List.mem_append_left _ (List.mem_append_left _ (List.mem_append_right _ (List.mem_append_left _ (List.mem_of_getElem? (i := 0) rfl)))))))), List.forall_mem_cons.mpr ⟨List.mem_cons_of_mem _ (List.mem_append_left _ (List.mem_append_left _ (List.mem_append_left _ (List.mem_append_left _ (List.mem_append_left _ (List.mem_append_right _ (List.mem_append_left _ (List.mem_of_getElem? (i := 1) rfl)))))))), List.forall_mem_cons.mpr ⟨List.mem_cons_of_mem _ (List.mem_append_left _ (List.mem_append_left _ (List.mem_append_left _ (List.mem_append_left _ (List.mem_append_left _ (List.mem_append_right _ (List.mem_append_left _ (List.mem_of_getElem? (i := 2) rfl)))))))), List.forall_mem_cons.mpr ⟨List.mem_cons_of_mem _ (List.mem_append_left _ (List.mem_append_left _ (List.mem_append_left _ (List.mem_append_left _ (List.mem_append_left _ (List.mem_append_right _ (List.mem_append_left _ (List.mem_of_getElem? (i := 3) rfl)))))))), List.forall_mem_cons.mpr ⟨List.mem_cons_of_mem _ (List.mem_append_left _ (List.mem_append_left _ (List.mem_append_left _ (List.mem_append_left _ (List.mem_append_left _ (List.mem_append_right _ (List.mem_append_left _ (List.mem_of_getElem? (i := 4) rfl)))))))), List.forall_mem_cons.mpr ⟨List.mem_cons_of_mem _ (List.mem_append_left _ (List.mem_append_left _ (List.mem_append_left _ (List.mem_append_left _ (List.mem_append_left _ (List.mem_append_right _ (List.mem_append_left _ (List.mem_of_getElem? (i := 5) rfl)))))))), List.forall_mem_cons.mpr ⟨List.mem_cons_of_mem _ (List.mem_append_left _ (List.mem_append_left _ (List.mem_append_left _ (List.mem_append_left _ (List.mem_append_left _ (List.mem_append_right _ (List.mem_append_left _ (List.mem_of_getElem? (i := 6) rfl)))))))), List.forall_mem_cons.mpr ⟨List.mem_cons_of_mem _ (List.mem_append_left _ (List.mem_append_left _ (List.mem_append_left _ (List.mem_append_left _ (List.mem_append_left _ (List.mem_append_right _ (List.mem_append_left _ (List.mem_of_getElem? (i := 7) rfl)))))))), List.forall_mem_cons.mpr ⟨List.mem_cons_of_mem _ (List.mem_append_left _ (List.mem_append_left _ (List.mem_append_left _ (List.mem_append_left _ (List.mem_append_left _ (List.mem_append_right _ (List.mem_append_left _ (List.mem_of_getElem? (i := 8) rfl)))))))), List.forall_mem_cons.mpr ⟨List.mem_cons_of_mem _ (List.mem_append_left _ (List.mem_append_left _ (List.mem_append_left _ (List.mem_append_left _ (List.mem_append_left _ (List.mem_append_right _ (List.mem_append_left _ (List.mem_of_getElem? (i := 9) rfl)))))))), List.forall_mem_cons.mpr ⟨List.mem_cons_of_mem _ (List.mem_append_left _ (List.mem_append_left _ (List.mem_append_left _ (List.mem_append_left _ (List.mem_append_left _ (List.mem_append_left _ (List.mem_of_getElem? (i := 7) rfl))))))), List.forall_mem_cons.mpr ⟨List.mem_cons_of_mem _ (List.mem_append_left _ (List.mem_append_left _ (List.mem_append_left _ (List.mem_append_left _ (List.mem_append_left _ (List.mem_append_right _ (List.mem_append_left _ (List.mem_of_getElem? (i := 10) rfl)))))))), List.forall_mem_cons.mpr ⟨List.mem_cons_of_mem _ (List.mem_append_left _ (List.mem_append_left _ (List.mem_append_left _ (List.mem_append_left _ (List.mem_append_left _ (List.mem_append_left _ (List.mem_of_getElem? (i := 9) rfl))))))), List.forall_mem_cons.mpr ⟨List.mem_cons_of_mem _ (List.mem_append_left _ (List.mem_append_left _ (List.mem_append_left _ (List.mem_append_left _ (List.mem_append_left _ (List.mem_append_right _ (List.mem_append_left _ (List.mem_of_getElem? (i := 11) rfl)))))))), fun _ h9 => absurd h9 List.not_mem_nil⟩⟩⟩⟩⟩⟩⟩⟩⟩⟩⟩⟩⟩⟩⟩⟩⟩⟩⟩⟩⟩⟩⟩⟩, List.forall_mem_cons.mpr ⟨List.mem_cons_of_mem _ (List.mem_append_left _ (List.mem_append_left _ (List.mem_append_left _ (List.mem_append_left _ (List.mem_append_left _ (List.mem_append_right _ (List.mem_append_left _ (List.mem_of_getElem? (i := 12) rfl)))))))), List.forall_mem_cons.mpr ⟨List.mem_cons_of_mem _ (List.mem_append_left _ (List.mem_append_left _ (List.mem_append_left _ (List.mem_append_left _ (List.mem_append_left _ (List.mem_append_right _ (List.mem_append_left _ (List.mem_of_getElem? (i := 13) rfl)))))))), List.forall_mem_cons.mpr ⟨List.mem_cons_of_mem _ (List.mem_append_left _ (List.mem_append_left _ (List.mem_append_left _ (List.mem_append_left _ (List.mem_append_left _ (List.mem_append_right _ (List.mem_append_left _ (List.mem_of_getElem? (i := 14) rfl)))))))), List.forall_mem_cons.mpr ⟨List.mem_cons_of_mem _ (List.mem_append_left _ (List.mem_append_left _ (List.mem_append_left _ (List.mem_append_left _ (List.mem_append_left _ (List.mem_append_right _ (List.mem_append_left _ (List.mem_of_getElem? (i := 15) rfl)))))))), List.forall_mem_cons.mpr ⟨List.mem_cons_of_mem _ (List.mem_append_left _ (List.mem_append_left _ (List.mem_append_left _ (List.mem_append_left _ (List.mem_append_left _ (List.mem_append_right _ (List.mem_append_left _ (List.mem_of_getElem? (i := 16) rfl)))))))), List.forall_mem_cons.mpr ⟨List.mem_cons_of_mem _ (List.mem_append_left _ (List.mem_append_left _ (List.mem_append_left _ (List.mem_append_left _ (List.mem_append_left _ (List.mem_append_right _ (List.mem_append_left _ (List.mem_of_getElem? (i := 17) rfl)))))))), List.forall_mem_cons.mpr ⟨List.mem_cons_of_mem _ (List.mem_append_left _ (List.mem_append_left _ (List.mem_append_left _ (List.mem_append_left _ (List.mem_append_left _ (List.mem_append_right _ (List.mem_append_left _ (List.mem_of_getElem? (i := 18) rfl)))))))), List.forall_mem_cons.mpr ⟨List.mem_cons_of_mem _ (List.mem_append_left _ (List.mem_append_left _ (List.mem_append_left _ (List.mem_append_left _ (List.mem_append_left _ (List.mem_append_right _ (List.mem_append_left _ (List.mem_of_getElem? (i := 19) rfl)))))))), List.forall_mem_cons.mpr ⟨List.mem_cons_of_mem _ (List.mem_append_left _ (List.mem_append_left _ (List.mem_append_left _ (List.mem_append_left _ (List.mem_append_left _ (List.mem_append_right _ (List.mem_append_left _ (List.mem_of_getElem? (i := 20) rfl)))))))), List.forall_mem_cons.mpr ⟨List.mem_cons_of_mem _ (List.mem_append_left _ (List.mem_append_left _ (List.mem_append_left _ (List.mem_append_left _ (List.mem_append_left _ (List.mem_append_right _ (List.mem_append_left _ (List.mem_of_getElem? (i := 21) rfl)))))))), List.forall_mem_cons.mpr ⟨List.mem_cons_of_mem _ (List.mem_append_left _ (List.mem_append_left _ (List.mem_append_left _ (List.mem_append_left _ (List.mem_append_left _ (List.mem_append_right _ (List.mem_append_left _ (List.mem_of_getElem? (i := 22) rfl)))))))), List.forall_mem_cons.mpr ⟨List.mem_cons_of_mem _ (List.mem_append_left _ (List.mem_append_left _ (List.mem_append_left _ (List.mem_append_left _ (List.mem_append_left _ (List.mem_append_right _ (List.mem_append_left _ (List.mem_of_getElem? (i := 23) rfl)))))))), List.forall_mem_cons.mpr ⟨List.mem_cons_of_mem _ (List.mem_append_left _ (List.mem_append_left _ (List.mem_append_left _ (List.mem_append_left _ (List.mem_append_left _ (List.mem_append_right _ (List.mem_append_right _ (List.mem_of_getElem? (i := 0) rfl)))))))), List.forall_mem_cons.mpr ⟨List.mem_cons_of_mem _ (List.mem_append_left _ (List.mem_append_left _ (List.mem_append_left _ (List.mem_append_left _ (List.mem_append_left _ (List.mem_append_right _ (List.mem_append_right _ (List.mem_of_getElem? (i := 1) rfl)))))))), List.forall_mem_cons.mpr ⟨List.mem_cons_of_mem _ (List.mem_append_left _ (List.mem_append_left _ (List.mem_append_left _ (List.mem_append_left _ (List.mem_append_left _ (List.mem_append_right _ (List.mem_append_right _ (List.mem_of_getElem? (i := 2) rfl)))))))), List.forall_mem_cons.mpr ⟨List.mem_cons_of_mem _ (List.mem_append_left _ (List.mem_append_left _ (List.mem_append_left _ (List.mem_append_left _ (List.mem_append_left _ (List.mem_append_right _ (List.mem_append_right _ (List.mem_of_getElem? (i := 3) rfl)))))))), List.forall_mem_cons.mpr ⟨List.mem_cons_of_mem _ (List.mem_append_left _ (List.mem_append_left _ (List.mem_append_left _ (List.mem_append_left _ (List.mem_append_left _ (List.mem_append_right _ (List.mem_append_right _ (List.mem_of_getElem? (i := 4) rfl)))))))), List.forall_mem_cons.mpr ⟨List.mem_cons_of_mem _ (List.mem_append_left _ (List.mem_append_left _ (List.mem_append_left _ (List.mem_append_left _ (List.mem_append_left _ (List.mem_append_right _ (List.mem_append_right _ (List.mem_of_getElem? (i := 5) rfl)))))))), List.forall_mem_cons.mpr ⟨List.mem_cons_of_mem _ (List.mem_append_left _ (List.mem_append_left _ (List.mem_append_left _ (List.mem_append_left _ (List.mem_append_left _ (List.mem_append_right _ (List.mem_append_right _ (List.mem_of_getElem? (i := 6) rfl)))))))), List.forall_mem_cons.mpr ⟨List.mem_cons_of_mem _ (List.mem_append_left _ (List.mem_append_left _ (List.mem_append_left _ (List.mem_append_left _ (List.mem_append_left _ (List.mem_append_right _ (List.mem_append_right _ (List.mem_of_getElem? (i := 7) rfl)))))))), List.forall_mem_cons.mpr ⟨List.mem_cons_of_mem _ (List.mem_append_left _ (List.mem_append_left _ (List.mem_append_left _ (List.mem_append_left _ (List.mem_append_left _ (List.mem_append_right _ (List.mem_append_right _ (List.mem_of_getElem? (i := 8) rfl)))))))), List.forall_mem_cons.mpr ⟨List.mem_cons_of_mem _ (List.mem_append_left _ (List.mem_append_left _ (List.mem_append_left _ (List.mem_append_left _ (List.mem_append_left _ (List.mem_append_right _ (List.mem_append_right _ (List.mem_of_getElem? (i := 9) rfl)))))))), fun _ h9 => absurd h9 List.not_mem_nil⟩⟩⟩⟩⟩⟩⟩⟩⟩⟩⟩⟩⟩⟩⟩⟩⟩⟩⟩⟩⟩⟩⟩, fun w h9 => List.mem_cons_of_mem _ (List.mem_append_left _ (List.mem_append_left _ (List.mem_append_right _ (h9))))⟩, fun w h9 => List.mem_cons_of_mem _ (List.mem_append_left _ (List.mem_append_right _ (h9)))⟩, fun w h9 => List.mem_cons_of_mem _ (List.mem_append_left _ (List.mem_append_left _ (List.mem_append_left _ (List.mem_append_right _ (h9)))))⟩, fun w h9 => List.mem_cons_of_mem _ (List.mem_append_right _ (h9))⟩⟩) (by decide +kernel)
set_option maxRecDepth 20000 in
theorem gX8_settle_X4_make : GoodIn wsX8_settle (wsV RX8 231 RX4 yX4_make wsX4_make) := goodIn_app (goodIn_4 _ (List.forall_mem_cons.mpr ⟨List.mem_cons_of_mem _ (List.mem_append_left _ (List.mem_append_left _ (List.mem_append_left _ (List.mem_append_left _ (List.mem_append_left _ (List.mem_append_left _ (List.mem_of_getElem? (i := 10) rfl))))))), List.forall_mem_cons.mpr ⟨List.mem_cons_of_mem _ (List.mem_append_left _ (List.mem_append_left _ (List.mem_append_left _ (List.mem_append_left _ (List.mem_append_left _ (List.mem_append_left _ (List.mem_of_getElem? (i := 11) rfl))))))), List.forall_mem_cons.mpr ⟨List.mem_cons_of_mem _ (List.mem_append_left _ (List.mem_append_left _ (List.mem_append_left _ (List.mem_append_left _ (List.mem_append_left _ (List.mem_append_left _ (List.mem_of_getElem? (i := 12) rfl))))))), List.forall_mem_cons.mpr ⟨List.mem_cons_of_mem _ (List.mem_append_left _ (List.mem_append_left _ (List.mem_append_left _ (List.mem_append_left _ (List.mem_append_left _ (List.mem_append_left _ (List.mem_of_getElem? (i := 13) rfl))))))), fun _ h9 => absurd h9 List.not_mem_nil⟩⟩⟩⟩) (by decide +kernel)) ggX8_settle_X4_make
set_option maxRecDepth 20000 in
theorem mw_X8_settle_0 : (.fieldLink RX8 56 "FontRuns" "setting" "LFontRuns$Setting;" : Cond) ∈ wsX8_settle := List.mem_cons_of_mem _ (List.mem_append_left _ (List.mem_append_left _ (List.mem_append_left _ (List.mem_append_left _ (List.mem_append_left _ (List.mem_append_left _ (List.mem_of_getElem? (i := 0) rfl)))))))
set_option maxRecDepth 20000 in
theorem mw_X8_settle_1 : (.fieldLink RX8 35 "FontRuns" "writing" "LFontRuns$Writing;" : Cond) ∈ wsX8_settle := List.mem_cons_of_mem _ (List.mem_append_left _ (List.mem_append_left _ (List.mem_append_left _ (List.mem_append_left _ (List.mem_append_left _ (List.mem_append_left _ (List.mem_of_getElem? (i := 1) rfl)))))))
set_option maxRecDepth 20000 in
theorem mw_X8_settle_2 : (.fieldLink RX8 28 "FontRuns" "fontRow" "LFontRuns$FontRow;" : Cond) ∈ wsX8_settle := List.mem_cons_of_mem _ (List.mem_append_left _ (List.mem_append_left _ (List.mem_append_left _ (List.mem_append_left _ (List.mem_append_left _ (List.mem_append_left _ (List.mem_of_getElem? (i := 2) rfl)))))))
set_option maxRecDepth 20000 in
theorem mw_X8_settle_3 : (.fieldLink RX8 42 "FontRuns" "preference" "LFontRuns$Preference;" : Cond) ∈ wsX8_settle := List.mem_cons_of_mem _ (List.mem_append_left _ (List.mem_append_left _ (List.mem_append_left _ (List.mem_append_left _ (List.mem_append_left _ (List.mem_append_left _ (List.mem_of_getElem? (i := 3) rfl)))))))
theorem ax_X8_settle_0 {e0 e1 e2 e3 e4 e5 e6 e7 e8 e9 e10 e11 e12 e13 e14 : Nat × va_E} {k : va_W} : ([11] : List Nat).map (fun i => (([e0, e1, e2, e3, e4, e5, e6, e7, e8, e9, e10, e11, e12, e13, e14] : va_W) ++ k)[i]?) = ([e11] : va_W).map some := rfl
theorem ax_X8_settle_1 {e0 e1 e2 e3 e4 e5 e6 e7 e8 e9 e10 e11 e12 e13 e14 : Nat × va_E} : ([1, 2, 3, 4, 5, 6, 7, 8, 9, 10, 11, 12, 13, 14] : List Nat).map (fun i => ([e0, e1, e2, e3, e4, e5, e6, e7, e8, e9, e10, e11, e12, e13, e14] : va_W)[i]?) = ([e1, e2, e3, e4, e5, e6, e7, e8, e9, e10, e11, e12, e13, e14] : va_W).map some := rfl
theorem ax_X8_settle_2 {e0 e1 e2 e3 e4 e5 e6 e7 e8 e9 e10 e11 e12 e13 e14 : Nat × va_E} : ([0] : List Nat).map (fun i => ([e0, e1, e2, e3, e4, e5, e6, e7, e8, e9, e10, e11, e12, e13, e14] : va_W)[i]?) = ([e0] : va_W).map some := rfl
theorem ax_X8_settle_3 {D : va_G} {cl : List vw_C} {H : Heap} {e0 f0 f1 f2 f3 f4 f5 f6 f7 f8 f9 f10 f11 f12 f13 : Nat × va_E} {k : va_W} (h : va_P D cl ((([e0] : va_W) ++ ([f0, f1, f2, f3, f4, f5, f6, f7, f8, f9, f10, f11, f12, f13] : va_W)) ++ k) H) : va_P D cl (([e0, f0, f1, f2, f3, f4, f5, f6, f7, f8, f9, f10, f11, f12, f13] : va_W) ++ k) H := h
theorem ax_X8_settle_4 {A : Nat → Prop} {e0 f0 f1 f2 f3 f4 f5 f6 f7 f8 f9 f10 f11 f12 f13 : Nat × va_E} {k : va_W} (h : va_D A ((([e0] : va_W) ++ ([f0, f1, f2, f3, f4, f5, f6, f7, f8, f9, f10, f11, f12, f13] : va_W)) ++ k)) : va_D A (([e0, f0, f1, f2, f3, f4, f5, f6, f7, f8, f9, f10, f11, f12, f13] : va_W) ++ k) := h
theorem ax_X8_settle_5 {e0 e1 e2 e3 e4 e5 e6 e7 e8 e9 e10 e11 e12 e13 e14 : Nat × va_E} : ([0, 1, 2, 3, 4, 5, 6, 7, 8, 9, 10, 11, 12, 13, 14] : List Nat).map (fun i => ([e0, e1, e2, e3, e4, e5, e6, e7, e8, e9, e10, e11, e12, e13, e14] : va_W)[i]?) = ([e0, e1, e2, e3, e4, e5, e6, e7, e8, e9, e10, e11, e12, e13, e14] : va_W).map some := rfl
set_option maxHeartbeats 4000000 in
set_option maxRecDepth 100000 in
theorem c_X8_settle (l : Launch) (D : va_G) (sz : Nat) (h0 : Nat) (sh : Nat) (rd : Nat) (fr : Nat) (wr : Nat) (pf : Nat) (rc : Nat) (se : Nat) (rs : Nat) (sw : Nat) (sp : Nat) (ss : Nat) (ew : Int) (wc : Int64) (tr : Int) (lf : Int) (g1 : Nat) (g2 : Nat) (g3 : Nat) (g4 : Nat) (g5 : Nat) (cn : Int) (bo : Int) (ru : Int) (g6 : Nat) (g7 : Nat) (cg1 : ClassId) (f1 : Nat → Int32) (cg2 : ClassId) (f2 : Nat → Int32) (cg3 : ClassId) (f3 : Nat → Int32) (cg4 : ClassId) (f4 : Nat → Int32) (cg5 : ClassId) (f5 : Nat → Int32) (cg6 : ClassId) (f6 : Nat → Int32) (cg7 : ClassId) (fo : Nat → Option Nat) (o : Nat) (w1 : Nat) (wn : Int) (cw1 : ClassId) (fw : Nat → Int32) (k1 : Nat) (k2 : Nat) (k3 : Nat) (fn : Int) (ck3 : ClassId) (fh : Nat → Int32) (p1 : Nat) (pn : Int) (cp1 : ClassId) (fp : Nat → Int32) (pr : Nat → Nat) (gp : Nat → Nat → Int32) (cy : ClassId) (q0 : 0 ≤ wn ∧ wn ≤ 24) (q1 : 0 ≤ fn ∧ fn ≤ 4) (q2 : 0 ≤ pn ∧ pn ≤ 4) (q3 : kPr fp) (q4 : kOut fo pr o 24) (q5 : o + 24 ≤ 56) : Met l yX8_settle wsX8_settle ({ frames := 3, cells := 0, slots := 0, locals := 75 }) (kPre [.ref h0] D (([(h0, .inr (8, [.ref sh, .ref rd, .ref fr, .ref wr, .ref pf, .ref rc, .ref se, .ref rs, .ref sw, .ref sp, .ref ss, .int (zI ew), .long wc, .int (zI tr), .int (zI lf)])), (se, .inr (4, [.ref g1, .ref g2, .ref g3, .ref g4, .ref g5, .int (zI cn), .int (zI bo), .int (zI ru), .ref g6, .ref g7])), (g1, .inl (cg1, 24, .inl f1)), (g2, .inl (cg2, 24, .inl f2)), (g3, .inl (cg3, 24, .inl f3)), (g4, .inl (cg4, 24, .inl f4)), (g5, .inl (cg5, 24, .inl f5)), (g6, .inl (cg6, 24, .inl f6)), (g7, .inl (cg7, 24, .inr (.inr (.inr (.inr (fo)))))), (wr, .inr (7, [.ref w1, .int (zI wn)])), (w1, .inl (cw1, 24, .inl fw)), (fr, .inr (0, [.ref k1, .ref k2, .ref k3, .int (zI fn)])), (k3, .inl (ck3, 4, .inl fh)), (pf, .inr (1, [.ref p1, .int (zI pn)])), (p1, .inl (cp1, 4, .inl fp))] : va_W) ++ kRows pr gp cy) [(cg1, .int), (cg2, .int), (cg3, .int), (cg4, .int), (cg5, .int), (cg6, .int), (cg7, .array .int), (cw1, .int), (ck3, .int), (cp1, .int), (cy, .int)] sz) (kQV (fun t => ∃ (uc : Int) (ub : Int) (ur : Int) (v1 : Nat → Int32) (v2 : Nat → Int32) (v3 : Nat → Int32) (v4 : Nat → Int32) (v5 : Nat → Int32) (v6 : Nat → Int32) (ug : Nat → Nat → Int32), (0 ≤ uc ∧ uc ≤ 24) ∧ (0 ≤ ub ∧ ub ≤ 24) ∧ (0 ≤ ur ∧ ur ≤ uc) ∧ va_P D vwCl (([(h0, .inr (8, [.ref sh, .ref rd, .ref fr, .ref wr, .ref pf, .ref rc, .ref se, .ref rs, .ref sw, .ref sp, .ref ss, .int (zI ew), .long wc, .int (zI tr), .int (zI lf)])), (se, .inr (4, [.ref g1, .ref g2, .ref g3, .ref g4, .ref g5, .int (zI uc), .int (zI ub), .int (zI ur), .ref g6, .ref g7])), (g1, .inl (cg1, 24, .inl v1)), (g2, .inl (cg2, 24, .inl v2)), (g3, .inl (cg3, 24, .inl v3)), (g4, .inl (cg4, 24, .inl v4)), (g5, .inl (cg5, 24, .inl v5)), (g6, .inl (cg6, 24, .inl v6)), (g7, .inl (cg7, 24, .inr (.inr (.inr (.inr (fo)))))), (wr, .inr (7, [.ref w1, .int (zI wn)])), (w1, .inl (cw1, 24, .inl fw)), (fr, .inr (0, [.ref k1, .ref k2, .ref k3, .int (zI fn)])), (k3, .inl (ck3, 4, .inl fh)), (pf, .inr (1, [.ref p1, .int (zI pn)])), (p1, .inl (cp1, 4, .inl fp))] : va_W) ++ kRows pr ug cy) t.heap ∧ va_D (va_A (([(h0, .inr (8, [.ref sh, .ref rd, .ref fr, .ref wr, .ref pf, .ref rc, .ref se, .ref rs, .ref sw, .ref sp, .ref ss, .int (zI ew), .long wc, .int (zI tr), .int (zI lf)])), (se, .inr (4, [.ref g1, .ref g2, .ref g3, .ref g4, .ref g5, .int (zI cn), .int (zI bo), .int (zI ru), .ref g6, .ref g7])), (g1, .inl (cg1, 24, .inl f1)), (g2, .inl (cg2, 24, .inl f2)), (g3, .inl (cg3, 24, .inl f3)), (g4, .inl (cg4, 24, .inl f4)), (g5, .inl (cg5, 24, .inl f5)), (g6, .inl (cg6, 24, .inl f6)), (g7, .inl (cg7, 24, .inr (.inr (.inr (.inr (fo)))))), (wr, .inr (7, [.ref w1, .int (zI wn)])), (w1, .inl (cw1, 24, .inl fw)), (fr, .inr (0, [.ref k1, .ref k2, .ref k3, .int (zI fn)])), (k3, .inl (ck3, 4, .inl fh)), (pf, .inr (1, [.ref p1, .int (zI pn)])), (p1, .inl (cp1, 4, .inl fp))] : va_W) ++ kRows pr gp cy) sz) (([(h0, .inr (8, [.ref sh, .ref rd, .ref fr, .ref wr, .ref pf, .ref rc, .ref se, .ref rs, .ref sw, .ref sp, .ref ss, .int (zI ew), .long wc, .int (zI tr), .int (zI lf)])), (se, .inr (4, [.ref g1, .ref g2, .ref g3, .ref g4, .ref g5, .int (zI uc), .int (zI ub), .int (zI ur), .ref g6, .ref g7])), (g1, .inl (cg1, 24, .inl v1)), (g2, .inl (cg2, 24, .inl v2)), (g3, .inl (cg3, 24, .inl v3)), (g4, .inl (cg4, 24, .inl v4)), (g5, .inl (cg5, 24, .inl v5)), (g6, .inl (cg6, 24, .inl v6)), (g7, .inl (cg7, 24, .inr (.inr (.inr (.inr (fo)))))), (wr, .inr (7, [.ref w1, .int (zI wn)])), (w1, .inl (cw1, 24, .inl fw)), (fr, .inr (0, [.ref k1, .ref k2, .ref k3, .int (zI fn)])), (k3, .inl (ck3, 4, .inl fh)), (pf, .inr (1, [.ref p1, .int (zI pn)])), (p1, .inl (cp1, 4, .inl fp))] : va_W) ++ kRows pr ug cy)) (va_A (([(h0, .inr (8, [.ref sh, .ref rd, .ref fr, .ref wr, .ref pf, .ref rc, .ref se, .ref rs, .ref sw, .ref sp, .ref ss, .int (zI ew), .long wc, .int (zI tr), .int (zI lf)])), (se, .inr (4, [.ref g1, .ref g2, .ref g3, .ref g4, .ref g5, .int (zI cn), .int (zI bo), .int (zI ru), .ref g6, .ref g7])), (g1, .inl (cg1, 24, .inl f1)), (g2, .inl (cg2, 24, .inl f2)), (g3, .inl (cg3, 24, .inl f3)), (g4, .inl (cg4, 24, .inl f4)), (g5, .inl (cg5, 24, .inl f5)), (g6, .inl (cg6, 24, .inl f6)), (g7, .inl (cg7, 24, .inr (.inr (.inr (.inr (fo)))))), (wr, .inr (7, [.ref w1, .int (zI wn)])), (w1, .inl (cw1, 24, .inl fw)), (fr, .inr (0, [.ref k1, .ref k2, .ref k3, .int (zI fn)])), (k3, .inl (ck3, 4, .inl fh)), (pf, .inr (1, [.ref p1, .int (zI pn)])), (p1, .inl (cp1, 4, .inl fp))] : va_W) ++ kRows pr gp cy) sz)) 0 0 (va_A (([(h0, .inr (8, [.ref sh, .ref rd, .ref fr, .ref wr, .ref pf, .ref rc, .ref se, .ref rs, .ref sw, .ref sp, .ref ss, .int (zI ew), .long wc, .int (zI tr), .int (zI lf)])), (se, .inr (4, [.ref g1, .ref g2, .ref g3, .ref g4, .ref g5, .int (zI cn), .int (zI bo), .int (zI ru), .ref g6, .ref g7])), (g1, .inl (cg1, 24, .inl f1)), (g2, .inl (cg2, 24, .inl f2)), (g3, .inl (cg3, 24, .inl f3)), (g4, .inl (cg4, 24, .inl f4)), (g5, .inl (cg5, 24, .inl f5)), (g6, .inl (cg6, 24, .inl f6)), (g7, .inl (cg7, 24, .inr (.inr (.inr (.inr (fo)))))), (wr, .inr (7, [.ref w1, .int (zI wn)])), (w1, .inl (cw1, 24, .inl fw)), (fr, .inr (0, [.ref k1, .ref k2, .ref k3, .int (zI fn)])), (k3, .inl (ck3, 4, .inl fh)), (pf, .inr (1, [.ref p1, .int (zI pn)])), (p1, .inl (cp1, 4, .inl fp))] : va_W) ++ kRows pr gp cy) sz) := by
  refine Met.ofW (cc := cX8_settle) (maxL := 1) (ret := none) (by decide) rfl ?_
  intro p e s m args below meth c s₁ B hml hv
  obtain ⟨rfl, hsz, hP, hK, hD0, hN⟩ := hv
  have hx := B.exec
  have hb := B.bytes
  have hr := B.returns
  have hts := atoms_spec (ws := wsX8_settle) B.pre
  have hown : s.vm.findClass RX8 = some m.cls := findClass_of_methodNamed B.named
  have hlocks := B.notSynchronized
  subst hsz
  have hD := hD0.self (sz := s.heap.size)
  generalize hAe : va_A (([(h0, .inr (8, [.ref sh, .ref rd, .ref fr, .ref wr, .ref pf, .ref rc, .ref se, .ref rs, .ref sw, .ref sp, .ref ss, .int (zI ew), .long wc, .int (zI tr), .int (zI lf)])), (se, .inr (4, [.ref g1, .ref g2, .ref g3, .ref g4, .ref g5, .int (zI cn), .int (zI bo), .int (zI ru), .ref g6, .ref g7])), (g1, .inl (cg1, 24, .inl f1)), (g2, .inl (cg2, 24, .inl f2)), (g3, .inl (cg3, 24, .inl f3)), (g4, .inl (cg4, 24, .inl f4)), (g5, .inl (cg5, 24, .inl f5)), (g6, .inl (cg6, 24, .inl f6)), (g7, .inl (cg7, 24, .inr (.inr (.inr (.inr (fo)))))), (wr, .inr (7, [.ref w1, .int (zI wn)])), (w1, .inl (cw1, 24, .inl fw)), (fr, .inr (0, [.ref k1, .ref k2, .ref k3, .int (zI fn)])), (k3, .inl (ck3, 4, .inl fh)), (pf, .inr (1, [.ref p1, .int (zI pn)])), (p1, .inl (cp1, 4, .inl fp))] : va_W) ++ kRows pr gp cy) s.heap.size = A at hD ⊢
  have hA : ∀ q : Nat, s.heap.size ≤ q → A q := fun q h => by rw [← hAe]; exact Or.inr h
  have hS : va_S A s.heap s.heap [] := va_S.rf
  have hP : va_P D vwCl (([(h0, .inr (8, [.ref sh, .ref rd, .ref fr, .ref wr, .ref pf, .ref rc, .ref se, .ref rs, .ref sw, .ref sp, .ref ss, .int (zI ew), .long wc, .int (zI tr), .int (zI lf)])), (se, .inr (4, [.ref g1, .ref g2, .ref g3, .ref g4, .ref g5, .int (zI cn), .int (zI bo), .int (zI ru), .ref g6, .ref g7])), (g1, .inl (cg1, 24, .inl f1)), (g2, .inl (cg2, 24, .inl f2)), (g3, .inl (cg3, 24, .inl f3)), (g4, .inl (cg4, 24, .inl f4)), (g5, .inl (cg5, 24, .inl f5)), (g6, .inl (cg6, 24, .inl f6)), (g7, .inl (cg7, 24, .inr (.inr (.inr (.inr (fo)))))), (wr, .inr (7, [.ref w1, .int (zI wn)])), (w1, .inl (cw1, 24, .inl fw)), (fr, .inr (0, [.ref k1, .ref k2, .ref k3, .int (zI fn)])), (k3, .inl (ck3, 4, .inl fh)), (pf, .inr (1, [.ref p1, .int (zI pn)])), (p1, .inl (cp1, 4, .inl fp))] : va_W) ++ kRows pr gp cy) s.heap := hP
  have hl := lv_entry ([.ref h0]) (n := 1) (Nat.le_of_ble_eq_true rfl)
  rw [lg_entry_eq]
  generalize (lg_sl ([.ref h0]) ++ List.replicate (1 - (lg_sl ([.ref h0])).length) Slot.unset).toArray = ls at hl ⊢
  have hl : lv_has ls 1 [(0, .ref h0)] := hl
  refine lv_aload_n hx hb dX8_settle_0 rfl (lv_at hl 0 rfl) ?_
  refine va_get (D := D) (ci := 8) (v := .ref se) (C := RX8) (T := TX8) (N := 15) hx hb hts (fun _ h9 => List.mem_cons_of_mem _ (List.mem_append_left _ (List.mem_append_left _ (List.mem_append_left _ (List.mem_append_left _ (List.mem_append_right _ h9)))))) hown hK hP 0 rfl rfl 6 (by decide) (hts (.fieldLink RX8 56 "FontRuns" "setting" "LFontRuns$Setting;") mw_X8_settle_0) (fun _ h9 => h9) rfl dX8_settle_1 ?_
  refine lv_aload_n hx hb dX8_settle_4 rfl (lv_at hl 0 rfl) ?_
  refine va_get (D := D) (ci := 8) (v := .ref wr) (C := RX8) (T := TX8) (N := 15) hx hb hts (fun _ h9 => List.mem_cons_of_mem _ (List.mem_append_left _ (List.mem_append_left _ (List.mem_append_left _ (List.mem_append_left _ (List.mem_append_right _ h9)))))) hown hK hP 0 rfl rfl 3 (by decide) (hts (.fieldLink RX8 35 "FontRuns" "writing" "LFontRuns$Writing;") mw_X8_settle_1) (fun _ h9 => h9) rfl dX8_settle_5 ?_
  refine lv_aload_n hx hb dX8_settle_8 rfl (lv_at hl 0 rfl) ?_
  refine va_get (D := D) (ci := 8) (v := .ref fr) (C := RX8) (T := TX8) (N := 15) hx hb hts (fun _ h9 => List.mem_cons_of_mem _ (List.mem_append_left _ (List.mem_append_left _ (List.mem_append_left _ (List.mem_append_left _ (List.mem_append_right _ h9)))))) hown hK hP 0 rfl rfl 2 (by decide) (hts (.fieldLink RX8 28 "FontRuns" "fontRow" "LFontRuns$FontRow;") mw_X8_settle_2) (fun _ h9 => h9) rfl dX8_settle_9 ?_
  refine lv_aload_n hx hb dX8_settle_12 rfl (lv_at hl 0 rfl) ?_
  refine va_get (D := D) (ci := 8) (v := .ref pf) (C := RX8) (T := TX8) (N := 15) hx hb hts (fun _ h9 => List.mem_cons_of_mem _ (List.mem_append_left _ (List.mem_append_left _ (List.mem_append_left _ (List.mem_append_left _ (List.mem_append_right _ h9)))))) hown hK hP 0 rfl rfl 4 (by decide) (hts (.fieldLink RX8 42 "FontRuns" "preference" "LFontRuns$Preference;") mw_X8_settle_3) (fun _ h9 => h9) rfl dX8_settle_13 ?_
  refine lv_aload_n hx hb dX8_settle_16 rfl (lv_at hl 0 rfl) ?_
  refine va_get (D := D) (ci := 8) (v := .ref fr) (C := RX8) (T := TX8) (N := 15) hx hb hts (fun _ h9 => List.mem_cons_of_mem _ (List.mem_append_left _ (List.mem_append_left _ (List.mem_append_left _ (List.mem_append_left _ (List.mem_append_right _ h9)))))) hown hK hP 0 rfl rfl 2 (by decide) (hts (.fieldLink RX8 28 "FontRuns" "fontRow" "LFontRuns$FontRow;") mw_X8_settle_2) (fun _ h9 => h9) rfl dX8_settle_17 ?_
  refine k_callP (va_runV (As := []) (rest := [.ref pf, .ref fr, .ref wr, .ref se]) ⟨hx, hb, hml, hown, hts⟩ (c_X0_all l D s.heap.size (h0 := fr) (k1 := k1) (k2 := k2) (k3 := k3) (n := fn) q1) (cwV 0 hts gX8_settle_X0_all rfl rfl rfl (by decide +kernel) ⟨Nat.le_of_ble_eq_true rfl, Nat.le_of_ble_eq_true rfl⟩) (kPreV hP (kD0 hD) hK hN [11] [] ax_X8_settle_0 rfl (by decide +kernel) 11 0 rfl rfl) rfl rfl hl.1 rfl (lv_room (Nat.le_of_ble_eq_true rfl)) dX8_settle_20 ⟨Nat.le_of_ble_eq_true rfl, Nat.le_of_ble_eq_true rfl⟩) (fun z_1 rz_1 h_2 => ?_)
  have hFc := va_freeP (cx := [(se, .inr (4, [.ref g1, .ref g2, .ref g3, .ref g4, .ref g5, .int (zI cn), .int (zI bo), .int (zI ru), .ref g6, .ref g7])), (g1, .inl (cg1, 24, .inl f1)), (g2, .inl (cg2, 24, .inl f2)), (g3, .inl (cg3, 24, .inl f3)), (g4, .inl (cg4, 24, .inl f4)), (g5, .inl (cg5, 24, .inl f5)), (g6, .inl (cg6, 24, .inl f6)), (g7, .inl (cg7, 24, .inr (.inr (.inr (.inr (fo)))))), (wr, .inr (7, [.ref w1, .int (zI wn)])), (w1, .inl (cw1, 24, .inl fw)), (fr, .inr (0, [.ref k1, .ref k2, .ref k3, .int (zI fn)])), (k3, .inl (ck3, 4, .inl fh)), (pf, .inr (1, [.ref p1, .int (zI pn)])), (p1, .inl (cp1, 4, .inl fp))]) hD hS hA [1, 2, 3, 4, 5, 6, 7, 8, 9, 10, 11, 12, 13, 14] ax_X8_settle_1
  refine va_callv (va_runV (As := [.ref wr, .ref fr, .ref pf, .int (zI z_1)]) (rest := []) ⟨hx, hb, hml, hown, hts⟩ (c_X4_make l D s.heap.size (wr := wr) (fr := fr) (pf := pf) (al := z_1) (h0 := se) (g1 := g1) (g2 := g2) (g3 := g3) (g4 := g4) (g5 := g5) (cn := cn) (bo := bo) (ru := ru) (g6 := g6) (g7 := g7) (cg1 := cg1) (f1 := f1) (cg2 := cg2) (f2 := f2) (cg3 := cg3) (f3 := f3) (cg4 := cg4) (f4 := f4) (cg5 := cg5) (f5 := f5) (cg6 := cg6) (f6 := f6) (cg7 := cg7) (fo := fo) (o := o) (w1 := w1) (wn := wn) (cw1 := cw1) (fw := fw) (k1 := k1) (k2 := k2) (k3 := k3) (n := fn) (ck3 := ck3) (fh := fh) (p1 := p1) (pn := pn) (cp1 := cp1) (fp := fp) (pr := pr) (gp := gp) (cy := cy) (by omega) q0 q1 q2 q3 q4 q5) (cwV 4 hts gX8_settle_X4_make rfl rfl rfl (by decide +kernel) ⟨Nat.le_of_ble_eq_true rfl, Nat.le_of_ble_eq_true rfl⟩) (kPreVP hP (kD0 hD) hK hN [1, 2, 3, 4, 5, 6, 7, 8, 9, 10, 11, 12, 13, 14] [0, 1, 2, 3, 4, 5, 6, 7, 8, 9, 10] ax_X8_settle_1 rfl (by decide +kernel) 1 4 rfl rfl) rfl rfl hl.1 rfl (lv_room (Nat.le_of_ble_eq_true rfl)) dX8_settle_23 ⟨Nat.le_of_ble_eq_true rfl, Nat.le_of_ble_eq_true rfl⟩) hS (fun q _ h => hFc q h) hFc (fun u t H1 locs ht hvm hw hB hz1 hk1 hS => ?_)
  refine Exists.elim hB (fun uc_3 hB1 => Exists.elim hB1 (fun ub_4 hB2 => Exists.elim hB2 (fun ur_5 hB3 => Exists.elim hB3 (fun v1_6 hB4 => Exists.elim hB4 (fun v2_7 hB5 => Exists.elim hB5 (fun v3_8 hB6 => Exists.elim hB6 (fun v4_9 hB7 => Exists.elim hB7 (fun v5_10 hB8 => Exists.elim hB8 (fun v6_11 hB9 => Exists.elim hB9 (fun ug_12 hB10 => ?_))))))))))
  have h_13 := hB10.1
  have h_14 := hB10.2.1
  have h_15 := hB10.2.2.1
  have hP1 := hB10.2.2.2.1
  have hD1 := hB10.2.2.2.2
  clear hB hB1 hB2 hB3 hB4 hB5 hB6 hB7 hB8 hB9 hB10
  rw [ht] at hP1
  obtain ⟨hP, hD⟩ := va_joinP (X := [(h0, .inr (8, [.ref sh, .ref rd, .ref fr, .ref wr, .ref pf, .ref rc, .ref se, .ref rs, .ref sw, .ref sp, .ref ss, .int (zI ew), .long wc, .int (zI tr), .int (zI lf)])), (se, .inr (4, [.ref g1, .ref g2, .ref g3, .ref g4, .ref g5, .int (zI cn), .int (zI bo), .int (zI ru), .ref g6, .ref g7])), (g1, .inl (cg1, 24, .inl f1)), (g2, .inl (cg2, 24, .inl f2)), (g3, .inl (cg3, 24, .inl f3)), (g4, .inl (cg4, 24, .inl f4)), (g5, .inl (cg5, 24, .inl f5)), (g6, .inl (cg6, 24, .inl f6)), (g7, .inl (cg7, 24, .inr (.inr (.inr (.inr (fo)))))), (wr, .inr (7, [.ref w1, .int (zI wn)])), (w1, .inl (cw1, 24, .inl fw)), (fr, .inr (0, [.ref k1, .ref k2, .ref k3, .int (zI fn)])), (k3, .inl (ck3, 4, .inl fh)), (pf, .inr (1, [.ref p1, .int (zI pn)])), (p1, .inl (cp1, 4, .inl fp))]) (wr := [(h0, .inr (8, [.ref sh, .ref rd, .ref fr, .ref wr, .ref pf, .ref rc, .ref se, .ref rs, .ref sw, .ref sp, .ref ss, .int (zI ew), .long wc, .int (zI tr), .int (zI lf)]))]) (rx := [(se, .inr (4, [.ref g1, .ref g2, .ref g3, .ref g4, .ref g5, .int (zI uc_3), .int (zI ub_4), .int (zI ur_5), .ref g6, .ref g7])), (g1, .inl (cg1, 24, .inl v1_6)), (g2, .inl (cg2, 24, .inl v2_7)), (g3, .inl (cg3, 24, .inl v3_8)), (g4, .inl (cg4, 24, .inl v4_9)), (g5, .inl (cg5, 24, .inl v5_10)), (g6, .inl (cg6, 24, .inl v6_11)), (g7, .inl (cg7, 24, .inr (.inr (.inr (.inr (fo)))))), (wr, .inr (7, [.ref w1, .int (zI wn)])), (w1, .inl (cw1, 24, .inl fw)), (fr, .inr (0, [.ref k1, .ref k2, .ref k3, .int (zI fn)])), (k3, .inl (ck3, 4, .inl fh)), (pf, .inr (1, [.ref p1, .int (zI pn)])), (p1, .inl (cp1, 4, .inl fp))]) hP hD [1, 2, 3, 4, 5, 6, 7, 8, 9, 10, 11, 12, 13, 14] [0] ax_X8_settle_1 ax_X8_settle_2 (by decide +kernel) (by decide +kernel) hk1 hFc hP1 hD1
  have hP := ax_X8_settle_3 hP
  have hD := ax_X8_settle_4 hD
  generalize H1 = H at hP hS ⊢
  have hP : va_P D vwCl (([(h0, .inr (8, [.ref sh, .ref rd, .ref fr, .ref wr, .ref pf, .ref rc, .ref se, .ref rs, .ref sw, .ref sp, .ref ss, .int (zI ew), .long wc, .int (zI tr), .int (zI lf)])), (se, .inr (4, [.ref g1, .ref g2, .ref g3, .ref g4, .ref g5, .int (zI uc_3), .int (zI ub_4), .int (zI ur_5), .ref g6, .ref g7])), (g1, .inl (cg1, 24, .inl v1_6)), (g2, .inl (cg2, 24, .inl v2_7)), (g3, .inl (cg3, 24, .inl v3_8)), (g4, .inl (cg4, 24, .inl v4_9)), (g5, .inl (cg5, 24, .inl v5_10)), (g6, .inl (cg6, 24, .inl v6_11)), (g7, .inl (cg7, 24, .inr (.inr (.inr (.inr (fo)))))), (wr, .inr (7, [.ref w1, .int (zI wn)])), (w1, .inl (cw1, 24, .inl fw)), (fr, .inr (0, [.ref k1, .ref k2, .ref k3, .int (zI fn)])), (k3, .inl (ck3, 4, .inl fh)), (pf, .inr (1, [.ref p1, .int (zI pn)])), (p1, .inl (cp1, 4, .inl fp))] : va_W) ++ kRows pr ug_12 cy) H := hP
  have hD : va_D A (([(h0, .inr (8, [.ref sh, .ref rd, .ref fr, .ref wr, .ref pf, .ref rc, .ref se, .ref rs, .ref sw, .ref sp, .ref ss, .int (zI ew), .long wc, .int (zI tr), .int (zI lf)])), (se, .inr (4, [.ref g1, .ref g2, .ref g3, .ref g4, .ref g5, .int (zI uc_3), .int (zI ub_4), .int (zI ur_5), .ref g6, .ref g7])), (g1, .inl (cg1, 24, .inl v1_6)), (g2, .inl (cg2, 24, .inl v2_7)), (g3, .inl (cg3, 24, .inl v3_8)), (g4, .inl (cg4, 24, .inl v4_9)), (g5, .inl (cg5, 24, .inl v5_10)), (g6, .inl (cg6, 24, .inl v6_11)), (g7, .inl (cg7, 24, .inr (.inr (.inr (.inr (fo)))))), (wr, .inr (7, [.ref w1, .int (zI wn)])), (w1, .inl (cw1, 24, .inl fw)), (fr, .inr (0, [.ref k1, .ref k2, .ref k3, .int (zI fn)])), (k3, .inl (ck3, 4, .inl fh)), (pf, .inr (1, [.ref p1, .int (zI pn)])), (p1, .inl (cp1, 4, .inl fp))] : va_W) ++ kRows pr ug_12 cy) := hD
  have hP9 : va_P D vwCl (([(h0, .inr (8, [.ref sh, .ref rd, .ref fr, .ref wr, .ref pf, .ref rc, .ref se, .ref rs, .ref sw, .ref sp, .ref ss, .int (zI ew), .long wc, .int (zI tr), .int (zI lf)])), (se, .inr (4, [.ref g1, .ref g2, .ref g3, .ref g4, .ref g5, .int (zI uc_3), .int (zI ub_4), .int (zI ur_5), .ref g6, .ref g7])), (g1, .inl (cg1, 24, .inl v1_6)), (g2, .inl (cg2, 24, .inl v2_7)), (g3, .inl (cg3, 24, .inl v3_8)), (g4, .inl (cg4, 24, .inl v4_9)), (g5, .inl (cg5, 24, .inl v5_10)), (g6, .inl (cg6, 24, .inl v6_11)), (g7, .inl (cg7, 24, .inr (.inr (.inr (.inr (fo)))))), (wr, .inr (7, [.ref w1, .int (zI wn)])), (w1, .inl (cw1, 24, .inl fw)), (fr, .inr (0, [.ref k1, .ref k2, .ref k3, .int (zI fn)])), (k3, .inl (ck3, 4, .inl fh)), (pf, .inr (1, [.ref p1, .int (zI pn)])), (p1, .inl (cp1, 4, .inl fp))] : va_W) ++ kRows pr ug_12 cy) H := hP.part [0, 1, 2, 3, 4, 5, 6, 7, 8, 9, 10, 11, 12, 13, 14] ax_X8_settle_5
  have hD9 : va_D A (([(h0, .inr (8, [.ref sh, .ref rd, .ref fr, .ref wr, .ref pf, .ref rc, .ref se, .ref rs, .ref sw, .ref sp, .ref ss, .int (zI ew), .long wc, .int (zI tr), .int (zI lf)])), (se, .inr (4, [.ref g1, .ref g2, .ref g3, .ref g4, .ref g5, .int (zI uc_3), .int (zI ub_4), .int (zI ur_5), .ref g6, .ref g7])), (g1, .inl (cg1, 24, .inl v1_6)), (g2, .inl (cg2, 24, .inl v2_7)), (g3, .inl (cg3, 24, .inl v3_8)), (g4, .inl (cg4, 24, .inl v4_9)), (g5, .inl (cg5, 24, .inl v5_10)), (g6, .inl (cg6, 24, .inl v6_11)), (g7, .inl (cg7, 24, .inr (.inr (.inr (.inr (fo)))))), (wr, .inr (7, [.ref w1, .int (zI wn)])), (w1, .inl (cw1, 24, .inl fw)), (fr, .inr (0, [.ref k1, .ref k2, .ref k3, .int (zI fn)])), (k3, .inl (ck3, 4, .inl fh)), (pf, .inr (1, [.ref p1, .int (zI pn)])), (p1, .inl (cp1, 4, .inl fp))] : va_W) ++ kRows pr ug_12 cy) := hD.part [0, 1, 2, 3, 4, 5, 6, 7, 8, 9, 10, 11, 12, 13, 14] (by decide +kernel) ax_X8_settle_5
  exact W.vret hx hb hr (fun t ht hW => kQV_of ⟨uc_3, ub_4, ur_5, v1_6, v2_7, v3_8, v4_9, v5_10, v6_11, ug_12, h_13, h_14, h_15, by rw [ht]; exact hP9, hD9⟩ (hS.F ht)) hS.2.2 dX8_settle_26




theorem dX8_supposeAct_0 : decode cX8_supposeAct 0 = .ok (.iload_n 2, 1) := by decide +kernel
theorem dX8_supposeAct_1 : decode cX8_supposeAct 1 = .ok (.lookupswitch 45 #[(20, 27), (21, 36)], 27) := by decide +kernel
theorem dX8_supposeAct_28 : decode cX8_supposeAct 28 = .ok (.aload_n 0, 1) := by decide +kernel
theorem dX8_supposeAct_29 : decode cX8_supposeAct 29 = .ok (.getfield 67, 3) := by decide +kernel
theorem dX8_supposeAct_32 : decode cX8_supposeAct 32 = .ok (.iload_n 1, 1) := by decide +kernel
theorem dX8_supposeAct_33 : decode cX8_supposeAct 33 = .ok (.invokevirtual 222, 3) := by decide +kernel
theorem dX8_supposeAct_36 : decode cX8_supposeAct 36 = .ok (.ireturn, 1) := by decide +kernel
theorem dX8_supposeAct_37 : decode cX8_supposeAct 37 = .ok (.aload_n 0, 1) := by decide +kernel
theorem dX8_supposeAct_38 : decode cX8_supposeAct 38 = .ok (.getfield 67, 3) := by decide +kernel
theorem dX8_supposeAct_41 : decode cX8_supposeAct 41 = .ok (.iload_n 1, 1) := by decide +kernel
theorem dX8_supposeAct_42 : decode cX8_supposeAct 42 = .ok (.invokevirtual 163, 3) := by decide +kernel
theorem dX8_supposeAct_45 : decode cX8_supposeAct 45 = .ok (.ireturn, 1) := by decide +kernel
theorem dX8_supposeAct_46 : decode cX8_supposeAct 46 = .ok (.aload_n 0, 1) := by decide +kernel
theorem dX8_supposeAct_47 : decode cX8_supposeAct 47 = .ok (.getfield 70, 3) := by decide +kernel
theorem dX8_supposeAct_50 : decode cX8_supposeAct 50 = .ok (.iload_n 1, 1) := by decide +kernel
theorem dX8_supposeAct_51 : decode cX8_supposeAct 51 = .ok (.invokevirtual 196, 3) := by decide +kernel
theorem dX8_supposeAct_54 : decode cX8_supposeAct 54 = .ok (.ireturn, 1) := by decide +kernel
set_option maxRecDepth 20000 in
theorem ggX8_supposeAct_X1_lead : GoodIn wsX8_supposeAct wsX1_lead := goodIn_4 _ (List.forall_mem_cons.mpr ⟨List.mem_cons_of_mem _ (List.mem_append_left _ (List.mem_append_left _ (List.mem_append_left _ (List.mem_append_left _ (List.mem_of_getElem? (i := 20) rfl))))), List.forall_mem_append.mpr ⟨List.forall_mem_cons.mpr ⟨List.mem_cons_of_mem _ (List.mem_append_left _ (List.mem_append_left _ (List.mem_append_left _ (List.mem_append_left _ (List.mem_of_getElem? (i := 21) rfl))))), List.forall_mem_cons.mpr ⟨List.mem_cons_of_mem _ (List.mem_append_left _ (List.mem_append_left _ (List.mem_append_left _ (List.mem_append_left _ (List.mem_of_getElem? (i := 22) rfl))))), List.forall_mem_cons.mpr ⟨List.mem_cons_of_mem _ (List.mem_append_left _ (List.mem_append_left _ (List.mem_append_left _ (List.mem_append_left _ (List.mem_of_getElem? (i := 23) rfl))))), List.forall_mem_cons.mpr ⟨List.mem_cons_of_mem _ (List.mem_append_left _ (List.mem_append_left _ (List.mem_append_left _ (List.mem_append_right _ (List.mem_of_getElem? (i := 0) rfl))))), List.forall_mem_cons.mpr ⟨List.mem_cons_of_mem _ (List.mem_append_left _ (List.mem_append_left _ (List.mem_append_left _ (List.mem_append_left _ (List.mem_of_getElem? (i := 19) rfl))))), List.forall_mem_cons.mpr ⟨List.mem_cons_of_mem _ (List.mem_append_left _ (List.mem_append_left _ (List.mem_append_left _ (List.mem_append_right _ (List.mem_of_getElem? (i := 1) rfl))))), List.forall_mem_cons.mpr ⟨List.mem_cons_of_mem _ (List.mem_append_left _ (List.mem_append_left _ (List.mem_append_left _ (List.mem_append_right _ (List.mem_of_getElem? (i := 2) rfl))))), fun _ h9 => absurd h9 List.not_mem_nil⟩⟩⟩⟩⟩⟩⟩, fun w h9 => List.mem_cons_of_mem _ (List.mem_append_right _ (h9))⟩⟩) (by decide +kernel)
set_option maxRecDepth 20000 in
theorem gX8_supposeAct_X1_lead : GoodIn wsX8_supposeAct (wsV RX8 196 RX1 yX1_lead wsX1_lead) := goodIn_app (goodIn_4 _ (List.forall_mem_cons.mpr ⟨List.mem_cons_of_mem _ (List.mem_append_left _ (List.mem_append_left _ (List.mem_append_left _ (List.mem_append_left _ (List.mem_of_getElem? (i := 16) rfl))))), List.forall_mem_cons.mpr ⟨List.mem_cons_of_mem _ (List.mem_append_left _ (List.mem_append_left _ (List.mem_append_left _ (List.mem_append_left _ (List.mem_of_getElem? (i := 17) rfl))))), List.forall_mem_cons.mpr ⟨List.mem_cons_of_mem _ (List.mem_append_left _ (List.mem_append_left _ (List.mem_append_left _ (List.mem_append_left _ (List.mem_of_getElem? (i := 18) rfl))))), List.forall_mem_cons.mpr ⟨List.mem_cons_of_mem _ (List.mem_append_left _ (List.mem_append_left _ (List.mem_append_left _ (List.mem_append_left _ (List.mem_of_getElem? (i := 19) rfl))))), fun _ h9 => absurd h9 List.not_mem_nil⟩⟩⟩⟩) (by decide +kernel)) ggX8_supposeAct_X1_lead
set_option maxRecDepth 20000 in
theorem ggX8_supposeAct_X7_add : GoodIn wsX8_supposeAct wsX7_add := goodIn_4 _ (List.forall_mem_cons.mpr ⟨List.mem_cons_of_mem _ (List.mem_append_left _ (List.mem_append_left _ (List.mem_append_left _ (List.mem_append_left _ (List.mem_of_getElem? (i := 6) rfl))))), List.forall_mem_append.mpr ⟨List.forall_mem_cons.mpr ⟨List.mem_cons_of_mem _ (List.mem_append_left _ (List.mem_append_left _ (List.mem_append_left _ (List.mem_append_left _ (List.mem_of_getElem? (i := 7) rfl))))), List.forall_mem_cons.mpr ⟨List.mem_cons_of_mem _ (List.mem_append_left _ (List.mem_append_left _ (List.mem_append_left _ (List.mem_append_left _ (List.mem_of_getElem? (i := 8) rfl))))), List.forall_mem_cons.mpr ⟨List.mem_cons_of_mem _ (List.mem_append_left _ (List.mem_append_left _ (List.mem_append_left _ (List.mem_append_left _ (List.mem_of_getElem? (i := 9) rfl))))), List.forall_mem_cons.mpr ⟨List.mem_cons_of_mem _ (List.mem_append_left _ (List.mem_append_left _ (List.mem_append_left _ (List.mem_append_left _ (List.mem_of_getElem? (i := 10) rfl))))), List.forall_mem_cons.mpr ⟨List.mem_cons_of_mem _ (List.mem_append_left _ (List.mem_append_left _ (List.mem_append_left _ (List.mem_append_left _ (List.mem_of_getElem? (i := 11) rfl))))), fun _ h9 => absurd h9 List.not_mem_nil⟩⟩⟩⟩⟩, fun w h9 => List.mem_cons_of_mem _ (List.mem_append_left _ (List.mem_append_right _ (h9)))⟩⟩) (by decide +kernel)
set_option maxRecDepth 20000 in
theorem gX8_supposeAct_X7_add : GoodIn wsX8_supposeAct (wsV RX8 222 RX7 yX7_add wsX7_add) := goodIn_app (goodIn_4 _ (List.forall_mem_cons.mpr ⟨List.mem_cons_of_mem _ (List.mem_append_left _ (List.mem_append_left _ (List.mem_append_left _ (List.mem_append_left _ (List.mem_of_getElem? (i := 2) rfl))))), List.forall_mem_cons.mpr ⟨List.mem_cons_of_mem _ (List.mem_append_left _ (List.mem_append_left _ (List.mem_append_left _ (List.mem_append_left _ (List.mem_of_getElem? (i := 3) rfl))))), List.forall_mem_cons.mpr ⟨List.mem_cons_of_mem _ (List.mem_append_left _ (List.mem_append_left _ (List.mem_append_left _ (List.mem_append_left _ (List.mem_of_getElem? (i := 4) rfl))))), List.forall_mem_cons.mpr ⟨List.mem_cons_of_mem _ (List.mem_append_left _ (List.mem_append_left _ (List.mem_append_left _ (List.mem_append_left _ (List.mem_of_getElem? (i := 5) rfl))))), fun _ h9 => absurd h9 List.not_mem_nil⟩⟩⟩⟩) (by decide +kernel)) ggX8_supposeAct_X7_add
set_option maxRecDepth 20000 in
theorem ggX8_supposeAct_X7_drop : GoodIn wsX8_supposeAct wsX7_drop := goodIn_4 _ (List.forall_mem_cons.mpr ⟨List.mem_cons_of_mem _ (List.mem_append_left _ (List.mem_append_left _ (List.mem_append_left _ (List.mem_append_left _ (List.mem_of_getElem? (i := 15) rfl))))), List.forall_mem_append.mpr ⟨List.forall_mem_cons.mpr ⟨List.mem_cons_of_mem _ (List.mem_append_left _ (List.mem_append_left _ (List.mem_append_left _ (List.mem_append_left _ (List.mem_of_getElem? (i := 7) rfl))))), List.forall_mem_cons.mpr ⟨List.mem_cons_of_mem _ (List.mem_append_left _ (List.mem_append_left _ (List.mem_append_left _ (List.mem_append_left _ (List.mem_of_getElem? (i := 9) rfl))))), List.forall_mem_cons.mpr ⟨List.mem_cons_of_mem _ (List.mem_append_left _ (List.mem_append_left _ (List.mem_append_left _ (List.mem_append_left _ (List.mem_of_getElem? (i := 10) rfl))))), List.forall_mem_cons.mpr ⟨List.mem_cons_of_mem _ (List.mem_append_left _ (List.mem_append_left _ (List.mem_append_left _ (List.mem_append_left _ (List.mem_of_getElem? (i := 11) rfl))))), fun _ h9 => absurd h9 List.not_mem_nil⟩⟩⟩⟩, fun w h9 => List.mem_cons_of_mem _ (List.mem_append_left _ (List.mem_append_right _ (h9)))⟩⟩) (by decide +kernel)
set_option maxRecDepth 20000 in
theorem gX8_supposeAct_X7_drop : GoodIn wsX8_supposeAct (wsV RX8 163 RX7 yX7_drop wsX7_drop) := goodIn_app (goodIn_4 _ (List.forall_mem_cons.mpr ⟨List.mem_cons_of_mem _ (List.mem_append_left _ (List.mem_append_left _ (List.mem_append_left _ (List.mem_append_left _ (List.mem_of_getElem? (i := 12) rfl))))), List.forall_mem_cons.mpr ⟨List.mem_cons_of_mem _ (List.mem_append_left _ (List.mem_append_left _ (List.mem_append_left _ (List.mem_append_left _ (List.mem_of_getElem? (i := 13) rfl))))), List.forall_mem_cons.mpr ⟨List.mem_cons_of_mem _ (List.mem_append_left _ (List.mem_append_left _ (List.mem_append_left _ (List.mem_append_left _ (List.mem_of_getElem? (i := 14) rfl))))), List.forall_mem_cons.mpr ⟨List.mem_cons_of_mem _ (List.mem_append_left _ (List.mem_append_left _ (List.mem_append_left _ (List.mem_append_left _ (List.mem_of_getElem? (i := 5) rfl))))), fun _ h9 => absurd h9 List.not_mem_nil⟩⟩⟩⟩) (by decide +kernel)) ggX8_supposeAct_X7_drop
set_option maxRecDepth 20000 in
theorem mw_X8_supposeAct_0 : (.fieldLink RX8 67 "FontRuns" "supposedWriting" "LFontRuns$Writing;" : Cond) ∈ wsX8_supposeAct := List.mem_cons_of_mem _ (List.mem_append_left _ (List.mem_append_left _ (List.mem_append_left _ (List.mem_append_left _ (List.mem_of_getElem? (i := 0) rfl)))))
set_option maxRecDepth 20000 in
theorem mw_X8_supposeAct_1 : (.fieldLink RX8 70 "FontRuns" "supposedPreference" "LFontRuns$Preference;" : Cond) ∈ wsX8_supposeAct := List.mem_cons_of_mem _ (List.mem_append_left _ (List.mem_append_left _ (List.mem_append_left _ (List.mem_append_left _ (List.mem_of_getElem? (i := 1) rfl)))))
theorem ax_X8_supposeAct_0 {e0 e1 e2 e3 e4 : Nat × va_E} : ([1, 2] : List Nat).map (fun i => ([e0, e1, e2, e3, e4] : va_W)[i]?) = ([e1, e2] : va_W).map some := rfl
theorem ax_X8_supposeAct_1 {e0 e1 e2 e3 e4 : Nat × va_E} : ([0, 3, 4] : List Nat).map (fun i => ([e0, e1, e2, e3, e4] : va_W)[i]?) = ([e0, e3, e4] : va_W).map some := rfl
theorem ax_X8_supposeAct_2 {D : va_G} {cl : List vw_C} {H : Heap} {e0 e1 e2 f0 f1 : Nat × va_E} (h : va_P D cl ((([e0, e1, e2] : va_W) ++ ([f0, f1] : va_W))) H) : va_P D cl (([e0, e1, e2, f0, f1] : va_W)) H := h
theorem ax_X8_supposeAct_3 {A : Nat → Prop} {e0 e1 e2 f0 f1 : Nat × va_E} (h : va_D A ((([e0, e1, e2] : va_W) ++ ([f0, f1] : va_W)))) : va_D A (([e0, e1, e2, f0, f1] : va_W)) := h
theorem ax_X8_supposeAct_4 {e0 e1 e2 e3 e4 : Nat × va_E} : ([0, 3, 4, 1, 2] : List Nat).map (fun i => ([e0, e1, e2, e3, e4] : va_W)[i]?) = ([e0, e3, e4, e1, e2] : va_W).map some := rfl
theorem ax_X8_supposeAct_5 {e0 e1 e2 e3 e4 : Nat × va_E} : ([1] : List Nat).map (fun i => ([e0, e1, e2, e3, e4] : va_W)[i]?) = ([e1] : va_W).map some := rfl
theorem ax_X8_supposeAct_6 {e0 e1 e2 e3 e4 : Nat × va_E} : ([0, 2, 3, 4] : List Nat).map (fun i => ([e0, e1, e2, e3, e4] : va_W)[i]?) = ([e0, e2, e3, e4] : va_W).map some := rfl
theorem ax_X8_supposeAct_7 {D : va_G} {cl : List vw_C} {H : Heap} {e0 e1 e2 e3 f0 : Nat × va_E} (h : va_P D cl ((([e0, e1, e2, e3] : va_W) ++ ([f0] : va_W))) H) : va_P D cl (([e0, e1, e2, e3, f0] : va_W)) H := h
theorem ax_X8_supposeAct_8 {A : Nat → Prop} {e0 e1 e2 e3 f0 : Nat × va_E} (h : va_D A ((([e0, e1, e2, e3] : va_W) ++ ([f0] : va_W)))) : va_D A (([e0, e1, e2, e3, f0] : va_W)) := h
theorem ax_X8_supposeAct_9 {e0 e1 e2 e3 e4 : Nat × va_E} : ([0, 4, 1, 2, 3] : List Nat).map (fun i => ([e0, e1, e2, e3, e4] : va_W)[i]?) = ([e0, e4, e1, e2, e3] : va_W).map some := rfl
theorem ax_X8_supposeAct_10 {e0 e1 e2 e3 e4 : Nat × va_E} : ([3, 4] : List Nat).map (fun i => ([e0, e1, e2, e3, e4] : va_W)[i]?) = ([e3, e4] : va_W).map some := rfl
theorem ax_X8_supposeAct_11 {e0 e1 e2 e3 e4 : Nat × va_E} : ([0, 1, 2] : List Nat).map (fun i => ([e0, e1, e2, e3, e4] : va_W)[i]?) = ([e0, e1, e2] : va_W).map some := rfl
theorem ax_X8_supposeAct_12 {e0 e1 e2 e3 e4 : Nat × va_E} : ([0, 1, 2, 3, 4] : List Nat).map (fun i => ([e0, e1, e2, e3, e4] : va_W)[i]?) = ([e0, e1, e2, e3, e4] : va_W).map some := rfl
set_option maxHeartbeats 4000000 in
set_option maxRecDepth 100000 in
theorem c_X8_supposeAct (l : Launch) (D : va_G) (sz : Nat) (x : Int) (a : Int) (h0 : Nat) (sh : Nat) (rd : Nat) (fr : Nat) (wr : Nat) (pf : Nat) (rc : Nat) (se : Nat) (rs : Nat) (sw : Nat) (sp : Nat) (ss : Nat) (ew : Int) (wc : Int64) (tr : Int) (lf : Int) (sw1 : Nat) (swn : Int) (csw1 : ClassId) (fsw : Nat → Int32) (sp1 : Nat) (spn : Int) (csp1 : ClassId) (fsp : Nat → Int32) (q0 : rg x) (q1 : rg a) (q2 : 0 ≤ swn ∧ swn ≤ 24) (q3 : 0 ≤ spn ∧ spn ≤ 4) (q4 : kPr fsp) : Met l yX8_supposeAct wsX8_supposeAct ({ frames := 2, cells := 0, slots := 0, locals := 45 }) (kPre [.ref h0, .int (zI x), .int (zI a)] D [(h0, .inr (8, [.ref sh, .ref rd, .ref fr, .ref wr, .ref pf, .ref rc, .ref se, .ref rs, .ref sw, .ref sp, .ref ss, .int (zI ew), .long wc, .int (zI tr), .int (zI lf)])), (sw, .inr (7, [.ref sw1, .int (zI swn)])), (sw1, .inl (csw1, 24, .inl fsw)), (sp, .inr (1, [.ref sp1, .int (zI spn)])), (sp1, .inl (csp1, 4, .inl fsp))] [(csw1, .int), (csp1, .int)] sz) (kQS (fun rz t => ∃ (un : Int) (uw : Nat → Int32) (up : Nat → Int32), (0 ≤ un ∧ un ≤ 24) ∧ (kPr up) ∧ (rz = 0 ∨ rz = 1) ∧ va_P D vwCl [(h0, .inr (8, [.ref sh, .ref rd, .ref fr, .ref wr, .ref pf, .ref rc, .ref se, .ref rs, .ref sw, .ref sp, .ref ss, .int (zI ew), .long wc, .int (zI tr), .int (zI lf)])), (sw, .inr (7, [.ref sw1, .int (zI un)])), (sw1, .inl (csw1, 24, .inl uw)), (sp, .inr (1, [.ref sp1, .int (zI spn)])), (sp1, .inl (csp1, 4, .inl up))] t.heap ∧ va_D (va_A [(h0, .inr (8, [.ref sh, .ref rd, .ref fr, .ref wr, .ref pf, .ref rc, .ref se, .ref rs, .ref sw, .ref sp, .ref ss, .int (zI ew), .long wc, .int (zI tr), .int (zI lf)])), (sw, .inr (7, [.ref sw1, .int (zI swn)])), (sw1, .inl (csw1, 24, .inl fsw)), (sp, .inr (1, [.ref sp1, .int (zI spn)])), (sp1, .inl (csp1, 4, .inl fsp))] sz) [(h0, .inr (8, [.ref sh, .ref rd, .ref fr, .ref wr, .ref pf, .ref rc, .ref se, .ref rs, .ref sw, .ref sp, .ref ss, .int (zI ew), .long wc, .int (zI tr), .int (zI lf)])), (sw, .inr (7, [.ref sw1, .int (zI un)])), (sw1, .inl (csw1, 24, .inl uw)), (sp, .inr (1, [.ref sp1, .int (zI spn)])), (sp1, .inl (csp1, 4, .inl up))]) (va_A [(h0, .inr (8, [.ref sh, .ref rd, .ref fr, .ref wr, .ref pf, .ref rc, .ref se, .ref rs, .ref sw, .ref sp, .ref ss, .int (zI ew), .long wc, .int (zI tr), .int (zI lf)])), (sw, .inr (7, [.ref sw1, .int (zI swn)])), (sw1, .inl (csw1, 24, .inl fsw)), (sp, .inr (1, [.ref sp1, .int (zI spn)])), (sp1, .inl (csp1, 4, .inl fsp))] sz)) 0 0 (va_A [(h0, .inr (8, [.ref sh, .ref rd, .ref fr, .ref wr, .ref pf, .ref rc, .ref se, .ref rs, .ref sw, .ref sp, .ref ss, .int (zI ew), .long wc, .int (zI tr), .int (zI lf)])), (sw, .inr (7, [.ref sw1, .int (zI swn)])), (sw1, .inl (csw1, 24, .inl fsw)), (sp, .inr (1, [.ref sp1, .int (zI spn)])), (sp1, .inl (csp1, 4, .inl fsp))] sz) := by
  refine Met.ofW (cc := cX8_supposeAct) (maxL := 3) (ret := (some .boolean)) (by decide) rfl ?_
  intro p e s m args below meth c s₁ B hml hv
  obtain ⟨rfl, hsz, hP, hK, hD0, hN⟩ := hv
  have hx := B.exec
  have hb := B.bytes
  have hr := B.returns
  have hts := atoms_spec (ws := wsX8_supposeAct) B.pre
  have hown : s.vm.findClass RX8 = some m.cls := findClass_of_methodNamed B.named
  have hlocks := B.notSynchronized
  subst hsz
  have hD := hD0.self (sz := s.heap.size)
  generalize hAe : va_A [(h0, .inr (8, [.ref sh, .ref rd, .ref fr, .ref wr, .ref pf, .ref rc, .ref se, .ref rs, .ref sw, .ref sp, .ref ss, .int (zI ew), .long wc, .int (zI tr), .int (zI lf)])), (sw, .inr (7, [.ref sw1, .int (zI swn)])), (sw1, .inl (csw1, 24, .inl fsw)), (sp, .inr (1, [.ref sp1, .int (zI spn)])), (sp1, .inl (csp1, 4, .inl fsp))] s.heap.size = A at hD ⊢
  have hA : ∀ q : Nat, s.heap.size ≤ q → A q := fun q h => by rw [← hAe]; exact Or.inr h
  have hS : va_S A s.heap s.heap [] := va_S.rf
  have hP : va_P D vwCl [(h0, .inr (8, [.ref sh, .ref rd, .ref fr, .ref wr, .ref pf, .ref rc, .ref se, .ref rs, .ref sw, .ref sp, .ref ss, .int (zI ew), .long wc, .int (zI tr), .int (zI lf)])), (sw, .inr (7, [.ref sw1, .int (zI swn)])), (sw1, .inl (csw1, 24, .inl fsw)), (sp, .inr (1, [.ref sp1, .int (zI spn)])), (sp1, .inl (csp1, 4, .inl fsp))] s.heap := hP
  have hl := lv_entry ([.ref h0, .int (zI x), .int (zI a)]) (n := 3) (Nat.le_of_ble_eq_true rfl)
  rw [lg_entry_eq]
  generalize (lg_sl ([.ref h0, .int (zI x), .int (zI a)]) ++ List.replicate (3 - (lg_sl ([.ref h0, .int (zI x), .int (zI a)])).length) Slot.unset).toArray = ls at hl ⊢
  have hl : lv_has ls 3 [(0, .ref h0), (1, .int (zI x)), (2, .int (zI a))] := hl
  refine lv_iload_n hx hb dX8_supposeAct_0 rfl (lv_at hl 2 rfl) ?_
  rcases (show a = 20 ∨ a = 21 ∨ (¬ a = 20 ∧ ¬ a = 21) from by omega) with c_1 | c_1 | c_1
  · refine kz_look (tgt := 28) (off := 27) hx hb dX8_supposeAct_1 (by decide) (by omega) (by show Op.lookupswitch.offset [(20, 27), (21, 36)] 45 a = 27; rw [Op.lookupswitch.offset_cons, Op.lookupswitch.offset_cons, Op.lookupswitch.offset_nil]; (repeat' split) <;> omega) (by decide) ?_
    refine lv_aload_n hx hb dX8_supposeAct_28 rfl (lv_at hl 0 rfl) ?_
    refine va_get (D := D) (ci := 8) (v := .ref sw) (C := RX8) (T := TX8) (N := 15) hx hb hts (fun _ h9 => List.mem_cons_of_mem _ (List.mem_append_left _ (List.mem_append_left _ (List.mem_append_right _ h9)))) hown hK hP 0 rfl rfl 8 (by decide) (hts (.fieldLink RX8 67 "FontRuns" "supposedWriting" "LFontRuns$Writing;") mw_X8_supposeAct_0) (fun _ h9 => h9) rfl dX8_supposeAct_29 ?_
    refine lv_iload_n hx hb dX8_supposeAct_32 rfl (lv_at hl 1 rfl) ?_
    have hFc := va_free (wc := [(sw, .inr (7, [.ref sw1, .int (zI swn)])), (sw1, .inl (csw1, 24, .inl fsw))]) hD hS hA [1, 2] ax_X8_supposeAct_0
    refine va_calli (va_runV (As := [.int (zI x)]) (rest := []) ⟨hx, hb, hml, hown, hts⟩ (c_X7_add l D s.heap.size (x := x) (h0 := sw) (r1 := sw1) (n := swn) (cr1 := csw1) (fr := fsw) q0 q2) (cwV 1 hts gX8_supposeAct_X7_add rfl rfl rfl (by decide +kernel) ⟨Nat.le_of_ble_eq_true rfl, Nat.le_of_ble_eq_true rfl⟩) (kPreV hP (kD0 hD) hK hN [1, 2] [0] ax_X8_supposeAct_0 rfl (by decide +kernel) 1 7 rfl rfl) rfl rfl hl.1 rfl (lv_room (Nat.le_of_ble_eq_true rfl)) dX8_supposeAct_33 ⟨Nat.le_of_ble_eq_true rfl, Nat.le_of_ble_eq_true rfl⟩) hS (fun q _ h => hFc q h) hFc (fun r u t H1 locs ht hvm hw hB hz1 hk1 hS => ?_)
    obtain ⟨z_4, e9⟩ : ∃ z, z = u := ⟨_, rfl⟩
    subst e9
    obtain ⟨rfl, rz_4⟩ := hw
    refine Exists.elim hB (fun un_2 hB1 => Exists.elim hB1 (fun uf_3 hB2 => ?_))
    have h_5 := hB2.1
    have h_6 := hB2.2.1
    have hP1 := hB2.2.2.1
    have hD1 := hB2.2.2.2
    clear hB hB1 hB2
    rw [ht] at hP1
    obtain ⟨hP, hD⟩ := va_join (wr := [(h0, .inr (8, [.ref sh, .ref rd, .ref fr, .ref wr, .ref pf, .ref rc, .ref se, .ref rs, .ref sw, .ref sp, .ref ss, .int (zI ew), .long wc, .int (zI tr), .int (zI lf)])), (sp, .inr (1, [.ref sp1, .int (zI spn)])), (sp1, .inl (csp1, 4, .inl fsp))]) (w1 := [(sw, .inr (7, [.ref sw1, .int (zI un_2)])), (sw1, .inl (csw1, 24, .inl uf_3))]) hP hD [1, 2] [0, 3, 4] ax_X8_supposeAct_0 ax_X8_supposeAct_1 (by decide +kernel) (by decide +kernel) hk1 hFc hP1 hD1
    have hP := ax_X8_supposeAct_2 hP
    have hD := ax_X8_supposeAct_3 hD
    generalize H1 = H at hP hS ⊢
    have hP : va_P D vwCl [(h0, .inr (8, [.ref sh, .ref rd, .ref fr, .ref wr, .ref pf, .ref rc, .ref se, .ref rs, .ref sw, .ref sp, .ref ss, .int (zI ew), .long wc, .int (zI tr), .int (zI lf)])), (sp, .inr (1, [.ref sp1, .int (zI spn)])), (sp1, .inl (csp1, 4, .inl fsp)), (sw, .inr (7, [.ref sw1, .int (zI un_2)])), (sw1, .inl (csw1, 24, .inl uf_3))] H := hP
    have hD : va_D A [(h0, .inr (8, [.ref sh, .ref rd, .ref fr, .ref wr, .ref pf, .ref rc, .ref se, .ref rs, .ref sw, .ref sp, .ref ss, .int (zI ew), .long wc, .int (zI tr), .int (zI lf)])), (sp, .inr (1, [.ref sp1, .int (zI spn)])), (sp1, .inl (csp1, 4, .inl fsp)), (sw, .inr (7, [.ref sw1, .int (zI un_2)])), (sw1, .inl (csw1, 24, .inl uf_3))] := hD
    have hP9 := hP.sub (ws' := [(h0, .inr (8, [.ref sh, .ref rd, .ref fr, .ref wr, .ref pf, .ref rc, .ref se, .ref rs, .ref sw, .ref sp, .ref ss, .int (zI ew), .long wc, .int (zI tr), .int (zI lf)])), (sw, .inr (7, [.ref sw1, .int (zI un_2)])), (sw1, .inl (csw1, 24, .inl uf_3)), (sp, .inr (1, [.ref sp1, .int (zI spn)])), (sp1, .inl (csp1, 4, .inl fsp))]) [0, 3, 4, 1, 2] rfl
    have hD9 := hD.sub (ws' := [(h0, .inr (8, [.ref sh, .ref rd, .ref fr, .ref wr, .ref pf, .ref rc, .ref se, .ref rs, .ref sw, .ref sp, .ref ss, .int (zI ew), .long wc, .int (zI tr), .int (zI lf)])), (sw, .inr (7, [.ref sw1, .int (zI un_2)])), (sw1, .inl (csw1, 24, .inl uf_3)), (sp, .inr (1, [.ref sp1, .int (zI spn)])), (sp1, .inl (csp1, 4, .inl fsp))]) [0, 3, 4, 1, 2] (by decide +kernel) rfl
    exact W.zret (v := (zI z_4)) hx hb hr (kbz (by omega)) (fun t ht hW => kQS_of (by omega) ⟨un_2, uf_3, fsp, h_5, q4, h_6, by rw [ht]; exact hP9, hD9⟩ (hS.F ht)) hS.2.2 dX8_supposeAct_36
  · refine kz_look (tgt := 37) (off := 36) hx hb dX8_supposeAct_1 (by decide) (by omega) (by show Op.lookupswitch.offset [(20, 27), (21, 36)] 45 a = 36; rw [Op.lookupswitch.offset_cons, Op.lookupswitch.offset_cons, Op.lookupswitch.offset_nil]; (repeat' split) <;> omega) (by decide) ?_
    refine lv_aload_n hx hb dX8_supposeAct_37 rfl (lv_at hl 0 rfl) ?_
    refine va_get (D := D) (ci := 8) (v := .ref sw) (C := RX8) (T := TX8) (N := 15) hx hb hts (fun _ h9 => List.mem_cons_of_mem _ (List.mem_append_left _ (List.mem_append_left _ (List.mem_append_right _ h9)))) hown hK hP 0 rfl rfl 8 (by decide) (hts (.fieldLink RX8 67 "FontRuns" "supposedWriting" "LFontRuns$Writing;") mw_X8_supposeAct_0) (fun _ h9 => h9) rfl dX8_supposeAct_38 ?_
    refine lv_iload_n hx hb dX8_supposeAct_41 rfl (lv_at hl 1 rfl) ?_
    have hFc := va_free (wc := [(sw, .inr (7, [.ref sw1, .int (zI swn)]))]) hD hS hA [1] ax_X8_supposeAct_5
    refine va_calli (va_runV (As := [.int (zI x)]) (rest := []) ⟨hx, hb, hml, hown, hts⟩ (c_X7_drop l D s.heap.size (x := x) (h0 := sw) (r1 := sw1) (n := swn) q0 q2) (cwV 1 hts gX8_supposeAct_X7_drop rfl rfl rfl (by decide +kernel) ⟨Nat.le_of_ble_eq_true rfl, Nat.le_of_ble_eq_true rfl⟩) (kPreV hP (kD0 hD) hK hN [1] [] ax_X8_supposeAct_5 rfl (by decide +kernel) 1 7 rfl rfl) rfl rfl hl.1 rfl (lv_room (Nat.le_of_ble_eq_true rfl)) dX8_supposeAct_42 ⟨Nat.le_of_ble_eq_true rfl, Nat.le_of_ble_eq_true rfl⟩) hS (fun q _ h => hFc q h) hFc (fun r u t H1 locs ht hvm hw hB hz1 hk1 hS => ?_)
    obtain ⟨z_8, e9⟩ : ∃ z, z = u := ⟨_, rfl⟩
    subst e9
    obtain ⟨rfl, rz_8⟩ := hw
    refine Exists.elim hB (fun un_7 hB1 => ?_)
    have h_9 := hB1.1
    have h_10 := hB1.2.1
    have hP1 := hB1.2.2.1
    have hD1 := hB1.2.2.2
    clear hB hB1
    rw [ht] at hP1
    obtain ⟨hP, hD⟩ := va_join (wr := [(h0, .inr (8, [.ref sh, .ref rd, .ref fr, .ref wr, .ref pf, .ref rc, .ref se, .ref rs, .ref sw, .ref sp, .ref ss, .int (zI ew), .long wc, .int (zI tr), .int (zI lf)])), (sw1, .inl (csw1, 24, .inl fsw)), (sp, .inr (1, [.ref sp1, .int (zI spn)])), (sp1, .inl (csp1, 4, .inl fsp))]) (w1 := [(sw, .inr (7, [.ref sw1, .int (zI un_7)]))]) hP hD [1] [0, 2, 3, 4] ax_X8_supposeAct_5 ax_X8_supposeAct_6 (by decide +kernel) (by decide +kernel) hk1 hFc hP1 hD1
    have hP := ax_X8_supposeAct_7 hP
    have hD := ax_X8_supposeAct_8 hD
    generalize H1 = H at hP hS ⊢
    have hP : va_P D vwCl [(h0, .inr (8, [.ref sh, .ref rd, .ref fr, .ref wr, .ref pf, .ref rc, .ref se, .ref rs, .ref sw, .ref sp, .ref ss, .int (zI ew), .long wc, .int (zI tr), .int (zI lf)])), (sw1, .inl (csw1, 24, .inl fsw)), (sp, .inr (1, [.ref sp1, .int (zI spn)])), (sp1, .inl (csp1, 4, .inl fsp)), (sw, .inr (7, [.ref sw1, .int (zI un_7)]))] H := hP
    have hD : va_D A [(h0, .inr (8, [.ref sh, .ref rd, .ref fr, .ref wr, .ref pf, .ref rc, .ref se, .ref rs, .ref sw, .ref sp, .ref ss, .int (zI ew), .long wc, .int (zI tr), .int (zI lf)])), (sw1, .inl (csw1, 24, .inl fsw)), (sp, .inr (1, [.ref sp1, .int (zI spn)])), (sp1, .inl (csp1, 4, .inl fsp)), (sw, .inr (7, [.ref sw1, .int (zI un_7)]))] := hD
    have hP9 := hP.sub (ws' := [(h0, .inr (8, [.ref sh, .ref rd, .ref fr, .ref wr, .ref pf, .ref rc, .ref se, .ref rs, .ref sw, .ref sp, .ref ss, .int (zI ew), .long wc, .int (zI tr), .int (zI lf)])), (sw, .inr (7, [.ref sw1, .int (zI un_7)])), (sw1, .inl (csw1, 24, .inl fsw)), (sp, .inr (1, [.ref sp1, .int (zI spn)])), (sp1, .inl (csp1, 4, .inl fsp))]) [0, 4, 1, 2, 3] rfl
    have hD9 := hD.sub (ws' := [(h0, .inr (8, [.ref sh, .ref rd, .ref fr, .ref wr, .ref pf, .ref rc, .ref se, .ref rs, .ref sw, .ref sp, .ref ss, .int (zI ew), .long wc, .int (zI tr), .int (zI lf)])), (sw, .inr (7, [.ref sw1, .int (zI un_7)])), (sw1, .inl (csw1, 24, .inl fsw)), (sp, .inr (1, [.ref sp1, .int (zI spn)])), (sp1, .inl (csp1, 4, .inl fsp))]) [0, 4, 1, 2, 3] (by decide +kernel) rfl
    exact W.zret (v := (zI z_8)) hx hb hr (kbz (by omega)) (fun t ht hW => kQS_of (by omega) ⟨un_7, fsw, fsp, h_9, q4, h_10, by rw [ht]; exact hP9, hD9⟩ (hS.F ht)) hS.2.2 dX8_supposeAct_45
  · refine kz_look (tgt := 46) (off := 45) hx hb dX8_supposeAct_1 (by decide) (by omega) (by show Op.lookupswitch.offset [(20, 27), (21, 36)] 45 a = 45; rw [Op.lookupswitch.offset_cons, Op.lookupswitch.offset_cons, Op.lookupswitch.offset_nil]; (repeat' split) <;> omega) (by decide) ?_
    refine lv_aload_n hx hb dX8_supposeAct_46 rfl (lv_at hl 0 rfl) ?_
    refine va_get (D := D) (ci := 8) (v := .ref sp) (C := RX8) (T := TX8) (N := 15) hx hb hts (fun _ h9 => List.mem_cons_of_mem _ (List.mem_append_left _ (List.mem_append_left _ (List.mem_append_right _ h9)))) hown hK hP 0 rfl rfl 9 (by decide) (hts (.fieldLink RX8 70 "FontRuns" "supposedPreference" "LFontRuns$Preference;") mw_X8_supposeAct_1) (fun _ h9 => h9) rfl dX8_supposeAct_47 ?_
    refine lv_iload_n hx hb dX8_supposeAct_50 rfl (lv_at hl 1 rfl) ?_
    have hFc := va_free (wc := [(sp, .inr (1, [.ref sp1, .int (zI spn)])), (sp1, .inl (csp1, 4, .inl fsp))]) hD hS hA [3, 4] ax_X8_supposeAct_10
    refine va_calli (va_runV (As := [.int (zI x)]) (rest := []) ⟨hx, hb, hml, hown, hts⟩ (c_X1_lead l D s.heap.size (f := x) (h0 := sp) (r1 := sp1) (n := spn) (cr1 := csp1) (fr := fsp) q0 q3 q4) (cwV 1 hts gX8_supposeAct_X1_lead rfl rfl rfl (by decide +kernel) ⟨Nat.le_of_ble_eq_true rfl, Nat.le_of_ble_eq_true rfl⟩) (kPreV hP (kD0 hD) hK hN [3, 4] [1] ax_X8_supposeAct_10 rfl (by decide +kernel) 3 1 rfl rfl) rfl rfl hl.1 rfl (lv_room (Nat.le_of_ble_eq_true rfl)) dX8_supposeAct_51 ⟨Nat.le_of_ble_eq_true rfl, Nat.le_of_ble_eq_true rfl⟩) hS (fun q _ h => hFc q h) hFc (fun r u t H1 locs ht hvm hw hB hz1 hk1 hS => ?_)
    obtain ⟨z_12, e9⟩ : ∃ z, z = u := ⟨_, rfl⟩
    subst e9
    obtain ⟨rfl, rz_12⟩ := hw
    refine Exists.elim hB (fun uf_11 hB1 => ?_)
    have h_13 := hB1.1
    have h_14 := hB1.2.1
    have hP1 := hB1.2.2.1
    have hD1 := hB1.2.2.2
    clear hB hB1
    rw [ht] at hP1
    obtain ⟨hP, hD⟩ := va_join (wr := [(h0, .inr (8, [.ref sh, .ref rd, .ref fr, .ref wr, .ref pf, .ref rc, .ref se, .ref rs, .ref sw, .ref sp, .ref ss, .int (zI ew), .long wc, .int (zI tr), .int (zI lf)])), (sw, .inr (7, [.ref sw1, .int (zI swn)])), (sw1, .inl (csw1, 24, .inl fsw))]) (w1 := [(sp, .inr (1, [.ref sp1, .int (zI spn)])), (sp1, .inl (csp1, 4, .inl uf_11))]) hP hD [3, 4] [0, 1, 2] ax_X8_supposeAct_10 ax_X8_supposeAct_11 (by decide +kernel) (by decide +kernel) hk1 hFc hP1 hD1
    have hP := ax_X8_supposeAct_2 hP
    have hD := ax_X8_supposeAct_3 hD
    generalize H1 = H at hP hS ⊢
    have hP : va_P D vwCl [(h0, .inr (8, [.ref sh, .ref rd, .ref fr, .ref wr, .ref pf, .ref rc, .ref se, .ref rs, .ref sw, .ref sp, .ref ss, .int (zI ew), .long wc, .int (zI tr), .int (zI lf)])), (sw, .inr (7, [.ref sw1, .int (zI swn)])), (sw1, .inl (csw1, 24, .inl fsw)), (sp, .inr (1, [.ref sp1, .int (zI spn)])), (sp1, .inl (csp1, 4, .inl uf_11))] H := hP
    have hD : va_D A [(h0, .inr (8, [.ref sh, .ref rd, .ref fr, .ref wr, .ref pf, .ref rc, .ref se, .ref rs, .ref sw, .ref sp, .ref ss, .int (zI ew), .long wc, .int (zI tr), .int (zI lf)])), (sw, .inr (7, [.ref sw1, .int (zI swn)])), (sw1, .inl (csw1, 24, .inl fsw)), (sp, .inr (1, [.ref sp1, .int (zI spn)])), (sp1, .inl (csp1, 4, .inl uf_11))] := hD
    have hP9 := hP.sub (ws' := [(h0, .inr (8, [.ref sh, .ref rd, .ref fr, .ref wr, .ref pf, .ref rc, .ref se, .ref rs, .ref sw, .ref sp, .ref ss, .int (zI ew), .long wc, .int (zI tr), .int (zI lf)])), (sw, .inr (7, [.ref sw1, .int (zI swn)])), (sw1, .inl (csw1, 24, .inl fsw)), (sp, .inr (1, [.ref sp1, .int (zI spn)])), (sp1, .inl (csp1, 4, .inl uf_11))]) [0, 1, 2, 3, 4] rfl
    have hD9 := hD.sub (ws' := [(h0, .inr (8, [.ref sh, .ref rd, .ref fr, .ref wr, .ref pf, .ref rc, .ref se, .ref rs, .ref sw, .ref sp, .ref ss, .int (zI ew), .long wc, .int (zI tr), .int (zI lf)])), (sw, .inr (7, [.ref sw1, .int (zI swn)])), (sw1, .inl (csw1, 24, .inl fsw)), (sp, .inr (1, [.ref sp1, .int (zI spn)])), (sp1, .inl (csp1, 4, .inl uf_11))]) [0, 1, 2, 3, 4] (by decide +kernel) rfl
    exact W.zret (v := (zI z_12)) hx hb hr (kbz (by omega)) (fun t ht hW => kQS_of (by omega) ⟨swn, fsw, uf_11, q2, h_13, h_14, by rw [ht]; exact hP9, hD9⟩ (hS.F ht)) hS.2.2 dX8_supposeAct_54
