set_option maxRecDepth 20000 in
theorem mw_X4_firstOfRun_b_0 : (.fieldLink RX4 51 "FontRuns$Setting" "count" "I" : Cond) ∈ wsX4_firstOfRun := List.mem_cons_of_mem _ (List.mem_append_left _ (List.mem_of_getElem? (i := 0) rfl))
set_option maxRecDepth 20000 in
theorem mw_X4_firstOfRun_b_1 : (.fieldLink RX4 24 "FontRuns$Setting" "runOf" "[I" : Cond) ∈ wsX4_firstOfRun := List.mem_cons_of_mem _ (List.mem_append_left _ (List.mem_of_getElem? (i := 1) rfl))
set_option maxHeartbeats 4000000 in
set_option maxRecDepth 100000 in
theorem c_X4_firstOfRun_b (l : Launch) (D : va_G) (sz : Nat) (f : Int) (h0 : Nat) (g1 : Nat) (g2 : Nat) (g3 : Nat) (g4 : Nat) (g5 : Nat) (cn : Int) (bo : Int) (ru : Int) (g6 : Nat) (g7 : Nat) (cg5 : ClassId) (f5 : Nat → Int32) (q0 : rg f) (q1 : 0 ≤ cn ∧ cn ≤ 24) (q2 : 0 ≤ bo ∧ bo ≤ 24) (q3 : 0 ≤ ru ∧ ru ≤ cn) : Met l yX4_firstOfRun wsX4_firstOfRun ({ frames := 0, cells := 0, slots := 0, locals := 0 }) (kPre [.ref h0, .int (zI f)] D [(h0, .inr (4, [.ref g1, .ref g2, .ref g3, .ref g4, .ref g5, .int (zI cn), .int (zI bo), .int (zI ru), .ref g6, .ref g7])), (g5, .inl (cg5, 24, .inl f5))] [(cg5, .int)] sz) (QcP (fun rz => (0 ≤ rz ∧ rz ≤ 23) ∧ kFr f5 cn f rz)) 0 0 (fun _ => False) := by
  refine Met.ofW (cc := cX4_firstOfRun) (maxL := 3) (ret := (some .int)) (by decide) rfl ?_
  intro p e s m args below meth c s₁ B hml hv
  obtain ⟨rfl, hsz, hP, hK, hD0, hN⟩ := hv
  have hx := B.exec
  have hb := B.bytes
  have hr := B.returns
  have hts := atoms_spec (ws := wsX4_firstOfRun) B.pre
  have hown : s.vm.findClass RX4 = some m.cls := findClass_of_methodNamed B.named
  have hlocks := B.notSynchronized
  subst hsz
  have hD := hD0
  have hP : va_P D vwCl [(h0, .inr (4, [.ref g1, .ref g2, .ref g3, .ref g4, .ref g5, .int (zI cn), .int (zI bo), .int (zI ru), .ref g6, .ref g7])), (g5, .inl (cg5, 24, .inl f5))] s.heap := hP
  have hl := lv_entry ([.ref h0, .int (zI f)]) (n := 3) (Nat.le_of_ble_eq_true rfl)
  rw [lg_entry_eq]
  generalize (lg_sl ([.ref h0, .int (zI f)]) ++ List.replicate (3 - (lg_sl ([.ref h0, .int (zI f)])).length) Slot.unset).toArray = ls at hl ⊢
  have hl : lv_has ls 3 [(0, .ref h0), (1, .int (zI f))] := hl
  refine lv_iconst (v := zI 0) hx hb dX4_firstOfRun_0 rfl ?_
  refine lv_istore_n (lv' := [(2, .int (zI 0)), (0, .ref h0), (1, .int (zI f))]) hx hb dX4_firstOfRun_1 rfl hl (by decide) rfl (fun ls hl => ?_)
  refine k_loopM (I := fun n9 H locs ls => ∃ (jk : Int), n9 = (cn - jk).toNat ∧ (0 ≤ jk ∧ (jk ≤ cn - 1 ∨ jk = 0)) ∧ (kNr f5 f jk) ∧ H = s.heap ∧ locs = [] ∧ lv_has ls 3 [(2, .int (zI jk)), (0, .ref h0), (1, .int (zI f))]) ?_ _ ⟨0, rfl, (by omega), kNr_0, rfl, rfl, hl⟩
  intro n2 ih2 H locs ls hI
  obtain ⟨jk, en2, v_20, v_21, eH, eL, hl⟩ := hI
  subst eH
  subst eL
  refine lv_iload_n hx hb dX4_firstOfRun_2 rfl (lv_at hl 0 rfl) ?_
  refine lv_aload_n hx hb dX4_firstOfRun_3 rfl (lv_at hl 1 rfl) ?_
  refine va_get (D := D) (ci := 4) (v := .int (zI cn)) (C := RX4) (T := TX4) (N := 10) hx hb hts (fun _ h9 => List.mem_cons_of_mem _ (List.mem_append_right _ h9)) hown hK hP 0 rfl rfl 5 (by decide) (hts (.fieldLink RX4 51 "FontRuns$Setting" "count" "I") mw_X4_firstOfRun_b_0) (fun _ h9 => h9) rfl dX4_firstOfRun_4 ?_
  refine lv_iconst (v := zI 1) hx hb dX4_firstOfRun_7 rfl ?_
  refine kz_isub hx hb dX4_firstOfRun_8 ?_
  refine kz_icmp_ge (tgt := 28) hx hb dX4_firstOfRun_9 (by decide) (by omega) (by omega) (fun c_1 => ?_) (fun c_1 => ?_)
  · refine lv_iload_n hx hb dX4_firstOfRun_28 rfl (lv_at hl 0 rfl) ?_
    exact W.iret (v := (zI jk)) hx hb hr (fun t ht hW => QcP_of (by omega) ⟨by omega, v_21, Or.inl (by omega), by omega, by omega⟩ ht) (fun _ h9 => by cases h9) dX4_firstOfRun_29
  · refine lv_aload_n hx hb dX4_firstOfRun_12 rfl (lv_at hl 1 rfl) ?_
    refine va_get (D := D) (ci := 4) (v := .ref g5) (C := RX4) (T := TX4) (N := 10) hx hb hts (fun _ h9 => List.mem_cons_of_mem _ (List.mem_append_right _ h9)) hown hK hP 0 rfl rfl 4 (by decide) (hts (.fieldLink RX4 24 "FontRuns$Setting" "runOf" "[I") mw_X4_firstOfRun_b_1) (fun _ h9 => h9) rfl dX4_firstOfRun_13 ?_
    refine lv_iload_n hx hb dX4_firstOfRun_16 rfl (lv_at hl 0 rfl) ?_
    refine kz_iald hx hb hK hP 1 0 rfl rfl (by omega) dX4_firstOfRun_17 (fun z_2 rz_2 ez_2 => ?_)
    refine lv_iload_n hx hb dX4_firstOfRun_18 rfl (lv_at hl 2 rfl) ?_
    refine kz_icmp_eq (tgt := 28) hx hb dX4_firstOfRun_19 (by decide) (by omega) (by omega) (fun c_3 => ?_) (fun c_3 => ?_)
    · refine lv_iload_n hx hb dX4_firstOfRun_28 rfl (lv_at hl 0 rfl) ?_
      exact W.iret (v := (zI jk)) hx hb hr (fun t ht hW => QcP_of (by omega) ⟨by omega, v_21, Or.inr (by rw [ez_2, c_3]), by omega, by omega⟩ ht) (fun _ h9 => by cases h9) dX4_firstOfRun_29
    · refine lv_iinc (v := (zI (jk + 1))) (lv' := [(2, .int (zI (jk + 1))), (0, .ref h0), (1, .int (zI f))]) hx hb dX4_firstOfRun_22 hl (k := 0) rfl (kz_inc _ 1) (by decide) rfl (fun ls hl => ?_)
      refine lv_goto (tgt := 2) hx hb dX4_firstOfRun_25 (by decide) ?_
      exact ih2 _ (by omega) _ _ _ ⟨(jk + 1), rfl, (by omega), (kNr_s v_21 (by omega) ez_2 rz_2 (by omega) c_3), rfl, rfl, lv_sub hl [0, 1, 2] rfl⟩
set_option maxRecDepth 20000 in
theorem mw_X4_clustersOfRun_b_0 : (.fieldLink RX4 51 "FontRuns$Setting" "count" "I" : Cond) ∈ wsX4_clustersOfRun := List.mem_cons_of_mem _ (List.mem_append_left _ (List.mem_of_getElem? (i := 0) rfl))
set_option maxRecDepth 20000 in
theorem mw_X4_clustersOfRun_b_1 : (.fieldLink RX4 24 "FontRuns$Setting" "runOf" "[I" : Cond) ∈ wsX4_clustersOfRun := List.mem_cons_of_mem _ (List.mem_append_left _ (List.mem_of_getElem? (i := 1) rfl))
set_option maxHeartbeats 4000000 in
set_option maxRecDepth 100000 in
theorem c_X4_clustersOfRun_b (l : Launch) (D : va_G) (sz : Nat) (f : Int) (h0 : Nat) (g1 : Nat) (g2 : Nat) (g3 : Nat) (g4 : Nat) (g5 : Nat) (cn : Int) (bo : Int) (ru : Int) (g6 : Nat) (g7 : Nat) (cg5 : ClassId) (f5 : Nat → Int32) (q0 : rg f) (q1 : 0 ≤ cn ∧ cn ≤ 24) (q2 : 0 ≤ bo ∧ bo ≤ 24) (q3 : 0 ≤ ru ∧ ru ≤ cn) : Met l yX4_clustersOfRun wsX4_clustersOfRun ({ frames := 0, cells := 0, slots := 0, locals := 0 }) (kPre [.ref h0, .int (zI f)] D [(h0, .inr (4, [.ref g1, .ref g2, .ref g3, .ref g4, .ref g5, .int (zI cn), .int (zI bo), .int (zI ru), .ref g6, .ref g7])), (g5, .inl (cg5, 24, .inl f5))] [(cg5, .int)] sz) (QcP (fun rz => (0 ≤ rz ∧ rz ≤ 24) ∧ rz = kCo f5 (zI f) (kNa cn))) 0 0 (fun _ => False) := by
  refine Met.ofW (cc := cX4_clustersOfRun) (maxL := 4) (ret := (some .int)) (by decide) rfl ?_
  intro p e s m args below meth c s₁ B hml hv
  obtain ⟨rfl, hsz, hP, hK, hD0, hN⟩ := hv
  have hx := B.exec
  have hb := B.bytes
  have hr := B.returns
  have hts := atoms_spec (ws := wsX4_clustersOfRun) B.pre
  have hown : s.vm.findClass RX4 = some m.cls := findClass_of_methodNamed B.named
  have hlocks := B.notSynchronized
  subst hsz
  have hD := hD0
  have hP : va_P D vwCl [(h0, .inr (4, [.ref g1, .ref g2, .ref g3, .ref g4, .ref g5, .int (zI cn), .int (zI bo), .int (zI ru), .ref g6, .ref g7])), (g5, .inl (cg5, 24, .inl f5))] s.heap := hP
  have hl := lv_entry ([.ref h0, .int (zI f)]) (n := 4) (Nat.le_of_ble_eq_true rfl)
  rw [lg_entry_eq]
  generalize (lg_sl ([.ref h0, .int (zI f)]) ++ List.replicate (4 - (lg_sl ([.ref h0, .int (zI f)])).length) Slot.unset).toArray = ls at hl ⊢
  have hl : lv_has ls 4 [(0, .ref h0), (1, .int (zI f))] := hl
  refine lv_iconst (v := zI 0) hx hb dX4_clustersOfRun_0 rfl ?_
  refine lv_istore_n (lv' := [(2, .int (zI 0)), (0, .ref h0), (1, .int (zI f))]) hx hb dX4_clustersOfRun_1 rfl hl (by decide) rfl (fun ls hl => ?_)
  refine lv_iconst (v := zI 0) hx hb dX4_clustersOfRun_2 rfl ?_
  refine lv_istore_n (lv' := [(3, .int (zI 0)), (2, .int (zI 0)), (0, .ref h0), (1, .int (zI f))]) hx hb dX4_clustersOfRun_3 rfl hl (by decide) rfl (fun ls hl => ?_)
  refine k_loopM (I := fun n9 H locs ls => ∃ (js : Int) (jk : Int), n9 = (cn - jk).toNat ∧ (0 ≤ js ∧ js ≤ jk) ∧ (0 ≤ jk ∧ jk ≤ cn) ∧ (js = kCo f5 (zI f) (kNa jk)) ∧ H = s.heap ∧ locs = [] ∧ lv_has ls 4 [(3, .int (zI jk)), (2, .int (zI js)), (0, .ref h0), (1, .int (zI f))]) ?_ _ ⟨0, 0, rfl, (by omega), (by omega), rfl, rfl, rfl, hl⟩
  intro n4 ih4 H locs ls hI
  obtain ⟨js, jk, en4, v_40, v_41, v_42, eH, eL, hl⟩ := hI
  subst eH
  subst eL
  refine lv_iload_n hx hb dX4_clustersOfRun_4 rfl (lv_at hl 0 rfl) ?_
  refine lv_aload_n hx hb dX4_clustersOfRun_5 rfl (lv_at hl 2 rfl) ?_
  refine va_get (D := D) (ci := 4) (v := .int (zI cn)) (C := RX4) (T := TX4) (N := 10) hx hb hts (fun _ h9 => List.mem_cons_of_mem _ (List.mem_append_right _ h9)) hown hK hP 0 rfl rfl 5 (by decide) (hts (.fieldLink RX4 51 "FontRuns$Setting" "count" "I") mw_X4_clustersOfRun_b_0) (fun _ h9 => h9) rfl dX4_clustersOfRun_6 ?_
  refine kz_icmp_ge (tgt := 31) hx hb dX4_clustersOfRun_9 (by decide) (by omega) (by omega) (fun c_1 => ?_) (fun c_1 => ?_)
  · refine lv_iload_n hx hb dX4_clustersOfRun_31 rfl (lv_at hl 1 rfl) ?_
    exact W.iret (v := (zI js)) hx hb hr (fun t ht hW => QcP_of (by omega) ⟨by omega, by have q9 : jk = cn := (by omega); rw [← q9]; exact v_42⟩ ht) (fun _ h9 => by cases h9) dX4_clustersOfRun_32
  · refine lv_aload_n hx hb dX4_clustersOfRun_12 rfl (lv_at hl 2 rfl) ?_
    refine va_get (D := D) (ci := 4) (v := .ref g5) (C := RX4) (T := TX4) (N := 10) hx hb hts (fun _ h9 => List.mem_cons_of_mem _ (List.mem_append_right _ h9)) hown hK hP 0 rfl rfl 4 (by decide) (hts (.fieldLink RX4 24 "FontRuns$Setting" "runOf" "[I") mw_X4_clustersOfRun_b_1) (fun _ h9 => h9) rfl dX4_clustersOfRun_13 ?_
    refine lv_iload_n hx hb dX4_clustersOfRun_16 rfl (lv_at hl 0 rfl) ?_
    refine kz_iald hx hb hK hP 1 0 rfl rfl (by omega) dX4_clustersOfRun_17 (fun z_2 rz_2 ez_2 => ?_)
    refine lv_iload_n hx hb dX4_clustersOfRun_18 rfl (lv_at hl 3 rfl) ?_
    refine kz_icmp_ne (tgt := 25) hx hb dX4_clustersOfRun_19 (by decide) (by omega) (by omega) (fun c_3 => ?_) (fun c_3 => ?_)
    · refine lv_iinc (v := (zI (jk + 1))) (lv' := [(3, .int (zI (jk + 1))), (2, .int (zI js)), (0, .ref h0), (1, .int (zI f))]) hx hb dX4_clustersOfRun_25 hl (k := 0) rfl (kz_inc _ 1) (by decide) rfl (fun ls hl => ?_)
      refine lv_goto (tgt := 4) hx hb dX4_clustersOfRun_28 (by decide) ?_
      exact ih4 _ (by omega) _ _ _ ⟨js, (jk + 1), rfl, (by omega), (by omega), (kCo_n v_42 (by omega) ez_2 rz_2 (by omega) (by omega)), rfl, rfl, lv_sub hl [0, 1, 2, 3] rfl⟩
    · refine lv_iinc (v := (zI (js + 1))) (lv' := [(2, .int (zI (js + 1))), (3, .int (zI jk)), (0, .ref h0), (1, .int (zI f))]) hx hb dX4_clustersOfRun_22 hl (k := 1) rfl (kz_inc _ 1) (by decide) rfl (fun ls hl => ?_)
      refine lv_iinc (v := (zI (jk + 1))) (lv' := [(3, .int (zI (jk + 1))), (2, .int (zI (js + 1))), (0, .ref h0), (1, .int (zI f))]) hx hb dX4_clustersOfRun_25 hl (k := 1) rfl (kz_inc _ 1) (by decide) rfl (fun ls hl => ?_)
      refine lv_goto (tgt := 4) hx hb dX4_clustersOfRun_28 (by decide) ?_
      exact ih4 _ (by omega) _ _ _ ⟨(js + 1), (jk + 1), rfl, (by omega), (by omega), (kCo_y v_42 (by omega) ez_2 (by omega)), rfl, rfl, lv_sub hl [0, 1, 2, 3] rfl⟩
set_option maxRecDepth 20000 in
theorem mw_X8_ofRun_b_0 : (.fieldLink RX8 56 "FontRuns" "setting" "LFontRuns$Setting;" : Cond) ∈ wsX8_ofRun := List.mem_cons_of_mem _ (List.mem_append_left _ (List.mem_append_left _ (List.mem_append_left _ (List.mem_append_left _ (List.mem_of_getElem? (i := 0) rfl)))))
set_option maxRecDepth 20000 in
theorem mw_X8_ofRun_b_1 : (.fieldLink RX8 187 "FontRuns$Setting" "runs" "I" : Cond) ∈ wsX8_ofRun := List.mem_cons_of_mem _ (List.mem_append_left _ (List.mem_append_left _ (List.mem_append_left _ (List.mem_append_left _ (List.mem_of_getElem? (i := 1) rfl)))))
set_option maxRecDepth 20000 in
theorem mw_X8_ofRun_b_2 : (.fieldLink RX8 181 "FontRuns$Setting" "chosen" "[I" : Cond) ∈ wsX8_ofRun := List.mem_cons_of_mem _ (List.mem_append_left _ (List.mem_append_left _ (List.mem_append_left _ (List.mem_append_left _ (List.mem_of_getElem? (i := 2) rfl)))))
set_option maxRecDepth 20000 in
theorem mw_X8_ofRun_b_3 : (.fieldLink RX8 28 "FontRuns" "fontRow" "LFontRuns$FontRow;" : Cond) ∈ wsX8_ofRun := List.mem_cons_of_mem _ (List.mem_append_left _ (List.mem_append_left _ (List.mem_append_left _ (List.mem_append_left _ (List.mem_of_getElem? (i := 3) rfl)))))
theorem ax_X8_ofRun_b_0 {e0 e1 e2 e3 e4 e5 e6 : Nat × va_E} : ([] : List Nat).map (fun i => ([e0, e1, e2, e3, e4, e5, e6] : va_W)[i]?) = ([] : va_W).map some := rfl
theorem ax_X8_ofRun_b_1 {e0 e1 e2 e3 e4 e5 e6 : Nat × va_E} : ([1, 3] : List Nat).map (fun i => ([e0, e1, e2, e3, e4, e5, e6] : va_W)[i]?) = ([e1, e3] : va_W).map some := rfl
theorem ax_X8_ofRun_b_2 {e0 e1 e2 e3 e4 e5 e6 : Nat × va_E} : ([4, 5, 6] : List Nat).map (fun i => ([e0, e1, e2, e3, e4, e5, e6] : va_W)[i]?) = ([e4, e5, e6] : va_W).map some := rfl
set_option maxHeartbeats 4000000 in
set_option maxRecDepth 100000 in
theorem c_X8_ofRun_b (l : Launch) (D : va_G) (sz : Nat) (k : Int) (w : Int) (h0 : Nat) (sh : Nat) (rd : Nat) (fr : Nat) (wr : Nat) (pf : Nat) (rc : Nat) (se : Nat) (rs : Nat) (sw : Nat) (sp : Nat) (ss : Nat) (ew : Int) (wc : Int64) (tr : Int) (lf : Int) (g1 : Nat) (g2 : Nat) (g3 : Nat) (g4 : Nat) (g5 : Nat) (cn : Int) (bo : Int) (ru : Int) (g6 : Nat) (g7 : Nat) (cg4 : ClassId) (f4 : Nat → Int32) (cg5 : ClassId) (f5 : Nat → Int32) (k1 : Nat) (k2 : Nat) (k3 : Nat) (fn : Int) (ck1 : ClassId) (fk : Nat → Int32) (ck2 : ClassId) (fb : Nat → Int32) (q0 : rg k) (q1 : rg w) (q2 : 0 ≤ cn ∧ cn ≤ 24) (q3 : 0 ≤ bo ∧ bo ≤ 24) (q4 : 0 ≤ ru ∧ ru ≤ cn) (q5 : 0 ≤ fn ∧ fn ≤ 4) : Met l yX8_ofRun wsX8_ofRun ({ frames := 3, cells := 0, slots := 0, locals := 64 }) (kPre [.ref h0, .int (zI k), .int (zI w)] D [(h0, .inr (8, [.ref sh, .ref rd, .ref fr, .ref wr, .ref pf, .ref rc, .ref se, .ref rs, .ref sw, .ref sp, .ref ss, .int (zI ew), .long wc, .int (zI tr), .int (zI lf)])), (se, .inr (4, [.ref g1, .ref g2, .ref g3, .ref g4, .ref g5, .int (zI cn), .int (zI bo), .int (zI ru), .ref g6, .ref g7])), (g4, .inl (cg4, 24, .inl f4)), (g5, .inl (cg5, 24, .inl f5)), (fr, .inr (0, [.ref k1, .ref k2, .ref k3, .int (zI fn)])), (k1, .inl (ck1, 4, .inl fk)), (k2, .inl (ck2, 4, .inl fb))] [(cg4, .int), (cg5, .int), (ck1, .int), (ck2, .int)] sz) (QcP (fun rz => kOrX k w cn ru f4 f5 fk fb fn rz)) 0 0 (fun _ => False) := by
  refine Met.ofW (cc := cX8_ofRun) (maxL := 5) (ret := (some .int)) (by decide) rfl ?_
  intro p e s m args below meth c s₁ B hml hv
  obtain ⟨rfl, hsz, hP, hK, hD0, hN⟩ := hv
  have hx := B.exec
  have hb := B.bytes
  have hr := B.returns
  have hts := atoms_spec (ws := wsX8_ofRun) B.pre
  have hown : s.vm.findClass RX8 = some m.cls := findClass_of_methodNamed B.named
  have hlocks := B.notSynchronized
  subst hsz
  have hD := hD0
  have hP : va_P D vwCl [(h0, .inr (8, [.ref sh, .ref rd, .ref fr, .ref wr, .ref pf, .ref rc, .ref se, .ref rs, .ref sw, .ref sp, .ref ss, .int (zI ew), .long wc, .int (zI tr), .int (zI lf)])), (se, .inr (4, [.ref g1, .ref g2, .ref g3, .ref g4, .ref g5, .int (zI cn), .int (zI bo), .int (zI ru), .ref g6, .ref g7])), (g4, .inl (cg4, 24, .inl f4)), (g5, .inl (cg5, 24, .inl f5)), (fr, .inr (0, [.ref k1, .ref k2, .ref k3, .int (zI fn)])), (k1, .inl (ck1, 4, .inl fk)), (k2, .inl (ck2, 4, .inl fb))] s.heap := hP
  have hl := lv_entry ([.ref h0, .int (zI k), .int (zI w)]) (n := 5) (Nat.le_of_ble_eq_true rfl)
  rw [lg_entry_eq]
  generalize (lg_sl ([.ref h0, .int (zI k), .int (zI w)]) ++ List.replicate (5 - (lg_sl ([.ref h0, .int (zI k), .int (zI w)])).length) Slot.unset).toArray = ls at hl ⊢
  have hl : lv_has ls 5 [(0, .ref h0), (1, .int (zI k)), (2, .int (zI w))] := hl
  refine lv_iload_n hx hb dX8_ofRun_0 rfl (lv_at hl 1 rfl) ?_
  refine lv_iconst (v := zI 0) hx hb dX8_ofRun_1 rfl ?_
  refine lv_aload_n hx hb dX8_ofRun_2 rfl (lv_at hl 0 rfl) ?_
  refine va_get (D := D) (ci := 8) (v := .ref se) (C := RX8) (T := TX8) (N := 15) hx hb hts (fun _ h9 => List.mem_cons_of_mem _ (List.mem_append_left _ (List.mem_append_left _ (List.mem_append_right _ h9)))) hown hK hP 0 rfl rfl 6 (by decide) (hts (.fieldLink RX8 56 "FontRuns" "setting" "LFontRuns$Setting;") mw_X8_ofRun_b_0) (fun _ h9 => h9) rfl dX8_ofRun_3 ?_
  refine va_get (D := D) (ci := 4) (v := .int (zI ru)) (C := RX4) (T := TX4) (N := 10) hx hb hts (fun _ h9 => List.mem_cons_of_mem _ (List.mem_append_left _ (List.mem_append_right _ h9))) hown hK hP 1 rfl rfl 7 (by decide) (hts (.fieldLink RX8 187 "FontRuns$Setting" "runs" "I") mw_X8_ofRun_b_1) (fun _ h9 => h9) rfl dX8_ofRun_6 ?_
  refine lv_iconst (v := zI 1) hx hb dX8_ofRun_9 rfl ?_
  refine kz_isub hx hb dX8_ofRun_10 ?_
  refine k_callR (va_runS (As := [.int (zI k), .int (zI 0), .int (zI (ru - 1))]) (rest := []) ⟨hx, hb, hml, hown, hts⟩ (c_X8_isWithin l D s.heap.size (v := k) (a := 0) (b := (ru - 1)) q0 (by omega) (by omega)) (va_cwS 3 hts gX8_ofRun_X8_isWithin rfl rfl rfl (by decide +kernel) ⟨Nat.le_of_ble_eq_true rfl, Nat.le_of_ble_eq_true rfl⟩) (kPreS hP (kD0 hD) hK hN [] [] ax_X8_ofRun_b_0 rfl (by decide +kernel)) rfl rfl hl.1 rfl (lv_room (Nat.le_of_ble_eq_true rfl)) dX8_ofRun_11 ⟨Nat.le_of_ble_eq_true rfl, Nat.le_of_ble_eq_true rfl⟩) ?_
  refine lv_if_ne (tgt := 19) hx hb dX8_ofRun_14 (by decide) (fun c_1 => ?_) (fun c_1 => ?_)
  · have c_1 : 0 ≤ k ∧ k ≤ (ru - 1) := b01t c_1
    refine lv_aload_n hx hb dX8_ofRun_19 rfl (lv_at hl 0 rfl) ?_
    refine va_get (D := D) (ci := 8) (v := .ref se) (C := RX8) (T := TX8) (N := 15) hx hb hts (fun _ h9 => List.mem_cons_of_mem _ (List.mem_append_left _ (List.mem_append_left _ (List.mem_append_right _ h9)))) hown hK hP 0 rfl rfl 6 (by decide) (hts (.fieldLink RX8 56 "FontRuns" "setting" "LFontRuns$Setting;") mw_X8_ofRun_b_0) (fun _ h9 => h9) rfl dX8_ofRun_20 ?_
    refine lv_iload_n hx hb dX8_ofRun_23 rfl (lv_at hl 1 rfl) ?_
    refine k_callP (va_runV (As := [.int (zI k)]) (rest := []) ⟨hx, hb, hml, hown, hts⟩ (c_X4_firstOfRun_b l D s.heap.size (f := k) (h0 := se) (g1 := g1) (g2 := g2) (g3 := g3) (g4 := g4) (g5 := g5) (cn := cn) (bo := bo) (ru := ru) (g6 := g6) (g7 := g7) (cg5 := cg5) (f5 := f5) q0 q2 q3 q4) (cwV 1 hts gX8_ofRun_X4_firstOfRun rfl rfl rfl (by decide +kernel) ⟨Nat.le_of_ble_eq_true rfl, Nat.le_of_ble_eq_true rfl⟩) (kPreV hP (kD0 hD) hK hN [1, 3] [1] ax_X8_ofRun_b_1 rfl (by decide +kernel) 1 4 rfl rfl) rfl rfl hl.1 rfl (lv_room (Nat.le_of_ble_eq_true rfl)) dX8_ofRun_24 ⟨Nat.le_of_ble_eq_true rfl, Nat.le_of_ble_eq_true rfl⟩) (fun z_2 rz_2 h_3 => ?_)
    refine lv_istore_n (lv' := [(3, .int (zI z_2)), (0, .ref h0), (1, .int (zI k)), (2, .int (zI w))]) hx hb dX8_ofRun_27 rfl hl (by decide) rfl (fun ls hl => ?_)
    refine lv_aload_n hx hb dX8_ofRun_28 rfl (lv_at hl 1 rfl) ?_
    refine va_get (D := D) (ci := 8) (v := .ref se) (C := RX8) (T := TX8) (N := 15) hx hb hts (fun _ h9 => List.mem_cons_of_mem _ (List.mem_append_left _ (List.mem_append_left _ (List.mem_append_right _ h9)))) hown hK hP 0 rfl rfl 6 (by decide) (hts (.fieldLink RX8 56 "FontRuns" "setting" "LFontRuns$Setting;") mw_X8_ofRun_b_0) (fun _ h9 => h9) rfl dX8_ofRun_29 ?_
    refine va_get (D := D) (ci := 4) (v := .ref g4) (C := RX4) (T := TX4) (N := 10) hx hb hts (fun _ h9 => List.mem_cons_of_mem _ (List.mem_append_left _ (List.mem_append_right _ h9))) hown hK hP 1 rfl rfl 3 (by decide) (hts (.fieldLink RX8 181 "FontRuns$Setting" "chosen" "[I") mw_X8_ofRun_b_2) (fun _ h9 => h9) rfl dX8_ofRun_32 ?_
    refine lv_iload_n hx hb dX8_ofRun_35 rfl (lv_at hl 0 rfl) ?_
    refine kz_iald hx hb hK hP 2 0 rfl rfl (by omega) dX8_ofRun_36 (fun z_4 rz_4 ez_4 => ?_)
    refine lv_istore (lv' := [(4, .int (zI z_4)), (3, .int (zI z_2)), (0, .ref h0), (1, .int (zI k)), (2, .int (zI w))]) hx hb dX8_ofRun_37 hl (by decide) rfl (fun ls hl => ?_)
    refine lv_iload_n hx hb dX8_ofRun_39 rfl (lv_at hl 4 rfl) ?_
    rcases (show w = 0 ∨ w = 1 ∨ w = 2 ∨ w = 3 ∨ (¬ w = 0 ∧ ¬ w = 1 ∧ ¬ w = 2 ∧ ¬ w = 3) from by omega) with c_5 | c_5 | c_5 | c_5 | c_5
    · refine kz_tabIn (tgt := 72) (off := 32) hx hb dX8_ofRun_40 0 (by omega) (by decide) (by decide) (by decide) (by decide) (by decide) ?_
      refine lv_iload hx hb dX8_ofRun_72 (lv_at hl 0 rfl) ?_
      exact W.iret (v := (zI z_4)) hx hb hr (fun t ht hW => QcP_of (by omega) (Or.inr ⟨by omega, z_2, h_3.2, Or.inl ⟨by omega, ez_4.symm⟩⟩) ht) (fun _ h9 => by cases h9) dX8_ofRun_74
    · refine kz_tabIn (tgt := 75) (off := 35) hx hb dX8_ofRun_40 1 (by omega) (by decide) (by decide) (by decide) (by decide) (by decide) ?_
      refine lv_iload_n hx hb dX8_ofRun_75 rfl (lv_at hl 1 rfl) ?_
      exact W.iret (v := (zI z_2)) hx hb hr (fun t ht hW => QcP_of (by omega) (Or.inr ⟨by omega, z_2, h_3.2, Or.inr (Or.inl ⟨by omega, rfl⟩)⟩) ht) (fun _ h9 => by cases h9) dX8_ofRun_76
    · refine kz_tabIn (tgt := 77) (off := 37) hx hb dX8_ofRun_40 2 (by omega) (by decide) (by decide) (by decide) (by decide) (by decide) ?_
      refine lv_aload_n hx hb dX8_ofRun_77 rfl (lv_at hl 2 rfl) ?_
      refine va_get (D := D) (ci := 8) (v := .ref se) (C := RX8) (T := TX8) (N := 15) hx hb hts (fun _ h9 => List.mem_cons_of_mem _ (List.mem_append_left _ (List.mem_append_left _ (List.mem_append_right _ h9)))) hown hK hP 0 rfl rfl 6 (by decide) (hts (.fieldLink RX8 56 "FontRuns" "setting" "LFontRuns$Setting;") mw_X8_ofRun_b_0) (fun _ h9 => h9) rfl dX8_ofRun_78 ?_
      refine lv_iload_n hx hb dX8_ofRun_81 rfl (lv_at hl 3 rfl) ?_
      refine k_callP (va_runV (As := [.int (zI k)]) (rest := []) ⟨hx, hb, hml, hown, hts⟩ (c_X4_clustersOfRun_b l D s.heap.size (f := k) (h0 := se) (g1 := g1) (g2 := g2) (g3 := g3) (g4 := g4) (g5 := g5) (cn := cn) (bo := bo) (ru := ru) (g6 := g6) (g7 := g7) (cg5 := cg5) (f5 := f5) q0 q2 q3 q4) (cwV 1 hts gX8_ofRun_X4_clustersOfRun rfl rfl rfl (by decide +kernel) ⟨Nat.le_of_ble_eq_true rfl, Nat.le_of_ble_eq_true rfl⟩) (kPreV hP (kD0 hD) hK hN [1, 3] [1] ax_X8_ofRun_b_1 rfl (by decide +kernel) 1 4 rfl rfl) rfl rfl hl.1 rfl (lv_room (Nat.le_of_ble_eq_true rfl)) dX8_ofRun_82 ⟨Nat.le_of_ble_eq_true rfl, Nat.le_of_ble_eq_true rfl⟩) (fun z_6 rz_6 h_7 => ?_)
      exact W.iret (v := (zI z_6)) hx hb hr (fun t ht hW => QcP_of (by omega) (Or.inr ⟨by omega, z_2, h_3.2, Or.inr (Or.inr (Or.inl ⟨by omega, h_7.2⟩))⟩) ht) (fun _ h9 => by cases h9) dX8_ofRun_85
    · refine kz_tabIn (tgt := 86) (off := 46) hx hb dX8_ofRun_40 3 (by omega) (by decide) (by decide) (by decide) (by decide) (by decide) ?_
      refine lv_aload_n hx hb dX8_ofRun_86 rfl (lv_at hl 2 rfl) ?_
      refine va_get (D := D) (ci := 8) (v := .ref se) (C := RX8) (T := TX8) (N := 15) hx hb hts (fun _ h9 => List.mem_cons_of_mem _ (List.mem_append_left _ (List.mem_append_left _ (List.mem_append_right _ h9)))) hown hK hP 0 rfl rfl 6 (by decide) (hts (.fieldLink RX8 56 "FontRuns" "setting" "LFontRuns$Setting;") mw_X8_ofRun_b_0) (fun _ h9 => h9) rfl dX8_ofRun_87 ?_
      refine lv_iload_n hx hb dX8_ofRun_90 rfl (lv_at hl 3 rfl) ?_
      refine k_callP (va_runV (As := [.int (zI k)]) (rest := []) ⟨hx, hb, hml, hown, hts⟩ (c_X4_clustersOfRun_b l D s.heap.size (f := k) (h0 := se) (g1 := g1) (g2 := g2) (g3 := g3) (g4 := g4) (g5 := g5) (cn := cn) (bo := bo) (ru := ru) (g6 := g6) (g7 := g7) (cg5 := cg5) (f5 := f5) q0 q2 q3 q4) (cwV 1 hts gX8_ofRun_X4_clustersOfRun rfl rfl rfl (by decide +kernel) ⟨Nat.le_of_ble_eq_true rfl, Nat.le_of_ble_eq_true rfl⟩) (kPreV hP (kD0 hD) hK hN [1, 3] [1] ax_X8_ofRun_b_1 rfl (by decide +kernel) 1 4 rfl rfl) rfl rfl hl.1 rfl (lv_room (Nat.le_of_ble_eq_true rfl)) dX8_ofRun_91 ⟨Nat.le_of_ble_eq_true rfl, Nat.le_of_ble_eq_true rfl⟩) (fun z_8 rz_8 h_9 => ?_)
      refine lv_aload_n hx hb dX8_ofRun_94 rfl (lv_at hl 2 rfl) ?_
      refine va_get (D := D) (ci := 8) (v := .ref fr) (C := RX8) (T := TX8) (N := 15) hx hb hts (fun _ h9 => List.mem_cons_of_mem _ (List.mem_append_left _ (List.mem_append_left _ (List.mem_append_right _ h9)))) hown hK hP 0 rfl rfl 2 (by decide) (hts (.fieldLink RX8 28 "FontRuns" "fontRow" "LFontRuns$FontRow;") mw_X8_ofRun_b_3) (fun _ h9 => h9) rfl dX8_ofRun_95 ?_
      refine lv_iload hx hb dX8_ofRun_98 (lv_at hl 0 rfl) ?_
      refine k_callP (va_runV (As := [.int (zI z_4)]) (rest := [.int (zI z_8)]) ⟨hx, hb, hml, hown, hts⟩ (c_X0_step_w l D s.heap.size (f := z_4) (h0 := fr) (k1 := k1) (k2 := k2) (k3 := k3) (n := fn) (ck1 := ck1) (fk := fk) (ck2 := ck2) (fb := fb) (by omega) q5) (cwV 1 hts gX8_ofRun_X0_step rfl rfl rfl (by decide +kernel) ⟨Nat.le_of_ble_eq_true rfl, Nat.le_of_ble_eq_true rfl⟩) (kPreV hP (kD0 hD) hK hN [4, 5, 6] [2, 3] ax_X8_ofRun_b_2 rfl (by decide +kernel) 4 0 rfl rfl) rfl rfl hl.1 rfl (lv_room (Nat.le_of_ble_eq_true rfl)) dX8_ofRun_100 ⟨Nat.le_of_ble_eq_true rfl, Nat.le_of_ble_eq_true rfl⟩) (fun z_10 rz_10 h_11 => ?_)
      refine kz_imul hx hb dX8_ofRun_103 ?_
      refine kz_any (fun z_12 rz_12 ez_12 => ?_)
      exact W.iret (v := (zI z_12)) hx hb hr (fun t ht hW => QcP_of (by omega) (Or.inr ⟨by omega, z_2, h_3.2, Or.inr (Or.inr (Or.inr (Or.inl ⟨by omega, fun hC hb => by rw [← h_9.2, ez_4, ← kSx_at rz_4 (h_11 (by have q9 := kCi_at hC (by omega) hb rz_4 ez_4; omega)), zI_mul]; exact ez_12.symm⟩)))⟩) ht) (fun _ h9 => by cases h9) dX8_ofRun_104
    · refine kz_tabOut (tgt := 105) hx hb dX8_ofRun_40 (by omega) (by omega) (by decide) ?_
      refine lv_bipush (v := zI (-2)) hx hb dX8_ofRun_105 (by decide) ?_
      exact W.iret (v := (zI (-2))) hx hb hr (fun t ht hW => QcP_of (by omega) (Or.inr ⟨by omega, z_2, h_3.2, Or.inr (Or.inr (Or.inr (Or.inr (⟨by omega, by omega⟩))))⟩) ht) (fun _ h9 => by cases h9) dX8_ofRun_107
  · have c_1 : ¬ (0 ≤ k ∧ k ≤ (ru - 1)) := b01f c_1
    refine lv_iconst (v := zI (-1)) hx hb dX8_ofRun_17 rfl ?_
    exact W.iret (v := (zI (-1))) hx hb hr (fun t ht hW => QcP_of (by omega) (Or.inl ⟨by omega, by omega⟩) ht) (fun _ h9 => by cases h9) dX8_ofRun_18
set_option maxRecDepth 20000 in
theorem mw_X9_ofRun_b_0 : (.fieldLink RX9 161 "FontRunsModel" "runs" "I" : Cond) ∈ wsX9_ofRun := List.mem_cons_of_mem _ (List.mem_append_left _ (List.mem_append_left _ (List.mem_of_getElem? (i := 0) rfl)))
set_option maxRecDepth 20000 in
theorem mw_X9_ofRun_b_1 : (.fieldLink RX9 138 "FontRunsModel" "clusters" "I" : Cond) ∈ wsX9_ofRun := List.mem_cons_of_mem _ (List.mem_append_left _ (List.mem_append_left _ (List.mem_of_getElem? (i := 1) rfl)))
set_option maxRecDepth 20000 in
theorem mw_X9_ofRun_b_2 : (.fieldLink RX9 55 "FontRunsModel" "chosen" "[I" : Cond) ∈ wsX9_ofRun := List.mem_cons_of_mem _ (List.mem_append_left _ (List.mem_append_left _ (List.mem_of_getElem? (i := 2) rfl)))
theorem ax_X9_ofRun_b_0 {e0 e1 e2 e3 e4 e5 e6 e7 e8 e9 : Nat × va_E} : ([0, 1, 2, 3, 4, 5, 6, 7, 8, 9] : List Nat).map (fun i => ([e0, e1, e2, e3, e4, e5, e6, e7, e8, e9] : va_W)[i]?) = ([e0, e1, e2, e3, e4, e5, e6, e7, e8, e9] : va_W).map some := rfl
theorem ax_X9_ofRun_b_1 {e0 e1 e2 e3 e4 e5 e6 e7 e8 e9 : Nat × va_E} : ([] : List Nat).map (fun i => ([e0, e1, e2, e3, e4, e5, e6, e7, e8, e9] : va_W)[i]?) = ([] : va_W).map some := rfl
theorem ax_X9_ofRun_b_2 {D : va_G} {cl : List vw_C} {H : Heap} {f0 f1 f2 f3 f4 f5 f6 f7 f8 f9 : Nat × va_E} (h : va_P D cl ((([] : va_W) ++ ([f0, f1, f2, f3, f4, f5, f6, f7, f8, f9] : va_W))) H) : va_P D cl (([f0, f1, f2, f3, f4, f5, f6, f7, f8, f9] : va_W)) H := h
theorem ax_X9_ofRun_b_3 {A : Nat → Prop} {f0 f1 f2 f3 f4 f5 f6 f7 f8 f9 : Nat × va_E} (h : va_D A ((([] : va_W) ++ ([f0, f1, f2, f3, f4, f5, f6, f7, f8, f9] : va_W)))) : va_D A (([f0, f1, f2, f3, f4, f5, f6, f7, f8, f9] : va_W)) := h
theorem ax_X9_ofRun_b_4 {e0 e1 e2 e3 e4 e5 e6 e7 e8 e9 : Nat × va_E} : ([0, 6] : List Nat).map (fun i => ([e0, e1, e2, e3, e4, e5, e6, e7, e8, e9] : va_W)[i]?) = ([e0, e6] : va_W).map some := rfl
theorem ax_X9_ofRun_b_5 {e0 e1 e2 e3 e4 e5 e6 e7 e8 e9 : Nat × va_E} : ([0, 8, 9] : List Nat).map (fun i => ([e0, e1, e2, e3, e4, e5, e6, e7, e8, e9] : va_W)[i]?) = ([e0, e8, e9] : va_W).map some := rfl
set_option maxHeartbeats 4000000 in
set_option maxRecDepth 100000 in
theorem c_X9_ofRun_b (l : Launch) (D : va_G) (sz : Nat) (k : Int) (w : Int) (h0 : Nat) (fa : Int) (tc : Int) (so : Nat) (sl : Nat) (ce : Nat) (fn : Int) (kd : Nat) (wd : Nat) (hs : Nat) (pf : Nat) (lt : Nat) (mn : Int) (wg : Nat) (ta : Int) (ck : Int64) (at9 : Int) (rfn : Int) (rk : Nat) (rw : Nat) (rh : Nat) (cl : Int) (sa : Nat) (fi : Nat) (bo : Int) (ch : Nat) (cn : Nat) (ad : Int) (ru : Int) (kp : Nat) (dn : Int) (rfa : Nat) (c_wg : ClassId) (f_wg : Nat → Int32) (c_sa : ClassId) (f_sa : Nat → Int32) (c_fi : ClassId) (f_fi : Nat → Int32) (c_hs : ClassId) (f_hs : Nat → Int32) (c_ch : ClassId) (f_ch : Nat → Int32) (c_cn : ClassId) (f_cn : Nat → Int32) (c_pf : ClassId) (f_pf : Nat → Int32) (c_kd : ClassId) (f_kd : Nat → Int32) (c_wd : ClassId) (f_wd : Nat → Int32) (q0 : rg k) (q1 : rg w) (q2 : 0 ≤ mn ∧ mn ≤ 24) (q3 : 0 ≤ fn ∧ fn ≤ 4) (q4 : kPm f_pf fn) (q5 : ¬ (fn = 0 ∧ 1 ≤ mn)) (q6 : rg ad) (q7 : 0 ≤ ru ∧ ru ≤ 24) (q8 : 0 ≤ cl ∧ cl ≤ 24) (q9 : 0 ≤ bo ∧ bo ≤ 24) : Met l yX9_ofRun wsX9_ofRun ({ frames := 5, cells := 0, slots := 0, locals := 118 }) (kPre [.ref h0, .int (zI k), .int (zI w)] D [(h0, .inr (9, [.int (zI fa), .int (zI tc), .ref so, .ref sl, .ref ce, .int (zI fn), .ref kd, .ref wd, .ref hs, .ref pf, .ref lt, .int (zI mn), .ref wg, .int (zI ta), .long ck, .int (zI at9), .int (zI rfn), .ref rk, .ref rw, .ref rh, .int (zI cl), .ref sa, .ref fi, .int (zI bo), .ref ch, .ref cn, .int (zI ad), .int (zI ru), .ref kp, .int (zI dn), .ref rfa])), (wg, .inl (c_wg, 24, .inl f_wg)), (sa, .inl (c_sa, 25, .inl f_sa)), (fi, .inl (c_fi, 24, .inl f_fi)), (hs, .inl (c_hs, 4, .inl f_hs)), (ch, .inl (c_ch, 96, .inl f_ch)), (cn, .inl (c_cn, 24, .inl f_cn)), (pf, .inl (c_pf, 4, .inl f_pf)), (kd, .inl (c_kd, 4, .inl f_kd)), (wd, .inl (c_wd, 4, .inl f_wd))] [(c_wg, .int), (c_sa, .int), (c_fi, .int), (c_hs, .int), (c_ch, .int), (c_cn, .int), (c_pf, .int), (c_kd, .int), (c_wd, .int)] sz) (kQS (fun rz t => ∃ (u_cl : Int) (u_bo : Int) (u_ad : Int) (u_ru : Int) (u_f_sa : Nat → Int32) (u_f_fi : Nat → Int32) (u_f_ch : Nat → Int32) (u_f_cn : Nat → Int32), (rg u_ad) ∧ (0 ≤ u_ru ∧ u_ru ≤ 24) ∧ (0 ≤ u_cl ∧ u_cl ≤ 24) ∧ (0 ≤ u_bo ∧ u_bo ≤ 24) ∧ (kOrM k w u_cl u_ru u_f_cn f_kd f_wd rz (kBM f_wg mn f_hs fn f_pf f_kd f_wd u_cl u_bo u_ru u_ad u_f_sa u_f_fi u_f_ch u_f_cn)) ∧ va_P D vwCl [(h0, .inr (9, [.int (zI fa), .int (zI tc), .ref so, .ref sl, .ref ce, .int (zI fn), .ref kd, .ref wd, .ref hs, .ref pf, .ref lt, .int (zI mn), .ref wg, .int (zI ta), .long ck, .int (zI at9), .int (zI rfn), .ref rk, .ref rw, .ref rh, .int (zI u_cl), .ref sa, .ref fi, .int (zI u_bo), .ref ch, .ref cn, .int (zI u_ad), .int (zI u_ru), .ref kp, .int (zI dn), .ref rfa])), (wg, .inl (c_wg, 24, .inl f_wg)), (sa, .inl (c_sa, 25, .inl u_f_sa)), (fi, .inl (c_fi, 24, .inl u_f_fi)), (hs, .inl (c_hs, 4, .inl f_hs)), (ch, .inl (c_ch, 96, .inl u_f_ch)), (cn, .inl (c_cn, 24, .inl u_f_cn)), (pf, .inl (c_pf, 4, .inl f_pf)), (kd, .inl (c_kd, 4, .inl f_kd)), (wd, .inl (c_wd, 4, .inl f_wd))] t.heap ∧ va_D (va_A [(h0, .inr (9, [.int (zI fa), .int (zI tc), .ref so, .ref sl, .ref ce, .int (zI fn), .ref kd, .ref wd, .ref hs, .ref pf, .ref lt, .int (zI mn), .ref wg, .int (zI ta), .long ck, .int (zI at9), .int (zI rfn), .ref rk, .ref rw, .ref rh, .int (zI cl), .ref sa, .ref fi, .int (zI bo), .ref ch, .ref cn, .int (zI ad), .int (zI ru), .ref kp, .int (zI dn), .ref rfa])), (wg, .inl (c_wg, 24, .inl f_wg)), (sa, .inl (c_sa, 25, .inl f_sa)), (fi, .inl (c_fi, 24, .inl f_fi)), (hs, .inl (c_hs, 4, .inl f_hs)), (ch, .inl (c_ch, 96, .inl f_ch)), (cn, .inl (c_cn, 24, .inl f_cn)), (pf, .inl (c_pf, 4, .inl f_pf)), (kd, .inl (c_kd, 4, .inl f_kd)), (wd, .inl (c_wd, 4, .inl f_wd))] sz) [(h0, .inr (9, [.int (zI fa), .int (zI tc), .ref so, .ref sl, .ref ce, .int (zI fn), .ref kd, .ref wd, .ref hs, .ref pf, .ref lt, .int (zI mn), .ref wg, .int (zI ta), .long ck, .int (zI at9), .int (zI rfn), .ref rk, .ref rw, .ref rh, .int (zI u_cl), .ref sa, .ref fi, .int (zI u_bo), .ref ch, .ref cn, .int (zI u_ad), .int (zI u_ru), .ref kp, .int (zI dn), .ref rfa])), (wg, .inl (c_wg, 24, .inl f_wg)), (sa, .inl (c_sa, 25, .inl u_f_sa)), (fi, .inl (c_fi, 24, .inl u_f_fi)), (hs, .inl (c_hs, 4, .inl f_hs)), (ch, .inl (c_ch, 96, .inl u_f_ch)), (cn, .inl (c_cn, 24, .inl u_f_cn)), (pf, .inl (c_pf, 4, .inl f_pf)), (kd, .inl (c_kd, 4, .inl f_kd)), (wd, .inl (c_wd, 4, .inl f_wd))]) (va_A [(h0, .inr (9, [.int (zI fa), .int (zI tc), .ref so, .ref sl, .ref ce, .int (zI fn), .ref kd, .ref wd, .ref hs, .ref pf, .ref lt, .int (zI mn), .ref wg, .int (zI ta), .long ck, .int (zI at9), .int (zI rfn), .ref rk, .ref rw, .ref rh, .int (zI cl), .ref sa, .ref fi, .int (zI bo), .ref ch, .ref cn, .int (zI ad), .int (zI ru), .ref kp, .int (zI dn), .ref rfa])), (wg, .inl (c_wg, 24, .inl f_wg)), (sa, .inl (c_sa, 25, .inl f_sa)), (fi, .inl (c_fi, 24, .inl f_fi)), (hs, .inl (c_hs, 4, .inl f_hs)), (ch, .inl (c_ch, 96, .inl f_ch)), (cn, .inl (c_cn, 24, .inl f_cn)), (pf, .inl (c_pf, 4, .inl f_pf)), (kd, .inl (c_kd, 4, .inl f_kd)), (wd, .inl (c_wd, 4, .inl f_wd))] sz)) 0 0 (va_A [(h0, .inr (9, [.int (zI fa), .int (zI tc), .ref so, .ref sl, .ref ce, .int (zI fn), .ref kd, .ref wd, .ref hs, .ref pf, .ref lt, .int (zI mn), .ref wg, .int (zI ta), .long ck, .int (zI at9), .int (zI rfn), .ref rk, .ref rw, .ref rh, .int (zI cl), .ref sa, .ref fi, .int (zI bo), .ref ch, .ref cn, .int (zI ad), .int (zI ru), .ref kp, .int (zI dn), .ref rfa])), (wg, .inl (c_wg, 24, .inl f_wg)), (sa, .inl (c_sa, 25, .inl f_sa)), (fi, .inl (c_fi, 24, .inl f_fi)), (hs, .inl (c_hs, 4, .inl f_hs)), (ch, .inl (c_ch, 96, .inl f_ch)), (cn, .inl (c_cn, 24, .inl f_cn)), (pf, .inl (c_pf, 4, .inl f_pf)), (kd, .inl (c_kd, 4, .inl f_kd)), (wd, .inl (c_wd, 4, .inl f_wd))] sz) := by
  refine Met.ofW (cc := cX9_ofRun) (maxL := 7) (ret := (some .int)) (by decide) rfl ?_
  intro p e s m args below meth c s₁ B hml hv
  obtain ⟨rfl, hsz, hP, hK, hD0, hN⟩ := hv
  have hx := B.exec
  have hb := B.bytes
  have hr := B.returns
  have hts := atoms_spec (ws := wsX9_ofRun) B.pre
  have hown : s.vm.findClass RX9 = some m.cls := findClass_of_methodNamed B.named
  have hlocks := B.notSynchronized
  subst hsz
  have hD := hD0.self (sz := s.heap.size)
  generalize hAe : va_A [(h0, .inr (9, [.int (zI fa), .int (zI tc), .ref so, .ref sl, .ref ce, .int (zI fn), .ref kd, .ref wd, .ref hs, .ref pf, .ref lt, .int (zI mn), .ref wg, .int (zI ta), .long ck, .int (zI at9), .int (zI rfn), .ref rk, .ref rw, .ref rh, .int (zI cl), .ref sa, .ref fi, .int (zI bo), .ref ch, .ref cn, .int (zI ad), .int (zI ru), .ref kp, .int (zI dn), .ref rfa])), (wg, .inl (c_wg, 24, .inl f_wg)), (sa, .inl (c_sa, 25, .inl f_sa)), (fi, .inl (c_fi, 24, .inl f_fi)), (hs, .inl (c_hs, 4, .inl f_hs)), (ch, .inl (c_ch, 96, .inl f_ch)), (cn, .inl (c_cn, 24, .inl f_cn)), (pf, .inl (c_pf, 4, .inl f_pf)), (kd, .inl (c_kd, 4, .inl f_kd)), (wd, .inl (c_wd, 4, .inl f_wd))] s.heap.size = A at hD ⊢
  have hA : ∀ q : Nat, s.heap.size ≤ q → A q := fun q h => by rw [← hAe]; exact Or.inr h
  have hS : va_S A s.heap s.heap [] := va_S.rf
  have hP : va_P D vwCl [(h0, .inr (9, [.int (zI fa), .int (zI tc), .ref so, .ref sl, .ref ce, .int (zI fn), .ref kd, .ref wd, .ref hs, .ref pf, .ref lt, .int (zI mn), .ref wg, .int (zI ta), .long ck, .int (zI at9), .int (zI rfn), .ref rk, .ref rw, .ref rh, .int (zI cl), .ref sa, .ref fi, .int (zI bo), .ref ch, .ref cn, .int (zI ad), .int (zI ru), .ref kp, .int (zI dn), .ref rfa])), (wg, .inl (c_wg, 24, .inl f_wg)), (sa, .inl (c_sa, 25, .inl f_sa)), (fi, .inl (c_fi, 24, .inl f_fi)), (hs, .inl (c_hs, 4, .inl f_hs)), (ch, .inl (c_ch, 96, .inl f_ch)), (cn, .inl (c_cn, 24, .inl f_cn)), (pf, .inl (c_pf, 4, .inl f_pf)), (kd, .inl (c_kd, 4, .inl f_kd)), (wd, .inl (c_wd, 4, .inl f_wd))] s.heap := hP
  have hl := lv_entry ([.ref h0, .int (zI k), .int (zI w)]) (n := 7) (Nat.le_of_ble_eq_true rfl)
  rw [lg_entry_eq]
  generalize (lg_sl ([.ref h0, .int (zI k), .int (zI w)]) ++ List.replicate (7 - (lg_sl ([.ref h0, .int (zI k), .int (zI w)])).length) Slot.unset).toArray = ls at hl ⊢
  have hl : lv_has ls 7 [(0, .ref h0), (1, .int (zI k)), (2, .int (zI w))] := hl
  refine lv_aload_n hx hb dX9_ofRun_0 rfl (lv_at hl 0 rfl) ?_
  have hFc := va_free (wc := [(h0, .inr (9, [.int (zI fa), .int (zI tc), .ref so, .ref sl, .ref ce, .int (zI fn), .ref kd, .ref wd, .ref hs, .ref pf, .ref lt, .int (zI mn), .ref wg, .int (zI ta), .long ck, .int (zI at9), .int (zI rfn), .ref rk, .ref rw, .ref rh, .int (zI cl), .ref sa, .ref fi, .int (zI bo), .ref ch, .ref cn, .int (zI ad), .int (zI ru), .ref kp, .int (zI dn), .ref rfa])), (wg, .inl (c_wg, 24, .inl f_wg)), (sa, .inl (c_sa, 25, .inl f_sa)), (fi, .inl (c_fi, 24, .inl f_fi)), (hs, .inl (c_hs, 4, .inl f_hs)), (ch, .inl (c_ch, 96, .inl f_ch)), (cn, .inl (c_cn, 24, .inl f_cn)), (pf, .inl (c_pf, 4, .inl f_pf)), (kd, .inl (c_kd, 4, .inl f_kd)), (wd, .inl (c_wd, 4, .inl f_wd))]) hD hS hA [0, 1, 2, 3, 4, 5, 6, 7, 8, 9] ax_X9_ofRun_b_0
  refine va_calli (va_runV (As := []) (rest := []) ⟨hx, hb, hml, hown, hts⟩ (c_X9_findBest_b l D s.heap.size (h0 := h0) (fa := fa) (tc := tc) (so := so) (sl := sl) (ce := ce) (fn := fn) (kd := kd) (wd := wd) (hs := hs) (pf := pf) (lt := lt) (mn := mn) (wg := wg) (ta := ta) (ck := ck) (at9 := at9) (rfn := rfn) (rk := rk) (rw := rw) (rh := rh) (cl := cl) (sa := sa) (fi := fi) (bo := bo) (ch := ch) (cn := cn) (ad := ad) (ru := ru) (kp := kp) (dn := dn) (rfa := rfa) (c_wg := c_wg) (f_wg := f_wg) (c_sa := c_sa) (f_sa := f_sa) (c_fi := c_fi) (f_fi := f_fi) (c_hs := c_hs) (f_hs := f_hs) (c_ch := c_ch) (f_ch := f_ch) (c_cn := c_cn) (f_cn := f_cn) (c_pf := c_pf) (f_pf := f_pf) (c_kd := c_kd) (f_kd := f_kd) (c_wd := c_wd) (f_wd := f_wd) q2 q3 q4 q5) (cwV 0 hts gX9_ofRun_X9_findBest rfl rfl rfl (by decide +kernel) ⟨Nat.le_of_ble_eq_true rfl, Nat.le_of_ble_eq_true rfl⟩) (kPreV hP (kD0 hD) hK hN [0, 1, 2, 3, 4, 5, 6, 7, 8, 9] [0, 1, 2, 3, 4, 5, 6, 7, 8] ax_X9_ofRun_b_0 rfl (by decide +kernel) 0 9 rfl rfl) rfl rfl hl.1 rfl (lv_room (Nat.le_of_ble_eq_true rfl)) dX9_ofRun_1 ⟨Nat.le_of_ble_eq_true rfl, Nat.le_of_ble_eq_true rfl⟩) hS (fun q _ h => hFc q h) hFc (fun r u t H1 locs ht hvm hw hB hz1 hk1 hS => ?_)
  obtain ⟨z_9, e9⟩ : ∃ z, z = u := ⟨_, rfl⟩
  subst e9
  obtain ⟨rfl, rz_9⟩ := hw
  refine Exists.elim hB (fun u_cl_1 hB1 => Exists.elim hB1 (fun u_bo_2 hB2 => Exists.elim hB2 (fun u_ad_3 hB3 => Exists.elim hB3 (fun u_ru_4 hB4 => Exists.elim hB4 (fun u_f_sa_5 hB5 => Exists.elim hB5 (fun u_f_fi_6 hB6 => Exists.elim hB6 (fun u_f_ch_7 hB7 => Exists.elim hB7 (fun u_f_cn_8 hB8 => ?_))))))))
  have h_10 := hB8.1
  have h_11 := hB8.2.1
  have h_12 := hB8.2.2.1
  have h_13 := hB8.2.2.2.1
  have h_14 := hB8.2.2.2.2.1
  have h_15 := hB8.2.2.2.2.2.1
  have h_16 := hB8.2.2.2.2.2.2.1
  have h_17 := hB8.2.2.2.2.2.2.2.1
  have h_18 := hB8.2.2.2.2.2.2.2.2.1
  have hP1 := hB8.2.2.2.2.2.2.2.2.2.1
  have hD1 := hB8.2.2.2.2.2.2.2.2.2.2
  clear hB hB1 hB2 hB3 hB4 hB5 hB6 hB7 hB8
  rw [ht] at hP1
  obtain ⟨hP, hD⟩ := va_join (wr := []) (w1 := [(h0, .inr (9, [.int (zI fa), .int (zI tc), .ref so, .ref sl, .ref ce, .int (zI fn), .ref kd, .ref wd, .ref hs, .ref pf, .ref lt, .int (zI mn), .ref wg, .int (zI ta), .long ck, .int (zI at9), .int (zI rfn), .ref rk, .ref rw, .ref rh, .int (zI u_cl_1), .ref sa, .ref fi, .int (zI u_bo_2), .ref ch, .ref cn, .int (zI u_ad_3), .int (zI u_ru_4), .ref kp, .int (zI dn), .ref rfa])), (wg, .inl (c_wg, 24, .inl f_wg)), (sa, .inl (c_sa, 25, .inl u_f_sa_5)), (fi, .inl (c_fi, 24, .inl u_f_fi_6)), (hs, .inl (c_hs, 4, .inl f_hs)), (ch, .inl (c_ch, 96, .inl u_f_ch_7)), (cn, .inl (c_cn, 24, .inl u_f_cn_8)), (pf, .inl (c_pf, 4, .inl f_pf)), (kd, .inl (c_kd, 4, .inl f_kd)), (wd, .inl (c_wd, 4, .inl f_wd))]) hP hD [0, 1, 2, 3, 4, 5, 6, 7, 8, 9] [] ax_X9_ofRun_b_0 ax_X9_ofRun_b_1 (by decide +kernel) (by decide +kernel) hk1 hFc hP1 hD1
  have hP := ax_X9_ofRun_b_2 hP
  have hD := ax_X9_ofRun_b_3 hD
  generalize H1 = H at hP hS ⊢
  have hP : va_P D vwCl [(h0, .inr (9, [.int (zI fa), .int (zI tc), .ref so, .ref sl, .ref ce, .int (zI fn), .ref kd, .ref wd, .ref hs, .ref pf, .ref lt, .int (zI mn), .ref wg, .int (zI ta), .long ck, .int (zI at9), .int (zI rfn), .ref rk, .ref rw, .ref rh, .int (zI u_cl_1), .ref sa, .ref fi, .int (zI u_bo_2), .ref ch, .ref cn, .int (zI u_ad_3), .int (zI u_ru_4), .ref kp, .int (zI dn), .ref rfa])), (wg, .inl (c_wg, 24, .inl f_wg)), (sa, .inl (c_sa, 25, .inl u_f_sa_5)), (fi, .inl (c_fi, 24, .inl u_f_fi_6)), (hs, .inl (c_hs, 4, .inl f_hs)), (ch, .inl (c_ch, 96, .inl u_f_ch_7)), (cn, .inl (c_cn, 24, .inl u_f_cn_8)), (pf, .inl (c_pf, 4, .inl f_pf)), (kd, .inl (c_kd, 4, .inl f_kd)), (wd, .inl (c_wd, 4, .inl f_wd))] H := hP
  have hD : va_D A [(h0, .inr (9, [.int (zI fa), .int (zI tc), .ref so, .ref sl, .ref ce, .int (zI fn), .ref kd, .ref wd, .ref hs, .ref pf, .ref lt, .int (zI mn), .ref wg, .int (zI ta), .long ck, .int (zI at9), .int (zI rfn), .ref rk, .ref rw, .ref rh, .int (zI u_cl_1), .ref sa, .ref fi, .int (zI u_bo_2), .ref ch, .ref cn, .int (zI u_ad_3), .int (zI u_ru_4), .ref kp, .int (zI dn), .ref rfa])), (wg, .inl (c_wg, 24, .inl f_wg)), (sa, .inl (c_sa, 25, .inl u_f_sa_5)), (fi, .inl (c_fi, 24, .inl u_f_fi_6)), (hs, .inl (c_hs, 4, .inl f_hs)), (ch, .inl (c_ch, 96, .inl u_f_ch_7)), (cn, .inl (c_cn, 24, .inl u_f_cn_8)), (pf, .inl (c_pf, 4, .inl f_pf)), (kd, .inl (c_kd, 4, .inl f_kd)), (wd, .inl (c_wd, 4, .inl f_wd))] := hD
  refine lv_pop hx hb dX9_ofRun_4 rfl ?_
  refine lv_iload_n hx hb dX9_ofRun_5 rfl (lv_at hl 1 rfl) ?_
  refine lv_iconst (v := zI 0) hx hb dX9_ofRun_6 rfl ?_
  refine lv_aload_n hx hb dX9_ofRun_7 rfl (lv_at hl 0 rfl) ?_
  refine va_get (D := D) (ci := 9) (v := .int (zI u_ru_4)) (C := RX9) (T := TX9) (N := 31) hx hb hts (fun _ h9 => List.mem_cons_of_mem _ (List.mem_append_right _ h9)) hown hK hP 0 rfl rfl 27 (by decide) (hts (.fieldLink RX9 161 "FontRunsModel" "runs" "I") mw_X9_ofRun_b_0) (fun _ h9 => h9) rfl dX9_ofRun_8 ?_
  refine lv_iconst (v := zI 1) hx hb dX9_ofRun_11 rfl ?_
  refine kz_isub hx hb dX9_ofRun_12 ?_
  refine k_callR (va_runS (As := [.int (zI k), .int (zI 0), .int (zI (u_ru_4 - 1))]) (rest := []) ⟨hx, hb, hml, hown, hts⟩ (c_X9_within l D H.size (v := k) (a := 0) (b := (u_ru_4 - 1)) q0 (by omega) (by omega)) (va_cwS 3 hts gX9_ofRun_X9_within rfl rfl rfl (by decide +kernel) ⟨Nat.le_of_ble_eq_true rfl, Nat.le_of_ble_eq_true rfl⟩) (kPreS hP (kD0 hD) hK hN [] [] ax_X9_ofRun_b_1 rfl (by decide +kernel)) rfl rfl hl.1 rfl (lv_room (Nat.le_of_ble_eq_true rfl)) dX9_ofRun_13 ⟨Nat.le_of_ble_eq_true rfl, Nat.le_of_ble_eq_true rfl⟩) ?_
  refine lv_if_ne (tgt := 21) hx hb dX9_ofRun_16 (by decide) (fun c_19 => ?_) (fun c_19 => ?_)
  · have c_19 : 0 ≤ k ∧ k ≤ (u_ru_4 - 1) := b01t c_19
    refine lv_iconst (v := zI 0) hx hb dX9_ofRun_21 rfl ?_
    refine lv_istore_n (lv' := [(3, .int (zI 0)), (0, .ref h0), (1, .int (zI k)), (2, .int (zI w))]) hx hb dX9_ofRun_22 rfl hl (by decide) rfl (fun ls hl => ?_)
    refine k_loopM (I := fun n9 H locs ls => ∃ (jf : Int), n9 = (u_cl_1 - jf).toNat ∧ (0 ≤ jf ∧ jf ≤ u_cl_1 - 1) ∧ (kLr u_f_cn_8 k jf) ∧ va_P D vwCl [(h0, .inr (9, [.int (zI fa), .int (zI tc), .ref so, .ref sl, .ref ce, .int (zI fn), .ref kd, .ref wd, .ref hs, .ref pf, .ref lt, .int (zI mn), .ref wg, .int (zI ta), .long ck, .int (zI at9), .int (zI rfn), .ref rk, .ref rw, .ref rh, .int (zI u_cl_1), .ref sa, .ref fi, .int (zI u_bo_2), .ref ch, .ref cn, .int (zI u_ad_3), .int (zI u_ru_4), .ref kp, .int (zI dn), .ref rfa])), (wg, .inl (c_wg, 24, .inl f_wg)), (sa, .inl (c_sa, 25, .inl u_f_sa_5)), (fi, .inl (c_fi, 24, .inl u_f_fi_6)), (hs, .inl (c_hs, 4, .inl f_hs)), (ch, .inl (c_ch, 96, .inl u_f_ch_7)), (cn, .inl (c_cn, 24, .inl u_f_cn_8)), (pf, .inl (c_pf, 4, .inl f_pf)), (kd, .inl (c_kd, 4, .inl f_kd)), (wd, .inl (c_wd, 4, .inl f_wd))] H ∧ va_D A [(h0, .inr (9, [.int (zI fa), .int (zI tc), .ref so, .ref sl, .ref ce, .int (zI fn), .ref kd, .ref wd, .ref hs, .ref pf, .ref lt, .int (zI mn), .ref wg, .int (zI ta), .long ck, .int (zI at9), .int (zI rfn), .ref rk, .ref rw, .ref rh, .int (zI u_cl_1), .ref sa, .ref fi, .int (zI u_bo_2), .ref ch, .ref cn, .int (zI u_ad_3), .int (zI u_ru_4), .ref kp, .int (zI dn), .ref rfa])), (wg, .inl (c_wg, 24, .inl f_wg)), (sa, .inl (c_sa, 25, .inl u_f_sa_5)), (fi, .inl (c_fi, 24, .inl u_f_fi_6)), (hs, .inl (c_hs, 4, .inl f_hs)), (ch, .inl (c_ch, 96, .inl u_f_ch_7)), (cn, .inl (c_cn, 24, .inl u_f_cn_8)), (pf, .inl (c_pf, 4, .inl f_pf)), (kd, .inl (c_kd, 4, .inl f_kd)), (wd, .inl (c_wd, 4, .inl f_wd))] ∧ va_S A s.heap H locs ∧ lv_has ls 7 [(3, .int (zI jf)), (0, .ref h0), (1, .int (zI k)), (2, .int (zI w))]) ?_ _ ⟨0, rfl, (by omega), kLr_0, hP, hD, hS, hl⟩
    intro n23 ih23 H locs ls hI
    obtain ⟨jf, en23, v_230, v_231, hP, hD, hS, hl⟩ := hI
    refine lv_aload_n hx hb dX9_ofRun_23 rfl (lv_at hl 1 rfl) ?_
    refine lv_iload_n hx hb dX9_ofRun_24 rfl (lv_at hl 0 rfl) ?_
    refine k_callP (va_runV (As := [.int (zI jf)]) (rest := []) ⟨hx, hb, hml, hown, hts⟩ (c_X9_runOf l D H.size (kc := jf) (h0 := h0) (fa := fa) (tc := tc) (so := so) (sl := sl) (ce := ce) (fn := fn) (kd := kd) (wd := wd) (hs := hs) (pf := pf) (lt := lt) (mn := mn) (wg := wg) (ta := ta) (ck := ck) (at9 := at9) (rfn := rfn) (rk := rk) (rw := rw) (rh := rh) (cl := u_cl_1) (sa := sa) (fi := fi) (bo := u_bo_2) (ch := ch) (cn := cn) (ad := u_ad_3) (ru := u_ru_4) (kp := kp) (dn := dn) (rfa := rfa) (c_cn := c_cn) (f_cn := u_f_cn_8) (by omega)) (cwV 1 hts gX9_ofRun_X9_runOf rfl rfl rfl (by decide +kernel) ⟨Nat.le_of_ble_eq_true rfl, Nat.le_of_ble_eq_true rfl⟩) (kPreV hP (kD0 hD) hK hN [0, 6] [5] ax_X9_ofRun_b_4 rfl (by decide +kernel) 0 9 rfl rfl) rfl rfl hl.1 rfl (lv_room (Nat.le_of_ble_eq_true rfl)) dX9_ofRun_25 ⟨Nat.le_of_ble_eq_true rfl, Nat.le_of_ble_eq_true rfl⟩) (fun z_20 rz_20 h_21 => ?_)
    refine lv_iload_n hx hb dX9_ofRun_28 rfl (lv_at hl 2 rfl) ?_
    refine kz_icmp_ge (tgt := 38) hx hb dX9_ofRun_29 (by decide) (by omega) (by omega) (fun c_22 => ?_) (fun c_22 => ?_)
    · refine lv_iconst (v := zI 0) hx hb dX9_ofRun_38 rfl ?_
      refine lv_istore (lv' := [(4, .int (zI 0)), (3, .int (zI jf)), (0, .ref h0), (1, .int (zI k)), (2, .int (zI w))]) hx hb dX9_ofRun_39 hl (by decide) rfl (fun ls hl => ?_)
      refine lv_iconst (v := zI 0) hx hb dX9_ofRun_41 rfl ?_
      refine lv_istore (lv' := [(5, .int (zI 0)), (4, .int (zI 0)), (3, .int (zI jf)), (0, .ref h0), (1, .int (zI k)), (2, .int (zI w))]) hx hb dX9_ofRun_42 hl (by decide) rfl (fun ls hl => ?_)
      refine lv_iload_n hx hb dX9_ofRun_44 rfl (lv_at hl 2 rfl) ?_
      refine lv_istore (lv' := [(6, .int (zI jf)), (5, .int (zI 0)), (4, .int (zI 0)), (3, .int (zI jf)), (0, .ref h0), (1, .int (zI k)), (2, .int (zI w))]) hx hb dX9_ofRun_45 hl (by decide) rfl (fun ls hl => ?_)
      refine k_loopM (I := fun n9 H locs ls => ∃ (jn : Int) (js : Int) (jk : Int), n9 = (u_cl_1 - jk).toNat ∧ (jn = jk - jf) ∧ (rg js) ∧ (jf ≤ jk ∧ jk ≤ u_cl_1) ∧ (kEqr u_f_cn_8 k jf jk) ∧ (zI js = kSs (kSn f_kd f_wd) u_f_cn_8 (kNa jf) (kNa (jk - jf))) ∧ va_P D vwCl [(h0, .inr (9, [.int (zI fa), .int (zI tc), .ref so, .ref sl, .ref ce, .int (zI fn), .ref kd, .ref wd, .ref hs, .ref pf, .ref lt, .int (zI mn), .ref wg, .int (zI ta), .long ck, .int (zI at9), .int (zI rfn), .ref rk, .ref rw, .ref rh, .int (zI u_cl_1), .ref sa, .ref fi, .int (zI u_bo_2), .ref ch, .ref cn, .int (zI u_ad_3), .int (zI u_ru_4), .ref kp, .int (zI dn), .ref rfa])), (wg, .inl (c_wg, 24, .inl f_wg)), (sa, .inl (c_sa, 25, .inl u_f_sa_5)), (fi, .inl (c_fi, 24, .inl u_f_fi_6)), (hs, .inl (c_hs, 4, .inl f_hs)), (ch, .inl (c_ch, 96, .inl u_f_ch_7)), (cn, .inl (c_cn, 24, .inl u_f_cn_8)), (pf, .inl (c_pf, 4, .inl f_pf)), (kd, .inl (c_kd, 4, .inl f_kd)), (wd, .inl (c_wd, 4, .inl f_wd))] H ∧ va_D A [(h0, .inr (9, [.int (zI fa), .int (zI tc), .ref so, .ref sl, .ref ce, .int (zI fn), .ref kd, .ref wd, .ref hs, .ref pf, .ref lt, .int (zI mn), .ref wg, .int (zI ta), .long ck, .int (zI at9), .int (zI rfn), .ref rk, .ref rw, .ref rh, .int (zI u_cl_1), .ref sa, .ref fi, .int (zI u_bo_2), .ref ch, .ref cn, .int (zI u_ad_3), .int (zI u_ru_4), .ref kp, .int (zI dn), .ref rfa])), (wg, .inl (c_wg, 24, .inl f_wg)), (sa, .inl (c_sa, 25, .inl u_f_sa_5)), (fi, .inl (c_fi, 24, .inl u_f_fi_6)), (hs, .inl (c_hs, 4, .inl f_hs)), (ch, .inl (c_ch, 96, .inl u_f_ch_7)), (cn, .inl (c_cn, 24, .inl u_f_cn_8)), (pf, .inl (c_pf, 4, .inl f_pf)), (kd, .inl (c_kd, 4, .inl f_kd)), (wd, .inl (c_wd, 4, .inl f_wd))] ∧ va_S A s.heap H locs ∧ lv_has ls 7 [(6, .int (zI jk)), (5, .int (zI js)), (4, .int (zI jn)), (3, .int (zI jf)), (0, .ref h0), (1, .int (zI k)), (2, .int (zI w))]) ?_ _ ⟨0, 0, jf, rfl, (by omega), (by omega), (by omega), kEqr_0, kSs_0, hP, hD, hS, hl⟩
      intro n47 ih47 H locs ls hI
      obtain ⟨jn, js, jk, en47, v_470, v_471, v_472, v_473, v_474, hP, hD, hS, hl⟩ := hI
      refine lv_iload hx hb dX9_ofRun_47 (lv_at hl 0 rfl) ?_
      refine lv_aload_n hx hb dX9_ofRun_49 rfl (lv_at hl 4 rfl) ?_
      refine va_get (D := D) (ci := 9) (v := .int (zI u_cl_1)) (C := RX9) (T := TX9) (N := 31) hx hb hts (fun _ h9 => List.mem_cons_of_mem _ (List.mem_append_right _ h9)) hown hK hP 0 rfl rfl 20 (by decide) (hts (.fieldLink RX9 138 "FontRunsModel" "clusters" "I") mw_X9_ofRun_b_1) (fun _ h9 => h9) rfl dX9_ofRun_50 ?_
      refine kz_icmp_ge (tgt := 91) hx hb dX9_ofRun_53 (by decide) (by omega) (by omega) (fun c_23 => ?_) (fun c_23 => ?_)
      · refine lv_iload_n hx hb dX9_ofRun_91 rfl (lv_at hl 6 rfl) ?_
        refine kz_if_ne (tgt := 104) hx hb dX9_ofRun_92 (by decide) (by omega) (fun c_24 => ?_) (fun c_24 => ?_)
        · refine lv_iload_n hx hb dX9_ofRun_104 rfl (lv_at hl 6 rfl) ?_
          refine lv_iconst (v := zI 1) hx hb dX9_ofRun_105 rfl ?_
          refine kz_icmp_ne (tgt := 113) hx hb dX9_ofRun_106 (by decide) (by omega) (by omega) (fun c_25 => ?_) (fun c_25 => ?_)
          · refine lv_iload_n hx hb dX9_ofRun_113 rfl (lv_at hl 6 rfl) ?_
            refine lv_iconst (v := zI 2) hx hb dX9_ofRun_114 rfl ?_
            refine kz_icmp_ne (tgt := 123) hx hb dX9_ofRun_115 (by decide) (by omega) (by omega) (fun c_26 => ?_) (fun c_26 => ?_)
            · refine lv_iload_n hx hb dX9_ofRun_123 rfl (lv_at hl 6 rfl) ?_
              refine lv_iconst (v := zI 3) hx hb dX9_ofRun_124 rfl ?_
              refine kz_icmp_ne (tgt := 133) hx hb dX9_ofRun_125 (by decide) (by omega) (by omega) (fun c_27 => ?_) (fun c_27 => ?_)
              · refine lv_bipush (v := zI (-2)) hx hb dX9_ofRun_133 (by decide) ?_
                have hP9 := hP.sub (ws' := [(h0, .inr (9, [.int (zI fa), .int (zI tc), .ref so, .ref sl, .ref ce, .int (zI fn), .ref kd, .ref wd, .ref hs, .ref pf, .ref lt, .int (zI mn), .ref wg, .int (zI ta), .long ck, .int (zI at9), .int (zI rfn), .ref rk, .ref rw, .ref rh, .int (zI u_cl_1), .ref sa, .ref fi, .int (zI u_bo_2), .ref ch, .ref cn, .int (zI u_ad_3), .int (zI u_ru_4), .ref kp, .int (zI dn), .ref rfa])), (wg, .inl (c_wg, 24, .inl f_wg)), (sa, .inl (c_sa, 25, .inl u_f_sa_5)), (fi, .inl (c_fi, 24, .inl u_f_fi_6)), (hs, .inl (c_hs, 4, .inl f_hs)), (ch, .inl (c_ch, 96, .inl u_f_ch_7)), (cn, .inl (c_cn, 24, .inl u_f_cn_8)), (pf, .inl (c_pf, 4, .inl f_pf)), (kd, .inl (c_kd, 4, .inl f_kd)), (wd, .inl (c_wd, 4, .inl f_wd))]) [0, 1, 2, 3, 4, 5, 6, 7, 8, 9] rfl
                have hD9 := hD.sub (ws' := [(h0, .inr (9, [.int (zI fa), .int (zI tc), .ref so, .ref sl, .ref ce, .int (zI fn), .ref kd, .ref wd, .ref hs, .ref pf, .ref lt, .int (zI mn), .ref wg, .int (zI ta), .long ck, .int (zI at9), .int (zI rfn), .ref rk, .ref rw, .ref rh, .int (zI u_cl_1), .ref sa, .ref fi, .int (zI u_bo_2), .ref ch, .ref cn, .int (zI u_ad_3), .int (zI u_ru_4), .ref kp, .int (zI dn), .ref rfa])), (wg, .inl (c_wg, 24, .inl f_wg)), (sa, .inl (c_sa, 25, .inl u_f_sa_5)), (fi, .inl (c_fi, 24, .inl u_f_fi_6)), (hs, .inl (c_hs, 4, .inl f_hs)), (ch, .inl (c_ch, 96, .inl u_f_ch_7)), (cn, .inl (c_cn, 24, .inl u_f_cn_8)), (pf, .inl (c_pf, 4, .inl f_pf)), (kd, .inl (c_kd, 4, .inl f_kd)), (wd, .inl (c_wd, 4, .inl f_wd))]) [0, 1, 2, 3, 4, 5, 6, 7, 8, 9] (by decide +kernel) rfl
                exact W.iret (v := (zI (-2))) hx hb hr (fun t ht hW => kQS_of (by omega) ⟨u_cl_1, u_bo_2, u_ad_3, u_ru_4, u_f_sa_5, u_f_fi_6, u_f_ch_7, u_f_cn_8, h_13, (by omega), (by omega), h_11, ⟨_, h_18, Or.inr ⟨by omega, jf, jk, js, z_20, by omega, v_231, ⟨h_21.1, by omega⟩, by omega, v_473, (Or.inl (by omega)), v_474, Or.inr (Or.inr (Or.inr (Or.inr (⟨by omega, by omega⟩))))⟩⟩, by rw [ht]; exact hP9, hD9⟩ (hS.F ht)) hS.2.2 dX9_ofRun_135
              · refine lv_iload hx hb dX9_ofRun_128 (lv_at hl 1 rfl) ?_
                refine lv_goto (tgt := 135) hx hb dX9_ofRun_130 (by decide) ?_
                have hP9 := hP.sub (ws' := [(h0, .inr (9, [.int (zI fa), .int (zI tc), .ref so, .ref sl, .ref ce, .int (zI fn), .ref kd, .ref wd, .ref hs, .ref pf, .ref lt, .int (zI mn), .ref wg, .int (zI ta), .long ck, .int (zI at9), .int (zI rfn), .ref rk, .ref rw, .ref rh, .int (zI u_cl_1), .ref sa, .ref fi, .int (zI u_bo_2), .ref ch, .ref cn, .int (zI u_ad_3), .int (zI u_ru_4), .ref kp, .int (zI dn), .ref rfa])), (wg, .inl (c_wg, 24, .inl f_wg)), (sa, .inl (c_sa, 25, .inl u_f_sa_5)), (fi, .inl (c_fi, 24, .inl u_f_fi_6)), (hs, .inl (c_hs, 4, .inl f_hs)), (ch, .inl (c_ch, 96, .inl u_f_ch_7)), (cn, .inl (c_cn, 24, .inl u_f_cn_8)), (pf, .inl (c_pf, 4, .inl f_pf)), (kd, .inl (c_kd, 4, .inl f_kd)), (wd, .inl (c_wd, 4, .inl f_wd))]) [0, 1, 2, 3, 4, 5, 6, 7, 8, 9] rfl
                have hD9 := hD.sub (ws' := [(h0, .inr (9, [.int (zI fa), .int (zI tc), .ref so, .ref sl, .ref ce, .int (zI fn), .ref kd, .ref wd, .ref hs, .ref pf, .ref lt, .int (zI mn), .ref wg, .int (zI ta), .long ck, .int (zI at9), .int (zI rfn), .ref rk, .ref rw, .ref rh, .int (zI u_cl_1), .ref sa, .ref fi, .int (zI u_bo_2), .ref ch, .ref cn, .int (zI u_ad_3), .int (zI u_ru_4), .ref kp, .int (zI dn), .ref rfa])), (wg, .inl (c_wg, 24, .inl f_wg)), (sa, .inl (c_sa, 25, .inl u_f_sa_5)), (fi, .inl (c_fi, 24, .inl u_f_fi_6)), (hs, .inl (c_hs, 4, .inl f_hs)), (ch, .inl (c_ch, 96, .inl u_f_ch_7)), (cn, .inl (c_cn, 24, .inl u_f_cn_8)), (pf, .inl (c_pf, 4, .inl f_pf)), (kd, .inl (c_kd, 4, .inl f_kd)), (wd, .inl (c_wd, 4, .inl f_wd))]) [0, 1, 2, 3, 4, 5, 6, 7, 8, 9] (by decide +kernel) rfl
                exact W.iret (v := (zI js)) hx hb hr (fun t ht hW => kQS_of (by omega) ⟨u_cl_1, u_bo_2, u_ad_3, u_ru_4, u_f_sa_5, u_f_fi_6, u_f_ch_7, u_f_cn_8, h_13, (by omega), (by omega), h_11, ⟨_, h_18, Or.inr ⟨by omega, jf, jk, js, z_20, by omega, v_231, ⟨h_21.1, by omega⟩, by omega, v_473, (Or.inl (by omega)), v_474, Or.inr (Or.inr (Or.inr (Or.inl ⟨by omega, rfl⟩)))⟩⟩, by rw [ht]; exact hP9, hD9⟩ (hS.F ht)) hS.2.2 dX9_ofRun_135
            · refine lv_iload hx hb dX9_ofRun_118 (lv_at hl 2 rfl) ?_
              refine lv_goto (tgt := 135) hx hb dX9_ofRun_120 (by decide) ?_
              have hP9 := hP.sub (ws' := [(h0, .inr (9, [.int (zI fa), .int (zI tc), .ref so, .ref sl, .ref ce, .int (zI fn), .ref kd, .ref wd, .ref hs, .ref pf, .ref lt, .int (zI mn), .ref wg, .int (zI ta), .long ck, .int (zI at9), .int (zI rfn), .ref rk, .ref rw, .ref rh, .int (zI u_cl_1), .ref sa, .ref fi, .int (zI u_bo_2), .ref ch, .ref cn, .int (zI u_ad_3), .int (zI u_ru_4), .ref kp, .int (zI dn), .ref rfa])), (wg, .inl (c_wg, 24, .inl f_wg)), (sa, .inl (c_sa, 25, .inl u_f_sa_5)), (fi, .inl (c_fi, 24, .inl u_f_fi_6)), (hs, .inl (c_hs, 4, .inl f_hs)), (ch, .inl (c_ch, 96, .inl u_f_ch_7)), (cn, .inl (c_cn, 24, .inl u_f_cn_8)), (pf, .inl (c_pf, 4, .inl f_pf)), (kd, .inl (c_kd, 4, .inl f_kd)), (wd, .inl (c_wd, 4, .inl f_wd))]) [0, 1, 2, 3, 4, 5, 6, 7, 8, 9] rfl
              have hD9 := hD.sub (ws' := [(h0, .inr (9, [.int (zI fa), .int (zI tc), .ref so, .ref sl, .ref ce, .int (zI fn), .ref kd, .ref wd, .ref hs, .ref pf, .ref lt, .int (zI mn), .ref wg, .int (zI ta), .long ck, .int (zI at9), .int (zI rfn), .ref rk, .ref rw, .ref rh, .int (zI u_cl_1), .ref sa, .ref fi, .int (zI u_bo_2), .ref ch, .ref cn, .int (zI u_ad_3), .int (zI u_ru_4), .ref kp, .int (zI dn), .ref rfa])), (wg, .inl (c_wg, 24, .inl f_wg)), (sa, .inl (c_sa, 25, .inl u_f_sa_5)), (fi, .inl (c_fi, 24, .inl u_f_fi_6)), (hs, .inl (c_hs, 4, .inl f_hs)), (ch, .inl (c_ch, 96, .inl u_f_ch_7)), (cn, .inl (c_cn, 24, .inl u_f_cn_8)), (pf, .inl (c_pf, 4, .inl f_pf)), (kd, .inl (c_kd, 4, .inl f_kd)), (wd, .inl (c_wd, 4, .inl f_wd))]) [0, 1, 2, 3, 4, 5, 6, 7, 8, 9] (by decide +kernel) rfl
              exact W.iret (v := (zI jn)) hx hb hr (fun t ht hW => kQS_of (by omega) ⟨u_cl_1, u_bo_2, u_ad_3, u_ru_4, u_f_sa_5, u_f_fi_6, u_f_ch_7, u_f_cn_8, h_13, (by omega), (by omega), h_11, ⟨_, h_18, Or.inr ⟨by omega, jf, jk, js, z_20, by omega, v_231, ⟨h_21.1, by omega⟩, by omega, v_473, (Or.inl (by omega)), v_474, Or.inr (Or.inr (Or.inl ⟨by omega, by omega⟩))⟩⟩, by rw [ht]; exact hP9, hD9⟩ (hS.F ht)) hS.2.2 dX9_ofRun_135
          · refine lv_iload_n hx hb dX9_ofRun_109 rfl (lv_at hl 3 rfl) ?_
            refine lv_goto (tgt := 135) hx hb dX9_ofRun_110 (by decide) ?_
            have hP9 := hP.sub (ws' := [(h0, .inr (9, [.int (zI fa), .int (zI tc), .ref so, .ref sl, .ref ce, .int (zI fn), .ref kd, .ref wd, .ref hs, .ref pf, .ref lt, .int (zI mn), .ref wg, .int (zI ta), .long ck, .int (zI at9), .int (zI rfn), .ref rk, .ref rw, .ref rh, .int (zI u_cl_1), .ref sa, .ref fi, .int (zI u_bo_2), .ref ch, .ref cn, .int (zI u_ad_3), .int (zI u_ru_4), .ref kp, .int (zI dn), .ref rfa])), (wg, .inl (c_wg, 24, .inl f_wg)), (sa, .inl (c_sa, 25, .inl u_f_sa_5)), (fi, .inl (c_fi, 24, .inl u_f_fi_6)), (hs, .inl (c_hs, 4, .inl f_hs)), (ch, .inl (c_ch, 96, .inl u_f_ch_7)), (cn, .inl (c_cn, 24, .inl u_f_cn_8)), (pf, .inl (c_pf, 4, .inl f_pf)), (kd, .inl (c_kd, 4, .inl f_kd)), (wd, .inl (c_wd, 4, .inl f_wd))]) [0, 1, 2, 3, 4, 5, 6, 7, 8, 9] rfl
            have hD9 := hD.sub (ws' := [(h0, .inr (9, [.int (zI fa), .int (zI tc), .ref so, .ref sl, .ref ce, .int (zI fn), .ref kd, .ref wd, .ref hs, .ref pf, .ref lt, .int (zI mn), .ref wg, .int (zI ta), .long ck, .int (zI at9), .int (zI rfn), .ref rk, .ref rw, .ref rh, .int (zI u_cl_1), .ref sa, .ref fi, .int (zI u_bo_2), .ref ch, .ref cn, .int (zI u_ad_3), .int (zI u_ru_4), .ref kp, .int (zI dn), .ref rfa])), (wg, .inl (c_wg, 24, .inl f_wg)), (sa, .inl (c_sa, 25, .inl u_f_sa_5)), (fi, .inl (c_fi, 24, .inl u_f_fi_6)), (hs, .inl (c_hs, 4, .inl f_hs)), (ch, .inl (c_ch, 96, .inl u_f_ch_7)), (cn, .inl (c_cn, 24, .inl u_f_cn_8)), (pf, .inl (c_pf, 4, .inl f_pf)), (kd, .inl (c_kd, 4, .inl f_kd)), (wd, .inl (c_wd, 4, .inl f_wd))]) [0, 1, 2, 3, 4, 5, 6, 7, 8, 9] (by decide +kernel) rfl
            exact W.iret (v := (zI jf)) hx hb hr (fun t ht hW => kQS_of (by omega) ⟨u_cl_1, u_bo_2, u_ad_3, u_ru_4, u_f_sa_5, u_f_fi_6, u_f_ch_7, u_f_cn_8, h_13, (by omega), (by omega), h_11, ⟨_, h_18, Or.inr ⟨by omega, jf, jk, js, z_20, by omega, v_231, ⟨h_21.1, by omega⟩, by omega, v_473, (Or.inl (by omega)), v_474, Or.inr (Or.inl ⟨by omega, rfl⟩)⟩⟩, by rw [ht]; exact hP9, hD9⟩ (hS.F ht)) hS.2.2 dX9_ofRun_135
        · refine lv_aload_n hx hb dX9_ofRun_95 rfl (lv_at hl 4 rfl) ?_
          refine va_get (D := D) (ci := 9) (v := .ref cn) (C := RX9) (T := TX9) (N := 31) hx hb hts (fun _ h9 => List.mem_cons_of_mem _ (List.mem_append_right _ h9)) hown hK hP 0 rfl rfl 25 (by decide) (hts (.fieldLink RX9 55 "FontRunsModel" "chosen" "[I") mw_X9_ofRun_b_2) (fun _ h9 => h9) rfl dX9_ofRun_96 ?_
          refine lv_iload_n hx hb dX9_ofRun_99 rfl (lv_at hl 3 rfl) ?_
          refine kz_iald hx hb hK hP 6 5 rfl rfl (by omega) dX9_ofRun_100 (fun z_28 rz_28 ez_28 => ?_)
          refine lv_goto (tgt := 135) hx hb dX9_ofRun_101 (by decide) ?_
          have hP9 := hP.sub (ws' := [(h0, .inr (9, [.int (zI fa), .int (zI tc), .ref so, .ref sl, .ref ce, .int (zI fn), .ref kd, .ref wd, .ref hs, .ref pf, .ref lt, .int (zI mn), .ref wg, .int (zI ta), .long ck, .int (zI at9), .int (zI rfn), .ref rk, .ref rw, .ref rh, .int (zI u_cl_1), .ref sa, .ref fi, .int (zI u_bo_2), .ref ch, .ref cn, .int (zI u_ad_3), .int (zI u_ru_4), .ref kp, .int (zI dn), .ref rfa])), (wg, .inl (c_wg, 24, .inl f_wg)), (sa, .inl (c_sa, 25, .inl u_f_sa_5)), (fi, .inl (c_fi, 24, .inl u_f_fi_6)), (hs, .inl (c_hs, 4, .inl f_hs)), (ch, .inl (c_ch, 96, .inl u_f_ch_7)), (cn, .inl (c_cn, 24, .inl u_f_cn_8)), (pf, .inl (c_pf, 4, .inl f_pf)), (kd, .inl (c_kd, 4, .inl f_kd)), (wd, .inl (c_wd, 4, .inl f_wd))]) [0, 1, 2, 3, 4, 5, 6, 7, 8, 9] rfl
          have hD9 := hD.sub (ws' := [(h0, .inr (9, [.int (zI fa), .int (zI tc), .ref so, .ref sl, .ref ce, .int (zI fn), .ref kd, .ref wd, .ref hs, .ref pf, .ref lt, .int (zI mn), .ref wg, .int (zI ta), .long ck, .int (zI at9), .int (zI rfn), .ref rk, .ref rw, .ref rh, .int (zI u_cl_1), .ref sa, .ref fi, .int (zI u_bo_2), .ref ch, .ref cn, .int (zI u_ad_3), .int (zI u_ru_4), .ref kp, .int (zI dn), .ref rfa])), (wg, .inl (c_wg, 24, .inl f_wg)), (sa, .inl (c_sa, 25, .inl u_f_sa_5)), (fi, .inl (c_fi, 24, .inl u_f_fi_6)), (hs, .inl (c_hs, 4, .inl f_hs)), (ch, .inl (c_ch, 96, .inl u_f_ch_7)), (cn, .inl (c_cn, 24, .inl u_f_cn_8)), (pf, .inl (c_pf, 4, .inl f_pf)), (kd, .inl (c_kd, 4, .inl f_kd)), (wd, .inl (c_wd, 4, .inl f_wd))]) [0, 1, 2, 3, 4, 5, 6, 7, 8, 9] (by decide +kernel) rfl
          exact W.iret (v := (zI z_28)) hx hb hr (fun t ht hW => kQS_of (by omega) ⟨u_cl_1, u_bo_2, u_ad_3, u_ru_4, u_f_sa_5, u_f_fi_6, u_f_ch_7, u_f_cn_8, h_13, (by omega), (by omega), h_11, ⟨_, h_18, Or.inr ⟨by omega, jf, jk, js, z_20, by omega, v_231, ⟨h_21.1, by omega⟩, by omega, v_473, (Or.inl (by omega)), v_474, Or.inl ⟨by omega, ez_28.symm⟩⟩⟩, by rw [ht]; exact hP9, hD9⟩ (hS.F ht)) hS.2.2 dX9_ofRun_135
      · refine lv_aload_n hx hb dX9_ofRun_56 rfl (lv_at hl 4 rfl) ?_
        refine lv_iload hx hb dX9_ofRun_57 (lv_at hl 0 rfl) ?_
        refine k_callP (va_runV (As := [.int (zI jk)]) (rest := []) ⟨hx, hb, hml, hown, hts⟩ (c_X9_runOf l D H.size (kc := jk) (h0 := h0) (fa := fa) (tc := tc) (so := so) (sl := sl) (ce := ce) (fn := fn) (kd := kd) (wd := wd) (hs := hs) (pf := pf) (lt := lt) (mn := mn) (wg := wg) (ta := ta) (ck := ck) (at9 := at9) (rfn := rfn) (rk := rk) (rw := rw) (rh := rh) (cl := u_cl_1) (sa := sa) (fi := fi) (bo := u_bo_2) (ch := ch) (cn := cn) (ad := u_ad_3) (ru := u_ru_4) (kp := kp) (dn := dn) (rfa := rfa) (c_cn := c_cn) (f_cn := u_f_cn_8) (by omega)) (cwV 1 hts gX9_ofRun_X9_runOf rfl rfl rfl (by decide +kernel) ⟨Nat.le_of_ble_eq_true rfl, Nat.le_of_ble_eq_true rfl⟩) (kPreV hP (kD0 hD) hK hN [0, 6] [5] ax_X9_ofRun_b_4 rfl (by decide +kernel) 0 9 rfl rfl) rfl rfl hl.1 rfl (lv_room (Nat.le_of_ble_eq_true rfl)) dX9_ofRun_59 ⟨Nat.le_of_ble_eq_true rfl, Nat.le_of_ble_eq_true rfl⟩) (fun z_29 rz_29 h_30 => ?_)
        refine lv_iload_n hx hb dX9_ofRun_62 rfl (lv_at hl 5 rfl) ?_
        refine kz_icmp_ne (tgt := 91) hx hb dX9_ofRun_63 (by decide) (by omega) (by omega) (fun c_31 => ?_) (fun c_31 => ?_)
        · refine lv_iload_n hx hb dX9_ofRun_91 rfl (lv_at hl 6 rfl) ?_
          refine kz_if_ne (tgt := 104) hx hb dX9_ofRun_92 (by decide) (by omega) (fun c_32 => ?_) (fun c_32 => ?_)
          · refine lv_iload_n hx hb dX9_ofRun_104 rfl (lv_at hl 6 rfl) ?_
            refine lv_iconst (v := zI 1) hx hb dX9_ofRun_105 rfl ?_
            refine kz_icmp_ne (tgt := 113) hx hb dX9_ofRun_106 (by decide) (by omega) (by omega) (fun c_33 => ?_) (fun c_33 => ?_)
            · refine lv_iload_n hx hb dX9_ofRun_113 rfl (lv_at hl 6 rfl) ?_
              refine lv_iconst (v := zI 2) hx hb dX9_ofRun_114 rfl ?_
              refine kz_icmp_ne (tgt := 123) hx hb dX9_ofRun_115 (by decide) (by omega) (by omega) (fun c_34 => ?_) (fun c_34 => ?_)
              · refine lv_iload_n hx hb dX9_ofRun_123 rfl (lv_at hl 6 rfl) ?_
                refine lv_iconst (v := zI 3) hx hb dX9_ofRun_124 rfl ?_
                refine kz_icmp_ne (tgt := 133) hx hb dX9_ofRun_125 (by decide) (by omega) (by omega) (fun c_35 => ?_) (fun c_35 => ?_)
                · refine lv_bipush (v := zI (-2)) hx hb dX9_ofRun_133 (by decide) ?_
                  have hP9 := hP.sub (ws' := [(h0, .inr (9, [.int (zI fa), .int (zI tc), .ref so, .ref sl, .ref ce, .int (zI fn), .ref kd, .ref wd, .ref hs, .ref pf, .ref lt, .int (zI mn), .ref wg, .int (zI ta), .long ck, .int (zI at9), .int (zI rfn), .ref rk, .ref rw, .ref rh, .int (zI u_cl_1), .ref sa, .ref fi, .int (zI u_bo_2), .ref ch, .ref cn, .int (zI u_ad_3), .int (zI u_ru_4), .ref kp, .int (zI dn), .ref rfa])), (wg, .inl (c_wg, 24, .inl f_wg)), (sa, .inl (c_sa, 25, .inl u_f_sa_5)), (fi, .inl (c_fi, 24, .inl u_f_fi_6)), (hs, .inl (c_hs, 4, .inl f_hs)), (ch, .inl (c_ch, 96, .inl u_f_ch_7)), (cn, .inl (c_cn, 24, .inl u_f_cn_8)), (pf, .inl (c_pf, 4, .inl f_pf)), (kd, .inl (c_kd, 4, .inl f_kd)), (wd, .inl (c_wd, 4, .inl f_wd))]) [0, 1, 2, 3, 4, 5, 6, 7, 8, 9] rfl
                  have hD9 := hD.sub (ws' := [(h0, .inr (9, [.int (zI fa), .int (zI tc), .ref so, .ref sl, .ref ce, .int (zI fn), .ref kd, .ref wd, .ref hs, .ref pf, .ref lt, .int (zI mn), .ref wg, .int (zI ta), .long ck, .int (zI at9), .int (zI rfn), .ref rk, .ref rw, .ref rh, .int (zI u_cl_1), .ref sa, .ref fi, .int (zI u_bo_2), .ref ch, .ref cn, .int (zI u_ad_3), .int (zI u_ru_4), .ref kp, .int (zI dn), .ref rfa])), (wg, .inl (c_wg, 24, .inl f_wg)), (sa, .inl (c_sa, 25, .inl u_f_sa_5)), (fi, .inl (c_fi, 24, .inl u_f_fi_6)), (hs, .inl (c_hs, 4, .inl f_hs)), (ch, .inl (c_ch, 96, .inl u_f_ch_7)), (cn, .inl (c_cn, 24, .inl u_f_cn_8)), (pf, .inl (c_pf, 4, .inl f_pf)), (kd, .inl (c_kd, 4, .inl f_kd)), (wd, .inl (c_wd, 4, .inl f_wd))]) [0, 1, 2, 3, 4, 5, 6, 7, 8, 9] (by decide +kernel) rfl
                  exact W.iret (v := (zI (-2))) hx hb hr (fun t ht hW => kQS_of (by omega) ⟨u_cl_1, u_bo_2, u_ad_3, u_ru_4, u_f_sa_5, u_f_fi_6, u_f_ch_7, u_f_cn_8, h_13, (by omega), (by omega), h_11, ⟨_, h_18, Or.inr ⟨by omega, jf, jk, js, z_20, by omega, v_231, ⟨h_21.1, by omega⟩, by omega, v_473, (Or.inr (by have q9 := h_30.1; omega)), v_474, Or.inr (Or.inr (Or.inr (Or.inr (⟨by omega, by omega⟩))))⟩⟩, by rw [ht]; exact hP9, hD9⟩ (hS.F ht)) hS.2.2 dX9_ofRun_135
                · refine lv_iload hx hb dX9_ofRun_128 (lv_at hl 1 rfl) ?_
                  refine lv_goto (tgt := 135) hx hb dX9_ofRun_130 (by decide) ?_
                  have hP9 := hP.sub (ws' := [(h0, .inr (9, [.int (zI fa), .int (zI tc), .ref so, .ref sl, .ref ce, .int (zI fn), .ref kd, .ref wd, .ref hs, .ref pf, .ref lt, .int (zI mn), .ref wg, .int (zI ta), .long ck, .int (zI at9), .int (zI rfn), .ref rk, .ref rw, .ref rh, .int (zI u_cl_1), .ref sa, .ref fi, .int (zI u_bo_2), .ref ch, .ref cn, .int (zI u_ad_3), .int (zI u_ru_4), .ref kp, .int (zI dn), .ref rfa])), (wg, .inl (c_wg, 24, .inl f_wg)), (sa, .inl (c_sa, 25, .inl u_f_sa_5)), (fi, .inl (c_fi, 24, .inl u_f_fi_6)), (hs, .inl (c_hs, 4, .inl f_hs)), (ch, .inl (c_ch, 96, .inl u_f_ch_7)), (cn, .inl (c_cn, 24, .inl u_f_cn_8)), (pf, .inl (c_pf, 4, .inl f_pf)), (kd, .inl (c_kd, 4, .inl f_kd)), (wd, .inl (c_wd, 4, .inl f_wd))]) [0, 1, 2, 3, 4, 5, 6, 7, 8, 9] rfl
                  have hD9 := hD.sub (ws' := [(h0, .inr (9, [.int (zI fa), .int (zI tc), .ref so, .ref sl, .ref ce, .int (zI fn), .ref kd, .ref wd, .ref hs, .ref pf, .ref lt, .int (zI mn), .ref wg, .int (zI ta), .long ck, .int (zI at9), .int (zI rfn), .ref rk, .ref rw, .ref rh, .int (zI u_cl_1), .ref sa, .ref fi, .int (zI u_bo_2), .ref ch, .ref cn, .int (zI u_ad_3), .int (zI u_ru_4), .ref kp, .int (zI dn), .ref rfa])), (wg, .inl (c_wg, 24, .inl f_wg)), (sa, .inl (c_sa, 25, .inl u_f_sa_5)), (fi, .inl (c_fi, 24, .inl u_f_fi_6)), (hs, .inl (c_hs, 4, .inl f_hs)), (ch, .inl (c_ch, 96, .inl u_f_ch_7)), (cn, .inl (c_cn, 24, .inl u_f_cn_8)), (pf, .inl (c_pf, 4, .inl f_pf)), (kd, .inl (c_kd, 4, .inl f_kd)), (wd, .inl (c_wd, 4, .inl f_wd))]) [0, 1, 2, 3, 4, 5, 6, 7, 8, 9] (by decide +kernel) rfl
                  exact W.iret (v := (zI js)) hx hb hr (fun t ht hW => kQS_of (by omega) ⟨u_cl_1, u_bo_2, u_ad_3, u_ru_4, u_f_sa_5, u_f_fi_6, u_f_ch_7, u_f_cn_8, h_13, (by omega), (by omega), h_11, ⟨_, h_18, Or.inr ⟨by omega, jf, jk, js, z_20, by omega, v_231, ⟨h_21.1, by omega⟩, by omega, v_473, (Or.inr (by have q9 := h_30.1; omega)), v_474, Or.inr (Or.inr (Or.inr (Or.inl ⟨by omega, rfl⟩)))⟩⟩, by rw [ht]; exact hP9, hD9⟩ (hS.F ht)) hS.2.2 dX9_ofRun_135
              · refine lv_iload hx hb dX9_ofRun_118 (lv_at hl 2 rfl) ?_
                refine lv_goto (tgt := 135) hx hb dX9_ofRun_120 (by decide) ?_
                have hP9 := hP.sub (ws' := [(h0, .inr (9, [.int (zI fa), .int (zI tc), .ref so, .ref sl, .ref ce, .int (zI fn), .ref kd, .ref wd, .ref hs, .ref pf, .ref lt, .int (zI mn), .ref wg, .int (zI ta), .long ck, .int (zI at9), .int (zI rfn), .ref rk, .ref rw, .ref rh, .int (zI u_cl_1), .ref sa, .ref fi, .int (zI u_bo_2), .ref ch, .ref cn, .int (zI u_ad_3), .int (zI u_ru_4), .ref kp, .int (zI dn), .ref rfa])), (wg, .inl (c_wg, 24, .inl f_wg)), (sa, .inl (c_sa, 25, .inl u_f_sa_5)), (fi, .inl (c_fi, 24, .inl u_f_fi_6)), (hs, .inl (c_hs, 4, .inl f_hs)), (ch, .inl (c_ch, 96, .inl u_f_ch_7)), (cn, .inl (c_cn, 24, .inl u_f_cn_8)), (pf, .inl (c_pf, 4, .inl f_pf)), (kd, .inl (c_kd, 4, .inl f_kd)), (wd, .inl (c_wd, 4, .inl f_wd))]) [0, 1, 2, 3, 4, 5, 6, 7, 8, 9] rfl
                have hD9 := hD.sub (ws' := [(h0, .inr (9, [.int (zI fa), .int (zI tc), .ref so, .ref sl, .ref ce, .int (zI fn), .ref kd, .ref wd, .ref hs, .ref pf, .ref lt, .int (zI mn), .ref wg, .int (zI ta), .long ck, .int (zI at9), .int (zI rfn), .ref rk, .ref rw, .ref rh, .int (zI u_cl_1), .ref sa, .ref fi, .int (zI u_bo_2), .ref ch, .ref cn, .int (zI u_ad_3), .int (zI u_ru_4), .ref kp, .int (zI dn), .ref rfa])), (wg, .inl (c_wg, 24, .inl f_wg)), (sa, .inl (c_sa, 25, .inl u_f_sa_5)), (fi, .inl (c_fi, 24, .inl u_f_fi_6)), (hs, .inl (c_hs, 4, .inl f_hs)), (ch, .inl (c_ch, 96, .inl u_f_ch_7)), (cn, .inl (c_cn, 24, .inl u_f_cn_8)), (pf, .inl (c_pf, 4, .inl f_pf)), (kd, .inl (c_kd, 4, .inl f_kd)), (wd, .inl (c_wd, 4, .inl f_wd))]) [0, 1, 2, 3, 4, 5, 6, 7, 8, 9] (by decide +kernel) rfl
                exact W.iret (v := (zI jn)) hx hb hr (fun t ht hW => kQS_of (by omega) ⟨u_cl_1, u_bo_2, u_ad_3, u_ru_4, u_f_sa_5, u_f_fi_6, u_f_ch_7, u_f_cn_8, h_13, (by omega), (by omega), h_11, ⟨_, h_18, Or.inr ⟨by omega, jf, jk, js, z_20, by omega, v_231, ⟨h_21.1, by omega⟩, by omega, v_473, (Or.inr (by have q9 := h_30.1; omega)), v_474, Or.inr (Or.inr (Or.inl ⟨by omega, by omega⟩))⟩⟩, by rw [ht]; exact hP9, hD9⟩ (hS.F ht)) hS.2.2 dX9_ofRun_135
            · refine lv_iload_n hx hb dX9_ofRun_109 rfl (lv_at hl 3 rfl) ?_
              refine lv_goto (tgt := 135) hx hb dX9_ofRun_110 (by decide) ?_
              have hP9 := hP.sub (ws' := [(h0, .inr (9, [.int (zI fa), .int (zI tc), .ref so, .ref sl, .ref ce, .int (zI fn), .ref kd, .ref wd, .ref hs, .ref pf, .ref lt, .int (zI mn), .ref wg, .int (zI ta), .long ck, .int (zI at9), .int (zI rfn), .ref rk, .ref rw, .ref rh, .int (zI u_cl_1), .ref sa, .ref fi, .int (zI u_bo_2), .ref ch, .ref cn, .int (zI u_ad_3), .int (zI u_ru_4), .ref kp, .int (zI dn), .ref rfa])), (wg, .inl (c_wg, 24, .inl f_wg)), (sa, .inl (c_sa, 25, .inl u_f_sa_5)), (fi, .inl (c_fi, 24, .inl u_f_fi_6)), (hs, .inl (c_hs, 4, .inl f_hs)), (ch, .inl (c_ch, 96, .inl u_f_ch_7)), (cn, .inl (c_cn, 24, .inl u_f_cn_8)), (pf, .inl (c_pf, 4, .inl f_pf)), (kd, .inl (c_kd, 4, .inl f_kd)), (wd, .inl (c_wd, 4, .inl f_wd))]) [0, 1, 2, 3, 4, 5, 6, 7, 8, 9] rfl
              have hD9 := hD.sub (ws' := [(h0, .inr (9, [.int (zI fa), .int (zI tc), .ref so, .ref sl, .ref ce, .int (zI fn), .ref kd, .ref wd, .ref hs, .ref pf, .ref lt, .int (zI mn), .ref wg, .int (zI ta), .long ck, .int (zI at9), .int (zI rfn), .ref rk, .ref rw, .ref rh, .int (zI u_cl_1), .ref sa, .ref fi, .int (zI u_bo_2), .ref ch, .ref cn, .int (zI u_ad_3), .int (zI u_ru_4), .ref kp, .int (zI dn), .ref rfa])), (wg, .inl (c_wg, 24, .inl f_wg)), (sa, .inl (c_sa, 25, .inl u_f_sa_5)), (fi, .inl (c_fi, 24, .inl u_f_fi_6)), (hs, .inl (c_hs, 4, .inl f_hs)), (ch, .inl (c_ch, 96, .inl u_f_ch_7)), (cn, .inl (c_cn, 24, .inl u_f_cn_8)), (pf, .inl (c_pf, 4, .inl f_pf)), (kd, .inl (c_kd, 4, .inl f_kd)), (wd, .inl (c_wd, 4, .inl f_wd))]) [0, 1, 2, 3, 4, 5, 6, 7, 8, 9] (by decide +kernel) rfl
              exact W.iret (v := (zI jf)) hx hb hr (fun t ht hW => kQS_of (by omega) ⟨u_cl_1, u_bo_2, u_ad_3, u_ru_4, u_f_sa_5, u_f_fi_6, u_f_ch_7, u_f_cn_8, h_13, (by omega), (by omega), h_11, ⟨_, h_18, Or.inr ⟨by omega, jf, jk, js, z_20, by omega, v_231, ⟨h_21.1, by omega⟩, by omega, v_473, (Or.inr (by have q9 := h_30.1; omega)), v_474, Or.inr (Or.inl ⟨by omega, rfl⟩)⟩⟩, by rw [ht]; exact hP9, hD9⟩ (hS.F ht)) hS.2.2 dX9_ofRun_135
          · refine lv_aload_n hx hb dX9_ofRun_95 rfl (lv_at hl 4 rfl) ?_
            refine va_get (D := D) (ci := 9) (v := .ref cn) (C := RX9) (T := TX9) (N := 31) hx hb hts (fun _ h9 => List.mem_cons_of_mem _ (List.mem_append_right _ h9)) hown hK hP 0 rfl rfl 25 (by decide) (hts (.fieldLink RX9 55 "FontRunsModel" "chosen" "[I") mw_X9_ofRun_b_2) (fun _ h9 => h9) rfl dX9_ofRun_96 ?_
            refine lv_iload_n hx hb dX9_ofRun_99 rfl (lv_at hl 3 rfl) ?_
            refine kz_iald hx hb hK hP 6 5 rfl rfl (by omega) dX9_ofRun_100 (fun z_36 rz_36 ez_36 => ?_)
            refine lv_goto (tgt := 135) hx hb dX9_ofRun_101 (by decide) ?_
            have hP9 := hP.sub (ws' := [(h0, .inr (9, [.int (zI fa), .int (zI tc), .ref so, .ref sl, .ref ce, .int (zI fn), .ref kd, .ref wd, .ref hs, .ref pf, .ref lt, .int (zI mn), .ref wg, .int (zI ta), .long ck, .int (zI at9), .int (zI rfn), .ref rk, .ref rw, .ref rh, .int (zI u_cl_1), .ref sa, .ref fi, .int (zI u_bo_2), .ref ch, .ref cn, .int (zI u_ad_3), .int (zI u_ru_4), .ref kp, .int (zI dn), .ref rfa])), (wg, .inl (c_wg, 24, .inl f_wg)), (sa, .inl (c_sa, 25, .inl u_f_sa_5)), (fi, .inl (c_fi, 24, .inl u_f_fi_6)), (hs, .inl (c_hs, 4, .inl f_hs)), (ch, .inl (c_ch, 96, .inl u_f_ch_7)), (cn, .inl (c_cn, 24, .inl u_f_cn_8)), (pf, .inl (c_pf, 4, .inl f_pf)), (kd, .inl (c_kd, 4, .inl f_kd)), (wd, .inl (c_wd, 4, .inl f_wd))]) [0, 1, 2, 3, 4, 5, 6, 7, 8, 9] rfl
            have hD9 := hD.sub (ws' := [(h0, .inr (9, [.int (zI fa), .int (zI tc), .ref so, .ref sl, .ref ce, .int (zI fn), .ref kd, .ref wd, .ref hs, .ref pf, .ref lt, .int (zI mn), .ref wg, .int (zI ta), .long ck, .int (zI at9), .int (zI rfn), .ref rk, .ref rw, .ref rh, .int (zI u_cl_1), .ref sa, .ref fi, .int (zI u_bo_2), .ref ch, .ref cn, .int (zI u_ad_3), .int (zI u_ru_4), .ref kp, .int (zI dn), .ref rfa])), (wg, .inl (c_wg, 24, .inl f_wg)), (sa, .inl (c_sa, 25, .inl u_f_sa_5)), (fi, .inl (c_fi, 24, .inl u_f_fi_6)), (hs, .inl (c_hs, 4, .inl f_hs)), (ch, .inl (c_ch, 96, .inl u_f_ch_7)), (cn, .inl (c_cn, 24, .inl u_f_cn_8)), (pf, .inl (c_pf, 4, .inl f_pf)), (kd, .inl (c_kd, 4, .inl f_kd)), (wd, .inl (c_wd, 4, .inl f_wd))]) [0, 1, 2, 3, 4, 5, 6, 7, 8, 9] (by decide +kernel) rfl
            exact W.iret (v := (zI z_36)) hx hb hr (fun t ht hW => kQS_of (by omega) ⟨u_cl_1, u_bo_2, u_ad_3, u_ru_4, u_f_sa_5, u_f_fi_6, u_f_ch_7, u_f_cn_8, h_13, (by omega), (by omega), h_11, ⟨_, h_18, Or.inr ⟨by omega, jf, jk, js, z_20, by omega, v_231, ⟨h_21.1, by omega⟩, by omega, v_473, (Or.inr (by have q9 := h_30.1; omega)), v_474, Or.inl ⟨by omega, ez_36.symm⟩⟩⟩, by rw [ht]; exact hP9, hD9⟩ (hS.F ht)) hS.2.2 dX9_ofRun_135
        · refine lv_iinc (v := (zI (jn + 1))) (lv' := [(4, .int (zI (jn + 1))), (6, .int (zI jk)), (5, .int (zI js)), (3, .int (zI jf)), (0, .ref h0), (1, .int (zI k)), (2, .int (zI w))]) hx hb dX9_ofRun_66 hl (k := 2) rfl (kz_inc _ 1) (by decide) rfl (fun ls hl => ?_)
          refine lv_iload hx hb dX9_ofRun_69 (lv_at hl 2 rfl) ?_
          refine lv_aload_n hx hb dX9_ofRun_71 rfl (lv_at hl 4 rfl) ?_
          refine lv_aload_n hx hb dX9_ofRun_72 rfl (lv_at hl 4 rfl) ?_
          refine va_get (D := D) (ci := 9) (v := .ref cn) (C := RX9) (T := TX9) (N := 31) hx hb hts (fun _ h9 => List.mem_cons_of_mem _ (List.mem_append_right _ h9)) hown hK hP 0 rfl rfl 25 (by decide) (hts (.fieldLink RX9 55 "FontRunsModel" "chosen" "[I") mw_X9_ofRun_b_2) (fun _ h9 => h9) rfl dX9_ofRun_73 ?_
          refine lv_iload hx hb dX9_ofRun_76 (lv_at hl 1 rfl) ?_
          refine kz_iald hx hb hK hP 6 5 rfl rfl (by omega) dX9_ofRun_78 (fun z_37 rz_37 ez_37 => ?_)
          have bz_37 := kCn_at h_17 (by omega) (by omega) rz_37 ez_37
          refine k_callP (va_runV (As := [.int (zI z_37)]) (rest := [.int (zI js)]) ⟨hx, hb, hml, hown, hts⟩ (c_X9_stepOf_w l D H.size (f := z_37) (h0 := h0) (fa := fa) (tc := tc) (so := so) (sl := sl) (ce := ce) (fn := fn) (kd := kd) (wd := wd) (hs := hs) (pf := pf) (lt := lt) (mn := mn) (wg := wg) (ta := ta) (ck := ck) (at9 := at9) (rfn := rfn) (rk := rk) (rw := rw) (rh := rh) (cl := u_cl_1) (sa := sa) (fi := fi) (bo := u_bo_2) (ch := ch) (cn := cn) (ad := u_ad_3) (ru := u_ru_4) (kp := kp) (dn := dn) (rfa := rfa) (c_kd := c_kd) (f_kd := f_kd) (c_wd := c_wd) (f_wd := f_wd) (by omega)) (cwV 1 hts gX9_ofRun_X9_stepOf rfl rfl rfl (by decide +kernel) ⟨Nat.le_of_ble_eq_true rfl, Nat.le_of_ble_eq_true rfl⟩) (kPreV hP (kD0 hD) hK hN [0, 8, 9] [7, 8] ax_X9_ofRun_b_5 rfl (by decide +kernel) 0 9 rfl rfl) rfl rfl hl.1 rfl (lv_room (Nat.le_of_ble_eq_true rfl)) dX9_ofRun_79 ⟨Nat.le_of_ble_eq_true rfl, Nat.le_of_ble_eq_true rfl⟩) (fun z_38 rz_38 h_39 => ?_)
          refine kz_iadd hx hb dX9_ofRun_82 ?_
          refine kz_any (fun z_40 rz_40 ez_40 => ?_)
          refine lv_istore (lv' := [(5, .int (zI z_40)), (4, .int (zI (jn + 1))), (6, .int (zI jk)), (3, .int (zI jf)), (0, .ref h0), (1, .int (zI k)), (2, .int (zI w))]) hx hb dX9_ofRun_83 hl (by decide) rfl (fun ls hl => ?_)
          refine lv_iinc (v := (zI (jk + 1))) (lv' := [(6, .int (zI (jk + 1))), (5, .int (zI z_40)), (4, .int (zI (jn + 1))), (3, .int (zI jf)), (0, .ref h0), (1, .int (zI k)), (2, .int (zI w))]) hx hb dX9_ofRun_85 hl (k := 2) rfl (kz_inc _ 1) (by decide) rfl (fun ls hl => ?_)
          refine lv_goto (tgt := 47) hx hb dX9_ofRun_88 (by decide) ?_
          exact ih47 _ (by omega) _ _ _ ⟨(jn + 1), z_40, (jk + 1), rfl, (by omega), (by omega), (by omega), (kEqr_s v_473 (by omega) h_30.1 (by omega)), (kSs_s v_474 (by omega) ez_37 rz_37 h_39 ez_40), hP, hD, hS, lv_sub hl [0, 1, 2, 3, 4, 5, 6] rfl⟩
    · refine lv_iinc (v := (zI (jf + 1))) (lv' := [(3, .int (zI (jf + 1))), (0, .ref h0), (1, .int (zI k)), (2, .int (zI w))]) hx hb dX9_ofRun_32 hl (k := 0) rfl (kz_inc _ 1) (by decide) rfl (fun ls hl => ?_)
      refine lv_goto (tgt := 23) hx hb dX9_ofRun_35 (by decide) ?_
      exact ih23 _ (by omega) _ _ _ ⟨(jf + 1), rfl, (kRn_nx h_21.1 h_15 (by omega) (by omega) (by omega)), (kLr_s v_231 (by omega) h_21.1 (by omega)), hP, hD, hS, lv_sub hl [0, 1, 2, 3] rfl⟩
  · have c_19 : ¬ (0 ≤ k ∧ k ≤ (u_ru_4 - 1)) := b01f c_19
    refine lv_iconst (v := zI (-1)) hx hb dX9_ofRun_19 rfl ?_
    have hP9 := hP.sub (ws' := [(h0, .inr (9, [.int (zI fa), .int (zI tc), .ref so, .ref sl, .ref ce, .int (zI fn), .ref kd, .ref wd, .ref hs, .ref pf, .ref lt, .int (zI mn), .ref wg, .int (zI ta), .long ck, .int (zI at9), .int (zI rfn), .ref rk, .ref rw, .ref rh, .int (zI u_cl_1), .ref sa, .ref fi, .int (zI u_bo_2), .ref ch, .ref cn, .int (zI u_ad_3), .int (zI u_ru_4), .ref kp, .int (zI dn), .ref rfa])), (wg, .inl (c_wg, 24, .inl f_wg)), (sa, .inl (c_sa, 25, .inl u_f_sa_5)), (fi, .inl (c_fi, 24, .inl u_f_fi_6)), (hs, .inl (c_hs, 4, .inl f_hs)), (ch, .inl (c_ch, 96, .inl u_f_ch_7)), (cn, .inl (c_cn, 24, .inl u_f_cn_8)), (pf, .inl (c_pf, 4, .inl f_pf)), (kd, .inl (c_kd, 4, .inl f_kd)), (wd, .inl (c_wd, 4, .inl f_wd))]) [0, 1, 2, 3, 4, 5, 6, 7, 8, 9] rfl
    have hD9 := hD.sub (ws' := [(h0, .inr (9, [.int (zI fa), .int (zI tc), .ref so, .ref sl, .ref ce, .int (zI fn), .ref kd, .ref wd, .ref hs, .ref pf, .ref lt, .int (zI mn), .ref wg, .int (zI ta), .long ck, .int (zI at9), .int (zI rfn), .ref rk, .ref rw, .ref rh, .int (zI u_cl_1), .ref sa, .ref fi, .int (zI u_bo_2), .ref ch, .ref cn, .int (zI u_ad_3), .int (zI u_ru_4), .ref kp, .int (zI dn), .ref rfa])), (wg, .inl (c_wg, 24, .inl f_wg)), (sa, .inl (c_sa, 25, .inl u_f_sa_5)), (fi, .inl (c_fi, 24, .inl u_f_fi_6)), (hs, .inl (c_hs, 4, .inl f_hs)), (ch, .inl (c_ch, 96, .inl u_f_ch_7)), (cn, .inl (c_cn, 24, .inl u_f_cn_8)), (pf, .inl (c_pf, 4, .inl f_pf)), (kd, .inl (c_kd, 4, .inl f_kd)), (wd, .inl (c_wd, 4, .inl f_wd))]) [0, 1, 2, 3, 4, 5, 6, 7, 8, 9] (by decide +kernel) rfl
    exact W.iret (v := (zI (-1))) hx hb hr (fun t ht hW => kQS_of (by omega) ⟨u_cl_1, u_bo_2, u_ad_3, u_ru_4, u_f_sa_5, u_f_fi_6, u_f_ch_7, u_f_cn_8, h_13, (by omega), (by omega), h_11, ⟨_, h_18, Or.inl ⟨by omega, by omega⟩⟩, by rw [ht]; exact hP9, hD9⟩ (hS.F ht)) hS.2.2 dX9_ofRun_20
theorem kinner (c : ClassId) (k : Nat) : Jvm.Free.Multi.innerC c k (defaultValue .int) = vp_cell c (k, .inl (fun _ => 0)) := by
  show ({ cls := c, slots := Array.replicate k (.int 0), vm := .none } : Cell) = arrV c k (fun _ => .int 0)
  rw [arrV_new]
def kR (n : Nat) (r : Nat → Nat) (cy : ClassId) : va_W := (List.range n).map (fun i => (r i, .inl (cy, 4, .inl (fun _ => 0))))
theorem kpl {n : Nat} {r : Nat → Nat} {cy : ClassId} {f : Nat → va_E} : va_pl ([] ++ (List.range n).map r) (vr_up f ((List.range n).map r) (.inl (cy, 4, .inl (fun _ => 0)))) = kR n r cy := by
  unfold va_pl kR
  rw [List.nil_append, List.map_map]
  apply List.map_congr_left
  intro i hi
  show (r i, vr_up f ((List.range n).map r) _ (r i)) = _
  rw [vr_up_in (List.mem_map.mpr ⟨i, hi, rfl⟩)]
theorem kcy {D : va_G} {cl : List vw_C} {tys : List (ClassId × FieldType)} {U : State} {c cy : ClassId} (hK : va_K D cl tys U) (hcy : U.vm.findClass (FieldType.array .int).toString = some cy) (i : Nat) (h : tys[i]? = some (c, .int)) : c = cy := by
  have h1 : U.vm.findClass ("[" ++ FieldType.int.toString) = some c := (hK.2 i _ h).2
  have h2 : (FieldType.array .int).toString = "[" ++ FieldType.int.toString := rfl
  rw [h2, h1] at hcy
  exact Option.some.inj hcy
theorem kcc {D : va_G} {cl : List vw_C} {tys : List (ClassId × FieldType)} {U : State} {c c2 : ClassId} (hK : va_K D cl tys U) (i j : Nat) (h : tys[i]? = some (c, .int)) (h2 : tys[j]? = some (c2, .int)) : c = c2 := by
  have q1 : U.vm.findClass ("[" ++ FieldType.int.toString) = some c := (hK.2 i _ h).2
  have q2 : U.vm.findClass ("[" ++ FieldType.int.toString) = some c2 := (hK.2 j _ h2).2
  rw [q1] at q2
  exact Option.some.inj q2
theorem kP_one {D : va_G} {cl : List vw_C} {a b c : va_W} {H : Heap} (h : va_P D cl (a ++ (b ++ c)) H) : va_P D cl ((a ++ b) ++ c) H := by rw [List.append_assoc]; exact h
theorem kD_one {A : Nat → Prop} {a b c : va_W} (h : va_D A (a ++ (b ++ c))) : va_D A ((a ++ b) ++ c) := by rw [List.append_assoc]; exact h
theorem kP_two {D : va_G} {cl : List vw_C} {a b c d : va_W} {H : Heap} (h : va_P D cl ((a ++ (b ++ c)) ++ d) H) : va_P D cl ((a ++ b) ++ (d ++ c)) H := by
  rw [← List.append_assoc a b c] at h
  have h2 := h.swap
  rw [List.append_assoc (a ++ b) d c] at h2
  exact h2
theorem kD_two {A : Nat → Prop} {a b c d : va_W} (h : va_D A ((a ++ (b ++ c)) ++ d)) : va_D A ((a ++ b) ++ (d ++ c)) := by
  rw [← List.append_assoc a b c] at h
  have h2 := h.swap
  rw [List.append_assoc (a ++ b) d c] at h2
  exact h2
theorem dX5_init_0 : decode cX5_init 0 = .ok (.aload_n 0, 1) := kqo_2a kbl_X5_init (pc := 0) rfl
theorem dX5_init_1 : decode cX5_init 1 = .ok (.invokespecial 3, 3) := kqo_b7 (x1 := 0) (x2 := 3) kbl_X5_init (pc := 1) rfl rfl
theorem dX5_init_4 : decode cX5_init 4 = .ok (.aload_n 0, 1) := kqo_2a kbl_X5_init (pc := 4) rfl
theorem dX5_init_5 : decode cX5_init 5 = .ok (.bipush 60, 2) := kqo_10 (x1 := 60) kbl_X5_init (pc := 5) rfl rfl
theorem dX5_init_7 : decode cX5_init 7 = .ok (.newarray .int, 2) := by decide +kernel
theorem dX5_init_9 : decode cX5_init 9 = .ok (.putfield 9, 3) := kqo_b5 (x1 := 0) (x2 := 9) kbl_X5_init (pc := 9) rfl rfl
theorem dX5_init_12 : decode cX5_init 12 = .ok (.return_, 1) := kqo_b1 kbl_X5_init (pc := 12) rfl
set_option maxHeartbeats 4000000 in
set_option maxRecDepth 100000 in
theorem c_X5_init (l : Launch) (D : va_G) (sz : Nat) (h0 : Nat) : Met l yX5_init wsX5_init ({ frames := 1, cells := 1, slots := 60, locals := 20 }) (kPre [.ref h0] D [(h0, .inr (5, [.null, .int 0, .int 0, .int 0]))] [] sz) (va_Qv (fun (_ : Nat × ClassId) => True) (fun u t => va_P D vwCl [(h0, .inr (5, [.ref u.1, .int 0, .int 0, .int 0])), (u.1, .inl (u.2, 60, .inl (fun _ => 0)))] t.heap ∧ va_D (va_A [(h0, .inr (5, [.null, .int 0, .int 0, .int 0]))] sz) [(h0, .inr (5, [.ref u.1, .int 0, .int 0, .int 0])), (u.1, .inl (u.2, 60, .inl (fun _ => 0)))] ∧ va_K D vwCl [(u.2, .int)] t) (va_A [(h0, .inr (5, [.null, .int 0, .int 0, .int 0]))] sz)) 1 60 (va_A [(h0, .inr (5, [.null, .int 0, .int 0, .int 0]))] sz) := by
  refine Met.ofW (cc := cX5_init) (maxL := 1) (ret := none) (by decide) rfl ?_
  intro p e s m args below meth c s₁ B hml hv
  obtain ⟨rfl, hsz, hP, hK, hD0, hN⟩ := hv
  have hx := B.exec
  have hb := B.bytes
  have hr := B.returns
  have hts := atoms_spec (ws := wsX5_init) B.pre
  have hown : s.vm.findClass RX5 = some m.cls := findClass_of_methodNamed B.named
  have hlocks := B.notSynchronized
  have hin : meth.name = "<init>" := (name_of_methodNamed B.named B.method).1
  subst hsz
  have hD := hD0.self (sz := s.heap.size)
  generalize hAe : va_A [(h0, .inr (5, [.null, .int 0, .int 0, .int 0]))] s.heap.size = A at hD ⊢
  have hA : ∀ q : Nat, s.heap.size ≤ q → A q := fun q h => by rw [← hAe]; exact Or.inr h
  have hS : va_S A s.heap s.heap [] := va_S.rf
  have hP : va_P D vwCl [(h0, .inr (5, [.null, .int 0, .int 0, .int 0]))] s.heap := hP
  have hl := lv_entry ([.ref h0]) (n := 1) (Nat.le_of_ble_eq_true rfl)
  rw [lg_entry_eq]
  generalize (lg_sl ([.ref h0]) ++ List.replicate (1 - (lg_sl ([.ref h0])).length) Slot.unset).toArray = ls at hl ⊢
  have hl : lv_has ls 1 [(0, .ref h0)] := hl
  refine lv_aload_n hx hb dX5_init_0 rfl (lv_at hl 0 rfl) ?_
  refine W.objInit hx hb hown (hts (.methodLink RX5 3 objectInit) (by decide +kernel)) (hts (.instanceMethod objectInit) (by decide +kernel)) (hts (.code objectInit ⟨#[0xb1]⟩ 1 none) (by decide +kernel)) rfl (by rw [hml]; exact hl.1) rfl dX5_init_1 (Nat.le_of_ble_eq_true rfl) (Nat.le_of_ble_eq_true rfl) ?_
  refine W.eq (g2 := F0 m 4 ls []) rfl ?_
  refine lv_aload_n hx hb dX5_init_4 rfl (lv_at hl 0 rfl) ?_
  refine lv_bipush (v := 60) hx hb dX5_init_5 (by decide) ?_
  refine va_newa (atype := .int) (ty := .int) (a0 := (60, .inl (fun _ => 0))) (N' := 60) hx hb (hts (.arrayClass .int) (by decide +kernel)) rfl hK hP hD hS hA (fun _ => rfl) (by decide) (by decide) (Nat.le_of_ble_eq_true rfl) (Nat.le_of_ble_eq_true rfl) (Nat.le_of_ble_eq_true rfl) dX5_init_7 (fun a_1 cA_2 H hK hP hD hS => ?_)
  have hK : va_K D vwCl [(cA_2, .int)] s := hK
  have hP : va_P D vwCl [(h0, .inr (5, [.null, .int 0, .int 0, .int 0])), (a_1, .inl (cA_2, 60, .inl (fun _ => 0)))] H := hP
  have hD : va_D A [(h0, .inr (5, [.null, .int 0, .int 0, .int 0])), (a_1, .inl (cA_2, 60, .inl (fun _ => 0)))] := hD
  refine va_putF (D := D) (ci := 5) (v := .ref a_1) (ty := .array .int) (C := RX5) (T := TX5) (N := 4) hx hb hts (fun _ h9 => List.mem_cons_of_mem _ (List.mem_append_right _ h9)) tyX5 tyX5_ok nmX5 hown hK hP hD hS 0 rfl rfl 0 (by decide) (hts (.fieldLink RX5 9 "FontRuns$Sheet" "cells" "[I") (by decide +kernel)) (fun _ h9 => h9) rfl hin rfl (by decide +kernel) rfl rfl (Nat.le_of_ble_eq_true rfl) dX5_init_9 (fun H locs hP hD hS => ?_)
  have hP : va_P D vwCl [(h0, .inr (5, [.ref a_1, .int 0, .int 0, .int 0])), (a_1, .inl (cA_2, 60, .inl (fun _ => 0)))] H := hP
  have hD : va_D A [(h0, .inr (5, [.ref a_1, .int 0, .int 0, .int 0])), (a_1, .inl (cA_2, 60, .inl (fun _ => 0)))] := hD
  refine W.widen (k := 1) (n := 60) (Nat.le_of_ble_eq_true rfl) (Nat.le_of_ble_eq_true rfl) ?_
  have hP9 := hP.sub (ws' := [(h0, .inr (5, [.ref a_1, .int 0, .int 0, .int 0])), (a_1, .inl (cA_2, 60, .inl (fun _ => 0)))]) [0, 1] rfl
  have hD9 := hD.sub (ws' := [(h0, .inr (5, [.ref a_1, .int 0, .int 0, .int 0])), (a_1, .inl (cA_2, 60, .inl (fun _ => 0)))]) [0, 1] (by decide) rfl
  have hK9 := hK.sub (tys' := [(cA_2, .int)]) [0] rfl
  exact W.vret hx hb hr (fun t ht hW => ⟨⟨(a_1, cA_2), rfl, trivial, by rw [ht]; exact hP9, hD9, va_K.moved hW.alike hK9⟩, hS.F ht⟩) hS.2.2 dX5_init_12
theorem dX0_init_0 : decode cX0_init 0 = .ok (.aload_n 0, 1) := kqo_2a kbl_X0_init (pc := 0) rfl
theorem dX0_init_1 : decode cX0_init 1 = .ok (.invokespecial 3, 3) := kqo_b7 (x1 := 0) (x2 := 3) kbl_X0_init (pc := 1) rfl rfl
theorem dX0_init_4 : decode cX0_init 4 = .ok (.aload_n 0, 1) := kqo_2a kbl_X0_init (pc := 4) rfl
theorem dX0_init_5 : decode cX0_init 5 = .ok (.iconst 4, 1) := kqo_07 kbl_X0_init (pc := 5) rfl
theorem dX0_init_6 : decode cX0_init 6 = .ok (.newarray .int, 2) := by decide +kernel
theorem dX0_init_8 : decode cX0_init 8 = .ok (.putfield 9, 3) := kqo_b5 (x1 := 0) (x2 := 9) kbl_X0_init (pc := 8) rfl rfl
theorem dX0_init_11 : decode cX0_init 11 = .ok (.aload_n 0, 1) := kqo_2a kbl_X0_init (pc := 11) rfl
theorem dX0_init_12 : decode cX0_init 12 = .ok (.iconst 4, 1) := kqo_07 kbl_X0_init (pc := 12) rfl
theorem dX0_init_13 : decode cX0_init 13 = .ok (.newarray .int, 2) := by decide +kernel
theorem dX0_init_15 : decode cX0_init 15 = .ok (.putfield 15, 3) := kqo_b5 (x1 := 0) (x2 := 15) kbl_X0_init (pc := 15) rfl rfl
theorem dX0_init_18 : decode cX0_init 18 = .ok (.aload_n 0, 1) := kqo_2a kbl_X0_init (pc := 18) rfl
theorem dX0_init_19 : decode cX0_init 19 = .ok (.iconst 4, 1) := kqo_07 kbl_X0_init (pc := 19) rfl
theorem dX0_init_20 : decode cX0_init 20 = .ok (.newarray .int, 2) := by decide +kernel
theorem dX0_init_22 : decode cX0_init 22 = .ok (.putfield 18, 3) := kqo_b5 (x1 := 0) (x2 := 18) kbl_X0_init (pc := 22) rfl rfl
theorem dX0_init_25 : decode cX0_init 25 = .ok (.return_, 1) := kqo_b1 kbl_X0_init (pc := 25) rfl
set_option maxHeartbeats 4000000 in
set_option maxRecDepth 100000 in
theorem c_X0_init (l : Launch) (D : va_G) (sz : Nat) (h0 : Nat) : Met l yX0_init wsX0_init ({ frames := 1, cells := 3, slots := 12, locals := 20 }) (kPre [.ref h0] D [(h0, .inr (0, [.null, .null, .null, .int 0]))] [] sz) (va_Qv (fun (_ : Nat × Nat × Nat × ClassId × ClassId × ClassId) => True) (fun u t => va_P D vwCl [(h0, .inr (0, [.ref u.1, .ref u.2.1, .ref u.2.2.1, .int 0])), (u.1, .inl (u.2.2.2.1, 4, .inl (fun _ => 0))), (u.2.1, .inl (u.2.2.2.2.1, 4, .inl (fun _ => 0))), (u.2.2.1, .inl (u.2.2.2.2.2, 4, .inl (fun _ => 0)))] t.heap ∧ va_D (va_A [(h0, .inr (0, [.null, .null, .null, .int 0]))] sz) [(h0, .inr (0, [.ref u.1, .ref u.2.1, .ref u.2.2.1, .int 0])), (u.1, .inl (u.2.2.2.1, 4, .inl (fun _ => 0))), (u.2.1, .inl (u.2.2.2.2.1, 4, .inl (fun _ => 0))), (u.2.2.1, .inl (u.2.2.2.2.2, 4, .inl (fun _ => 0)))] ∧ va_K D vwCl [(u.2.2.2.1, .int), (u.2.2.2.2.1, .int), (u.2.2.2.2.2, .int)] t) (va_A [(h0, .inr (0, [.null, .null, .null, .int 0]))] sz)) 3 12 (va_A [(h0, .inr (0, [.null, .null, .null, .int 0]))] sz) := by
  refine Met.ofW (cc := cX0_init) (maxL := 1) (ret := none) (by decide) rfl ?_
  intro p e s m args below meth c s₁ B hml hv
  obtain ⟨rfl, hsz, hP, hK, hD0, hN⟩ := hv
  have hx := B.exec
  have hb := B.bytes
  have hr := B.returns
  have hts := atoms_spec (ws := wsX0_init) B.pre
  have hown : s.vm.findClass RX0 = some m.cls := findClass_of_methodNamed B.named
  have hlocks := B.notSynchronized
  have hin : meth.name = "<init>" := (name_of_methodNamed B.named B.method).1
  subst hsz
  have hD := hD0.self (sz := s.heap.size)
  generalize hAe : va_A [(h0, .inr (0, [.null, .null, .null, .int 0]))] s.heap.size = A at hD ⊢
  have hA : ∀ q : Nat, s.heap.size ≤ q → A q := fun q h => by rw [← hAe]; exact Or.inr h
  have hS : va_S A s.heap s.heap [] := va_S.rf
  have hP : va_P D vwCl [(h0, .inr (0, [.null, .null, .null, .int 0]))] s.heap := hP
  have hl := lv_entry ([.ref h0]) (n := 1) (Nat.le_of_ble_eq_true rfl)
  rw [lg_entry_eq]
  generalize (lg_sl ([.ref h0]) ++ List.replicate (1 - (lg_sl ([.ref h0])).length) Slot.unset).toArray = ls at hl ⊢
  have hl : lv_has ls 1 [(0, .ref h0)] := hl
  refine lv_aload_n hx hb dX0_init_0 rfl (lv_at hl 0 rfl) ?_
  refine W.objInit hx hb hown (hts (.methodLink RX0 3 objectInit) (by decide +kernel)) (hts (.instanceMethod objectInit) (by decide +kernel)) (hts (.code objectInit ⟨#[0xb1]⟩ 1 none) (by decide +kernel)) rfl (by rw [hml]; exact hl.1) rfl dX0_init_1 (Nat.le_of_ble_eq_true rfl) (Nat.le_of_ble_eq_true rfl) ?_
  refine W.eq (g2 := F0 m 4 ls []) rfl ?_
  refine lv_aload_n hx hb dX0_init_4 rfl (lv_at hl 0 rfl) ?_
  refine lv_iconst (v := 4) hx hb dX0_init_5 (by decide) ?_
  refine va_newa (atype := .int) (ty := .int) (a0 := (4, .inl (fun _ => 0))) (N' := 4) hx hb (hts (.arrayClass .int) (by decide +kernel)) rfl hK hP hD hS hA (fun _ => rfl) (by decide) (by decide) (Nat.le_of_ble_eq_true rfl) (Nat.le_of_ble_eq_true rfl) (Nat.le_of_ble_eq_true rfl) dX0_init_6 (fun a_1 cA_2 H hK hP hD hS => ?_)
  have hK : va_K D vwCl [(cA_2, .int)] s := hK
  have hP : va_P D vwCl [(h0, .inr (0, [.null, .null, .null, .int 0])), (a_1, .inl (cA_2, 4, .inl (fun _ => 0)))] H := hP
  have hD : va_D A [(h0, .inr (0, [.null, .null, .null, .int 0])), (a_1, .inl (cA_2, 4, .inl (fun _ => 0)))] := hD
  refine va_putF (D := D) (ci := 0) (v := .ref a_1) (ty := .array .int) (C := RX0) (T := TX0) (N := 4) hx hb hts (fun _ h9 => List.mem_cons_of_mem _ (List.mem_append_right _ h9)) tyX0 tyX0_ok nmX0 hown hK hP hD hS 0 rfl rfl 0 (by decide) (hts (.fieldLink RX0 9 "FontRuns$FontRow" "kind" "[I") (by decide +kernel)) (fun _ h9 => h9) rfl hin rfl (by decide +kernel) rfl rfl (Nat.le_of_ble_eq_true rfl) dX0_init_8 (fun H locs hP hD hS => ?_)
  have hP : va_P D vwCl [(h0, .inr (0, [.ref a_1, .null, .null, .int 0])), (a_1, .inl (cA_2, 4, .inl (fun _ => 0)))] H := hP
  have hD : va_D A [(h0, .inr (0, [.ref a_1, .null, .null, .int 0])), (a_1, .inl (cA_2, 4, .inl (fun _ => 0)))] := hD
  refine lv_aload_n hx hb dX0_init_11 rfl (lv_at hl 0 rfl) ?_
  refine lv_iconst (v := 4) hx hb dX0_init_12 (by decide) ?_
  refine va_newa (atype := .int) (ty := .int) (a0 := (4, .inl (fun _ => 0))) (N' := 4) hx hb (hts (.arrayClass .int) (by decide +kernel)) rfl hK hP hD hS hA (fun _ => rfl) (by decide) (by decide) (Nat.le_of_ble_eq_true rfl) (Nat.le_of_ble_eq_true rfl) (Nat.le_of_ble_eq_true rfl) dX0_init_13 (fun a_3 cA_4 H hK hP hD hS => ?_)
  have hK : va_K D vwCl [(cA_2, .int), (cA_4, .int)] s := hK
  have hP : va_P D vwCl [(h0, .inr (0, [.ref a_1, .null, .null, .int 0])), (a_1, .inl (cA_2, 4, .inl (fun _ => 0))), (a_3, .inl (cA_4, 4, .inl (fun _ => 0)))] H := hP
  have hD : va_D A [(h0, .inr (0, [.ref a_1, .null, .null, .int 0])), (a_1, .inl (cA_2, 4, .inl (fun _ => 0))), (a_3, .inl (cA_4, 4, .inl (fun _ => 0)))] := hD
  refine va_putF (D := D) (ci := 0) (v := .ref a_3) (ty := .array .int) (C := RX0) (T := TX0) (N := 4) hx hb hts (fun _ h9 => List.mem_cons_of_mem _ (List.mem_append_right _ h9)) tyX0 tyX0_ok nmX0 hown hK hP hD hS 0 rfl rfl 1 (by decide) (hts (.fieldLink RX0 15 "FontRuns$FontRow" "breadth" "[I") (by decide +kernel)) (fun _ h9 => h9) rfl hin rfl (by decide +kernel) rfl rfl (Nat.le_of_ble_eq_true rfl) dX0_init_15 (fun H locs hP hD hS => ?_)
  have hP : va_P D vwCl [(h0, .inr (0, [.ref a_1, .ref a_3, .null, .int 0])), (a_1, .inl (cA_2, 4, .inl (fun _ => 0))), (a_3, .inl (cA_4, 4, .inl (fun _ => 0)))] H := hP
  have hD : va_D A [(h0, .inr (0, [.ref a_1, .ref a_3, .null, .int 0])), (a_1, .inl (cA_2, 4, .inl (fun _ => 0))), (a_3, .inl (cA_4, 4, .inl (fun _ => 0)))] := hD
  refine lv_aload_n hx hb dX0_init_18 rfl (lv_at hl 0 rfl) ?_
  refine lv_iconst (v := 4) hx hb dX0_init_19 (by decide) ?_
  refine va_newa (atype := .int) (ty := .int) (a0 := (4, .inl (fun _ => 0))) (N' := 4) hx hb (hts (.arrayClass .int) (by decide +kernel)) rfl hK hP hD hS hA (fun _ => rfl) (by decide) (by decide) (Nat.le_of_ble_eq_true rfl) (Nat.le_of_ble_eq_true rfl) (Nat.le_of_ble_eq_true rfl) dX0_init_20 (fun a_5 cA_6 H hK hP hD hS => ?_)
  have hK : va_K D vwCl [(cA_2, .int), (cA_4, .int), (cA_6, .int)] s := hK
  have hP : va_P D vwCl [(h0, .inr (0, [.ref a_1, .ref a_3, .null, .int 0])), (a_1, .inl (cA_2, 4, .inl (fun _ => 0))), (a_3, .inl (cA_4, 4, .inl (fun _ => 0))), (a_5, .inl (cA_6, 4, .inl (fun _ => 0)))] H := hP
  have hD : va_D A [(h0, .inr (0, [.ref a_1, .ref a_3, .null, .int 0])), (a_1, .inl (cA_2, 4, .inl (fun _ => 0))), (a_3, .inl (cA_4, 4, .inl (fun _ => 0))), (a_5, .inl (cA_6, 4, .inl (fun _ => 0)))] := hD
  refine va_putF (D := D) (ci := 0) (v := .ref a_5) (ty := .array .int) (C := RX0) (T := TX0) (N := 4) hx hb hts (fun _ h9 => List.mem_cons_of_mem _ (List.mem_append_right _ h9)) tyX0 tyX0_ok nmX0 hown hK hP hD hS 0 rfl rfl 2 (by decide) (hts (.fieldLink RX0 18 "FontRuns$FontRow" "has" "[I") (by decide +kernel)) (fun _ h9 => h9) rfl hin rfl (by decide +kernel) rfl rfl (Nat.le_of_ble_eq_true rfl) dX0_init_22 (fun H locs hP hD hS => ?_)
  have hP : va_P D vwCl [(h0, .inr (0, [.ref a_1, .ref a_3, .ref a_5, .int 0])), (a_1, .inl (cA_2, 4, .inl (fun _ => 0))), (a_3, .inl (cA_4, 4, .inl (fun _ => 0))), (a_5, .inl (cA_6, 4, .inl (fun _ => 0)))] H := hP
  have hD : va_D A [(h0, .inr (0, [.ref a_1, .ref a_3, .ref a_5, .int 0])), (a_1, .inl (cA_2, 4, .inl (fun _ => 0))), (a_3, .inl (cA_4, 4, .inl (fun _ => 0))), (a_5, .inl (cA_6, 4, .inl (fun _ => 0)))] := hD
  refine W.widen (k := 3) (n := 12) (Nat.le_of_ble_eq_true rfl) (Nat.le_of_ble_eq_true rfl) ?_
  have hP9 := hP.sub (ws' := [(h0, .inr (0, [.ref a_1, .ref a_3, .ref a_5, .int 0])), (a_1, .inl (cA_2, 4, .inl (fun _ => 0))), (a_3, .inl (cA_4, 4, .inl (fun _ => 0))), (a_5, .inl (cA_6, 4, .inl (fun _ => 0)))]) [0, 1, 2, 3] rfl
  have hD9 := hD.sub (ws' := [(h0, .inr (0, [.ref a_1, .ref a_3, .ref a_5, .int 0])), (a_1, .inl (cA_2, 4, .inl (fun _ => 0))), (a_3, .inl (cA_4, 4, .inl (fun _ => 0))), (a_5, .inl (cA_6, 4, .inl (fun _ => 0)))]) [0, 1, 2, 3] (by decide) rfl
  have hK9 := hK.sub (tys' := [(cA_2, .int), (cA_4, .int), (cA_6, .int)]) [0, 1, 2] rfl
  exact W.vret hx hb hr (fun t ht hW => ⟨⟨(a_1, a_3, a_5, cA_2, cA_4, cA_6), rfl, trivial, by rw [ht]; exact hP9, hD9, va_K.moved hW.alike hK9⟩, hS.F ht⟩) hS.2.2 dX0_init_25
theorem dX7_init_0 : decode cX7_init 0 = .ok (.aload_n 0, 1) := kqo_2a kbl_X7_init (pc := 0) rfl
theorem dX7_init_1 : decode cX7_init 1 = .ok (.invokespecial 3, 3) := kqo_b7 (x1 := 0) (x2 := 3) kbl_X7_init (pc := 1) rfl rfl
theorem dX7_init_4 : decode cX7_init 4 = .ok (.aload_n 0, 1) := kqo_2a kbl_X7_init (pc := 4) rfl
theorem dX7_init_5 : decode cX7_init 5 = .ok (.bipush 24, 2) := kqo_10 (x1 := 24) kbl_X7_init (pc := 5) rfl rfl
theorem dX7_init_7 : decode cX7_init 7 = .ok (.newarray .int, 2) := by decide +kernel
theorem dX7_init_9 : decode cX7_init 9 = .ok (.putfield 9, 3) := kqo_b5 (x1 := 0) (x2 := 9) kbl_X7_init (pc := 9) rfl rfl
theorem dX7_init_12 : decode cX7_init 12 = .ok (.return_, 1) := kqo_b1 kbl_X7_init (pc := 12) rfl
set_option maxHeartbeats 4000000 in
set_option maxRecDepth 100000 in
theorem c_X7_init (l : Launch) (D : va_G) (sz : Nat) (h0 : Nat) : Met l yX7_init wsX7_init ({ frames := 1, cells := 1, slots := 24, locals := 20 }) (kPre [.ref h0] D [(h0, .inr (7, [.null, .int 0]))] [] sz) (va_Qv (fun (_ : Nat × ClassId) => True) (fun u t => va_P D vwCl [(h0, .inr (7, [.ref u.1, .int 0])), (u.1, .inl (u.2, 24, .inl (fun _ => 0)))] t.heap ∧ va_D (va_A [(h0, .inr (7, [.null, .int 0]))] sz) [(h0, .inr (7, [.ref u.1, .int 0])), (u.1, .inl (u.2, 24, .inl (fun _ => 0)))] ∧ va_K D vwCl [(u.2, .int)] t) (va_A [(h0, .inr (7, [.null, .int 0]))] sz)) 1 24 (va_A [(h0, .inr (7, [.null, .int 0]))] sz) := by
  refine Met.ofW (cc := cX7_init) (maxL := 1) (ret := none) (by decide) rfl ?_
  intro p e s m args below meth c s₁ B hml hv
  obtain ⟨rfl, hsz, hP, hK, hD0, hN⟩ := hv
  have hx := B.exec
  have hb := B.bytes
  have hr := B.returns
  have hts := atoms_spec (ws := wsX7_init) B.pre
  have hown : s.vm.findClass RX7 = some m.cls := findClass_of_methodNamed B.named
  have hlocks := B.notSynchronized
  have hin : meth.name = "<init>" := (name_of_methodNamed B.named B.method).1
  subst hsz
  have hD := hD0.self (sz := s.heap.size)
  generalize hAe : va_A [(h0, .inr (7, [.null, .int 0]))] s.heap.size = A at hD ⊢
  have hA : ∀ q : Nat, s.heap.size ≤ q → A q := fun q h => by rw [← hAe]; exact Or.inr h
  have hS : va_S A s.heap s.heap [] := va_S.rf
  have hP : va_P D vwCl [(h0, .inr (7, [.null, .int 0]))] s.heap := hP
  have hl := lv_entry ([.ref h0]) (n := 1) (Nat.le_of_ble_eq_true rfl)
  rw [lg_entry_eq]
  generalize (lg_sl ([.ref h0]) ++ List.replicate (1 - (lg_sl ([.ref h0])).length) Slot.unset).toArray = ls at hl ⊢
  have hl : lv_has ls 1 [(0, .ref h0)] := hl
  refine lv_aload_n hx hb dX7_init_0 rfl (lv_at hl 0 rfl) ?_
  refine W.objInit hx hb hown (hts (.methodLink RX7 3 objectInit) (by decide +kernel)) (hts (.instanceMethod objectInit) (by decide +kernel)) (hts (.code objectInit ⟨#[0xb1]⟩ 1 none) (by decide +kernel)) rfl (by rw [hml]; exact hl.1) rfl dX7_init_1 (Nat.le_of_ble_eq_true rfl) (Nat.le_of_ble_eq_true rfl) ?_
  refine W.eq (g2 := F0 m 4 ls []) rfl ?_
  refine lv_aload_n hx hb dX7_init_4 rfl (lv_at hl 0 rfl) ?_
  refine lv_bipush (v := 24) hx hb dX7_init_5 (by decide) ?_
  refine va_newa (atype := .int) (ty := .int) (a0 := (24, .inl (fun _ => 0))) (N' := 24) hx hb (hts (.arrayClass .int) (by decide +kernel)) rfl hK hP hD hS hA (fun _ => rfl) (by decide) (by decide) (Nat.le_of_ble_eq_true rfl) (Nat.le_of_ble_eq_true rfl) (Nat.le_of_ble_eq_true rfl) dX7_init_7 (fun a_1 cA_2 H hK hP hD hS => ?_)
  have hK : va_K D vwCl [(cA_2, .int)] s := hK
  have hP : va_P D vwCl [(h0, .inr (7, [.null, .int 0])), (a_1, .inl (cA_2, 24, .inl (fun _ => 0)))] H := hP
  have hD : va_D A [(h0, .inr (7, [.null, .int 0])), (a_1, .inl (cA_2, 24, .inl (fun _ => 0)))] := hD
  refine va_putF (D := D) (ci := 7) (v := .ref a_1) (ty := .array .int) (C := RX7) (T := TX7) (N := 2) hx hb hts (fun _ h9 => List.mem_cons_of_mem _ (List.mem_append_right _ h9)) tyX7 tyX7_ok nmX7 hown hK hP hD hS 0 rfl rfl 0 (by decide) (hts (.fieldLink RX7 9 "FontRuns$Writing" "row" "[I") (by decide +kernel)) (fun _ h9 => h9) rfl hin rfl (by decide +kernel) rfl rfl (Nat.le_of_ble_eq_true rfl) dX7_init_9 (fun H locs hP hD hS => ?_)
  have hP : va_P D vwCl [(h0, .inr (7, [.ref a_1, .int 0])), (a_1, .inl (cA_2, 24, .inl (fun _ => 0)))] H := hP
  have hD : va_D A [(h0, .inr (7, [.ref a_1, .int 0])), (a_1, .inl (cA_2, 24, .inl (fun _ => 0)))] := hD
  refine W.widen (k := 1) (n := 24) (Nat.le_of_ble_eq_true rfl) (Nat.le_of_ble_eq_true rfl) ?_
  have hP9 := hP.sub (ws' := [(h0, .inr (7, [.ref a_1, .int 0])), (a_1, .inl (cA_2, 24, .inl (fun _ => 0)))]) [0, 1] rfl
  have hD9 := hD.sub (ws' := [(h0, .inr (7, [.ref a_1, .int 0])), (a_1, .inl (cA_2, 24, .inl (fun _ => 0)))]) [0, 1] (by decide) rfl
  have hK9 := hK.sub (tys' := [(cA_2, .int)]) [0] rfl
  exact W.vret hx hb hr (fun t ht hW => ⟨⟨(a_1, cA_2), rfl, trivial, by rw [ht]; exact hP9, hD9, va_K.moved hW.alike hK9⟩, hS.F ht⟩) hS.2.2 dX7_init_12
theorem dX1_init_0 : decode cX1_init 0 = .ok (.aload_n 0, 1) := kqo_2a kbl_X1_init (pc := 0) rfl
theorem dX1_init_1 : decode cX1_init 1 = .ok (.invokespecial 3, 3) := kqo_b7 (x1 := 0) (x2 := 3) kbl_X1_init (pc := 1) rfl rfl
theorem dX1_init_4 : decode cX1_init 4 = .ok (.aload_n 0, 1) := kqo_2a kbl_X1_init (pc := 4) rfl
theorem dX1_init_5 : decode cX1_init 5 = .ok (.iconst 4, 1) := kqo_07 kbl_X1_init (pc := 5) rfl
theorem dX1_init_6 : decode cX1_init 6 = .ok (.newarray .int, 2) := by decide +kernel
theorem dX1_init_8 : decode cX1_init 8 = .ok (.putfield 9, 3) := kqo_b5 (x1 := 0) (x2 := 9) kbl_X1_init (pc := 8) rfl rfl
theorem dX1_init_11 : decode cX1_init 11 = .ok (.return_, 1) := kqo_b1 kbl_X1_init (pc := 11) rfl
set_option maxHeartbeats 4000000 in
set_option maxRecDepth 100000 in
theorem c_X1_init (l : Launch) (D : va_G) (sz : Nat) (h0 : Nat) : Met l yX1_init wsX1_init ({ frames := 1, cells := 1, slots := 4, locals := 20 }) (kPre [.ref h0] D [(h0, .inr (1, [.null, .int 0]))] [] sz) (va_Qv (fun (_ : Nat × ClassId) => True) (fun u t => va_P D vwCl [(h0, .inr (1, [.ref u.1, .int 0])), (u.1, .inl (u.2, 4, .inl (fun _ => 0)))] t.heap ∧ va_D (va_A [(h0, .inr (1, [.null, .int 0]))] sz) [(h0, .inr (1, [.ref u.1, .int 0])), (u.1, .inl (u.2, 4, .inl (fun _ => 0)))] ∧ va_K D vwCl [(u.2, .int)] t) (va_A [(h0, .inr (1, [.null, .int 0]))] sz)) 1 4 (va_A [(h0, .inr (1, [.null, .int 0]))] sz) := by
  refine Met.ofW (cc := cX1_init) (maxL := 1) (ret := none) (by decide) rfl ?_
  intro p e s m args below meth c s₁ B hml hv
  obtain ⟨rfl, hsz, hP, hK, hD0, hN⟩ := hv
  have hx := B.exec
  have hb := B.bytes
  have hr := B.returns
  have hts := atoms_spec (ws := wsX1_init) B.pre
  have hown : s.vm.findClass RX1 = some m.cls := findClass_of_methodNamed B.named
  have hlocks := B.notSynchronized
  have hin : meth.name = "<init>" := (name_of_methodNamed B.named B.method).1
  subst hsz
  have hD := hD0.self (sz := s.heap.size)
  generalize hAe : va_A [(h0, .inr (1, [.null, .int 0]))] s.heap.size = A at hD ⊢
  have hA : ∀ q : Nat, s.heap.size ≤ q → A q := fun q h => by rw [← hAe]; exact Or.inr h
  have hS : va_S A s.heap s.heap [] := va_S.rf
  have hP : va_P D vwCl [(h0, .inr (1, [.null, .int 0]))] s.heap := hP
  have hl := lv_entry ([.ref h0]) (n := 1) (Nat.le_of_ble_eq_true rfl)
  rw [lg_entry_eq]
  generalize (lg_sl ([.ref h0]) ++ List.replicate (1 - (lg_sl ([.ref h0])).length) Slot.unset).toArray = ls at hl ⊢
  have hl : lv_has ls 1 [(0, .ref h0)] := hl
  refine lv_aload_n hx hb dX1_init_0 rfl (lv_at hl 0 rfl) ?_
  refine W.objInit hx hb hown (hts (.methodLink RX1 3 objectInit) (by decide +kernel)) (hts (.instanceMethod objectInit) (by decide +kernel)) (hts (.code objectInit ⟨#[0xb1]⟩ 1 none) (by decide +kernel)) rfl (by rw [hml]; exact hl.1) rfl dX1_init_1 (Nat.le_of_ble_eq_true rfl) (Nat.le_of_ble_eq_true rfl) ?_
  refine W.eq (g2 := F0 m 4 ls []) rfl ?_
  refine lv_aload_n hx hb dX1_init_4 rfl (lv_at hl 0 rfl) ?_
  refine lv_iconst (v := 4) hx hb dX1_init_5 (by decide) ?_
  refine va_newa (atype := .int) (ty := .int) (a0 := (4, .inl (fun _ => 0))) (N' := 4) hx hb (hts (.arrayClass .int) (by decide +kernel)) rfl hK hP hD hS hA (fun _ => rfl) (by decide) (by decide) (Nat.le_of_ble_eq_true rfl) (Nat.le_of_ble_eq_true rfl) (Nat.le_of_ble_eq_true rfl) dX1_init_6 (fun a_1 cA_2 H hK hP hD hS => ?_)
  have hK : va_K D vwCl [(cA_2, .int)] s := hK
  have hP : va_P D vwCl [(h0, .inr (1, [.null, .int 0])), (a_1, .inl (cA_2, 4, .inl (fun _ => 0)))] H := hP
  have hD : va_D A [(h0, .inr (1, [.null, .int 0])), (a_1, .inl (cA_2, 4, .inl (fun _ => 0)))] := hD
  refine va_putF (D := D) (ci := 1) (v := .ref a_1) (ty := .array .int) (C := RX1) (T := TX1) (N := 2) hx hb hts (fun _ h9 => List.mem_cons_of_mem _ (List.mem_append_right _ h9)) tyX1 tyX1_ok nmX1 hown hK hP hD hS 0 rfl rfl 0 (by decide) (hts (.fieldLink RX1 9 "FontRuns$Preference" "row" "[I") (by decide +kernel)) (fun _ h9 => h9) rfl hin rfl (by decide +kernel) rfl rfl (Nat.le_of_ble_eq_true rfl) dX1_init_8 (fun H locs hP hD hS => ?_)
  have hP : va_P D vwCl [(h0, .inr (1, [.ref a_1, .int 0])), (a_1, .inl (cA_2, 4, .inl (fun _ => 0)))] H := hP
  have hD : va_D A [(h0, .inr (1, [.ref a_1, .int 0])), (a_1, .inl (cA_2, 4, .inl (fun _ => 0)))] := hD
  refine W.widen (k := 1) (n := 4) (Nat.le_of_ble_eq_true rfl) (Nat.le_of_ble_eq_true rfl) ?_
  have hP9 := hP.sub (ws' := [(h0, .inr (1, [.ref a_1, .int 0])), (a_1, .inl (cA_2, 4, .inl (fun _ => 0)))]) [0, 1] rfl
  have hD9 := hD.sub (ws' := [(h0, .inr (1, [.ref a_1, .int 0])), (a_1, .inl (cA_2, 4, .inl (fun _ => 0)))]) [0, 1] (by decide) rfl
  have hK9 := hK.sub (tys' := [(cA_2, .int)]) [0] rfl
  exact W.vret hx hb hr (fun t ht hW => ⟨⟨(a_1, cA_2), rfl, trivial, by rw [ht]; exact hP9, hD9, va_K.moved hW.alike hK9⟩, hS.F ht⟩) hS.2.2 dX1_init_11
theorem dX3_init_0 : decode cX3_init 0 = .ok (.aload_n 0, 1) := kqo_2a kbl_X3_init (pc := 0) rfl
theorem dX3_init_1 : decode cX3_init 1 = .ok (.invokespecial 3, 3) := kqo_b7 (x1 := 0) (x2 := 3) kbl_X3_init (pc := 1) rfl rfl
theorem dX3_init_4 : decode cX3_init 4 = .ok (.aload_n 0, 1) := kqo_2a kbl_X3_init (pc := 4) rfl
theorem dX3_init_5 : decode cX3_init 5 = .ok (.iconst 5, 1) := kqo_08 kbl_X3_init (pc := 5) rfl
theorem dX3_init_6 : decode cX3_init 6 = .ok (.newarray .int, 2) := by decide +kernel
theorem dX3_init_8 : decode cX3_init 8 = .ok (.putfield 9, 3) := kqo_b5 (x1 := 0) (x2 := 9) kbl_X3_init (pc := 8) rfl rfl
theorem dX3_init_11 : decode cX3_init 11 = .ok (.return_, 1) := kqo_b1 kbl_X3_init (pc := 11) rfl
set_option maxHeartbeats 4000000 in
set_option maxRecDepth 100000 in
theorem c_X3_init (l : Launch) (D : va_G) (sz : Nat) (h0 : Nat) : Met l yX3_init wsX3_init ({ frames := 1, cells := 1, slots := 5, locals := 20 }) (kPre [.ref h0] D [(h0, .inr (3, [.null, .int 0]))] [] sz) (va_Qv (fun (_ : Nat × ClassId) => True) (fun u t => va_P D vwCl [(h0, .inr (3, [.ref u.1, .int 0])), (u.1, .inl (u.2, 5, .inl (fun _ => 0)))] t.heap ∧ va_D (va_A [(h0, .inr (3, [.null, .int 0]))] sz) [(h0, .inr (3, [.ref u.1, .int 0])), (u.1, .inl (u.2, 5, .inl (fun _ => 0)))] ∧ va_K D vwCl [(u.2, .int)] t) (va_A [(h0, .inr (3, [.null, .int 0]))] sz)) 1 5 (va_A [(h0, .inr (3, [.null, .int 0]))] sz) := by
  refine Met.ofW (cc := cX3_init) (maxL := 1) (ret := none) (by decide) rfl ?_
  intro p e s m args below meth c s₁ B hml hv
  obtain ⟨rfl, hsz, hP, hK, hD0, hN⟩ := hv
  have hx := B.exec
  have hb := B.bytes
  have hr := B.returns
  have hts := atoms_spec (ws := wsX3_init) B.pre
  have hown : s.vm.findClass RX3 = some m.cls := findClass_of_methodNamed B.named
  have hlocks := B.notSynchronized
  have hin : meth.name = "<init>" := (name_of_methodNamed B.named B.method).1
  subst hsz
  have hD := hD0.self (sz := s.heap.size)
  generalize hAe : va_A [(h0, .inr (3, [.null, .int 0]))] s.heap.size = A at hD ⊢
  have hA : ∀ q : Nat, s.heap.size ≤ q → A q := fun q h => by rw [← hAe]; exact Or.inr h
  have hS : va_S A s.heap s.heap [] := va_S.rf
  have hP : va_P D vwCl [(h0, .inr (3, [.null, .int 0]))] s.heap := hP
  have hl := lv_entry ([.ref h0]) (n := 1) (Nat.le_of_ble_eq_true rfl)
  rw [lg_entry_eq]
  generalize (lg_sl ([.ref h0]) ++ List.replicate (1 - (lg_sl ([.ref h0])).length) Slot.unset).toArray = ls at hl ⊢
  have hl : lv_has ls 1 [(0, .ref h0)] := hl
  refine lv_aload_n hx hb dX3_init_0 rfl (lv_at hl 0 rfl) ?_
  refine W.objInit hx hb hown (hts (.methodLink RX3 3 objectInit) (by decide +kernel)) (hts (.instanceMethod objectInit) (by decide +kernel)) (hts (.code objectInit ⟨#[0xb1]⟩ 1 none) (by decide +kernel)) rfl (by rw [hml]; exact hl.1) rfl dX3_init_1 (Nat.le_of_ble_eq_true rfl) (Nat.le_of_ble_eq_true rfl) ?_
  refine W.eq (g2 := F0 m 4 ls []) rfl ?_
  refine lv_aload_n hx hb dX3_init_4 rfl (lv_at hl 0 rfl) ?_
  refine lv_iconst (v := 5) hx hb dX3_init_5 (by decide) ?_
  refine va_newa (atype := .int) (ty := .int) (a0 := (5, .inl (fun _ => 0))) (N' := 5) hx hb (hts (.arrayClass .int) (by decide +kernel)) rfl hK hP hD hS hA (fun _ => rfl) (by decide) (by decide) (Nat.le_of_ble_eq_true rfl) (Nat.le_of_ble_eq_true rfl) (Nat.le_of_ble_eq_true rfl) dX3_init_6 (fun a_1 cA_2 H hK hP hD hS => ?_)
  have hK : va_K D vwCl [(cA_2, .int)] s := hK
  have hP : va_P D vwCl [(h0, .inr (3, [.null, .int 0])), (a_1, .inl (cA_2, 5, .inl (fun _ => 0)))] H := hP
  have hD : va_D A [(h0, .inr (3, [.null, .int 0])), (a_1, .inl (cA_2, 5, .inl (fun _ => 0)))] := hD
  refine va_putF (D := D) (ci := 3) (v := .ref a_1) (ty := .array .int) (C := RX3) (T := TX3) (N := 2) hx hb hts (fun _ h9 => List.mem_cons_of_mem _ (List.mem_append_right _ h9)) tyX3 tyX3_ok nmX3 hown hK hP hD hS 0 rfl rfl 0 (by decide) (hts (.fieldLink RX3 9 "FontRuns$Recent" "row" "[I") (by decide +kernel)) (fun _ h9 => h9) rfl hin rfl (by decide +kernel) rfl rfl (Nat.le_of_ble_eq_true rfl) dX3_init_8 (fun H locs hP hD hS => ?_)
  have hP : va_P D vwCl [(h0, .inr (3, [.ref a_1, .int 0])), (a_1, .inl (cA_2, 5, .inl (fun _ => 0)))] H := hP
  have hD : va_D A [(h0, .inr (3, [.ref a_1, .int 0])), (a_1, .inl (cA_2, 5, .inl (fun _ => 0)))] := hD
  refine W.widen (k := 1) (n := 5) (Nat.le_of_ble_eq_true rfl) (Nat.le_of_ble_eq_true rfl) ?_
  have hP9 := hP.sub (ws' := [(h0, .inr (3, [.ref a_1, .int 0])), (a_1, .inl (cA_2, 5, .inl (fun _ => 0)))]) [0, 1] rfl
  have hD9 := hD.sub (ws' := [(h0, .inr (3, [.ref a_1, .int 0])), (a_1, .inl (cA_2, 5, .inl (fun _ => 0)))]) [0, 1] (by decide) rfl
  have hK9 := hK.sub (tys' := [(cA_2, .int)]) [0] rfl
  exact W.vret hx hb hr (fun t ht hW => ⟨⟨(a_1, cA_2), rfl, trivial, by rw [ht]; exact hP9, hD9, va_K.moved hW.alike hK9⟩, hS.F ht⟩) hS.2.2 dX3_init_11
theorem dX6_init_0 : decode cX6_init 0 = .ok (.aload_n 0, 1) := kqo_2a kbl_X6_init (pc := 0) rfl
theorem dX6_init_1 : decode cX6_init 1 = .ok (.invokespecial 3, 3) := kqo_b7 (x1 := 0) (x2 := 3) kbl_X6_init (pc := 1) rfl rfl
theorem dX6_init_4 : decode cX6_init 4 = .ok (.aload_n 0, 1) := kqo_2a kbl_X6_init (pc := 4) rfl
theorem dX6_init_5 : decode cX6_init 5 = .ok (.new 9, 3) := by decide +kernel
theorem dX6_init_8 : decode cX6_init 8 = .ok (.dup, 1) := kqo_59 kbl_X6_init (pc := 8) rfl
theorem dX6_init_9 : decode cX6_init 9 = .ok (.invokespecial 11, 3) := kqo_b7 (x1 := 0) (x2 := 11) kbl_X6_init (pc := 9) rfl rfl
theorem dX6_init_12 : decode cX6_init 12 = .ok (.putfield 12, 3) := kqo_b5 (x1 := 0) (x2 := 12) kbl_X6_init (pc := 12) rfl rfl
theorem dX6_init_15 : decode cX6_init 15 = .ok (.return_, 1) := kqo_b1 kbl_X6_init (pc := 15) rfl
set_option maxRecDepth 20000 in
theorem ggX6_init_X0_init : GoodIn wsX6_init wsX0_init := goodIn_4 _ (List.forall_mem_cons.mpr ⟨List.mem_cons_of_mem _ (List.mem_append_left _ (List.mem_append_left _ (List.mem_of_getElem? (i := 8) rfl))), List.forall_mem_append.mpr ⟨List.forall_mem_cons.mpr ⟨List.mem_cons_of_mem _ (List.mem_append_left _ (List.mem_append_left _ (List.mem_of_getElem? (i := 9) rfl))), List.forall_mem_cons.mpr ⟨List.mem_cons_of_mem _ (List.mem_append_left _ (List.mem_append_left _ (List.mem_of_getElem? (i := 1) rfl))), List.forall_mem_cons.mpr ⟨List.mem_cons_of_mem _ (List.mem_append_left _ (List.mem_append_left _ (List.mem_of_getElem? (i := 2) rfl))), List.forall_mem_cons.mpr ⟨List.mem_cons_of_mem _ (List.mem_append_left _ (List.mem_append_left _ (List.mem_of_getElem? (i := 10) rfl))), List.forall_mem_cons.mpr ⟨List.mem_cons_of_mem _ (List.mem_append_left _ (List.mem_append_left _ (List.mem_of_getElem? (i := 11) rfl))), List.forall_mem_cons.mpr ⟨List.mem_cons_of_mem _ (List.mem_append_left _ (List.mem_append_left _ (List.mem_of_getElem? (i := 12) rfl))), List.forall_mem_cons.mpr ⟨List.mem_cons_of_mem _ (List.mem_append_left _ (List.mem_append_left _ (List.mem_of_getElem? (i := 13) rfl))), fun _ h9 => absurd h9 List.not_mem_nil⟩⟩⟩⟩⟩⟩⟩, fun w h9 => List.mem_cons_of_mem _ (List.mem_append_left _ (List.mem_append_right _ (h9)))⟩⟩) (by decide +kernel)
set_option maxRecDepth 20000 in
theorem gX6_init_X0_init_n11 : GoodIn wsX6_init (wsX0_init) := ggX6_init_X0_init
set_option maxHeartbeats 4000000 in
set_option maxRecDepth 100000 in
theorem c_X6_init (l : Launch) (D : va_G) (sz : Nat) (h0 : Nat) : Met l yX6_init wsX6_init ({ frames := 2, cells := 4, slots := 16, locals := 40 }) (kPre [.ref h0] D [(h0, .inr (6, [.null, .int 0]))] [] sz) (va_Qv (fun (_ : Nat × Nat × Nat × Nat × ClassId × ClassId × ClassId) => True) (fun u t => va_P D vwCl [(h0, .inr (6, [.ref u.1, .int 0])), (u.1, .inr (0, [.ref u.2.1, .ref u.2.2.1, .ref u.2.2.2.1, .int 0])), (u.2.1, .inl (u.2.2.2.2.1, 4, .inl (fun _ => 0))), (u.2.2.1, .inl (u.2.2.2.2.2.1, 4, .inl (fun _ => 0))), (u.2.2.2.1, .inl (u.2.2.2.2.2.2, 4, .inl (fun _ => 0)))] t.heap ∧ va_D (va_A [(h0, .inr (6, [.null, .int 0]))] sz) [(h0, .inr (6, [.ref u.1, .int 0])), (u.1, .inr (0, [.ref u.2.1, .ref u.2.2.1, .ref u.2.2.2.1, .int 0])), (u.2.1, .inl (u.2.2.2.2.1, 4, .inl (fun _ => 0))), (u.2.2.1, .inl (u.2.2.2.2.2.1, 4, .inl (fun _ => 0))), (u.2.2.2.1, .inl (u.2.2.2.2.2.2, 4, .inl (fun _ => 0)))] ∧ va_K D vwCl [(u.2.2.2.2.1, .int), (u.2.2.2.2.2.1, .int), (u.2.2.2.2.2.2, .int)] t) (va_A [(h0, .inr (6, [.null, .int 0]))] sz)) 4 16 (va_A [(h0, .inr (6, [.null, .int 0]))] sz) := by
  refine Met.ofW (cc := cX6_init) (maxL := 1) (ret := none) (by decide) rfl ?_
  intro p e s m args below meth c s₁ B hml hv
  obtain ⟨rfl, hsz, hP, hK, hD0, hN⟩ := hv
  have hx := B.exec
  have hb := B.bytes
  have hr := B.returns
  have hts := atoms_spec (ws := wsX6_init) B.pre
  have hown : s.vm.findClass RX6 = some m.cls := findClass_of_methodNamed B.named
  have hlocks := B.notSynchronized
  have hin : meth.name = "<init>" := (name_of_methodNamed B.named B.method).1
  subst hsz
  have hD := hD0.self (sz := s.heap.size)
  generalize hAe : va_A [(h0, .inr (6, [.null, .int 0]))] s.heap.size = A at hD ⊢
  have hA : ∀ q : Nat, s.heap.size ≤ q → A q := fun q h => by rw [← hAe]; exact Or.inr h
  have hS : va_S A s.heap s.heap [] := va_S.rf
  have hP : va_P D vwCl [(h0, .inr (6, [.null, .int 0]))] s.heap := hP
  have hl := lv_entry ([.ref h0]) (n := 1) (Nat.le_of_ble_eq_true rfl)
  rw [lg_entry_eq]
  generalize (lg_sl ([.ref h0]) ++ List.replicate (1 - (lg_sl ([.ref h0])).length) Slot.unset).toArray = ls at hl ⊢
  have hl : lv_has ls 1 [(0, .ref h0)] := hl
  refine lv_aload_n hx hb dX6_init_0 rfl (lv_at hl 0 rfl) ?_
  refine W.objInit hx hb hown (hts (.methodLink RX6 3 objectInit) (by decide +kernel)) (hts (.instanceMethod objectInit) (by decide +kernel)) (hts (.code objectInit ⟨#[0xb1]⟩ 1 none) (by decide +kernel)) rfl (by rw [hml]; exact hl.1) rfl dX6_init_1 (Nat.le_of_ble_eq_true rfl) (Nat.le_of_ble_eq_true rfl) ?_
  refine W.eq (g2 := F0 m 4 ls []) rfl ?_
  refine lv_aload_n hx hb dX6_init_4 rfl (lv_at hl 0 rfl) ?_
  refine va_new (ci := 0) (fs := [.null, .null, .null, .int 0]) (C := RX0) (T := TX0) (N := 4) hx hb hts (fun _ h9 => List.mem_cons_of_mem _ (List.mem_append_left _ (List.mem_append_right _ h9))) tyX0 tyX0_ok hown (hts (.classLink RX6 9 RX0) (by decide +kernel)) (hts (.instantiable RX0 4) (by decide +kernel)) (hts (.initialized RX0) (by decide +kernel)) hK hP hD hS hA rfl (by decide +kernel) (Nat.le_of_ble_eq_true rfl) (Nat.le_of_ble_eq_true rfl) dX6_init_5 (fun o_1 H hP hD hS => ?_)
  have hP : va_P D vwCl [(h0, .inr (6, [.null, .int 0])), (o_1, .inr (0, [.null, .null, .null, .int 0]))] H := hP
  have hD : va_D A [(h0, .inr (6, [.null, .int 0])), (o_1, .inr (0, [.null, .null, .null, .int 0]))] := hD
  refine lv_dup hx hb dX6_init_8 rfl ?_
  have hFc := va_free (wc := [(o_1, .inr (0, [.null, .null, .null, .int 0]))]) hD hS hA [1] rfl
  refine va_callv (va_runIN (As := []) (rest := [.ref o_1, .ref h0]) ⟨hx, hb, hml, hown, hts⟩ (c_X0_init l D H.size (h0 := o_1)) (⟨va_cnB 0 hts gX6_init_X0_init_n11 rfl rfl rfl (hN.1 (RX6, 11, yX0_init) (by decide +kernel)) (hts (.initialized RX0) (by decide +kernel)) (by decide +kernel) ⟨Nat.le_of_ble_eq_true rfl, Nat.le_of_ble_eq_true rfl⟩, rfl, (hts (.instanceMethod yX0_init) (by decide +kernel))⟩) (kPreS hP (kD0 hD) hK hN [1] [] rfl rfl (by decide)) rfl rfl hl.1 rfl (lv_room (Nat.le_of_ble_eq_true rfl)) dX6_init_9 ⟨Nat.le_of_ble_eq_true rfl, Nat.le_of_ble_eq_true rfl⟩) hS (fun q _ h => hFc q h) hFc (fun u t H1 locs ht hvm hw hB hz1 hk1 hS => ?_)
  obtain ⟨k1_2, k2_3, k3_4, ck1_5, ck2_6, ck3_7⟩ := u
  obtain ⟨hP1, hD1, hK1⟩ := hB
  rw [ht] at hP1
  obtain ⟨hP, hD⟩ := va_join (wr := [(h0, .inr (6, [.null, .int 0]))]) (w1 := [(o_1, .inr (0, [.ref k1_2, .ref k2_3, .ref k3_4, .int 0])), (k1_2, .inl (ck1_5, 4, .inl (fun _ => 0))), (k2_3, .inl (ck2_6, 4, .inl (fun _ => 0))), (k3_4, .inl (ck3_7, 4, .inl (fun _ => 0)))]) hP hD [1] [0] rfl rfl (by decide) (by decide) hk1 hFc hP1 hD1
  have hK : va_K D vwCl [(ck1_5, .int), (ck2_6, .int), (ck3_7, .int)] s := hK.app (va_K.moved hvm.symm hK1)
  generalize H1 = H at hP hS ⊢
  have hP : va_P D vwCl [(h0, .inr (6, [.null, .int 0])), (o_1, .inr (0, [.ref k1_2, .ref k2_3, .ref k3_4, .int 0])), (k1_2, .inl (ck1_5, 4, .inl (fun _ => 0))), (k2_3, .inl (ck2_6, 4, .inl (fun _ => 0))), (k3_4, .inl (ck3_7, 4, .inl (fun _ => 0)))] H := hP
  have hD : va_D A [(h0, .inr (6, [.null, .int 0])), (o_1, .inr (0, [.ref k1_2, .ref k2_3, .ref k3_4, .int 0])), (k1_2, .inl (ck1_5, 4, .inl (fun _ => 0))), (k2_3, .inl (ck2_6, 4, .inl (fun _ => 0))), (k3_4, .inl (ck3_7, 4, .inl (fun _ => 0)))] := hD
  refine va_putF (D := D) (ci := 6) (v := .ref o_1) (ty := .object "FontRuns$FontRow") (C := RX6) (T := TX6) (N := 2) hx hb hts (fun _ h9 => List.mem_cons_of_mem _ (List.mem_append_right _ h9)) tyX6 tyX6_ok nmX6 hown hK hP hD hS 0 rfl rfl 0 (by decide) (hts (.fieldLink RX6 12 "FontRuns$TextReader" "told" "LFontRuns$FontRow;") (by decide +kernel)) (fun _ h9 => h9) rfl hin rfl (by decide +kernel) rfl rfl (Nat.le_of_ble_eq_true rfl) dX6_init_12 (fun H locs hP hD hS => ?_)
  have hP : va_P D vwCl [(h0, .inr (6, [.ref o_1, .int 0])), (o_1, .inr (0, [.ref k1_2, .ref k2_3, .ref k3_4, .int 0])), (k1_2, .inl (ck1_5, 4, .inl (fun _ => 0))), (k2_3, .inl (ck2_6, 4, .inl (fun _ => 0))), (k3_4, .inl (ck3_7, 4, .inl (fun _ => 0)))] H := hP
  have hD : va_D A [(h0, .inr (6, [.ref o_1, .int 0])), (o_1, .inr (0, [.ref k1_2, .ref k2_3, .ref k3_4, .int 0])), (k1_2, .inl (ck1_5, 4, .inl (fun _ => 0))), (k2_3, .inl (ck2_6, 4, .inl (fun _ => 0))), (k3_4, .inl (ck3_7, 4, .inl (fun _ => 0)))] := hD
  refine W.widen (k := 4) (n := 16) (Nat.le_of_ble_eq_true rfl) (Nat.le_of_ble_eq_true rfl) ?_
  have hP9 := hP.sub (ws' := [(h0, .inr (6, [.ref o_1, .int 0])), (o_1, .inr (0, [.ref k1_2, .ref k2_3, .ref k3_4, .int 0])), (k1_2, .inl (ck1_5, 4, .inl (fun _ => 0))), (k2_3, .inl (ck2_6, 4, .inl (fun _ => 0))), (k3_4, .inl (ck3_7, 4, .inl (fun _ => 0)))]) [0, 1, 2, 3, 4] rfl
  have hD9 := hD.sub (ws' := [(h0, .inr (6, [.ref o_1, .int 0])), (o_1, .inr (0, [.ref k1_2, .ref k2_3, .ref k3_4, .int 0])), (k1_2, .inl (ck1_5, 4, .inl (fun _ => 0))), (k2_3, .inl (ck2_6, 4, .inl (fun _ => 0))), (k3_4, .inl (ck3_7, 4, .inl (fun _ => 0)))]) [0, 1, 2, 3, 4] (by decide) rfl
  have hK9 := hK.sub (tys' := [(ck1_5, .int), (ck2_6, .int), (ck3_7, .int)]) [0, 1, 2] rfl
  exact W.vret hx hb hr (fun t ht hW => ⟨⟨(o_1, k1_2, k2_3, k3_4, ck1_5, ck2_6, ck3_7), rfl, trivial, by rw [ht]; exact hP9, hD9, va_K.moved hW.alike hK9⟩, hS.F ht⟩) hS.2.2 dX6_init_15
theorem dX2_init_0 : decode cX2_init 0 = .ok (.aload_n 0, 1) := kqo_2a kbl_X2_init (pc := 0) rfl
theorem dX2_init_1 : decode cX2_init 1 = .ok (.invokespecial 3, 3) := kqo_b7 (x1 := 0) (x2 := 3) kbl_X2_init (pc := 1) rfl rfl
theorem dX2_init_4 : decode cX2_init 4 = .ok (.aload_n 0, 1) := kqo_2a kbl_X2_init (pc := 4) rfl
theorem dX2_init_5 : decode cX2_init 5 = .ok (.bipush 8, 2) := kqo_10 (x1 := 8) kbl_X2_init (pc := 5) rfl rfl
theorem dX2_init_7 : decode cX2_init 7 = .ok (.newarray .int, 2) := by decide +kernel
theorem dX2_init_9 : decode cX2_init 9 = .ok (.putfield 9, 3) := kqo_b5 (x1 := 0) (x2 := 9) kbl_X2_init (pc := 9) rfl rfl
theorem dX2_init_12 : decode cX2_init 12 = .ok (.aload_n 0, 1) := kqo_2a kbl_X2_init (pc := 12) rfl
theorem dX2_init_13 : decode cX2_init 13 = .ok (.bipush 8, 2) := kqo_10 (x1 := 8) kbl_X2_init (pc := 13) rfl rfl
theorem dX2_init_15 : decode cX2_init 15 = .ok (.iconst 4, 1) := kqo_07 kbl_X2_init (pc := 15) rfl
theorem dX2_init_16 : decode cX2_init 16 = .ok (.multianewarray 15 2, 4) := by decide +kernel
theorem dX2_init_20 : decode cX2_init 20 = .ok (.putfield 17, 3) := kqo_b5 (x1 := 0) (x2 := 17) kbl_X2_init (pc := 20) rfl rfl
theorem dX2_init_23 : decode cX2_init 23 = .ok (.return_, 1) := kqo_b1 kbl_X2_init (pc := 23) rfl
set_option maxHeartbeats 4000000 in
set_option maxRecDepth 100000 in
theorem c_X2_init (l : Launch) (D : va_G) (sz : Nat) (h0 : Nat) : Met l yX2_init wsX2_init ({ frames := 1, cells := 10, slots := 48, locals := 20 }) (kPre [.ref h0] D [(h0, .inr (2, [.int 0, .null, .null]))] [] sz) (va_Qv (fun (_ : Nat × Nat × ClassId × ClassId × (Nat → Nat)) => True) (fun u t => va_P D vwCl (([(h0, .inr (2, [.int 0, .ref u.1, .ref u.2.1])), (u.1, .inl (u.2.2.1, 8, .inl (fun _ => 0))), (u.2.1, .inl (u.2.2.2.1, 8, .inr (.inr (.inr (.inr (fun i => if i < 8 then some (u.2.2.2.2 i) else none))))))] : va_W) ++ kR 8 u.2.2.2.2 u.2.2.1) t.heap ∧ va_D (va_A [(h0, .inr (2, [.int 0, .null, .null]))] sz) (([(h0, .inr (2, [.int 0, .ref u.1, .ref u.2.1])), (u.1, .inl (u.2.2.1, 8, .inl (fun _ => 0))), (u.2.1, .inl (u.2.2.2.1, 8, .inr (.inr (.inr (.inr (fun i => if i < 8 then some (u.2.2.2.2 i) else none))))))] : va_W) ++ kR 8 u.2.2.2.2 u.2.2.1) ∧ va_K D vwCl [(u.2.2.1, .int), (u.2.2.2.1, .array .int)] t) (va_A [(h0, .inr (2, [.int 0, .null, .null]))] sz)) 10 48 (va_A [(h0, .inr (2, [.int 0, .null, .null]))] sz) := by
  refine Met.ofW (cc := cX2_init) (maxL := 1) (ret := none) (by decide) rfl ?_
  intro p e s m args below meth c s₁ B hml hv
  obtain ⟨rfl, hsz, hP, hK, hD0, hN⟩ := hv
  have hx := B.exec
  have hb := B.bytes
  have hr := B.returns
  have hts := atoms_spec (ws := wsX2_init) B.pre
  have hown : s.vm.findClass RX2 = some m.cls := findClass_of_methodNamed B.named
  have hlocks := B.notSynchronized
  have hin : meth.name = "<init>" := (name_of_methodNamed B.named B.method).1
  subst hsz
  have hD := hD0.self (sz := s.heap.size)
  generalize hAe : va_A [(h0, .inr (2, [.int 0, .null, .null]))] s.heap.size = A at hD ⊢
  have hA : ∀ q : Nat, s.heap.size ≤ q → A q := fun q h => by rw [← hAe]; exact Or.inr h
  have hS : va_S A s.heap s.heap [] := va_S.rf
  have hP : va_P D vwCl [(h0, .inr (2, [.int 0, .null, .null]))] s.heap := hP
  have hl := lv_entry ([.ref h0]) (n := 1) (Nat.le_of_ble_eq_true rfl)
  rw [lg_entry_eq]
  generalize (lg_sl ([.ref h0]) ++ List.replicate (1 - (lg_sl ([.ref h0])).length) Slot.unset).toArray = ls at hl ⊢
  have hl : lv_has ls 1 [(0, .ref h0)] := hl
  refine lv_aload_n hx hb dX2_init_0 rfl (lv_at hl 0 rfl) ?_
  refine W.objInit hx hb hown (hts (.methodLink RX2 3 objectInit) (by decide +kernel)) (hts (.instanceMethod objectInit) (by decide +kernel)) (hts (.code objectInit ⟨#[0xb1]⟩ 1 none) (by decide +kernel)) rfl (by rw [hml]; exact hl.1) rfl dX2_init_1 (Nat.le_of_ble_eq_true rfl) (Nat.le_of_ble_eq_true rfl) ?_
  refine W.eq (g2 := F0 m 4 ls []) rfl ?_
  refine lv_aload_n hx hb dX2_init_4 rfl (lv_at hl 0 rfl) ?_
  refine lv_bipush (v := 8) hx hb dX2_init_5 (by decide) ?_
  refine va_newa (atype := .int) (ty := .int) (a0 := (8, .inl (fun _ => 0))) (N' := 8) hx hb (hts (.arrayClass .int) (by decide +kernel)) rfl hK hP hD hS hA (fun _ => rfl) (by decide) (by decide) (Nat.le_of_ble_eq_true rfl) (Nat.le_of_ble_eq_true rfl) (Nat.le_of_ble_eq_true rfl) dX2_init_7 (fun a_1 cA_2 H hK hP hD hS => ?_)
  have hK : va_K D vwCl [(cA_2, .int)] s := hK
  have hP : va_P D vwCl [(h0, .inr (2, [.int 0, .null, .null])), (a_1, .inl (cA_2, 8, .inl (fun _ => 0)))] H := hP
  have hD : va_D A [(h0, .inr (2, [.int 0, .null, .null])), (a_1, .inl (cA_2, 8, .inl (fun _ => 0)))] := hD
  refine va_putF (D := D) (ci := 2) (v := .ref a_1) (ty := .array .int) (C := RX2) (T := TX2) (N := 3) hx hb hts (fun _ h9 => List.mem_cons_of_mem _ (List.mem_append_right _ h9)) tyX2 tyX2_ok nmX2 hown hK hP hD hS 0 rfl rfl 1 (by decide) (hts (.fieldLink RX2 9 "FontRuns$Readings" "value" "[I") (by decide +kernel)) (fun _ h9 => h9) rfl hin rfl (by decide +kernel) rfl rfl (Nat.le_of_ble_eq_true rfl) dX2_init_9 (fun H locs hP hD hS => ?_)
  have hP : va_P D vwCl [(h0, .inr (2, [.int 0, .ref a_1, .null])), (a_1, .inl (cA_2, 8, .inl (fun _ => 0)))] H := hP
  have hD : va_D A [(h0, .inr (2, [.int 0, .ref a_1, .null])), (a_1, .inl (cA_2, 8, .inl (fun _ => 0)))] := hD
  refine lv_aload_n hx hb dX2_init_12 rfl (lv_at hl 0 rfl) ?_
  refine lv_bipush (v := 8) hx hb dX2_init_13 (by decide) ?_
  refine lv_iconst (v := 4) hx hb dX2_init_15 (by decide) ?_
  obtain ⟨cy, hcy⟩ := hN.2.2.2
  have ecy : cA_2 = cy := kcy hK hcy 0 rfl
  subst ecy
  refine va_mna (X := [(h0, .inr (2, [.int 0, .ref a_1, .null])), (a_1, .inl (cA_2, 8, .inl (fun _ => 0)))]) (L := []) (f := fun _ => .inr (0, [])) (ty := .int) (cy := cA_2) (N' := 8) (K' := 4) (z := (4, .inl (fun _ => 0))) hx hb hown (show (Cond.classLink RX2 15 ("[" ++ (FieldType.array .int).toString)).before _ s = true from hts _ (by decide +kernel)) hN.2.2.1 (hts (.arrayClass .int) (by decide +kernel)) hcy hK hP hD hS hA (by decide) (by decide) (by decide) (by decide) (Nat.le_of_ble_eq_true rfl) (Nat.le_of_ble_eq_true rfl) (Nat.le_of_ble_eq_true rfl) rfl rfl (Nat.le_of_ble_eq_true rfl) (Nat.le_of_ble_eq_true rfl) (fun c9 => kinner c9 4) dX2_init_16 (fun a_3 r_5 cA_4 H _ _ hK hP hD hS => ?_)
  rw [kpl] at hP hD
  have hK : va_K D vwCl [(cA_2, .int), (cA_4, .array .int)] s := hK
  have hP : va_P D vwCl (([(h0, .inr (2, [.int 0, .ref a_1, .null])), (a_1, .inl (cA_2, 8, .inl (fun _ => 0))), (a_3, .inl (cA_4, 8, .inr (.inr (.inr (.inr (fun i => if i < 8 then some (r_5 i) else none))))))] : va_W) ++ kR 8 r_5 cA_2) H := hP
  have hD : va_D A (([(h0, .inr (2, [.int 0, .ref a_1, .null])), (a_1, .inl (cA_2, 8, .inl (fun _ => 0))), (a_3, .inl (cA_4, 8, .inr (.inr (.inr (.inr (fun i => if i < 8 then some (r_5 i) else none))))))] : va_W) ++ kR 8 r_5 cA_2) := hD
  refine va_putF (D := D) (ci := 2) (v := .ref a_3) (ty := .array (.array .int)) (C := RX2) (T := TX2) (N := 3) hx hb hts (fun _ h9 => List.mem_cons_of_mem _ (List.mem_append_right _ h9)) tyX2 tyX2_ok nmX2 hown hK hP hD hS 0 rfl rfl 2 (by decide) (hts (.fieldLink RX2 17 "FontRuns$Readings" "clusters" "[[I") (by decide +kernel)) (fun _ h9 => h9) rfl hin rfl (by decide +kernel) rfl rfl (Nat.le_of_ble_eq_true rfl) dX2_init_20 (fun H locs hP hD hS => ?_)
  have hP : va_P D vwCl (([(h0, .inr (2, [.int 0, .ref a_1, .ref a_3])), (a_1, .inl (cA_2, 8, .inl (fun _ => 0))), (a_3, .inl (cA_4, 8, .inr (.inr (.inr (.inr (fun i => if i < 8 then some (r_5 i) else none))))))] : va_W) ++ kR 8 r_5 cA_2) H := hP
  have hD : va_D A (([(h0, .inr (2, [.int 0, .ref a_1, .ref a_3])), (a_1, .inl (cA_2, 8, .inl (fun _ => 0))), (a_3, .inl (cA_4, 8, .inr (.inr (.inr (.inr (fun i => if i < 8 then some (r_5 i) else none))))))] : va_W) ++ kR 8 r_5 cA_2) := hD
  refine W.widen (k := 10) (n := 48) (Nat.le_of_ble_eq_true rfl) (Nat.le_of_ble_eq_true rfl) ?_
  have hP9 : va_P D vwCl (([(h0, .inr (2, [.int 0, .ref a_1, .ref a_3])), (a_1, .inl (cA_2, 8, .inl (fun _ => 0))), (a_3, .inl (cA_4, 8, .inr (.inr (.inr (.inr (fun i => if i < 8 then some (r_5 i) else none))))))] : va_W) ++ kR 8 r_5 cA_2) H := hP.part [0, 1, 2] rfl
  have hD9 : va_D A (([(h0, .inr (2, [.int 0, .ref a_1, .ref a_3])), (a_1, .inl (cA_2, 8, .inl (fun _ => 0))), (a_3, .inl (cA_4, 8, .inr (.inr (.inr (.inr (fun i => if i < 8 then some (r_5 i) else none))))))] : va_W) ++ kR 8 r_5 cA_2) := hD.part [0, 1, 2] (by decide) rfl
  have hK9 := hK.sub (tys' := [(cA_2, .int), (cA_4, .array .int)]) [0, 1] rfl
  exact W.vret hx hb hr (fun t ht hW => ⟨⟨(a_1, a_3, cA_2, cA_4, r_5), rfl, trivial, by rw [ht]; exact hP9, hD9, va_K.moved hW.alike hK9⟩, hS.F ht⟩) hS.2.2 dX2_init_23
theorem dX4_init_0 : decode cX4_init 0 = .ok (.aload_n 0, 1) := kqo_2a kbl_X4_init (pc := 0) rfl
theorem dX4_init_1 : decode cX4_init 1 = .ok (.invokespecial 3, 3) := kqo_b7 (x1 := 0) (x2 := 3) kbl_X4_init (pc := 1) rfl rfl
theorem dX4_init_4 : decode cX4_init 4 = .ok (.aload_n 0, 1) := kqo_2a kbl_X4_init (pc := 4) rfl
theorem dX4_init_5 : decode cX4_init 5 = .ok (.bipush 24, 2) := kqo_10 (x1 := 24) kbl_X4_init (pc := 5) rfl rfl
theorem dX4_init_7 : decode cX4_init 7 = .ok (.newarray .int, 2) := by decide +kernel
theorem dX4_init_9 : decode cX4_init 9 = .ok (.putfield 9, 3) := kqo_b5 (x1 := 0) (x2 := 9) kbl_X4_init (pc := 9) rfl rfl
theorem dX4_init_12 : decode cX4_init 12 = .ok (.aload_n 0, 1) := kqo_2a kbl_X4_init (pc := 12) rfl
theorem dX4_init_13 : decode cX4_init 13 = .ok (.bipush 24, 2) := kqo_10 (x1 := 24) kbl_X4_init (pc := 13) rfl rfl
theorem dX4_init_15 : decode cX4_init 15 = .ok (.newarray .int, 2) := by decide +kernel
theorem dX4_init_17 : decode cX4_init 17 = .ok (.putfield 15, 3) := kqo_b5 (x1 := 0) (x2 := 15) kbl_X4_init (pc := 17) rfl rfl
theorem dX4_init_20 : decode cX4_init 20 = .ok (.aload_n 0, 1) := kqo_2a kbl_X4_init (pc := 20) rfl
theorem dX4_init_21 : decode cX4_init 21 = .ok (.bipush 24, 2) := kqo_10 (x1 := 24) kbl_X4_init (pc := 21) rfl rfl
theorem dX4_init_23 : decode cX4_init 23 = .ok (.newarray .int, 2) := by decide +kernel
theorem dX4_init_25 : decode cX4_init 25 = .ok (.putfield 18, 3) := kqo_b5 (x1 := 0) (x2 := 18) kbl_X4_init (pc := 25) rfl rfl
theorem dX4_init_28 : decode cX4_init 28 = .ok (.aload_n 0, 1) := kqo_2a kbl_X4_init (pc := 28) rfl
theorem dX4_init_29 : decode cX4_init 29 = .ok (.bipush 24, 2) := kqo_10 (x1 := 24) kbl_X4_init (pc := 29) rfl rfl
theorem dX4_init_31 : decode cX4_init 31 = .ok (.newarray .int, 2) := by decide +kernel
theorem dX4_init_33 : decode cX4_init 33 = .ok (.putfield 21, 3) := kqo_b5 (x1 := 0) (x2 := 21) kbl_X4_init (pc := 33) rfl rfl
theorem dX4_init_36 : decode cX4_init 36 = .ok (.aload_n 0, 1) := kqo_2a kbl_X4_init (pc := 36) rfl
theorem dX4_init_37 : decode cX4_init 37 = .ok (.bipush 24, 2) := kqo_10 (x1 := 24) kbl_X4_init (pc := 37) rfl rfl
theorem dX4_init_39 : decode cX4_init 39 = .ok (.newarray .int, 2) := by decide +kernel
theorem dX4_init_41 : decode cX4_init 41 = .ok (.putfield 24, 3) := kqo_b5 (x1 := 0) (x2 := 24) kbl_X4_init (pc := 41) rfl rfl
theorem dX4_init_44 : decode cX4_init 44 = .ok (.aload_n 0, 1) := kqo_2a kbl_X4_init (pc := 44) rfl
theorem dX4_init_45 : decode cX4_init 45 = .ok (.bipush 24, 2) := kqo_10 (x1 := 24) kbl_X4_init (pc := 45) rfl rfl
theorem dX4_init_47 : decode cX4_init 47 = .ok (.newarray .int, 2) := by decide +kernel
theorem dX4_init_49 : decode cX4_init 49 = .ok (.putfield 27, 3) := kqo_b5 (x1 := 0) (x2 := 27) kbl_X4_init (pc := 49) rfl rfl
theorem dX4_init_52 : decode cX4_init 52 = .ok (.aload_n 0, 1) := kqo_2a kbl_X4_init (pc := 52) rfl
theorem dX4_init_53 : decode cX4_init 53 = .ok (.bipush 24, 2) := kqo_10 (x1 := 24) kbl_X4_init (pc := 53) rfl rfl
theorem dX4_init_55 : decode cX4_init 55 = .ok (.iconst 4, 1) := kqo_07 kbl_X4_init (pc := 55) rfl
theorem dX4_init_56 : decode cX4_init 56 = .ok (.multianewarray 30 2, 4) := by decide +kernel
theorem dX4_init_60 : decode cX4_init 60 = .ok (.putfield 32, 3) := kqo_b5 (x1 := 0) (x2 := 32) kbl_X4_init (pc := 60) rfl rfl
theorem dX4_init_63 : decode cX4_init 63 = .ok (.return_, 1) := kqo_b1 kbl_X4_init (pc := 63) rfl
set_option maxHeartbeats 4000000 in
set_option maxRecDepth 100000 in
theorem c_X4_init (l : Launch) (D : va_G) (sz : Nat) (h0 : Nat) : Met l yX4_init wsX4_init ({ frames := 1, cells := 31, slots := 264, locals := 20 }) (kPre [.ref h0] D [(h0, .inr (4, [.null, .null, .null, .null, .null, .int 0, .int 0, .int 0, .null, .null]))] [] sz) (va_Qv (fun (_ : Nat × Nat × Nat × Nat × Nat × Nat × Nat × ClassId × ClassId × ClassId × ClassId × ClassId × ClassId × ClassId × (Nat → Nat)) => True) (fun u t => va_P D vwCl (([(h0, .inr (4, [.ref u.1, .ref u.2.1, .ref u.2.2.1, .ref u.2.2.2.1, .ref u.2.2.2.2.1, .int 0, .int 0, .int 0, .ref u.2.2.2.2.2.1, .ref u.2.2.2.2.2.2.1])), (u.1, .inl (u.2.2.2.2.2.2.2.1, 24, .inl (fun _ => 0))), (u.2.1, .inl (u.2.2.2.2.2.2.2.2.1, 24, .inl (fun _ => 0))), (u.2.2.1, .inl (u.2.2.2.2.2.2.2.2.2.1, 24, .inl (fun _ => 0))), (u.2.2.2.1, .inl (u.2.2.2.2.2.2.2.2.2.2.1, 24, .inl (fun _ => 0))), (u.2.2.2.2.1, .inl (u.2.2.2.2.2.2.2.2.2.2.2.1, 24, .inl (fun _ => 0))), (u.2.2.2.2.2.1, .inl (u.2.2.2.2.2.2.2.2.2.2.2.2.1, 24, .inl (fun _ => 0))), (u.2.2.2.2.2.2.1, .inl (u.2.2.2.2.2.2.2.2.2.2.2.2.2.1, 24, .inr (.inr (.inr (.inr (fun i => if i < 24 then some (u.2.2.2.2.2.2.2.2.2.2.2.2.2.2 i) else none))))))] : va_W) ++ kR 24 u.2.2.2.2.2.2.2.2.2.2.2.2.2.2 u.2.2.2.2.2.2.2.1) t.heap ∧ va_D (va_A [(h0, .inr (4, [.null, .null, .null, .null, .null, .int 0, .int 0, .int 0, .null, .null]))] sz) (([(h0, .inr (4, [.ref u.1, .ref u.2.1, .ref u.2.2.1, .ref u.2.2.2.1, .ref u.2.2.2.2.1, .int 0, .int 0, .int 0, .ref u.2.2.2.2.2.1, .ref u.2.2.2.2.2.2.1])), (u.1, .inl (u.2.2.2.2.2.2.2.1, 24, .inl (fun _ => 0))), (u.2.1, .inl (u.2.2.2.2.2.2.2.2.1, 24, .inl (fun _ => 0))), (u.2.2.1, .inl (u.2.2.2.2.2.2.2.2.2.1, 24, .inl (fun _ => 0))), (u.2.2.2.1, .inl (u.2.2.2.2.2.2.2.2.2.2.1, 24, .inl (fun _ => 0))), (u.2.2.2.2.1, .inl (u.2.2.2.2.2.2.2.2.2.2.2.1, 24, .inl (fun _ => 0))), (u.2.2.2.2.2.1, .inl (u.2.2.2.2.2.2.2.2.2.2.2.2.1, 24, .inl (fun _ => 0))), (u.2.2.2.2.2.2.1, .inl (u.2.2.2.2.2.2.2.2.2.2.2.2.2.1, 24, .inr (.inr (.inr (.inr (fun i => if i < 24 then some (u.2.2.2.2.2.2.2.2.2.2.2.2.2.2 i) else none))))))] : va_W) ++ kR 24 u.2.2.2.2.2.2.2.2.2.2.2.2.2.2 u.2.2.2.2.2.2.2.1) ∧ va_K D vwCl [(u.2.2.2.2.2.2.2.1, .int), (u.2.2.2.2.2.2.2.2.1, .int), (u.2.2.2.2.2.2.2.2.2.1, .int), (u.2.2.2.2.2.2.2.2.2.2.1, .int), (u.2.2.2.2.2.2.2.2.2.2.2.1, .int), (u.2.2.2.2.2.2.2.2.2.2.2.2.1, .int), (u.2.2.2.2.2.2.2.2.2.2.2.2.2.1, .array .int)] t) (va_A [(h0, .inr (4, [.null, .null, .null, .null, .null, .int 0, .int 0, .int 0, .null, .null]))] sz)) 31 264 (va_A [(h0, .inr (4, [.null, .null, .null, .null, .null, .int 0, .int 0, .int 0, .null, .null]))] sz) := by
  refine Met.ofW (cc := cX4_init) (maxL := 1) (ret := none) (by decide) rfl ?_
  intro p e s m args below meth c s₁ B hml hv
  obtain ⟨rfl, hsz, hP, hK, hD0, hN⟩ := hv
  have hx := B.exec
  have hb := B.bytes
  have hr := B.returns
  have hts := atoms_spec (ws := wsX4_init) B.pre
  have hown : s.vm.findClass RX4 = some m.cls := findClass_of_methodNamed B.named
  have hlocks := B.notSynchronized
  have hin : meth.name = "<init>" := (name_of_methodNamed B.named B.method).1
  subst hsz
  have hD := hD0.self (sz := s.heap.size)
  generalize hAe : va_A [(h0, .inr (4, [.null, .null, .null, .null, .null, .int 0, .int 0, .int 0, .null, .null]))] s.heap.size = A at hD ⊢
  have hA : ∀ q : Nat, s.heap.size ≤ q → A q := fun q h => by rw [← hAe]; exact Or.inr h
  have hS : va_S A s.heap s.heap [] := va_S.rf
  have hP : va_P D vwCl [(h0, .inr (4, [.null, .null, .null, .null, .null, .int 0, .int 0, .int 0, .null, .null]))] s.heap := hP
  have hl := lv_entry ([.ref h0]) (n := 1) (Nat.le_of_ble_eq_true rfl)
  rw [lg_entry_eq]
  generalize (lg_sl ([.ref h0]) ++ List.replicate (1 - (lg_sl ([.ref h0])).length) Slot.unset).toArray = ls at hl ⊢
  have hl : lv_has ls 1 [(0, .ref h0)] := hl
  refine lv_aload_n hx hb dX4_init_0 rfl (lv_at hl 0 rfl) ?_
  refine W.objInit hx hb hown (hts (.methodLink RX4 3 objectInit) (by decide +kernel)) (hts (.instanceMethod objectInit) (by decide +kernel)) (hts (.code objectInit ⟨#[0xb1]⟩ 1 none) (by decide +kernel)) rfl (by rw [hml]; exact hl.1) rfl dX4_init_1 (Nat.le_of_ble_eq_true rfl) (Nat.le_of_ble_eq_true rfl) ?_
  refine W.eq (g2 := F0 m 4 ls []) rfl ?_
  refine lv_aload_n hx hb dX4_init_4 rfl (lv_at hl 0 rfl) ?_
  refine lv_bipush (v := 24) hx hb dX4_init_5 (by decide) ?_
  refine va_newa (atype := .int) (ty := .int) (a0 := (24, .inl (fun _ => 0))) (N' := 24) hx hb (hts (.arrayClass .int) (by decide +kernel)) rfl hK hP hD hS hA (fun _ => rfl) (by decide) (by decide) (Nat.le_of_ble_eq_true rfl) (Nat.le_of_ble_eq_true rfl) (Nat.le_of_ble_eq_true rfl) dX4_init_7 (fun a_1 cA_2 H hK hP hD hS => ?_)
  have hK : va_K D vwCl [(cA_2, .int)] s := hK
  have hP : va_P D vwCl [(h0, .inr (4, [.null, .null, .null, .null, .null, .int 0, .int 0, .int 0, .null, .null])), (a_1, .inl (cA_2, 24, .inl (fun _ => 0)))] H := hP
  have hD : va_D A [(h0, .inr (4, [.null, .null, .null, .null, .null, .int 0, .int 0, .int 0, .null, .null])), (a_1, .inl (cA_2, 24, .inl (fun _ => 0)))] := hD
  refine va_putF (D := D) (ci := 4) (v := .ref a_1) (ty := .array .int) (C := RX4) (T := TX4) (N := 10) hx hb hts (fun _ h9 => List.mem_cons_of_mem _ (List.mem_append_right _ h9)) tyX4 tyX4_ok nmX4 hown hK hP hD hS 0 rfl rfl 0 (by decide) (hts (.fieldLink RX4 9 "FontRuns$Setting" "first" "[I") (by decide +kernel)) (fun _ h9 => h9) rfl hin rfl (by decide +kernel) rfl rfl (Nat.le_of_ble_eq_true rfl) dX4_init_9 (fun H locs hP hD hS => ?_)
  have hP : va_P D vwCl [(h0, .inr (4, [.ref a_1, .null, .null, .null, .null, .int 0, .int 0, .int 0, .null, .null])), (a_1, .inl (cA_2, 24, .inl (fun _ => 0)))] H := hP
  have hD : va_D A [(h0, .inr (4, [.ref a_1, .null, .null, .null, .null, .int 0, .int 0, .int 0, .null, .null])), (a_1, .inl (cA_2, 24, .inl (fun _ => 0)))] := hD
  refine lv_aload_n hx hb dX4_init_12 rfl (lv_at hl 0 rfl) ?_
  refine lv_bipush (v := 24) hx hb dX4_init_13 (by decide) ?_
  refine va_newa (atype := .int) (ty := .int) (a0 := (24, .inl (fun _ => 0))) (N' := 24) hx hb (hts (.arrayClass .int) (by decide +kernel)) rfl hK hP hD hS hA (fun _ => rfl) (by decide) (by decide) (Nat.le_of_ble_eq_true rfl) (Nat.le_of_ble_eq_true rfl) (Nat.le_of_ble_eq_true rfl) dX4_init_15 (fun a_3 cA_4 H hK hP hD hS => ?_)
  have hK : va_K D vwCl [(cA_2, .int), (cA_4, .int)] s := hK
  have hP : va_P D vwCl [(h0, .inr (4, [.ref a_1, .null, .null, .null, .null, .int 0, .int 0, .int 0, .null, .null])), (a_1, .inl (cA_2, 24, .inl (fun _ => 0))), (a_3, .inl (cA_4, 24, .inl (fun _ => 0)))] H := hP
  have hD : va_D A [(h0, .inr (4, [.ref a_1, .null, .null, .null, .null, .int 0, .int 0, .int 0, .null, .null])), (a_1, .inl (cA_2, 24, .inl (fun _ => 0))), (a_3, .inl (cA_4, 24, .inl (fun _ => 0)))] := hD
  refine va_putF (D := D) (ci := 4) (v := .ref a_3) (ty := .array .int) (C := RX4) (T := TX4) (N := 10) hx hb hts (fun _ h9 => List.mem_cons_of_mem _ (List.mem_append_right _ h9)) tyX4 tyX4_ok nmX4 hown hK hP hD hS 0 rfl rfl 1 (by decide) (hts (.fieldLink RX4 15 "FontRuns$Setting" "length" "[I") (by decide +kernel)) (fun _ h9 => h9) rfl hin rfl (by decide +kernel) rfl rfl (Nat.le_of_ble_eq_true rfl) dX4_init_17 (fun H locs hP hD hS => ?_)
  have hP : va_P D vwCl [(h0, .inr (4, [.ref a_1, .ref a_3, .null, .null, .null, .int 0, .int 0, .int 0, .null, .null])), (a_1, .inl (cA_2, 24, .inl (fun _ => 0))), (a_3, .inl (cA_4, 24, .inl (fun _ => 0)))] H := hP
  have hD : va_D A [(h0, .inr (4, [.ref a_1, .ref a_3, .null, .null, .null, .int 0, .int 0, .int 0, .null, .null])), (a_1, .inl (cA_2, 24, .inl (fun _ => 0))), (a_3, .inl (cA_4, 24, .inl (fun _ => 0)))] := hD
  refine lv_aload_n hx hb dX4_init_20 rfl (lv_at hl 0 rfl) ?_
  refine lv_bipush (v := 24) hx hb dX4_init_21 (by decide) ?_
  refine va_newa (atype := .int) (ty := .int) (a0 := (24, .inl (fun _ => 0))) (N' := 24) hx hb (hts (.arrayClass .int) (by decide +kernel)) rfl hK hP hD hS hA (fun _ => rfl) (by decide) (by decide) (Nat.le_of_ble_eq_true rfl) (Nat.le_of_ble_eq_true rfl) (Nat.le_of_ble_eq_true rfl) dX4_init_23 (fun a_5 cA_6 H hK hP hD hS => ?_)
  have hK : va_K D vwCl [(cA_2, .int), (cA_4, .int), (cA_6, .int)] s := hK
  have hP : va_P D vwCl [(h0, .inr (4, [.ref a_1, .ref a_3, .null, .null, .null, .int 0, .int 0, .int 0, .null, .null])), (a_1, .inl (cA_2, 24, .inl (fun _ => 0))), (a_3, .inl (cA_4, 24, .inl (fun _ => 0))), (a_5, .inl (cA_6, 24, .inl (fun _ => 0)))] H := hP
  have hD : va_D A [(h0, .inr (4, [.ref a_1, .ref a_3, .null, .null, .null, .int 0, .int 0, .int 0, .null, .null])), (a_1, .inl (cA_2, 24, .inl (fun _ => 0))), (a_3, .inl (cA_4, 24, .inl (fun _ => 0))), (a_5, .inl (cA_6, 24, .inl (fun _ => 0)))] := hD
  refine va_putF (D := D) (ci := 4) (v := .ref a_5) (ty := .array .int) (C := RX4) (T := TX4) (N := 10) hx hb hts (fun _ h9 => List.mem_cons_of_mem _ (List.mem_append_right _ h9)) tyX4 tyX4_ok nmX4 hown hK hP hD hS 0 rfl rfl 2 (by decide) (hts (.fieldLink RX4 18 "FontRuns$Setting" "fitting" "[I") (by decide +kernel)) (fun _ h9 => h9) rfl hin rfl (by decide +kernel) rfl rfl (Nat.le_of_ble_eq_true rfl) dX4_init_25 (fun H locs hP hD hS => ?_)
  have hP : va_P D vwCl [(h0, .inr (4, [.ref a_1, .ref a_3, .ref a_5, .null, .null, .int 0, .int 0, .int 0, .null, .null])), (a_1, .inl (cA_2, 24, .inl (fun _ => 0))), (a_3, .inl (cA_4, 24, .inl (fun _ => 0))), (a_5, .inl (cA_6, 24, .inl (fun _ => 0)))] H := hP
  have hD : va_D A [(h0, .inr (4, [.ref a_1, .ref a_3, .ref a_5, .null, .null, .int 0, .int 0, .int 0, .null, .null])), (a_1, .inl (cA_2, 24, .inl (fun _ => 0))), (a_3, .inl (cA_4, 24, .inl (fun _ => 0))), (a_5, .inl (cA_6, 24, .inl (fun _ => 0)))] := hD
  refine lv_aload_n hx hb dX4_init_28 rfl (lv_at hl 0 rfl) ?_
  refine lv_bipush (v := 24) hx hb dX4_init_29 (by decide) ?_
  refine va_newa (atype := .int) (ty := .int) (a0 := (24, .inl (fun _ => 0))) (N' := 24) hx hb (hts (.arrayClass .int) (by decide +kernel)) rfl hK hP hD hS hA (fun _ => rfl) (by decide) (by decide) (Nat.le_of_ble_eq_true rfl) (Nat.le_of_ble_eq_true rfl) (Nat.le_of_ble_eq_true rfl) dX4_init_31 (fun a_7 cA_8 H hK hP hD hS => ?_)
  have hK : va_K D vwCl [(cA_2, .int), (cA_4, .int), (cA_6, .int), (cA_8, .int)] s := hK
  have hP : va_P D vwCl [(h0, .inr (4, [.ref a_1, .ref a_3, .ref a_5, .null, .null, .int 0, .int 0, .int 0, .null, .null])), (a_1, .inl (cA_2, 24, .inl (fun _ => 0))), (a_3, .inl (cA_4, 24, .inl (fun _ => 0))), (a_5, .inl (cA_6, 24, .inl (fun _ => 0))), (a_7, .inl (cA_8, 24, .inl (fun _ => 0)))] H := hP
  have hD : va_D A [(h0, .inr (4, [.ref a_1, .ref a_3, .ref a_5, .null, .null, .int 0, .int 0, .int 0, .null, .null])), (a_1, .inl (cA_2, 24, .inl (fun _ => 0))), (a_3, .inl (cA_4, 24, .inl (fun _ => 0))), (a_5, .inl (cA_6, 24, .inl (fun _ => 0))), (a_7, .inl (cA_8, 24, .inl (fun _ => 0)))] := hD
  refine va_putF (D := D) (ci := 4) (v := .ref a_7) (ty := .array .int) (C := RX4) (T := TX4) (N := 10) hx hb hts (fun _ h9 => List.mem_cons_of_mem _ (List.mem_append_right _ h9)) tyX4 tyX4_ok nmX4 hown hK hP hD hS 0 rfl rfl 3 (by decide) (hts (.fieldLink RX4 21 "FontRuns$Setting" "chosen" "[I") (by decide +kernel)) (fun _ h9 => h9) rfl hin rfl (by decide +kernel) rfl rfl (Nat.le_of_ble_eq_true rfl) dX4_init_33 (fun H locs hP hD hS => ?_)
  have hP : va_P D vwCl [(h0, .inr (4, [.ref a_1, .ref a_3, .ref a_5, .ref a_7, .null, .int 0, .int 0, .int 0, .null, .null])), (a_1, .inl (cA_2, 24, .inl (fun _ => 0))), (a_3, .inl (cA_4, 24, .inl (fun _ => 0))), (a_5, .inl (cA_6, 24, .inl (fun _ => 0))), (a_7, .inl (cA_8, 24, .inl (fun _ => 0)))] H := hP
  have hD : va_D A [(h0, .inr (4, [.ref a_1, .ref a_3, .ref a_5, .ref a_7, .null, .int 0, .int 0, .int 0, .null, .null])), (a_1, .inl (cA_2, 24, .inl (fun _ => 0))), (a_3, .inl (cA_4, 24, .inl (fun _ => 0))), (a_5, .inl (cA_6, 24, .inl (fun _ => 0))), (a_7, .inl (cA_8, 24, .inl (fun _ => 0)))] := hD
  refine lv_aload_n hx hb dX4_init_36 rfl (lv_at hl 0 rfl) ?_
  refine lv_bipush (v := 24) hx hb dX4_init_37 (by decide) ?_
  refine va_newa (atype := .int) (ty := .int) (a0 := (24, .inl (fun _ => 0))) (N' := 24) hx hb (hts (.arrayClass .int) (by decide +kernel)) rfl hK hP hD hS hA (fun _ => rfl) (by decide) (by decide) (Nat.le_of_ble_eq_true rfl) (Nat.le_of_ble_eq_true rfl) (Nat.le_of_ble_eq_true rfl) dX4_init_39 (fun a_9 cA_10 H hK hP hD hS => ?_)
  have hK : va_K D vwCl [(cA_2, .int), (cA_4, .int), (cA_6, .int), (cA_8, .int), (cA_10, .int)] s := hK
  have hP : va_P D vwCl [(h0, .inr (4, [.ref a_1, .ref a_3, .ref a_5, .ref a_7, .null, .int 0, .int 0, .int 0, .null, .null])), (a_1, .inl (cA_2, 24, .inl (fun _ => 0))), (a_3, .inl (cA_4, 24, .inl (fun _ => 0))), (a_5, .inl (cA_6, 24, .inl (fun _ => 0))), (a_7, .inl (cA_8, 24, .inl (fun _ => 0))), (a_9, .inl (cA_10, 24, .inl (fun _ => 0)))] H := hP
  have hD : va_D A [(h0, .inr (4, [.ref a_1, .ref a_3, .ref a_5, .ref a_7, .null, .int 0, .int 0, .int 0, .null, .null])), (a_1, .inl (cA_2, 24, .inl (fun _ => 0))), (a_3, .inl (cA_4, 24, .inl (fun _ => 0))), (a_5, .inl (cA_6, 24, .inl (fun _ => 0))), (a_7, .inl (cA_8, 24, .inl (fun _ => 0))), (a_9, .inl (cA_10, 24, .inl (fun _ => 0)))] := hD
  refine va_putF (D := D) (ci := 4) (v := .ref a_9) (ty := .array .int) (C := RX4) (T := TX4) (N := 10) hx hb hts (fun _ h9 => List.mem_cons_of_mem _ (List.mem_append_right _ h9)) tyX4 tyX4_ok nmX4 hown hK hP hD hS 0 rfl rfl 4 (by decide) (hts (.fieldLink RX4 24 "FontRuns$Setting" "runOf" "[I") (by decide +kernel)) (fun _ h9 => h9) rfl hin rfl (by decide +kernel) rfl rfl (Nat.le_of_ble_eq_true rfl) dX4_init_41 (fun H locs hP hD hS => ?_)
  have hP : va_P D vwCl [(h0, .inr (4, [.ref a_1, .ref a_3, .ref a_5, .ref a_7, .ref a_9, .int 0, .int 0, .int 0, .null, .null])), (a_1, .inl (cA_2, 24, .inl (fun _ => 0))), (a_3, .inl (cA_4, 24, .inl (fun _ => 0))), (a_5, .inl (cA_6, 24, .inl (fun _ => 0))), (a_7, .inl (cA_8, 24, .inl (fun _ => 0))), (a_9, .inl (cA_10, 24, .inl (fun _ => 0)))] H := hP
  have hD : va_D A [(h0, .inr (4, [.ref a_1, .ref a_3, .ref a_5, .ref a_7, .ref a_9, .int 0, .int 0, .int 0, .null, .null])), (a_1, .inl (cA_2, 24, .inl (fun _ => 0))), (a_3, .inl (cA_4, 24, .inl (fun _ => 0))), (a_5, .inl (cA_6, 24, .inl (fun _ => 0))), (a_7, .inl (cA_8, 24, .inl (fun _ => 0))), (a_9, .inl (cA_10, 24, .inl (fun _ => 0)))] := hD
  refine lv_aload_n hx hb dX4_init_44 rfl (lv_at hl 0 rfl) ?_
  refine lv_bipush (v := 24) hx hb dX4_init_45 (by decide) ?_
  refine va_newa (atype := .int) (ty := .int) (a0 := (24, .inl (fun _ => 0))) (N' := 24) hx hb (hts (.arrayClass .int) (by decide +kernel)) rfl hK hP hD hS hA (fun _ => rfl) (by decide) (by decide) (Nat.le_of_ble_eq_true rfl) (Nat.le_of_ble_eq_true rfl) (Nat.le_of_ble_eq_true rfl) dX4_init_47 (fun a_11 cA_12 H hK hP hD hS => ?_)
  have hK : va_K D vwCl [(cA_2, .int), (cA_4, .int), (cA_6, .int), (cA_8, .int), (cA_10, .int), (cA_12, .int)] s := hK
  have hP : va_P D vwCl [(h0, .inr (4, [.ref a_1, .ref a_3, .ref a_5, .ref a_7, .ref a_9, .int 0, .int 0, .int 0, .null, .null])), (a_1, .inl (cA_2, 24, .inl (fun _ => 0))), (a_3, .inl (cA_4, 24, .inl (fun _ => 0))), (a_5, .inl (cA_6, 24, .inl (fun _ => 0))), (a_7, .inl (cA_8, 24, .inl (fun _ => 0))), (a_9, .inl (cA_10, 24, .inl (fun _ => 0))), (a_11, .inl (cA_12, 24, .inl (fun _ => 0)))] H := hP
  have hD : va_D A [(h0, .inr (4, [.ref a_1, .ref a_3, .ref a_5, .ref a_7, .ref a_9, .int 0, .int 0, .int 0, .null, .null])), (a_1, .inl (cA_2, 24, .inl (fun _ => 0))), (a_3, .inl (cA_4, 24, .inl (fun _ => 0))), (a_5, .inl (cA_6, 24, .inl (fun _ => 0))), (a_7, .inl (cA_8, 24, .inl (fun _ => 0))), (a_9, .inl (cA_10, 24, .inl (fun _ => 0))), (a_11, .inl (cA_12, 24, .inl (fun _ => 0)))] := hD
  refine va_putF (D := D) (ci := 4) (v := .ref a_11) (ty := .array .int) (C := RX4) (T := TX4) (N := 10) hx hb hts (fun _ h9 => List.mem_cons_of_mem _ (List.mem_append_right _ h9)) tyX4 tyX4_ok nmX4 hown hK hP hD hS 0 rfl rfl 8 (by decide) (hts (.fieldLink RX4 27 "FontRuns$Setting" "letters" "[I") (by decide +kernel)) (fun _ h9 => h9) rfl hin rfl (by decide +kernel) rfl rfl (Nat.le_of_ble_eq_true rfl) dX4_init_49 (fun H locs hP hD hS => ?_)
  have hP : va_P D vwCl [(h0, .inr (4, [.ref a_1, .ref a_3, .ref a_5, .ref a_7, .ref a_9, .int 0, .int 0, .int 0, .ref a_11, .null])), (a_1, .inl (cA_2, 24, .inl (fun _ => 0))), (a_3, .inl (cA_4, 24, .inl (fun _ => 0))), (a_5, .inl (cA_6, 24, .inl (fun _ => 0))), (a_7, .inl (cA_8, 24, .inl (fun _ => 0))), (a_9, .inl (cA_10, 24, .inl (fun _ => 0))), (a_11, .inl (cA_12, 24, .inl (fun _ => 0)))] H := hP
  have hD : va_D A [(h0, .inr (4, [.ref a_1, .ref a_3, .ref a_5, .ref a_7, .ref a_9, .int 0, .int 0, .int 0, .ref a_11, .null])), (a_1, .inl (cA_2, 24, .inl (fun _ => 0))), (a_3, .inl (cA_4, 24, .inl (fun _ => 0))), (a_5, .inl (cA_6, 24, .inl (fun _ => 0))), (a_7, .inl (cA_8, 24, .inl (fun _ => 0))), (a_9, .inl (cA_10, 24, .inl (fun _ => 0))), (a_11, .inl (cA_12, 24, .inl (fun _ => 0)))] := hD
  refine lv_aload_n hx hb dX4_init_52 rfl (lv_at hl 0 rfl) ?_
  refine lv_bipush (v := 24) hx hb dX4_init_53 (by decide) ?_
  refine lv_iconst (v := 4) hx hb dX4_init_55 (by decide) ?_
  obtain ⟨cy, hcy⟩ := hN.2.2.2
  have ecy : cA_2 = cy := kcy hK hcy 0 rfl
  subst ecy
  refine va_mna (X := [(h0, .inr (4, [.ref a_1, .ref a_3, .ref a_5, .ref a_7, .ref a_9, .int 0, .int 0, .int 0, .ref a_11, .null])), (a_1, .inl (cA_2, 24, .inl (fun _ => 0))), (a_3, .inl (cA_4, 24, .inl (fun _ => 0))), (a_5, .inl (cA_6, 24, .inl (fun _ => 0))), (a_7, .inl (cA_8, 24, .inl (fun _ => 0))), (a_9, .inl (cA_10, 24, .inl (fun _ => 0))), (a_11, .inl (cA_12, 24, .inl (fun _ => 0)))]) (L := []) (f := fun _ => .inr (0, [])) (ty := .int) (cy := cA_2) (N' := 24) (K' := 4) (z := (4, .inl (fun _ => 0))) hx hb hown (show (Cond.classLink RX4 30 ("[" ++ (FieldType.array .int).toString)).before _ s = true from hts _ (by decide +kernel)) hN.2.2.1 (hts (.arrayClass .int) (by decide +kernel)) hcy hK hP hD hS hA (by decide) (by decide) (by decide) (by decide) (Nat.le_of_ble_eq_true rfl) (Nat.le_of_ble_eq_true rfl) (Nat.le_of_ble_eq_true rfl) rfl rfl (Nat.le_of_ble_eq_true rfl) (Nat.le_of_ble_eq_true rfl) (fun c9 => kinner c9 4) dX4_init_56 (fun a_13 r_15 cA_14 H _ _ hK hP hD hS => ?_)
  rw [kpl] at hP hD
  have hK : va_K D vwCl [(cA_2, .int), (cA_4, .int), (cA_6, .int), (cA_8, .int), (cA_10, .int), (cA_12, .int), (cA_14, .array .int)] s := hK
  have hP : va_P D vwCl (([(h0, .inr (4, [.ref a_1, .ref a_3, .ref a_5, .ref a_7, .ref a_9, .int 0, .int 0, .int 0, .ref a_11, .null])), (a_1, .inl (cA_2, 24, .inl (fun _ => 0))), (a_3, .inl (cA_4, 24, .inl (fun _ => 0))), (a_5, .inl (cA_6, 24, .inl (fun _ => 0))), (a_7, .inl (cA_8, 24, .inl (fun _ => 0))), (a_9, .inl (cA_10, 24, .inl (fun _ => 0))), (a_11, .inl (cA_12, 24, .inl (fun _ => 0))), (a_13, .inl (cA_14, 24, .inr (.inr (.inr (.inr (fun i => if i < 24 then some (r_15 i) else none))))))] : va_W) ++ kR 24 r_15 cA_2) H := hP
  have hD : va_D A (([(h0, .inr (4, [.ref a_1, .ref a_3, .ref a_5, .ref a_7, .ref a_9, .int 0, .int 0, .int 0, .ref a_11, .null])), (a_1, .inl (cA_2, 24, .inl (fun _ => 0))), (a_3, .inl (cA_4, 24, .inl (fun _ => 0))), (a_5, .inl (cA_6, 24, .inl (fun _ => 0))), (a_7, .inl (cA_8, 24, .inl (fun _ => 0))), (a_9, .inl (cA_10, 24, .inl (fun _ => 0))), (a_11, .inl (cA_12, 24, .inl (fun _ => 0))), (a_13, .inl (cA_14, 24, .inr (.inr (.inr (.inr (fun i => if i < 24 then some (r_15 i) else none))))))] : va_W) ++ kR 24 r_15 cA_2) := hD
  refine va_putF (D := D) (ci := 4) (v := .ref a_13) (ty := .array (.array .int)) (C := RX4) (T := TX4) (N := 10) hx hb hts (fun _ h9 => List.mem_cons_of_mem _ (List.mem_append_right _ h9)) tyX4 tyX4_ok nmX4 hown hK hP hD hS 0 rfl rfl 9 (by decide) (hts (.fieldLink RX4 32 "FontRuns$Setting" "behind" "[[I") (by decide +kernel)) (fun _ h9 => h9) rfl hin rfl (by decide +kernel) rfl rfl (Nat.le_of_ble_eq_true rfl) dX4_init_60 (fun H locs hP hD hS => ?_)
  have hP : va_P D vwCl (([(h0, .inr (4, [.ref a_1, .ref a_3, .ref a_5, .ref a_7, .ref a_9, .int 0, .int 0, .int 0, .ref a_11, .ref a_13])), (a_1, .inl (cA_2, 24, .inl (fun _ => 0))), (a_3, .inl (cA_4, 24, .inl (fun _ => 0))), (a_5, .inl (cA_6, 24, .inl (fun _ => 0))), (a_7, .inl (cA_8, 24, .inl (fun _ => 0))), (a_9, .inl (cA_10, 24, .inl (fun _ => 0))), (a_11, .inl (cA_12, 24, .inl (fun _ => 0))), (a_13, .inl (cA_14, 24, .inr (.inr (.inr (.inr (fun i => if i < 24 then some (r_15 i) else none))))))] : va_W) ++ kR 24 r_15 cA_2) H := hP
  have hD : va_D A (([(h0, .inr (4, [.ref a_1, .ref a_3, .ref a_5, .ref a_7, .ref a_9, .int 0, .int 0, .int 0, .ref a_11, .ref a_13])), (a_1, .inl (cA_2, 24, .inl (fun _ => 0))), (a_3, .inl (cA_4, 24, .inl (fun _ => 0))), (a_5, .inl (cA_6, 24, .inl (fun _ => 0))), (a_7, .inl (cA_8, 24, .inl (fun _ => 0))), (a_9, .inl (cA_10, 24, .inl (fun _ => 0))), (a_11, .inl (cA_12, 24, .inl (fun _ => 0))), (a_13, .inl (cA_14, 24, .inr (.inr (.inr (.inr (fun i => if i < 24 then some (r_15 i) else none))))))] : va_W) ++ kR 24 r_15 cA_2) := hD
  refine W.widen (k := 31) (n := 264) (Nat.le_of_ble_eq_true rfl) (Nat.le_of_ble_eq_true rfl) ?_
  have hP9 : va_P D vwCl (([(h0, .inr (4, [.ref a_1, .ref a_3, .ref a_5, .ref a_7, .ref a_9, .int 0, .int 0, .int 0, .ref a_11, .ref a_13])), (a_1, .inl (cA_2, 24, .inl (fun _ => 0))), (a_3, .inl (cA_4, 24, .inl (fun _ => 0))), (a_5, .inl (cA_6, 24, .inl (fun _ => 0))), (a_7, .inl (cA_8, 24, .inl (fun _ => 0))), (a_9, .inl (cA_10, 24, .inl (fun _ => 0))), (a_11, .inl (cA_12, 24, .inl (fun _ => 0))), (a_13, .inl (cA_14, 24, .inr (.inr (.inr (.inr (fun i => if i < 24 then some (r_15 i) else none))))))] : va_W) ++ kR 24 r_15 cA_2) H := hP.part [0, 1, 2, 3, 4, 5, 6, 7] rfl
  have hD9 : va_D A (([(h0, .inr (4, [.ref a_1, .ref a_3, .ref a_5, .ref a_7, .ref a_9, .int 0, .int 0, .int 0, .ref a_11, .ref a_13])), (a_1, .inl (cA_2, 24, .inl (fun _ => 0))), (a_3, .inl (cA_4, 24, .inl (fun _ => 0))), (a_5, .inl (cA_6, 24, .inl (fun _ => 0))), (a_7, .inl (cA_8, 24, .inl (fun _ => 0))), (a_9, .inl (cA_10, 24, .inl (fun _ => 0))), (a_11, .inl (cA_12, 24, .inl (fun _ => 0))), (a_13, .inl (cA_14, 24, .inr (.inr (.inr (.inr (fun i => if i < 24 then some (r_15 i) else none))))))] : va_W) ++ kR 24 r_15 cA_2) := hD.part [0, 1, 2, 3, 4, 5, 6, 7] (by decide) rfl
  have hK9 := hK.sub (tys' := [(cA_2, .int), (cA_4, .int), (cA_6, .int), (cA_8, .int), (cA_10, .int), (cA_12, .int), (cA_14, .array .int)]) [0, 1, 2, 3, 4, 5, 6] rfl
  exact W.vret hx hb hr (fun t ht hW => ⟨⟨(a_1, a_3, a_5, a_7, a_9, a_11, a_13, cA_2, cA_4, cA_6, cA_8, cA_10, cA_12, cA_14, r_15), rfl, trivial, by rw [ht]; exact hP9, hD9, va_K.moved hW.alike hK9⟩, hS.F ht⟩) hS.2.2 dX4_init_63
