set_option maxHeartbeats 4000000 in
set_option maxRecDepth 100000 in
theorem c_X9_isOf_b (l : Launch) (D : va_G) (sz : Nat) (x : Int) (k : Int) (q0 : rg x) (q1 : rg k) : Met l yX9_isOf wsX9_isOf ({ frames := 0, cells := 0, slots := 0, locals := 0 }) (kPre [.int (zI x), .int (zI k)] D [] [] sz) (QcRead (if (zI x >>> (zI k &&& 31)) &&& 1 = 1 then 1 else 0)) 0 0 (fun _ => False) := by
  refine Met.ofW (cc := cX9_isOf) (maxL := 2) (ret := (some .boolean)) (by decide) rfl ?_
  intro p e s m args below meth c s₁ B hml hv
  obtain ⟨rfl, hsz, hP, hK, hD0, hN⟩ := hv
  have hx := B.exec
  have hb := B.bytes
  have hr := B.returns
  have hts := atoms_spec (ws := wsX9_isOf) B.pre
  have hown : s.vm.findClass RX9 = some m.cls := findClass_of_methodNamed B.named
  have hlocks := B.notSynchronized
  subst hsz
  have hD := hD0
  have hP : va_P D vwCl [] s.heap := hP
  have hl := lv_entry ([.int (zI x), .int (zI k)]) (n := 2) (Nat.le_of_ble_eq_true rfl)
  rw [lg_entry_eq]
  generalize (lg_sl ([.int (zI x), .int (zI k)]) ++ List.replicate (2 - (lg_sl ([.int (zI x), .int (zI k)])).length) Slot.unset).toArray = ls at hl ⊢
  have hl : lv_has ls 2 [(0, .int (zI x)), (1, .int (zI k))] := hl
  refine lv_iload_n hx hb dX9_isOf_0 rfl (lv_at hl 0 rfl) ?_
  refine lv_iload_n hx hb dX9_isOf_1 rfl (lv_at hl 1 rfl) ?_
  refine lv_ishr hx hb dX9_isOf_2 ?_
  refine kz_any (fun z_1 rz_1 ez_1 => ?_)
  refine lv_iconst (v := zI 1) hx hb dX9_isOf_3 rfl ?_
  refine lv_iand hx hb dX9_isOf_4 ?_
  refine kz_any (fun z_2 rz_2 ez_2 => ?_)
  refine lv_iconst (v := zI 1) hx hb dX9_isOf_5 rfl ?_
  refine kz_icmp_ne (tgt := 13) hx hb dX9_isOf_6 (by decide) (by omega) (by omega) (fun c_3 => ?_) (fun c_3 => ?_)
  · refine lv_iconst (v := zI 0) hx hb dX9_isOf_13 rfl ?_
    exact W.zret (v := (zI 0)) hx hb hr rfl (fun t ht hW => kRd (kb0 (fun h9 => c_3 ((zI_eq rz_2 (by omega)).mp (by rw [← ez_2, ← ez_1]; exact h9)))) ht) (fun _ h9 => by cases h9) dX9_isOf_14
  · refine lv_iconst (v := zI 1) hx hb dX9_isOf_9 rfl ?_
    refine lv_goto (tgt := 14) hx hb dX9_isOf_10 (by decide) ?_
    exact W.zret (v := (zI 1)) hx hb hr rfl (fun t ht hW => kRd (kb1 (by show (zI x >>> (zI k &&& 31)) &&& zI 1 = zI 1; rw [ez_1, ez_2, c_3])) ht) (fun _ h9 => by cases h9) dX9_isOf_14
theorem dX9_canSet_0 : decode cX9_canSet 0 = .ok (.iload_n 2, 1) := by decide +kernel
theorem dX9_canSet_1 : decode cX9_canSet 1 = .ok (.iload_n 3, 1) := by decide +kernel
theorem dX9_canSet_2 : decode cX9_canSet 2 = .ok (.if_icmp .eq 29, 3) := by decide +kernel
theorem dX9_canSet_5 : decode cX9_canSet 5 = .ok (.aload_n 0, 1) := by decide +kernel
theorem dX9_canSet_6 : decode cX9_canSet 6 = .ok (.getfield 49, 3) := by decide +kernel
theorem dX9_canSet_9 : decode cX9_canSet 9 = .ok (.iload_n 1, 1) := by decide +kernel
theorem dX9_canSet_10 : decode cX9_canSet 10 = .ok (.iaload, 1) := by decide +kernel
theorem dX9_canSet_11 : decode cX9_canSet 11 = .ok (.ifCond .eq 16, 3) := by decide +kernel
theorem dX9_canSet_14 : decode cX9_canSet 14 = .ok (.aload_n 0, 1) := by decide +kernel
theorem dX9_canSet_15 : decode cX9_canSet 15 = .ok (.getfield 49, 3) := by decide +kernel
theorem dX9_canSet_18 : decode cX9_canSet 18 = .ok (.iload_n 1, 1) := by decide +kernel
theorem dX9_canSet_19 : decode cX9_canSet 19 = .ok (.iaload, 1) := by decide +kernel
theorem dX9_canSet_20 : decode cX9_canSet 20 = .ok (.iload_n 2, 1) := by decide +kernel
theorem dX9_canSet_21 : decode cX9_canSet 21 = .ok (.invokestatic 117, 3) := by decide +kernel
theorem dX9_canSet_24 : decode cX9_canSet 24 = .ok (.ifCond .eq 7, 3) := by decide +kernel
theorem dX9_canSet_27 : decode cX9_canSet 27 = .ok (.iconst 1, 1) := by decide +kernel
theorem dX9_canSet_28 : decode cX9_canSet 28 = .ok (.goto 4, 3) := by decide +kernel
theorem dX9_canSet_31 : decode cX9_canSet 31 = .ok (.iconst 0, 1) := by decide +kernel
theorem dX9_canSet_32 : decode cX9_canSet 32 = .ok (.ireturn, 1) := by decide +kernel
set_option maxRecDepth 20000 in
theorem ggX9_canSet_X9_isOf : GoodIn wsX9_canSet wsX9_isOf := goodIn_4 _ (List.forall_mem_cons.mpr ⟨List.mem_cons_of_mem _ (List.mem_append_left _ (List.mem_of_getElem? (i := 4) rfl)), fun _ h9 => absurd h9 List.not_mem_nil⟩) (by decide +kernel)
set_option maxRecDepth 20000 in
theorem gX9_canSet_X9_isOf : GoodIn wsX9_canSet (va_wsS RX9 117 yX9_isOf wsX9_isOf) := goodIn_app (goodIn_4 _ (List.forall_mem_cons.mpr ⟨List.mem_cons_of_mem _ (List.mem_append_left _ (List.mem_of_getElem? (i := 1) rfl)), List.forall_mem_cons.mpr ⟨List.mem_cons_of_mem _ (List.mem_append_left _ (List.mem_of_getElem? (i := 2) rfl)), List.forall_mem_cons.mpr ⟨List.mem_cons_of_mem _ (List.mem_append_left _ (List.mem_of_getElem? (i := 3) rfl)), fun _ h9 => absurd h9 List.not_mem_nil⟩⟩⟩) (by decide +kernel)) ggX9_canSet_X9_isOf
set_option maxRecDepth 20000 in
theorem mw_X9_canSet_0 : (.fieldLink RX9 49 "FontRunsModel" "fits" "[I" : Cond) ∈ wsX9_canSet := List.mem_cons_of_mem _ (List.mem_append_left _ (List.mem_of_getElem? (i := 0) rfl))
theorem ax_X9_canSet_0 {e0 e1 : Nat × va_E} : ([] : List Nat).map (fun i => ([e0, e1] : va_W)[i]?) = ([] : va_W).map some := rfl
set_option maxHeartbeats 4000000 in
set_option maxRecDepth 100000 in
theorem c_X9_canSet (l : Launch) (D : va_G) (sz : Nat) (kc : Int) (f : Int) (wo : Int) (h0 : Nat) (fa : Int) (tc : Int) (so : Nat) (sl : Nat) (ce : Nat) (fn : Int) (kd : Nat) (wd : Nat) (hs : Nat) (pf : Nat) (lt : Nat) (mn : Int) (wg : Nat) (ta : Int) (ck : Int64) (at9 : Int) (rfn : Int) (rk : Nat) (rw : Nat) (rh : Nat) (cl : Int) (sa : Nat) (fi : Nat) (bo : Int) (ch : Nat) (cn : Nat) (ad : Int) (ru : Int) (kp : Nat) (dn : Int) (rfa : Nat) (c_fi : ClassId) (f_fi : Nat → Int32) (q0 : 0 ≤ kc ∧ kc ≤ 23) (q1 : rg f) (q2 : rg wo) : Met l yX9_canSet wsX9_canSet ({ frames := 1, cells := 0, slots := 0, locals := 21 }) (kPre [.ref h0, .int (zI kc), .int (zI f), .int (zI wo)] D [(h0, .inr (9, [.int (zI fa), .int (zI tc), .ref so, .ref sl, .ref ce, .int (zI fn), .ref kd, .ref wd, .ref hs, .ref pf, .ref lt, .int (zI mn), .ref wg, .int (zI ta), .long ck, .int (zI at9), .int (zI rfn), .ref rk, .ref rw, .ref rh, .int (zI cl), .ref sa, .ref fi, .int (zI bo), .ref ch, .ref cn, .int (zI ad), .int (zI ru), .ref kp, .int (zI dn), .ref rfa])), (fi, .inl (c_fi, 24, .inl f_fi))] [(c_fi, .int)] sz) (QcRead (if kCan (f_fi kc.toNat) f wo then 1 else 0)) 0 0 (fun _ => False) := by
  refine Met.ofW (cc := cX9_canSet) (maxL := 4) (ret := (some .boolean)) (by decide) rfl ?_
  intro p e s m args below meth c s₁ B hml hv
  obtain ⟨rfl, hsz, hP, hK, hD0, hN⟩ := hv
  have hx := B.exec
  have hb := B.bytes
  have hr := B.returns
  have hts := atoms_spec (ws := wsX9_canSet) B.pre
  have hown : s.vm.findClass RX9 = some m.cls := findClass_of_methodNamed B.named
  have hlocks := B.notSynchronized
  subst hsz
  have hD := hD0
  have hP : va_P D vwCl [(h0, .inr (9, [.int (zI fa), .int (zI tc), .ref so, .ref sl, .ref ce, .int (zI fn), .ref kd, .ref wd, .ref hs, .ref pf, .ref lt, .int (zI mn), .ref wg, .int (zI ta), .long ck, .int (zI at9), .int (zI rfn), .ref rk, .ref rw, .ref rh, .int (zI cl), .ref sa, .ref fi, .int (zI bo), .ref ch, .ref cn, .int (zI ad), .int (zI ru), .ref kp, .int (zI dn), .ref rfa])), (fi, .inl (c_fi, 24, .inl f_fi))] s.heap := hP
  have hl := lv_entry ([.ref h0, .int (zI kc), .int (zI f), .int (zI wo)]) (n := 4) (Nat.le_of_ble_eq_true rfl)
  rw [lg_entry_eq]
  generalize (lg_sl ([.ref h0, .int (zI kc), .int (zI f), .int (zI wo)]) ++ List.replicate (4 - (lg_sl ([.ref h0, .int (zI kc), .int (zI f), .int (zI wo)])).length) Slot.unset).toArray = ls at hl ⊢
  have hl : lv_has ls 4 [(0, .ref h0), (1, .int (zI kc)), (2, .int (zI f)), (3, .int (zI wo))] := hl
  refine lv_iload_n hx hb dX9_canSet_0 rfl (lv_at hl 2 rfl) ?_
  refine lv_iload_n hx hb dX9_canSet_1 rfl (lv_at hl 3 rfl) ?_
  refine kz_icmp_eq (tgt := 31) hx hb dX9_canSet_2 (by decide) (by omega) (by omega) (fun c_1 => ?_) (fun c_1 => ?_)
  · refine lv_iconst (v := zI 0) hx hb dX9_canSet_31 rfl ?_
    exact W.zret (v := (zI 0)) hx hb hr rfl (fun t ht hW => kRd (kb0 (fun h9 => h9.1 c_1)) ht) (fun _ h9 => by cases h9) dX9_canSet_32
  · refine lv_aload_n hx hb dX9_canSet_5 rfl (lv_at hl 0 rfl) ?_
    refine va_get (D := D) (ci := 9) (v := .ref fi) (C := RX9) (T := TX9) (N := 31) hx hb hts (fun _ h9 => List.mem_cons_of_mem _ (List.mem_append_right _ h9)) hown hK hP 0 rfl rfl 22 (by decide) (hts (.fieldLink RX9 49 "FontRunsModel" "fits" "[I") mw_X9_canSet_0) (fun _ h9 => h9) rfl dX9_canSet_6 ?_
    refine lv_iload_n hx hb dX9_canSet_9 rfl (lv_at hl 1 rfl) ?_
    refine kz_iald hx hb hK hP 1 0 rfl rfl (by omega) dX9_canSet_10 (fun z_2 rz_2 ez_2 => ?_)
    refine kz_if_eq (tgt := 27) hx hb dX9_canSet_11 (by decide) (by omega) (fun c_3 => ?_) (fun c_3 => ?_)
    · refine lv_iconst (v := zI 1) hx hb dX9_canSet_27 rfl ?_
      refine lv_goto (tgt := 32) hx hb dX9_canSet_28 (by decide) ?_
      exact W.zret (v := (zI 1)) hx hb hr rfl (fun t ht hW => kRd (kb1 (kcan1 ez_2 c_1 (Or.inl c_3))) ht) (fun _ h9 => by cases h9) dX9_canSet_32
    · refine lv_aload_n hx hb dX9_canSet_14 rfl (lv_at hl 0 rfl) ?_
      refine va_get (D := D) (ci := 9) (v := .ref fi) (C := RX9) (T := TX9) (N := 31) hx hb hts (fun _ h9 => List.mem_cons_of_mem _ (List.mem_append_right _ h9)) hown hK hP 0 rfl rfl 22 (by decide) (hts (.fieldLink RX9 49 "FontRunsModel" "fits" "[I") mw_X9_canSet_0) (fun _ h9 => h9) rfl dX9_canSet_15 ?_
      refine lv_iload_n hx hb dX9_canSet_18 rfl (lv_at hl 1 rfl) ?_
      refine kz_iald hx hb hK hP 1 0 rfl rfl (by omega) dX9_canSet_19 (fun z_4 rz_4 ez_4 => ?_)
      have q9 : z_2 = z_4 := (zI_eq rz_2 rz_4).mp (ez_2.symm.trans ez_4)
      subst q9
      refine lv_iload_n hx hb dX9_canSet_20 rfl (lv_at hl 2 rfl) ?_
      refine k_callR (va_runS (As := [.int (zI z_2), .int (zI f)]) (rest := []) ⟨hx, hb, hml, hown, hts⟩ (c_X9_isOf_b l D s.heap.size (x := z_2) (k := f) (by omega) q1) (va_cwS 2 hts gX9_canSet_X9_isOf rfl rfl rfl (by decide +kernel) ⟨Nat.le_of_ble_eq_true rfl, Nat.le_of_ble_eq_true rfl⟩) (kPreS hP (kD0 hD) hK hN [] [] ax_X9_canSet_0 rfl (by decide +kernel)) rfl rfl hl.1 rfl (lv_room (Nat.le_of_ble_eq_true rfl)) dX9_canSet_21 ⟨Nat.le_of_ble_eq_true rfl, Nat.le_of_ble_eq_true rfl⟩) ?_
      refine lv_if_eq (tgt := 31) hx hb dX9_canSet_24 (by decide) (fun c_5 => ?_) (fun c_5 => ?_)
      · have c_5 : ¬ ((zI z_2 >>> (zI f &&& 31)) &&& 1 = 1) := b01f c_5
        refine lv_iconst (v := zI 0) hx hb dX9_canSet_31 rfl ?_
        exact W.zret (v := (zI 0)) hx hb hr rfl (fun t ht hW => kRd (kb0 (kcan0 ez_2 rz_2 (Or.inr ⟨c_3, c_5⟩))) ht) (fun _ h9 => by cases h9) dX9_canSet_32
      · have c_5 : (zI z_2 >>> (zI f &&& 31)) &&& 1 = 1 := b01t c_5
        refine lv_iconst (v := zI 1) hx hb dX9_canSet_27 rfl ?_
        refine lv_goto (tgt := 32) hx hb dX9_canSet_28 (by decide) ?_
        exact W.zret (v := (zI 1)) hx hb hr rfl (fun t ht hW => kRd (kb1 (kcan1 ez_2 c_1 (Or.inr c_5))) ht) (fun _ h9 => by cases h9) dX9_canSet_32
