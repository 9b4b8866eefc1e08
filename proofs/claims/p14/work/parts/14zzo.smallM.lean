set_option maxRecDepth 20000 in
theorem mw_X9_stepOf_w_0 : (.fieldLink RX9 19 "FontRunsModel" "kind" "[I" : Cond) ∈ wsX9_stepOf := List.mem_cons_of_mem _ (List.mem_append_left _ (List.mem_of_getElem? (i := 0) rfl))
set_option maxRecDepth 20000 in
theorem mw_X9_stepOf_w_1 : (.fieldLink RX9 22 "FontRunsModel" "width" "[I" : Cond) ∈ wsX9_stepOf := List.mem_cons_of_mem _ (List.mem_append_left _ (List.mem_of_getElem? (i := 1) rfl))
set_option maxHeartbeats 4000000 in
set_option maxRecDepth 100000 in
theorem c_X9_stepOf_w (l : Launch) (D : va_G) (sz : Nat) (f : Int) (h0 : Nat) (fa : Int) (tc : Int) (so : Nat) (sl : Nat) (ce : Nat) (fn : Int) (kd : Nat) (wd : Nat) (hs : Nat) (pf : Nat) (lt : Nat) (mn : Int) (wg : Nat) (ta : Int) (ck : Int64) (at9 : Int) (rfn : Int) (rk : Nat) (rw : Nat) (rh : Nat) (cl : Int) (sa : Nat) (fi : Nat) (bo : Int) (ch : Nat) (cn : Nat) (ad : Int) (ru : Int) (kp : Nat) (dn : Int) (rfa : Nat) (c_kd : ClassId) (f_kd : Nat → Int32) (c_wd : ClassId) (f_wd : Nat → Int32) (q0 : 0 ≤ f ∧ f ≤ 3) : Met l yX9_stepOf wsX9_stepOf ({ frames := 0, cells := 0, slots := 0, locals := 0 }) (kPre [.ref h0, .int (zI f)] D [(h0, .inr (9, [.int (zI fa), .int (zI tc), .ref so, .ref sl, .ref ce, .int (zI fn), .ref kd, .ref wd, .ref hs, .ref pf, .ref lt, .int (zI mn), .ref wg, .int (zI ta), .long ck, .int (zI at9), .int (zI rfn), .ref rk, .ref rw, .ref rh, .int (zI cl), .ref sa, .ref fi, .int (zI bo), .ref ch, .ref cn, .int (zI ad), .int (zI ru), .ref kp, .int (zI dn), .ref rfa])), (kd, .inl (c_kd, 4, .inl f_kd)), (wd, .inl (c_wd, 4, .inl f_wd))] [(c_kd, .int), (c_wd, .int)] sz) (QcP (fun rz => zI rz = kStM (f_kd f.toNat) (f_wd f.toNat))) 0 0 (fun _ => False) := by
  refine Met.ofW (cc := cX9_stepOf) (maxL := 2) (ret := (some .int)) (by decide) rfl ?_
  intro p e s m args below meth c s₁ B hml hv
  obtain ⟨rfl, hsz, hP, hK, hD0, hN⟩ := hv
  have hx := B.exec
  have hb := B.bytes
  have hr := B.returns
  have hts := atoms_spec (ws := wsX9_stepOf) B.pre
  have hown : s.vm.findClass RX9 = some m.cls := findClass_of_methodNamed B.named
  have hlocks := B.notSynchronized
  subst hsz
  have hD := hD0
  have hP : va_P D vwCl [(h0, .inr (9, [.int (zI fa), .int (zI tc), .ref so, .ref sl, .ref ce, .int (zI fn), .ref kd, .ref wd, .ref hs, .ref pf, .ref lt, .int (zI mn), .ref wg, .int (zI ta), .long ck, .int (zI at9), .int (zI rfn), .ref rk, .ref rw, .ref rh, .int (zI cl), .ref sa, .ref fi, .int (zI bo), .ref ch, .ref cn, .int (zI ad), .int (zI ru), .ref kp, .int (zI dn), .ref rfa])), (kd, .inl (c_kd, 4, .inl f_kd)), (wd, .inl (c_wd, 4, .inl f_wd))] s.heap := hP
  have hl := lv_entry ([.ref h0, .int (zI f)]) (n := 2) (Nat.le_of_ble_eq_true rfl)
  rw [lg_entry_eq]
  generalize (lg_sl ([.ref h0, .int (zI f)]) ++ List.replicate (2 - (lg_sl ([.ref h0, .int (zI f)])).length) Slot.unset).toArray = ls at hl ⊢
  have hl : lv_has ls 2 [(0, .ref h0), (1, .int (zI f))] := hl
  refine lv_aload_n hx hb dX9_stepOf_0 rfl (lv_at hl 0 rfl) ?_
  refine va_get (D := D) (ci := 9) (v := .ref kd) (C := RX9) (T := TX9) (N := 31) hx hb hts (fun _ h9 => List.mem_cons_of_mem _ (List.mem_append_right _ h9)) hown hK hP 0 rfl rfl 6 (by decide) (hts (.fieldLink RX9 19 "FontRunsModel" "kind" "[I") mw_X9_stepOf_w_0) (fun _ h9 => h9) rfl dX9_stepOf_1 ?_
  refine lv_iload_n hx hb dX9_stepOf_4 rfl (lv_at hl 1 rfl) ?_
  refine kz_iald hx hb hK hP 1 0 rfl rfl (by omega) dX9_stepOf_5 (fun z_1 rz_1 ez_1 => ?_)
  refine kz_if_ne (tgt := 18) hx hb dX9_stepOf_6 (by decide) (by omega) (fun c_2 => ?_) (fun c_2 => ?_)
  · refine lv_aload_n hx hb dX9_stepOf_18 rfl (lv_at hl 0 rfl) ?_
    refine va_get (D := D) (ci := 9) (v := .ref kd) (C := RX9) (T := TX9) (N := 31) hx hb hts (fun _ h9 => List.mem_cons_of_mem _ (List.mem_append_right _ h9)) hown hK hP 0 rfl rfl 6 (by decide) (hts (.fieldLink RX9 19 "FontRunsModel" "kind" "[I") mw_X9_stepOf_w_0) (fun _ h9 => h9) rfl dX9_stepOf_19 ?_
    refine lv_iload_n hx hb dX9_stepOf_22 rfl (lv_at hl 1 rfl) ?_
    refine kz_iald hx hb hK hP 1 0 rfl rfl (by omega) dX9_stepOf_23 (fun z_3 rz_3 ez_3 => ?_)
    have q9 : z_1 = z_3 := (zI_eq rz_1 rz_3).mp (ez_1.symm.trans ez_3)
    subst q9
    refine lv_iconst (v := zI 1) hx hb dX9_stepOf_24 rfl ?_
    refine kz_icmp_ne (tgt := 39) hx hb dX9_stepOf_25 (by decide) (by omega) (by omega) (fun c_4 => ?_) (fun c_4 => ?_)
    · refine lv_iconst (v := zI 2) hx hb dX9_stepOf_39 rfl ?_
      refine lv_aload_n hx hb dX9_stepOf_40 rfl (lv_at hl 0 rfl) ?_
      refine va_get (D := D) (ci := 9) (v := .ref wd) (C := RX9) (T := TX9) (N := 31) hx hb hts (fun _ h9 => List.mem_cons_of_mem _ (List.mem_append_right _ h9)) hown hK hP 0 rfl rfl 7 (by decide) (hts (.fieldLink RX9 22 "FontRunsModel" "width" "[I") mw_X9_stepOf_w_1) (fun _ h9 => h9) rfl dX9_stepOf_41 ?_
      refine lv_iload_n hx hb dX9_stepOf_44 rfl (lv_at hl 1 rfl) ?_
      refine kz_iald hx hb hK hP 2 1 rfl rfl (by omega) dX9_stepOf_45 (fun z_5 rz_5 ez_5 => ?_)
      refine kz_imul hx hb dX9_stepOf_46 ?_
      refine kz_any (fun z_6 rz_6 ez_6 => ?_)
      exact W.iret (v := (zI z_6)) hx hb hr (fun t ht hW => QcP_of (by omega) (by rw [ez_1, ez_5]; first | exact kStM_0 (by omega) ez_6 | exact kStM_1 (by omega) ez_6 | exact kStM_2 (by omega) (by omega) ez_6) ht) (fun _ h9 => by cases h9) dX9_stepOf_47
    · refine lv_aload_n hx hb dX9_stepOf_28 rfl (lv_at hl 0 rfl) ?_
      refine va_get (D := D) (ci := 9) (v := .ref wd) (C := RX9) (T := TX9) (N := 31) hx hb hts (fun _ h9 => List.mem_cons_of_mem _ (List.mem_append_right _ h9)) hown hK hP 0 rfl rfl 7 (by decide) (hts (.fieldLink RX9 22 "FontRunsModel" "width" "[I") mw_X9_stepOf_w_1) (fun _ h9 => h9) rfl dX9_stepOf_29 ?_
      refine lv_iload_n hx hb dX9_stepOf_32 rfl (lv_at hl 1 rfl) ?_
      refine kz_iald hx hb hK hP 2 1 rfl rfl (by omega) dX9_stepOf_33 (fun z_7 rz_7 ez_7 => ?_)
      refine lv_iconst (v := zI 1) hx hb dX9_stepOf_34 rfl ?_
      refine kz_iadd hx hb dX9_stepOf_35 ?_
      refine lv_goto (tgt := 47) hx hb dX9_stepOf_36 (by decide) ?_
      refine kz_any (fun z_8 rz_8 ez_8 => ?_)
      exact W.iret (v := (zI z_8)) hx hb hr (fun t ht hW => QcP_of (by omega) (by rw [ez_1, ez_7]; first | exact kStM_0 (by omega) ez_8 | exact kStM_1 (by omega) ez_8 | exact kStM_2 (by omega) (by omega) ez_8) ht) (fun _ h9 => by cases h9) dX9_stepOf_47
  · refine lv_aload_n hx hb dX9_stepOf_9 rfl (lv_at hl 0 rfl) ?_
    refine va_get (D := D) (ci := 9) (v := .ref wd) (C := RX9) (T := TX9) (N := 31) hx hb hts (fun _ h9 => List.mem_cons_of_mem _ (List.mem_append_right _ h9)) hown hK hP 0 rfl rfl 7 (by decide) (hts (.fieldLink RX9 22 "FontRunsModel" "width" "[I") mw_X9_stepOf_w_1) (fun _ h9 => h9) rfl dX9_stepOf_10 ?_
    refine lv_iload_n hx hb dX9_stepOf_13 rfl (lv_at hl 1 rfl) ?_
    refine kz_iald hx hb hK hP 2 1 rfl rfl (by omega) dX9_stepOf_14 (fun z_9 rz_9 ez_9 => ?_)
    refine lv_goto (tgt := 47) hx hb dX9_stepOf_15 (by decide) ?_
    refine kz_any (fun z_10 rz_10 ez_10 => ?_)
    exact W.iret (v := (zI z_10)) hx hb hr (fun t ht hW => QcP_of (by omega) (by rw [ez_1, ez_9]; first | exact kStM_0 (by omega) ez_10 | exact kStM_1 (by omega) ez_10 | exact kStM_2 (by omega) (by omega) ez_10) ht) (fun _ h9 => by cases h9) dX9_stepOf_47
set_option maxRecDepth 20000 in
theorem mw_X9_placeOf_w_0 : (.fieldLink RX9 28 "FontRunsModel" "preference" "[I" : Cond) ∈ wsX9_placeOf := List.mem_cons_of_mem _ (List.mem_append_left _ (List.mem_of_getElem? (i := 0) rfl))
set_option maxHeartbeats 4000000 in
set_option maxRecDepth 100000 in
theorem c_X9_placeOf_w (l : Launch) (D : va_G) (sz : Nat) (f : Int) (h0 : Nat) (fa : Int) (tc : Int) (so : Nat) (sl : Nat) (ce : Nat) (fn : Int) (kd : Nat) (wd : Nat) (hs : Nat) (pf : Nat) (lt : Nat) (mn : Int) (wg : Nat) (ta : Int) (ck : Int64) (at9 : Int) (rfn : Int) (rk : Nat) (rw : Nat) (rh : Nat) (cl : Int) (sa : Nat) (fi : Nat) (bo : Int) (ch : Nat) (cn : Nat) (ad : Int) (ru : Int) (kp : Nat) (dn : Int) (rfa : Nat) (c_pf : ClassId) (f_pf : Nat → Int32) (q0 : 0 ≤ f ∧ f < fn) (q1 : 0 ≤ fn ∧ fn ≤ 4) (q2 : kPm f_pf fn) : Met l yX9_placeOf wsX9_placeOf ({ frames := 0, cells := 0, slots := 0, locals := 0 }) (kPre [.ref h0, .int (zI f)] D [(h0, .inr (9, [.int (zI fa), .int (zI tc), .ref so, .ref sl, .ref ce, .int (zI fn), .ref kd, .ref wd, .ref hs, .ref pf, .ref lt, .int (zI mn), .ref wg, .int (zI ta), .long ck, .int (zI at9), .int (zI rfn), .ref rk, .ref rw, .ref rh, .int (zI cl), .ref sa, .ref fi, .int (zI bo), .ref ch, .ref cn, .int (zI ad), .int (zI ru), .ref kp, .int (zI dn), .ref rfa])), (pf, .inl (c_pf, 4, .inl f_pf))] [(c_pf, .int)] sz) (QcP (fun rz => (0 ≤ rz ∧ rz < fn) ∧ f_pf rz.toNat = zI f ∧ kNo f_pf f rz)) 0 0 (fun _ => False) := by
  refine Met.ofW (cc := cX9_placeOf) (maxL := 3) (ret := (some .int)) (by decide) rfl ?_
  intro p e s m args below meth c s₁ B hml hv
  obtain ⟨rfl, hsz, hP, hK, hD0, hN⟩ := hv
  have hx := B.exec
  have hb := B.bytes
  have hr := B.returns
  have hts := atoms_spec (ws := wsX9_placeOf) B.pre
  have hown : s.vm.findClass RX9 = some m.cls := findClass_of_methodNamed B.named
  have hlocks := B.notSynchronized
  subst hsz
  have hD := hD0
  have hP : va_P D vwCl [(h0, .inr (9, [.int (zI fa), .int (zI tc), .ref so, .ref sl, .ref ce, .int (zI fn), .ref kd, .ref wd, .ref hs, .ref pf, .ref lt, .int (zI mn), .ref wg, .int (zI ta), .long ck, .int (zI at9), .int (zI rfn), .ref rk, .ref rw, .ref rh, .int (zI cl), .ref sa, .ref fi, .int (zI bo), .ref ch, .ref cn, .int (zI ad), .int (zI ru), .ref kp, .int (zI dn), .ref rfa])), (pf, .inl (c_pf, 4, .inl f_pf))] s.heap := hP
  have hl := lv_entry ([.ref h0, .int (zI f)]) (n := 3) (Nat.le_of_ble_eq_true rfl)
  rw [lg_entry_eq]
  generalize (lg_sl ([.ref h0, .int (zI f)]) ++ List.replicate (3 - (lg_sl ([.ref h0, .int (zI f)])).length) Slot.unset).toArray = ls at hl ⊢
  have hl : lv_has ls 3 [(0, .ref h0), (1, .int (zI f))] := hl
  refine lv_iconst (v := zI 0) hx hb dX9_placeOf_0 rfl ?_
  refine lv_istore_n (lv' := [(2, .int (zI 0)), (0, .ref h0), (1, .int (zI f))]) hx hb dX9_placeOf_1 rfl hl (by decide) rfl (fun ls hl => ?_)
  refine k_loopM (I := fun n9 H locs ls => ∃ (jk : Int), n9 = (fn - jk).toNat ∧ (kHas f_pf fn f jk) ∧ (kNo f_pf f jk) ∧ H = s.heap ∧ locs = [] ∧ lv_has ls 3 [(2, .int (zI jk)), (0, .ref h0), (1, .int (zI f))]) ?_ _ ⟨0, rfl, (kHas_0 q2 (by omega) (by omega)), kNo_0, rfl, rfl, hl⟩
  intro n2 ih2 H locs ls hI
  obtain ⟨jk, en2, v_20, v_21, eH, eL, hl⟩ := hI
  subst eH
  subst eL
  have b2 := kHas_lt v_20
  refine lv_aload_n hx hb dX9_placeOf_2 rfl (lv_at hl 1 rfl) ?_
  refine va_get (D := D) (ci := 9) (v := .ref pf) (C := RX9) (T := TX9) (N := 31) hx hb hts (fun _ h9 => List.mem_cons_of_mem _ (List.mem_append_right _ h9)) hown hK hP 0 rfl rfl 9 (by decide) (hts (.fieldLink RX9 28 "FontRunsModel" "preference" "[I") mw_X9_placeOf_w_0) (fun _ h9 => h9) rfl dX9_placeOf_3 ?_
  refine lv_iload_n hx hb dX9_placeOf_6 rfl (lv_at hl 0 rfl) ?_
  refine kz_iald hx hb hK hP 1 0 rfl rfl (by omega) dX9_placeOf_7 (fun z_1 rz_1 ez_1 => ?_)
  refine lv_iload_n hx hb dX9_placeOf_8 rfl (lv_at hl 2 rfl) ?_
  refine kz_icmp_eq (tgt := 18) hx hb dX9_placeOf_9 (by decide) (by omega) (by omega) (fun c_2 => ?_) (fun c_2 => ?_)
  · refine lv_iload_n hx hb dX9_placeOf_18 rfl (lv_at hl 0 rfl) ?_
    exact W.iret (v := (zI jk)) hx hb hr (fun t ht hW => QcP_of (by omega) ⟨by omega, by rw [ez_1, c_2], v_21⟩ ht) (fun _ h9 => by cases h9) dX9_placeOf_19
  · refine lv_iinc (v := (zI (jk + 1))) (lv' := [(2, .int (zI (jk + 1))), (0, .ref h0), (1, .int (zI f))]) hx hb dX9_placeOf_12 hl (k := 0) rfl (kz_inc _ 1) (by decide) rfl (fun ls hl => ?_)
    refine lv_goto (tgt := 2) hx hb dX9_placeOf_15 (by decide) ?_
    exact ih2 _ (by omega) _ _ _ ⟨(jk + 1), rfl, (kHas_1 v_20 rz_1 (by omega) ez_1 c_2), (kNo_s v_21 (by omega) rz_1 (by omega) ez_1 (by omega)), rfl, rfl, lv_sub hl [0, 1, 2] rfl⟩
set_option maxRecDepth 20000 in
theorem mw_X9_comesFirst_w_0 : (.fieldLink RX9 28 "FontRunsModel" "preference" "[I" : Cond) ∈ wsX9_comesFirst := List.mem_cons_of_mem _ (List.mem_append_left _ (List.mem_of_getElem? (i := 0) rfl))
theorem ax_X9_comesFirst_w_0 {e0 e1 : Nat × va_E} : ([0, 1] : List Nat).map (fun i => ([e0, e1] : va_W)[i]?) = ([e0, e1] : va_W).map some := rfl
set_option maxHeartbeats 4000000 in
set_option maxRecDepth 100000 in
theorem c_X9_comesFirst_w (l : Launch) (D : va_G) (sz : Nat) (f : Int) (h0 : Nat) (fa : Int) (tc : Int) (so : Nat) (sl : Nat) (ce : Nat) (fn : Int) (kd : Nat) (wd : Nat) (hs : Nat) (pf : Nat) (lt : Nat) (mn : Int) (wg : Nat) (ta : Int) (ck : Int64) (at9 : Int) (rfn : Int) (rk : Nat) (rw : Nat) (rh : Nat) (cl : Int) (sa : Nat) (fi : Nat) (bo : Int) (ch : Nat) (cn : Nat) (ad : Int) (ru : Int) (kp : Nat) (dn : Int) (rfa : Nat) (c_pf : ClassId) (f_pf : Nat → Int32) (q0 : 0 ≤ f ∧ f < fn) (q1 : 0 ≤ fn ∧ fn ≤ 4) (q2 : kPm f_pf fn) : Met l yX9_comesFirst wsX9_comesFirst ({ frames := 1, cells := 0, slots := 0, locals := 22 }) (kPre [.ref h0, .int (zI f)] D [(h0, .inr (9, [.int (zI fa), .int (zI tc), .ref so, .ref sl, .ref ce, .int (zI fn), .ref kd, .ref wd, .ref hs, .ref pf, .ref lt, .int (zI mn), .ref wg, .int (zI ta), .long ck, .int (zI at9), .int (zI rfn), .ref rk, .ref rw, .ref rh, .int (zI cl), .ref sa, .ref fi, .int (zI bo), .ref ch, .ref cn, .int (zI ad), .int (zI ru), .ref kp, .int (zI dn), .ref rfa])), (pf, .inl (c_pf, 4, .inl f_pf))] [(c_pf, .int)] sz) (kQS (fun rz t => ∃ (u_f_pf : Nat → Int32), (kPm u_f_pf fn) ∧ ((0 ≤ rz ∧ rz < fn) ∧ f_pf rz.toNat = zI f ∧ kNo f_pf f rz) ∧ (u_f_pf = upd (kMv f_pf rz 0) 0 (zI f)) ∧ va_P D vwCl [(h0, .inr (9, [.int (zI fa), .int (zI tc), .ref so, .ref sl, .ref ce, .int (zI fn), .ref kd, .ref wd, .ref hs, .ref pf, .ref lt, .int (zI mn), .ref wg, .int (zI ta), .long ck, .int (zI at9), .int (zI rfn), .ref rk, .ref rw, .ref rh, .int (zI cl), .ref sa, .ref fi, .int (zI bo), .ref ch, .ref cn, .int (zI ad), .int (zI ru), .ref kp, .int (zI dn), .ref rfa])), (pf, .inl (c_pf, 4, .inl u_f_pf))] t.heap ∧ va_D (va_A [(h0, .inr (9, [.int (zI fa), .int (zI tc), .ref so, .ref sl, .ref ce, .int (zI fn), .ref kd, .ref wd, .ref hs, .ref pf, .ref lt, .int (zI mn), .ref wg, .int (zI ta), .long ck, .int (zI at9), .int (zI rfn), .ref rk, .ref rw, .ref rh, .int (zI cl), .ref sa, .ref fi, .int (zI bo), .ref ch, .ref cn, .int (zI ad), .int (zI ru), .ref kp, .int (zI dn), .ref rfa])), (pf, .inl (c_pf, 4, .inl f_pf))] sz) [(h0, .inr (9, [.int (zI fa), .int (zI tc), .ref so, .ref sl, .ref ce, .int (zI fn), .ref kd, .ref wd, .ref hs, .ref pf, .ref lt, .int (zI mn), .ref wg, .int (zI ta), .long ck, .int (zI at9), .int (zI rfn), .ref rk, .ref rw, .ref rh, .int (zI cl), .ref sa, .ref fi, .int (zI bo), .ref ch, .ref cn, .int (zI ad), .int (zI ru), .ref kp, .int (zI dn), .ref rfa])), (pf, .inl (c_pf, 4, .inl u_f_pf))]) (va_A [(h0, .inr (9, [.int (zI fa), .int (zI tc), .ref so, .ref sl, .ref ce, .int (zI fn), .ref kd, .ref wd, .ref hs, .ref pf, .ref lt, .int (zI mn), .ref wg, .int (zI ta), .long ck, .int (zI at9), .int (zI rfn), .ref rk, .ref rw, .ref rh, .int (zI cl), .ref sa, .ref fi, .int (zI bo), .ref ch, .ref cn, .int (zI ad), .int (zI ru), .ref kp, .int (zI dn), .ref rfa])), (pf, .inl (c_pf, 4, .inl f_pf))] sz)) 0 0 (va_A [(h0, .inr (9, [.int (zI fa), .int (zI tc), .ref so, .ref sl, .ref ce, .int (zI fn), .ref kd, .ref wd, .ref hs, .ref pf, .ref lt, .int (zI mn), .ref wg, .int (zI ta), .long ck, .int (zI at9), .int (zI rfn), .ref rk, .ref rw, .ref rh, .int (zI cl), .ref sa, .ref fi, .int (zI bo), .ref ch, .ref cn, .int (zI ad), .int (zI ru), .ref kp, .int (zI dn), .ref rfa])), (pf, .inl (c_pf, 4, .inl f_pf))] sz) := by
  refine Met.ofW (cc := cX9_comesFirst) (maxL := 4) (ret := (some .int)) (by decide) rfl ?_
  intro p e s m args below meth c s₁ B hml hv
  obtain ⟨rfl, hsz, hP, hK, hD0, hN⟩ := hv
  have hx := B.exec
  have hb := B.bytes
  have hr := B.returns
  have hts := atoms_spec (ws := wsX9_comesFirst) B.pre
  have hown : s.vm.findClass RX9 = some m.cls := findClass_of_methodNamed B.named
  have hlocks := B.notSynchronized
  subst hsz
  have hD := hD0.self (sz := s.heap.size)
  generalize hAe : va_A [(h0, .inr (9, [.int (zI fa), .int (zI tc), .ref so, .ref sl, .ref ce, .int (zI fn), .ref kd, .ref wd, .ref hs, .ref pf, .ref lt, .int (zI mn), .ref wg, .int (zI ta), .long ck, .int (zI at9), .int (zI rfn), .ref rk, .ref rw, .ref rh, .int (zI cl), .ref sa, .ref fi, .int (zI bo), .ref ch, .ref cn, .int (zI ad), .int (zI ru), .ref kp, .int (zI dn), .ref rfa])), (pf, .inl (c_pf, 4, .inl f_pf))] s.heap.size = A at hD ⊢
  have hA : ∀ q : Nat, s.heap.size ≤ q → A q := fun q h => by rw [← hAe]; exact Or.inr h
  have hS : va_S A s.heap s.heap [] := va_S.rf
  have hP : va_P D vwCl [(h0, .inr (9, [.int (zI fa), .int (zI tc), .ref so, .ref sl, .ref ce, .int (zI fn), .ref kd, .ref wd, .ref hs, .ref pf, .ref lt, .int (zI mn), .ref wg, .int (zI ta), .long ck, .int (zI at9), .int (zI rfn), .ref rk, .ref rw, .ref rh, .int (zI cl), .ref sa, .ref fi, .int (zI bo), .ref ch, .ref cn, .int (zI ad), .int (zI ru), .ref kp, .int (zI dn), .ref rfa])), (pf, .inl (c_pf, 4, .inl f_pf))] s.heap := hP
  have hl := lv_entry ([.ref h0, .int (zI f)]) (n := 4) (Nat.le_of_ble_eq_true rfl)
  rw [lg_entry_eq]
  generalize (lg_sl ([.ref h0, .int (zI f)]) ++ List.replicate (4 - (lg_sl ([.ref h0, .int (zI f)])).length) Slot.unset).toArray = ls at hl ⊢
  have hl : lv_has ls 4 [(0, .ref h0), (1, .int (zI f))] := hl
  refine lv_aload_n hx hb dX9_comesFirst_0 rfl (lv_at hl 0 rfl) ?_
  refine lv_iload_n hx hb dX9_comesFirst_1 rfl (lv_at hl 1 rfl) ?_
  refine k_callP (va_runV (As := [.int (zI f)]) (rest := []) ⟨hx, hb, hml, hown, hts⟩ (c_X9_placeOf_w l D s.heap.size (f := f) (h0 := h0) (fa := fa) (tc := tc) (so := so) (sl := sl) (ce := ce) (fn := fn) (kd := kd) (wd := wd) (hs := hs) (pf := pf) (lt := lt) (mn := mn) (wg := wg) (ta := ta) (ck := ck) (at9 := at9) (rfn := rfn) (rk := rk) (rw := rw) (rh := rh) (cl := cl) (sa := sa) (fi := fi) (bo := bo) (ch := ch) (cn := cn) (ad := ad) (ru := ru) (kp := kp) (dn := dn) (rfa := rfa) (c_pf := c_pf) (f_pf := f_pf) q0 q1 q2) (cwV 1 hts gX9_comesFirst_X9_placeOf rfl rfl rfl (by decide +kernel) ⟨Nat.le_of_ble_eq_true rfl, Nat.le_of_ble_eq_true rfl⟩) (kPreV hP (kD0 hD) hK hN [0, 1] [0] ax_X9_comesFirst_w_0 rfl (by decide +kernel) 0 9 rfl rfl) rfl rfl hl.1 rfl (lv_room (Nat.le_of_ble_eq_true rfl)) dX9_comesFirst_2 ⟨Nat.le_of_ble_eq_true rfl, Nat.le_of_ble_eq_true rfl⟩) (fun z_1 rz_1 h_2 => ?_)
  refine lv_istore_n (lv' := [(2, .int (zI z_1)), (0, .ref h0), (1, .int (zI f))]) hx hb dX9_comesFirst_5 rfl hl (by decide) rfl (fun ls hl => ?_)
  refine lv_iload_n hx hb dX9_comesFirst_6 rfl (lv_at hl 0 rfl) ?_
  refine lv_istore_n (lv' := [(3, .int (zI z_1)), (2, .int (zI z_1)), (0, .ref h0), (1, .int (zI f))]) hx hb dX9_comesFirst_7 rfl hl (by decide) rfl (fun ls hl => ?_)
  refine k_loopM (I := fun n9 H locs ls => ∃ (jk : Int) (ja : Nat → Int32), n9 = (jk).toNat ∧ (0 ≤ jk ∧ jk ≤ z_1) ∧ (ja = kMv f_pf z_1 jk) ∧ va_P D vwCl [(h0, .inr (9, [.int (zI fa), .int (zI tc), .ref so, .ref sl, .ref ce, .int (zI fn), .ref kd, .ref wd, .ref hs, .ref pf, .ref lt, .int (zI mn), .ref wg, .int (zI ta), .long ck, .int (zI at9), .int (zI rfn), .ref rk, .ref rw, .ref rh, .int (zI cl), .ref sa, .ref fi, .int (zI bo), .ref ch, .ref cn, .int (zI ad), .int (zI ru), .ref kp, .int (zI dn), .ref rfa])), (pf, .inl (c_pf, 4, .inl ja))] H ∧ va_D A [(h0, .inr (9, [.int (zI fa), .int (zI tc), .ref so, .ref sl, .ref ce, .int (zI fn), .ref kd, .ref wd, .ref hs, .ref pf, .ref lt, .int (zI mn), .ref wg, .int (zI ta), .long ck, .int (zI at9), .int (zI rfn), .ref rk, .ref rw, .ref rh, .int (zI cl), .ref sa, .ref fi, .int (zI bo), .ref ch, .ref cn, .int (zI ad), .int (zI ru), .ref kp, .int (zI dn), .ref rfa])), (pf, .inl (c_pf, 4, .inl ja))] ∧ va_S A s.heap H locs ∧ lv_has ls 4 [(3, .int (zI jk)), (2, .int (zI z_1)), (0, .ref h0), (1, .int (zI f))]) ?_ _ ⟨z_1, f_pf, rfl, (by omega), (kMv_0 _ _).symm, hP, hD, hS, hl⟩
  intro n8 ih8 H locs ls hI
  obtain ⟨jk, ja, en8, v_80, v_81, hP, hD, hS, hl⟩ := hI
  refine lv_iload_n hx hb dX9_comesFirst_8 rfl (lv_at hl 0 rfl) ?_
  refine kz_if_le (tgt := 32) hx hb dX9_comesFirst_9 (by decide) (by omega) (fun c_3 => ?_) (fun c_3 => ?_)
  · refine lv_aload_n hx hb dX9_comesFirst_32 rfl (lv_at hl 2 rfl) ?_
    refine va_get (D := D) (ci := 9) (v := .ref pf) (C := RX9) (T := TX9) (N := 31) hx hb hts (fun _ h9 => List.mem_cons_of_mem _ (List.mem_append_right _ h9)) hown hK hP 0 rfl rfl 9 (by decide) (hts (.fieldLink RX9 28 "FontRunsModel" "preference" "[I") mw_X9_comesFirst_w_0) (fun _ h9 => h9) rfl dX9_comesFirst_33 ?_
    refine lv_iconst (v := zI 0) hx hb dX9_comesFirst_36 rfl ?_
    refine lv_iload_n hx hb dX9_comesFirst_37 rfl (lv_at hl 3 rfl) ?_
    refine kz_iast hx hb hK hP hD hS 1 0 rfl rfl (by omega) dX9_comesFirst_38 (fun H locs hP hD hS => ?_)
    have hP : va_P D vwCl [(h0, .inr (9, [.int (zI fa), .int (zI tc), .ref so, .ref sl, .ref ce, .int (zI fn), .ref kd, .ref wd, .ref hs, .ref pf, .ref lt, .int (zI mn), .ref wg, .int (zI ta), .long ck, .int (zI at9), .int (zI rfn), .ref rk, .ref rw, .ref rh, .int (zI cl), .ref sa, .ref fi, .int (zI bo), .ref ch, .ref cn, .int (zI ad), .int (zI ru), .ref kp, .int (zI dn), .ref rfa])), (pf, .inl (c_pf, 4, .inl (upd ja (0 : Int).toNat (zI f))))] H := hP
    have hD : va_D A [(h0, .inr (9, [.int (zI fa), .int (zI tc), .ref so, .ref sl, .ref ce, .int (zI fn), .ref kd, .ref wd, .ref hs, .ref pf, .ref lt, .int (zI mn), .ref wg, .int (zI ta), .long ck, .int (zI at9), .int (zI rfn), .ref rk, .ref rw, .ref rh, .int (zI cl), .ref sa, .ref fi, .int (zI bo), .ref ch, .ref cn, .int (zI ad), .int (zI ru), .ref kp, .int (zI dn), .ref rfa])), (pf, .inl (c_pf, 4, .inl (upd ja (0 : Int).toNat (zI f))))] := hD
    generalize ef_4 : upd ja (0 : Int).toNat (zI f) = f_4 at hP hD
    refine lv_iload_n hx hb dX9_comesFirst_39 rfl (lv_at hl 1 rfl) ?_
    have hP9 := hP.sub (ws' := [(h0, .inr (9, [.int (zI fa), .int (zI tc), .ref so, .ref sl, .ref ce, .int (zI fn), .ref kd, .ref wd, .ref hs, .ref pf, .ref lt, .int (zI mn), .ref wg, .int (zI ta), .long ck, .int (zI at9), .int (zI rfn), .ref rk, .ref rw, .ref rh, .int (zI cl), .ref sa, .ref fi, .int (zI bo), .ref ch, .ref cn, .int (zI ad), .int (zI ru), .ref kp, .int (zI dn), .ref rfa])), (pf, .inl (c_pf, 4, .inl f_4))]) [0, 1] rfl
    have hD9 := hD.sub (ws' := [(h0, .inr (9, [.int (zI fa), .int (zI tc), .ref so, .ref sl, .ref ce, .int (zI fn), .ref kd, .ref wd, .ref hs, .ref pf, .ref lt, .int (zI mn), .ref wg, .int (zI ta), .long ck, .int (zI at9), .int (zI rfn), .ref rk, .ref rw, .ref rh, .int (zI cl), .ref sa, .ref fi, .int (zI bo), .ref ch, .ref cn, .int (zI ad), .int (zI ru), .ref kp, .int (zI dn), .ref rfa])), (pf, .inl (c_pf, 4, .inl f_4))]) [0, 1] (by decide +kernel) rfl
    exact W.iret (v := (zI z_1)) hx hb hr (fun t ht hW => kQS_of (by omega) ⟨f_4, (by rw [← ef_4, v_81, show jk = 0 by omega]; exact kPm_mv q2 (by omega) (by omega) (by omega) h_2.2.1), h_2, (kMvE ef_4 v_81 (by omega)), by rw [ht]; exact hP9, hD9⟩ (hS.F ht)) hS.2.2 dX9_comesFirst_40
  · refine lv_aload_n hx hb dX9_comesFirst_12 rfl (lv_at hl 2 rfl) ?_
    refine va_get (D := D) (ci := 9) (v := .ref pf) (C := RX9) (T := TX9) (N := 31) hx hb hts (fun _ h9 => List.mem_cons_of_mem _ (List.mem_append_right _ h9)) hown hK hP 0 rfl rfl 9 (by decide) (hts (.fieldLink RX9 28 "FontRunsModel" "preference" "[I") mw_X9_comesFirst_w_0) (fun _ h9 => h9) rfl dX9_comesFirst_13 ?_
    refine lv_iload_n hx hb dX9_comesFirst_16 rfl (lv_at hl 0 rfl) ?_
    refine lv_aload_n hx hb dX9_comesFirst_17 rfl (lv_at hl 2 rfl) ?_
    refine va_get (D := D) (ci := 9) (v := .ref pf) (C := RX9) (T := TX9) (N := 31) hx hb hts (fun _ h9 => List.mem_cons_of_mem _ (List.mem_append_right _ h9)) hown hK hP 0 rfl rfl 9 (by decide) (hts (.fieldLink RX9 28 "FontRunsModel" "preference" "[I") mw_X9_comesFirst_w_0) (fun _ h9 => h9) rfl dX9_comesFirst_18 ?_
    refine lv_iload_n hx hb dX9_comesFirst_21 rfl (lv_at hl 0 rfl) ?_
    refine lv_iconst (v := zI 1) hx hb dX9_comesFirst_22 rfl ?_
    refine kz_isub hx hb dX9_comesFirst_23 ?_
    refine kz_iald hx hb hK hP 1 0 rfl rfl (by omega) dX9_comesFirst_24 (fun z_5 rz_5 ez_5 => ?_)
    refine kz_iast hx hb hK hP hD hS 1 0 rfl rfl (by omega) dX9_comesFirst_25 (fun H locs hP hD hS => ?_)
    have hP : va_P D vwCl [(h0, .inr (9, [.int (zI fa), .int (zI tc), .ref so, .ref sl, .ref ce, .int (zI fn), .ref kd, .ref wd, .ref hs, .ref pf, .ref lt, .int (zI mn), .ref wg, .int (zI ta), .long ck, .int (zI at9), .int (zI rfn), .ref rk, .ref rw, .ref rh, .int (zI cl), .ref sa, .ref fi, .int (zI bo), .ref ch, .ref cn, .int (zI ad), .int (zI ru), .ref kp, .int (zI dn), .ref rfa])), (pf, .inl (c_pf, 4, .inl (upd ja (jk).toNat (zI z_5))))] H := hP
    have hD : va_D A [(h0, .inr (9, [.int (zI fa), .int (zI tc), .ref so, .ref sl, .ref ce, .int (zI fn), .ref kd, .ref wd, .ref hs, .ref pf, .ref lt, .int (zI mn), .ref wg, .int (zI ta), .long ck, .int (zI at9), .int (zI rfn), .ref rk, .ref rw, .ref rh, .int (zI cl), .ref sa, .ref fi, .int (zI bo), .ref ch, .ref cn, .int (zI ad), .int (zI ru), .ref kp, .int (zI dn), .ref rfa])), (pf, .inl (c_pf, 4, .inl (upd ja (jk).toNat (zI z_5))))] := hD
    generalize ef_6 : upd ja (jk).toNat (zI z_5) = f_6 at hP hD
    refine lv_iinc (v := (zI (jk - 1))) (lv' := [(3, .int (zI (jk - 1))), (2, .int (zI z_1)), (0, .ref h0), (1, .int (zI f))]) hx hb dX9_comesFirst_26 hl (k := 0) rfl (kz_dec _ 1) (by decide) rfl (fun ls hl => ?_)
    refine lv_goto (tgt := 8) hx hb dX9_comesFirst_29 (by decide) ?_
    exact ih8 _ (by omega) _ _ _ ⟨(jk - 1), f_6, rfl, (by omega), (by rw [← ef_6, v_81]; exact kMv_1 f_pf (by omega) (by rw [← v_81]; exact ez_5)), hP, hD, hS, lv_sub hl [0, 1, 2, 3] rfl⟩
theorem dX9_prefer_0 : decode cX9_prefer 0 = .ok (.aload_n 0, 1) := kqo_2a kbl_X9_prefer (pc := 0) rfl
theorem dX9_prefer_1 : decode cX9_prefer 1 = .ok (.iload_n 1, 1) := kqo_1b kbl_X9_prefer (pc := 1) rfl
theorem dX9_prefer_2 : decode cX9_prefer 2 = .ok (.invokevirtual 120, 3) := kqo_b6 (x1 := 0) (x2 := 120) kbl_X9_prefer (pc := 2) rfl rfl
theorem dX9_prefer_5 : decode cX9_prefer 5 = .ok (.ifCond .ne 5, 3) := kqo_9a (x1 := 0) (x2 := 5) kbl_X9_prefer (pc := 5) rfl rfl
theorem dX9_prefer_8 : decode cX9_prefer 8 = .ok (.iconst (-1), 1) := kqo_02 kbl_X9_prefer (pc := 8) rfl
theorem dX9_prefer_9 : decode cX9_prefer 9 = .ok (.ireturn, 1) := kqo_ac kbl_X9_prefer (pc := 9) rfl
theorem dX9_prefer_10 : decode cX9_prefer 10 = .ok (.iconst 4, 1) := kqo_07 kbl_X9_prefer (pc := 10) rfl
theorem dX9_prefer_11 : decode cX9_prefer 11 = .ok (.istore_n 2, 1) := kqo_3d kbl_X9_prefer (pc := 11) rfl
theorem dX9_prefer_12 : decode cX9_prefer 12 = .ok (.iload_n 2, 1) := kqo_1c kbl_X9_prefer (pc := 12) rfl
theorem dX9_prefer_13 : decode cX9_prefer 13 = .ok (.ifCond .le 23, 3) := kqo_9e (x1 := 0) (x2 := 23) kbl_X9_prefer (pc := 13) rfl rfl
theorem dX9_prefer_16 : decode cX9_prefer 16 = .ok (.aload_n 0, 1) := kqo_2a kbl_X9_prefer (pc := 16) rfl
theorem dX9_prefer_17 : decode cX9_prefer 17 = .ok (.getfield 31, 3) := kqo_b4 (x1 := 0) (x2 := 31) kbl_X9_prefer (pc := 17) rfl rfl
theorem dX9_prefer_20 : decode cX9_prefer 20 = .ok (.iload_n 2, 1) := kqo_1c kbl_X9_prefer (pc := 20) rfl
theorem dX9_prefer_21 : decode cX9_prefer 21 = .ok (.aload_n 0, 1) := kqo_2a kbl_X9_prefer (pc := 21) rfl
theorem dX9_prefer_22 : decode cX9_prefer 22 = .ok (.getfield 31, 3) := kqo_b4 (x1 := 0) (x2 := 31) kbl_X9_prefer (pc := 22) rfl rfl
theorem dX9_prefer_25 : decode cX9_prefer 25 = .ok (.iload_n 2, 1) := kqo_1c kbl_X9_prefer (pc := 25) rfl
theorem dX9_prefer_26 : decode cX9_prefer 26 = .ok (.iconst 1, 1) := kqo_04 kbl_X9_prefer (pc := 26) rfl
theorem dX9_prefer_27 : decode cX9_prefer 27 = .ok (.isub, 1) := kqo_64 kbl_X9_prefer (pc := 27) rfl
theorem dX9_prefer_28 : decode cX9_prefer 28 = .ok (.iaload, 1) := kqo_2e kbl_X9_prefer (pc := 28) rfl
theorem dX9_prefer_29 : decode cX9_prefer 29 = .ok (.iastore, 1) := kqo_4f kbl_X9_prefer (pc := 29) rfl
theorem dX9_prefer_30 : decode cX9_prefer 30 = .ok (.iinc 2 (-1), 3) := kqo_84 (x1 := 2) (x2 := 255) kbl_X9_prefer (pc := 30) rfl rfl
theorem dX9_prefer_33 : decode cX9_prefer 33 = .ok (.goto (-21), 3) := kqo_a7 (x1 := 255) (x2 := 235) kbl_X9_prefer (pc := 33) rfl rfl
theorem dX9_prefer_36 : decode cX9_prefer 36 = .ok (.aload_n 0, 1) := kqo_2a kbl_X9_prefer (pc := 36) rfl
theorem dX9_prefer_37 : decode cX9_prefer 37 = .ok (.getfield 31, 3) := kqo_b4 (x1 := 0) (x2 := 31) kbl_X9_prefer (pc := 37) rfl rfl
theorem dX9_prefer_40 : decode cX9_prefer 40 = .ok (.iconst 0, 1) := kqo_03 kbl_X9_prefer (pc := 40) rfl
theorem dX9_prefer_41 : decode cX9_prefer 41 = .ok (.iload_n 1, 1) := kqo_1b kbl_X9_prefer (pc := 41) rfl
theorem dX9_prefer_42 : decode cX9_prefer 42 = .ok (.iastore, 1) := kqo_4f kbl_X9_prefer (pc := 42) rfl
theorem dX9_prefer_43 : decode cX9_prefer 43 = .ok (.aload_n 0, 1) := kqo_2a kbl_X9_prefer (pc := 43) rfl
theorem dX9_prefer_44 : decode cX9_prefer 44 = .ok (.iload_n 1, 1) := kqo_1b kbl_X9_prefer (pc := 44) rfl
theorem dX9_prefer_45 : decode cX9_prefer 45 = .ok (.invokevirtual 174, 3) := kqo_b6 (x1 := 0) (x2 := 174) kbl_X9_prefer (pc := 45) rfl rfl
theorem dX9_prefer_48 : decode cX9_prefer 48 = .ok (.ireturn, 1) := kqo_ac kbl_X9_prefer (pc := 48) rfl
set_option maxRecDepth 20000 in
theorem ggX9_prefer_X9_comesFirst : GoodIn wsX9_prefer wsX9_comesFirst := goodIn_4 _ (List.forall_mem_cons.mpr ⟨List.mem_cons_of_mem _ (List.mem_append_left _ (List.mem_of_getElem? (i := 10) rfl)), List.forall_mem_append.mpr ⟨List.forall_mem_cons.mpr ⟨List.mem_cons_of_mem _ (List.mem_append_left _ (List.mem_of_getElem? (i := 11) rfl)), List.forall_mem_cons.mpr ⟨List.mem_cons_of_mem _ (List.mem_append_left _ (List.mem_of_getElem? (i := 12) rfl)), List.forall_mem_cons.mpr ⟨List.mem_cons_of_mem _ (List.mem_append_left _ (List.mem_of_getElem? (i := 13) rfl)), List.forall_mem_cons.mpr ⟨List.mem_cons_of_mem _ (List.mem_append_left _ (List.mem_of_getElem? (i := 14) rfl)), List.forall_mem_cons.mpr ⟨List.mem_cons_of_mem _ (List.mem_append_left _ (List.mem_of_getElem? (i := 4) rfl)), List.forall_mem_cons.mpr ⟨List.mem_cons_of_mem _ (List.mem_append_left _ (List.mem_of_getElem? (i := 15) rfl)), fun _ h9 => absurd h9 List.not_mem_nil⟩⟩⟩⟩⟩⟩, fun w h9 => List.mem_cons_of_mem _ (List.mem_append_right _ (h9))⟩⟩) (by decide +kernel)
set_option maxRecDepth 20000 in
theorem gX9_prefer_X9_comesFirst : GoodIn wsX9_prefer (wsV RX9 174 RX9 yX9_comesFirst wsX9_comesFirst) := goodIn_app (goodIn_4 _ (List.forall_mem_cons.mpr ⟨List.mem_cons_of_mem _ (List.mem_append_left _ (List.mem_of_getElem? (i := 7) rfl)), List.forall_mem_cons.mpr ⟨List.mem_cons_of_mem _ (List.mem_append_left _ (List.mem_of_getElem? (i := 8) rfl)), List.forall_mem_cons.mpr ⟨List.mem_cons_of_mem _ (List.mem_append_left _ (List.mem_of_getElem? (i := 9) rfl)), List.forall_mem_cons.mpr ⟨List.mem_cons_of_mem _ (List.mem_append_left _ (List.mem_of_getElem? (i := 4) rfl)), fun _ h9 => absurd h9 List.not_mem_nil⟩⟩⟩⟩) (by decide +kernel)) ggX9_prefer_X9_comesFirst
set_option maxRecDepth 20000 in
theorem ggX9_prefer_X9_isFont : GoodIn wsX9_prefer wsX9_isFont := goodIn_4 _ (List.forall_mem_cons.mpr ⟨List.mem_cons_of_mem _ (List.mem_append_left _ (List.mem_of_getElem? (i := 5) rfl)), List.forall_mem_append.mpr ⟨List.forall_mem_cons.mpr ⟨List.mem_cons_of_mem _ (List.mem_append_left _ (List.mem_of_getElem? (i := 6) rfl)), fun _ h9 => absurd h9 List.not_mem_nil⟩, fun w h9 => List.mem_cons_of_mem _ (List.mem_append_right _ (h9))⟩⟩) (by decide +kernel)
set_option maxRecDepth 20000 in
theorem gX9_prefer_X9_isFont : GoodIn wsX9_prefer (wsV RX9 120 RX9 yX9_isFont wsX9_isFont) := goodIn_app (goodIn_4 _ (List.forall_mem_cons.mpr ⟨List.mem_cons_of_mem _ (List.mem_append_left _ (List.mem_of_getElem? (i := 1) rfl)), List.forall_mem_cons.mpr ⟨List.mem_cons_of_mem _ (List.mem_append_left _ (List.mem_of_getElem? (i := 2) rfl)), List.forall_mem_cons.mpr ⟨List.mem_cons_of_mem _ (List.mem_append_left _ (List.mem_of_getElem? (i := 3) rfl)), List.forall_mem_cons.mpr ⟨List.mem_cons_of_mem _ (List.mem_append_left _ (List.mem_of_getElem? (i := 4) rfl)), fun _ h9 => absurd h9 List.not_mem_nil⟩⟩⟩⟩) (by decide +kernel)) ggX9_prefer_X9_isFont
set_option maxRecDepth 20000 in
theorem mw_X9_prefer_0 : (.fieldLink RX9 31 "FontRunsModel" "latest" "[I" : Cond) ∈ wsX9_prefer := List.mem_cons_of_mem _ (List.mem_append_left _ (List.mem_of_getElem? (i := 0) rfl))
theorem ax_X9_prefer_0 {e0 e1 e2 : Nat × va_E} : ([0] : List Nat).map (fun i => ([e0, e1, e2] : va_W)[i]?) = ([e0] : va_W).map some := rfl
theorem ax_X9_prefer_1 {e0 e1 e2 : Nat × va_E} : ([0, 1] : List Nat).map (fun i => ([e0, e1, e2] : va_W)[i]?) = ([e0, e1] : va_W).map some := rfl
theorem ax_X9_prefer_2 {e0 e1 e2 : Nat × va_E} : ([2] : List Nat).map (fun i => ([e0, e1, e2] : va_W)[i]?) = ([e2] : va_W).map some := rfl
theorem ax_X9_prefer_3 {D : va_G} {cl : List vw_C} {H : Heap} {e0 f0 f1 : Nat × va_E} (h : va_P D cl ((([e0] : va_W) ++ ([f0, f1] : va_W))) H) : va_P D cl (([e0, f0, f1] : va_W)) H := h
theorem ax_X9_prefer_4 {A : Nat → Prop} {e0 f0 f1 : Nat × va_E} (h : va_D A ((([e0] : va_W) ++ ([f0, f1] : va_W)))) : va_D A (([e0, f0, f1] : va_W)) := h
theorem ax_X9_prefer_5 {e0 e1 e2 : Nat × va_E} : ([1, 2, 0] : List Nat).map (fun i => ([e0, e1, e2] : va_W)[i]?) = ([e1, e2, e0] : va_W).map some := rfl
theorem ax_X9_prefer_6 {e0 e1 e2 : Nat × va_E} : ([0, 1, 2] : List Nat).map (fun i => ([e0, e1, e2] : va_W)[i]?) = ([e0, e1, e2] : va_W).map some := rfl
set_option maxHeartbeats 4000000 in
set_option maxRecDepth 100000 in
theorem c_X9_prefer (l : Launch) (D : va_G) (sz : Nat) (f : Int) (h0 : Nat) (fa : Int) (tc : Int) (so : Nat) (sl : Nat) (ce : Nat) (fn : Int) (kd : Nat) (wd : Nat) (hs : Nat) (pf : Nat) (lt : Nat) (mn : Int) (wg : Nat) (ta : Int) (ck : Int64) (at9 : Int) (rfn : Int) (rk : Nat) (rw : Nat) (rh : Nat) (cl : Int) (sa : Nat) (fi : Nat) (bo : Int) (ch : Nat) (cn : Nat) (ad : Int) (ru : Int) (kp : Nat) (dn : Int) (rfa : Nat) (c_pf : ClassId) (f_pf : Nat → Int32) (c_lt : ClassId) (f_lt : Nat → Int32) (q0 : rg f) (q1 : 0 ≤ fn ∧ fn ≤ 4) (q2 : kPm f_pf fn) : Met l yX9_prefer wsX9_prefer ({ frames := 2, cells := 0, slots := 0, locals := 45 }) (kPre [.ref h0, .int (zI f)] D [(h0, .inr (9, [.int (zI fa), .int (zI tc), .ref so, .ref sl, .ref ce, .int (zI fn), .ref kd, .ref wd, .ref hs, .ref pf, .ref lt, .int (zI mn), .ref wg, .int (zI ta), .long ck, .int (zI at9), .int (zI rfn), .ref rk, .ref rw, .ref rh, .int (zI cl), .ref sa, .ref fi, .int (zI bo), .ref ch, .ref cn, .int (zI ad), .int (zI ru), .ref kp, .int (zI dn), .ref rfa])), (pf, .inl (c_pf, 4, .inl f_pf)), (lt, .inl (c_lt, 5, .inl f_lt))] [(c_pf, .int), (c_lt, .int)] sz) (kQS (fun rz t => ∃ (u_f_pf : Nat → Int32) (u_f_lt : Nat → Int32), (kPm u_f_pf fn) ∧ (kPrM f fn f_pf u_f_pf f_lt u_f_lt rz) ∧ va_P D vwCl [(h0, .inr (9, [.int (zI fa), .int (zI tc), .ref so, .ref sl, .ref ce, .int (zI fn), .ref kd, .ref wd, .ref hs, .ref pf, .ref lt, .int (zI mn), .ref wg, .int (zI ta), .long ck, .int (zI at9), .int (zI rfn), .ref rk, .ref rw, .ref rh, .int (zI cl), .ref sa, .ref fi, .int (zI bo), .ref ch, .ref cn, .int (zI ad), .int (zI ru), .ref kp, .int (zI dn), .ref rfa])), (pf, .inl (c_pf, 4, .inl u_f_pf)), (lt, .inl (c_lt, 5, .inl u_f_lt))] t.heap ∧ va_D (va_A [(h0, .inr (9, [.int (zI fa), .int (zI tc), .ref so, .ref sl, .ref ce, .int (zI fn), .ref kd, .ref wd, .ref hs, .ref pf, .ref lt, .int (zI mn), .ref wg, .int (zI ta), .long ck, .int (zI at9), .int (zI rfn), .ref rk, .ref rw, .ref rh, .int (zI cl), .ref sa, .ref fi, .int (zI bo), .ref ch, .ref cn, .int (zI ad), .int (zI ru), .ref kp, .int (zI dn), .ref rfa])), (pf, .inl (c_pf, 4, .inl f_pf)), (lt, .inl (c_lt, 5, .inl f_lt))] sz) [(h0, .inr (9, [.int (zI fa), .int (zI tc), .ref so, .ref sl, .ref ce, .int (zI fn), .ref kd, .ref wd, .ref hs, .ref pf, .ref lt, .int (zI mn), .ref wg, .int (zI ta), .long ck, .int (zI at9), .int (zI rfn), .ref rk, .ref rw, .ref rh, .int (zI cl), .ref sa, .ref fi, .int (zI bo), .ref ch, .ref cn, .int (zI ad), .int (zI ru), .ref kp, .int (zI dn), .ref rfa])), (pf, .inl (c_pf, 4, .inl u_f_pf)), (lt, .inl (c_lt, 5, .inl u_f_lt))]) (va_A [(h0, .inr (9, [.int (zI fa), .int (zI tc), .ref so, .ref sl, .ref ce, .int (zI fn), .ref kd, .ref wd, .ref hs, .ref pf, .ref lt, .int (zI mn), .ref wg, .int (zI ta), .long ck, .int (zI at9), .int (zI rfn), .ref rk, .ref rw, .ref rh, .int (zI cl), .ref sa, .ref fi, .int (zI bo), .ref ch, .ref cn, .int (zI ad), .int (zI ru), .ref kp, .int (zI dn), .ref rfa])), (pf, .inl (c_pf, 4, .inl f_pf)), (lt, .inl (c_lt, 5, .inl f_lt))] sz)) 0 0 (va_A [(h0, .inr (9, [.int (zI fa), .int (zI tc), .ref so, .ref sl, .ref ce, .int (zI fn), .ref kd, .ref wd, .ref hs, .ref pf, .ref lt, .int (zI mn), .ref wg, .int (zI ta), .long ck, .int (zI at9), .int (zI rfn), .ref rk, .ref rw, .ref rh, .int (zI cl), .ref sa, .ref fi, .int (zI bo), .ref ch, .ref cn, .int (zI ad), .int (zI ru), .ref kp, .int (zI dn), .ref rfa])), (pf, .inl (c_pf, 4, .inl f_pf)), (lt, .inl (c_lt, 5, .inl f_lt))] sz) := by
  refine Met.ofW (cc := cX9_prefer) (maxL := 3) (ret := (some .int)) (by decide) rfl ?_
  intro p e s m args below meth c s₁ B hml hv
  obtain ⟨rfl, hsz, hP, hK, hD0, hN⟩ := hv
  have hx := B.exec
  have hb := B.bytes
  have hr := B.returns
  have hts := atoms_spec (ws := wsX9_prefer) B.pre
  have hown : s.vm.findClass RX9 = some m.cls := findClass_of_methodNamed B.named
  have hlocks := B.notSynchronized
  subst hsz
  have hD := hD0.self (sz := s.heap.size)
  generalize hAe : va_A [(h0, .inr (9, [.int (zI fa), .int (zI tc), .ref so, .ref sl, .ref ce, .int (zI fn), .ref kd, .ref wd, .ref hs, .ref pf, .ref lt, .int (zI mn), .ref wg, .int (zI ta), .long ck, .int (zI at9), .int (zI rfn), .ref rk, .ref rw, .ref rh, .int (zI cl), .ref sa, .ref fi, .int (zI bo), .ref ch, .ref cn, .int (zI ad), .int (zI ru), .ref kp, .int (zI dn), .ref rfa])), (pf, .inl (c_pf, 4, .inl f_pf)), (lt, .inl (c_lt, 5, .inl f_lt))] s.heap.size = A at hD ⊢
  have hA : ∀ q : Nat, s.heap.size ≤ q → A q := fun q h => by rw [← hAe]; exact Or.inr h
  have hS : va_S A s.heap s.heap [] := va_S.rf
  have hP : va_P D vwCl [(h0, .inr (9, [.int (zI fa), .int (zI tc), .ref so, .ref sl, .ref ce, .int (zI fn), .ref kd, .ref wd, .ref hs, .ref pf, .ref lt, .int (zI mn), .ref wg, .int (zI ta), .long ck, .int (zI at9), .int (zI rfn), .ref rk, .ref rw, .ref rh, .int (zI cl), .ref sa, .ref fi, .int (zI bo), .ref ch, .ref cn, .int (zI ad), .int (zI ru), .ref kp, .int (zI dn), .ref rfa])), (pf, .inl (c_pf, 4, .inl f_pf)), (lt, .inl (c_lt, 5, .inl f_lt))] s.heap := hP
  have hl := lv_entry ([.ref h0, .int (zI f)]) (n := 3) (Nat.le_of_ble_eq_true rfl)
  rw [lg_entry_eq]
  generalize (lg_sl ([.ref h0, .int (zI f)]) ++ List.replicate (3 - (lg_sl ([.ref h0, .int (zI f)])).length) Slot.unset).toArray = ls at hl ⊢
  have hl : lv_has ls 3 [(0, .ref h0), (1, .int (zI f))] := hl
  refine lv_aload_n hx hb dX9_prefer_0 rfl (lv_at hl 0 rfl) ?_
  refine lv_iload_n hx hb dX9_prefer_1 rfl (lv_at hl 1 rfl) ?_
  refine k_callR (va_runV (As := [.int (zI f)]) (rest := []) ⟨hx, hb, hml, hown, hts⟩ (c_X9_isFont l D s.heap.size (f := f) (h0 := h0) (fa := fa) (tc := tc) (so := so) (sl := sl) (ce := ce) (fn := fn) (kd := kd) (wd := wd) (hs := hs) (pf := pf) (lt := lt) (mn := mn) (wg := wg) (ta := ta) (ck := ck) (at9 := at9) (rfn := rfn) (rk := rk) (rw := rw) (rh := rh) (cl := cl) (sa := sa) (fi := fi) (bo := bo) (ch := ch) (cn := cn) (ad := ad) (ru := ru) (kp := kp) (dn := dn) (rfa := rfa) q0 q1) (cwV 1 hts gX9_prefer_X9_isFont rfl rfl rfl (by decide +kernel) ⟨Nat.le_of_ble_eq_true rfl, Nat.le_of_ble_eq_true rfl⟩) (kPreV hP (kD0 hD) hK hN [0] [] ax_X9_prefer_0 rfl (by decide +kernel) 0 9 rfl rfl) rfl rfl hl.1 rfl (lv_room (Nat.le_of_ble_eq_true rfl)) dX9_prefer_2 ⟨Nat.le_of_ble_eq_true rfl, Nat.le_of_ble_eq_true rfl⟩) ?_
  refine lv_if_ne (tgt := 10) hx hb dX9_prefer_5 (by decide) (fun c_1 => ?_) (fun c_1 => ?_)
  · have c_1 : 0 ≤ f ∧ f < fn := b01t c_1
    refine lv_iconst (v := zI 4) hx hb dX9_prefer_10 rfl ?_
    refine lv_istore_n (lv' := [(2, .int (zI 4)), (0, .ref h0), (1, .int (zI f))]) hx hb dX9_prefer_11 rfl hl (by decide) rfl (fun ls hl => ?_)
    refine k_loopM (I := fun n9 H locs ls => ∃ (jk : Int) (ja : Nat → Int32), n9 = (jk).toNat ∧ (0 ≤ jk ∧ jk ≤ 4) ∧ (ja = kMv f_lt 4 jk) ∧ va_P D vwCl [(h0, .inr (9, [.int (zI fa), .int (zI tc), .ref so, .ref sl, .ref ce, .int (zI fn), .ref kd, .ref wd, .ref hs, .ref pf, .ref lt, .int (zI mn), .ref wg, .int (zI ta), .long ck, .int (zI at9), .int (zI rfn), .ref rk, .ref rw, .ref rh, .int (zI cl), .ref sa, .ref fi, .int (zI bo), .ref ch, .ref cn, .int (zI ad), .int (zI ru), .ref kp, .int (zI dn), .ref rfa])), (pf, .inl (c_pf, 4, .inl f_pf)), (lt, .inl (c_lt, 5, .inl ja))] H ∧ va_D A [(h0, .inr (9, [.int (zI fa), .int (zI tc), .ref so, .ref sl, .ref ce, .int (zI fn), .ref kd, .ref wd, .ref hs, .ref pf, .ref lt, .int (zI mn), .ref wg, .int (zI ta), .long ck, .int (zI at9), .int (zI rfn), .ref rk, .ref rw, .ref rh, .int (zI cl), .ref sa, .ref fi, .int (zI bo), .ref ch, .ref cn, .int (zI ad), .int (zI ru), .ref kp, .int (zI dn), .ref rfa])), (pf, .inl (c_pf, 4, .inl f_pf)), (lt, .inl (c_lt, 5, .inl ja))] ∧ va_S A s.heap H locs ∧ lv_has ls 3 [(2, .int (zI jk)), (0, .ref h0), (1, .int (zI f))]) ?_ _ ⟨4, f_lt, rfl, (by omega), (kMv_0 _ _).symm, hP, hD, hS, hl⟩
    intro n12 ih12 H locs ls hI
    obtain ⟨jk, ja, en12, v_120, v_121, hP, hD, hS, hl⟩ := hI
    refine lv_iload_n hx hb dX9_prefer_12 rfl (lv_at hl 0 rfl) ?_
    refine kz_if_le (tgt := 36) hx hb dX9_prefer_13 (by decide) (by omega) (fun c_2 => ?_) (fun c_2 => ?_)
    · refine lv_aload_n hx hb dX9_prefer_36 rfl (lv_at hl 1 rfl) ?_
      refine va_get (D := D) (ci := 9) (v := .ref lt) (C := RX9) (T := TX9) (N := 31) hx hb hts (fun _ h9 => List.mem_cons_of_mem _ (List.mem_append_right _ h9)) hown hK hP 0 rfl rfl 10 (by decide) (hts (.fieldLink RX9 31 "FontRunsModel" "latest" "[I") mw_X9_prefer_0) (fun _ h9 => h9) rfl dX9_prefer_37 ?_
      refine lv_iconst (v := zI 0) hx hb dX9_prefer_40 rfl ?_
      refine lv_iload_n hx hb dX9_prefer_41 rfl (lv_at hl 2 rfl) ?_
      refine kz_iast hx hb hK hP hD hS 2 1 rfl rfl (by omega) dX9_prefer_42 (fun H locs hP hD hS => ?_)
      have hP : va_P D vwCl [(h0, .inr (9, [.int (zI fa), .int (zI tc), .ref so, .ref sl, .ref ce, .int (zI fn), .ref kd, .ref wd, .ref hs, .ref pf, .ref lt, .int (zI mn), .ref wg, .int (zI ta), .long ck, .int (zI at9), .int (zI rfn), .ref rk, .ref rw, .ref rh, .int (zI cl), .ref sa, .ref fi, .int (zI bo), .ref ch, .ref cn, .int (zI ad), .int (zI ru), .ref kp, .int (zI dn), .ref rfa])), (pf, .inl (c_pf, 4, .inl f_pf)), (lt, .inl (c_lt, 5, .inl (upd ja (0 : Int).toNat (zI f))))] H := hP
      have hD : va_D A [(h0, .inr (9, [.int (zI fa), .int (zI tc), .ref so, .ref sl, .ref ce, .int (zI fn), .ref kd, .ref wd, .ref hs, .ref pf, .ref lt, .int (zI mn), .ref wg, .int (zI ta), .long ck, .int (zI at9), .int (zI rfn), .ref rk, .ref rw, .ref rh, .int (zI cl), .ref sa, .ref fi, .int (zI bo), .ref ch, .ref cn, .int (zI ad), .int (zI ru), .ref kp, .int (zI dn), .ref rfa])), (pf, .inl (c_pf, 4, .inl f_pf)), (lt, .inl (c_lt, 5, .inl (upd ja (0 : Int).toNat (zI f))))] := hD
      generalize ef_3 : upd ja (0 : Int).toNat (zI f) = f_3 at hP hD
      refine lv_aload_n hx hb dX9_prefer_43 rfl (lv_at hl 1 rfl) ?_
      refine lv_iload_n hx hb dX9_prefer_44 rfl (lv_at hl 2 rfl) ?_
      have hFc := va_free (wc := [(h0, .inr (9, [.int (zI fa), .int (zI tc), .ref so, .ref sl, .ref ce, .int (zI fn), .ref kd, .ref wd, .ref hs, .ref pf, .ref lt, .int (zI mn), .ref wg, .int (zI ta), .long ck, .int (zI at9), .int (zI rfn), .ref rk, .ref rw, .ref rh, .int (zI cl), .ref sa, .ref fi, .int (zI bo), .ref ch, .ref cn, .int (zI ad), .int (zI ru), .ref kp, .int (zI dn), .ref rfa])), (pf, .inl (c_pf, 4, .inl f_pf))]) hD hS hA [0, 1] ax_X9_prefer_1
      refine va_calli (va_runV (As := [.int (zI f)]) (rest := []) ⟨hx, hb, hml, hown, hts⟩ (c_X9_comesFirst_w l D H.size (f := f) (h0 := h0) (fa := fa) (tc := tc) (so := so) (sl := sl) (ce := ce) (fn := fn) (kd := kd) (wd := wd) (hs := hs) (pf := pf) (lt := lt) (mn := mn) (wg := wg) (ta := ta) (ck := ck) (at9 := at9) (rfn := rfn) (rk := rk) (rw := rw) (rh := rh) (cl := cl) (sa := sa) (fi := fi) (bo := bo) (ch := ch) (cn := cn) (ad := ad) (ru := ru) (kp := kp) (dn := dn) (rfa := rfa) (c_pf := c_pf) (f_pf := f_pf) (by omega) q1 q2) (cwV 1 hts gX9_prefer_X9_comesFirst rfl rfl rfl (by decide +kernel) ⟨Nat.le_of_ble_eq_true rfl, Nat.le_of_ble_eq_true rfl⟩) (kPreV hP (kD0 hD) hK hN [0, 1] [0] ax_X9_prefer_1 rfl (by decide +kernel) 0 9 rfl rfl) rfl rfl hl.1 rfl (lv_room (Nat.le_of_ble_eq_true rfl)) dX9_prefer_45 ⟨Nat.le_of_ble_eq_true rfl, Nat.le_of_ble_eq_true rfl⟩) hS (fun q _ h => hFc q h) hFc (fun r u t H1 locs ht hvm hw hB hz1 hk1 hS => ?_)
      obtain ⟨z_5, e9⟩ : ∃ z, z = u := ⟨_, rfl⟩
      subst e9
      obtain ⟨rfl, rz_5⟩ := hw
      refine Exists.elim hB (fun u_f_pf_4 hB1 => ?_)
      have h_6 := hB1.1
      have h_7 := hB1.2.1
      have h_8 := hB1.2.2.1
      have hP1 := hB1.2.2.2.1
      have hD1 := hB1.2.2.2.2
      clear hB hB1
      rw [ht] at hP1
      obtain ⟨hP, hD⟩ := va_join (wr := [(lt, .inl (c_lt, 5, .inl f_3))]) (w1 := [(h0, .inr (9, [.int (zI fa), .int (zI tc), .ref so, .ref sl, .ref ce, .int (zI fn), .ref kd, .ref wd, .ref hs, .ref pf, .ref lt, .int (zI mn), .ref wg, .int (zI ta), .long ck, .int (zI at9), .int (zI rfn), .ref rk, .ref rw, .ref rh, .int (zI cl), .ref sa, .ref fi, .int (zI bo), .ref ch, .ref cn, .int (zI ad), .int (zI ru), .ref kp, .int (zI dn), .ref rfa])), (pf, .inl (c_pf, 4, .inl u_f_pf_4))]) hP hD [0, 1] [2] ax_X9_prefer_1 ax_X9_prefer_2 (by decide +kernel) (by decide +kernel) hk1 hFc hP1 hD1
      have hP := ax_X9_prefer_3 hP
      have hD := ax_X9_prefer_4 hD
      generalize H1 = H at hP hS ⊢
      have hP : va_P D vwCl [(lt, .inl (c_lt, 5, .inl f_3)), (h0, .inr (9, [.int (zI fa), .int (zI tc), .ref so, .ref sl, .ref ce, .int (zI fn), .ref kd, .ref wd, .ref hs, .ref pf, .ref lt, .int (zI mn), .ref wg, .int (zI ta), .long ck, .int (zI at9), .int (zI rfn), .ref rk, .ref rw, .ref rh, .int (zI cl), .ref sa, .ref fi, .int (zI bo), .ref ch, .ref cn, .int (zI ad), .int (zI ru), .ref kp, .int (zI dn), .ref rfa])), (pf, .inl (c_pf, 4, .inl u_f_pf_4))] H := hP
      have hD : va_D A [(lt, .inl (c_lt, 5, .inl f_3)), (h0, .inr (9, [.int (zI fa), .int (zI tc), .ref so, .ref sl, .ref ce, .int (zI fn), .ref kd, .ref wd, .ref hs, .ref pf, .ref lt, .int (zI mn), .ref wg, .int (zI ta), .long ck, .int (zI at9), .int (zI rfn), .ref rk, .ref rw, .ref rh, .int (zI cl), .ref sa, .ref fi, .int (zI bo), .ref ch, .ref cn, .int (zI ad), .int (zI ru), .ref kp, .int (zI dn), .ref rfa])), (pf, .inl (c_pf, 4, .inl u_f_pf_4))] := hD
      have hP9 := hP.sub (ws' := [(h0, .inr (9, [.int (zI fa), .int (zI tc), .ref so, .ref sl, .ref ce, .int (zI fn), .ref kd, .ref wd, .ref hs, .ref pf, .ref lt, .int (zI mn), .ref wg, .int (zI ta), .long ck, .int (zI at9), .int (zI rfn), .ref rk, .ref rw, .ref rh, .int (zI cl), .ref sa, .ref fi, .int (zI bo), .ref ch, .ref cn, .int (zI ad), .int (zI ru), .ref kp, .int (zI dn), .ref rfa])), (pf, .inl (c_pf, 4, .inl u_f_pf_4)), (lt, .inl (c_lt, 5, .inl f_3))]) [1, 2, 0] rfl
      have hD9 := hD.sub (ws' := [(h0, .inr (9, [.int (zI fa), .int (zI tc), .ref so, .ref sl, .ref ce, .int (zI fn), .ref kd, .ref wd, .ref hs, .ref pf, .ref lt, .int (zI mn), .ref wg, .int (zI ta), .long ck, .int (zI at9), .int (zI rfn), .ref rk, .ref rw, .ref rh, .int (zI cl), .ref sa, .ref fi, .int (zI bo), .ref ch, .ref cn, .int (zI ad), .int (zI ru), .ref kp, .int (zI dn), .ref rfa])), (pf, .inl (c_pf, 4, .inl u_f_pf_4)), (lt, .inl (c_lt, 5, .inl f_3))]) [1, 2, 0] (by decide +kernel) rfl
      exact W.iret (v := (zI z_5)) hx hb hr (fun t ht hW => kQS_of (by omega) ⟨u_f_pf_4, f_3, h_6, (Or.inr ⟨by omega, h_7, h_8, kMvE ef_3 v_121 (by omega)⟩), by rw [ht]; exact hP9, hD9⟩ (hS.F ht)) hS.2.2 dX9_prefer_48
    · refine lv_aload_n hx hb dX9_prefer_16 rfl (lv_at hl 1 rfl) ?_
      refine va_get (D := D) (ci := 9) (v := .ref lt) (C := RX9) (T := TX9) (N := 31) hx hb hts (fun _ h9 => List.mem_cons_of_mem _ (List.mem_append_right _ h9)) hown hK hP 0 rfl rfl 10 (by decide) (hts (.fieldLink RX9 31 "FontRunsModel" "latest" "[I") mw_X9_prefer_0) (fun _ h9 => h9) rfl dX9_prefer_17 ?_
      refine lv_iload_n hx hb dX9_prefer_20 rfl (lv_at hl 0 rfl) ?_
      refine lv_aload_n hx hb dX9_prefer_21 rfl (lv_at hl 1 rfl) ?_
      refine va_get (D := D) (ci := 9) (v := .ref lt) (C := RX9) (T := TX9) (N := 31) hx hb hts (fun _ h9 => List.mem_cons_of_mem _ (List.mem_append_right _ h9)) hown hK hP 0 rfl rfl 10 (by decide) (hts (.fieldLink RX9 31 "FontRunsModel" "latest" "[I") mw_X9_prefer_0) (fun _ h9 => h9) rfl dX9_prefer_22 ?_
      refine lv_iload_n hx hb dX9_prefer_25 rfl (lv_at hl 0 rfl) ?_
      refine lv_iconst (v := zI 1) hx hb dX9_prefer_26 rfl ?_
      refine kz_isub hx hb dX9_prefer_27 ?_
      refine kz_iald hx hb hK hP 2 1 rfl rfl (by omega) dX9_prefer_28 (fun z_9 rz_9 ez_9 => ?_)
      refine kz_iast hx hb hK hP hD hS 2 1 rfl rfl (by omega) dX9_prefer_29 (fun H locs hP hD hS => ?_)
      have hP : va_P D vwCl [(h0, .inr (9, [.int (zI fa), .int (zI tc), .ref so, .ref sl, .ref ce, .int (zI fn), .ref kd, .ref wd, .ref hs, .ref pf, .ref lt, .int (zI mn), .ref wg, .int (zI ta), .long ck, .int (zI at9), .int (zI rfn), .ref rk, .ref rw, .ref rh, .int (zI cl), .ref sa, .ref fi, .int (zI bo), .ref ch, .ref cn, .int (zI ad), .int (zI ru), .ref kp, .int (zI dn), .ref rfa])), (pf, .inl (c_pf, 4, .inl f_pf)), (lt, .inl (c_lt, 5, .inl (upd ja (jk).toNat (zI z_9))))] H := hP
      have hD : va_D A [(h0, .inr (9, [.int (zI fa), .int (zI tc), .ref so, .ref sl, .ref ce, .int (zI fn), .ref kd, .ref wd, .ref hs, .ref pf, .ref lt, .int (zI mn), .ref wg, .int (zI ta), .long ck, .int (zI at9), .int (zI rfn), .ref rk, .ref rw, .ref rh, .int (zI cl), .ref sa, .ref fi, .int (zI bo), .ref ch, .ref cn, .int (zI ad), .int (zI ru), .ref kp, .int (zI dn), .ref rfa])), (pf, .inl (c_pf, 4, .inl f_pf)), (lt, .inl (c_lt, 5, .inl (upd ja (jk).toNat (zI z_9))))] := hD
      generalize ef_10 : upd ja (jk).toNat (zI z_9) = f_10 at hP hD
      refine lv_iinc (v := (zI (jk - 1))) (lv' := [(2, .int (zI (jk - 1))), (0, .ref h0), (1, .int (zI f))]) hx hb dX9_prefer_30 hl (k := 0) rfl (kz_dec _ 1) (by decide) rfl (fun ls hl => ?_)
      refine lv_goto (tgt := 12) hx hb dX9_prefer_33 (by decide) ?_
      exact ih12 _ (by omega) _ _ _ ⟨(jk - 1), f_10, rfl, (by omega), (by rw [← ef_10, v_121]; exact kMv_1 f_lt (by omega) (by rw [← v_121]; exact ez_9)), hP, hD, hS, lv_sub hl [0, 1, 2] rfl⟩
  · have c_1 : ¬ (0 ≤ f ∧ f < fn) := b01f c_1
    refine lv_iconst (v := zI (-1)) hx hb dX9_prefer_8 rfl ?_
    have hP9 := hP.sub (ws' := [(h0, .inr (9, [.int (zI fa), .int (zI tc), .ref so, .ref sl, .ref ce, .int (zI fn), .ref kd, .ref wd, .ref hs, .ref pf, .ref lt, .int (zI mn), .ref wg, .int (zI ta), .long ck, .int (zI at9), .int (zI rfn), .ref rk, .ref rw, .ref rh, .int (zI cl), .ref sa, .ref fi, .int (zI bo), .ref ch, .ref cn, .int (zI ad), .int (zI ru), .ref kp, .int (zI dn), .ref rfa])), (pf, .inl (c_pf, 4, .inl f_pf)), (lt, .inl (c_lt, 5, .inl f_lt))]) [0, 1, 2] rfl
    have hD9 := hD.sub (ws' := [(h0, .inr (9, [.int (zI fa), .int (zI tc), .ref so, .ref sl, .ref ce, .int (zI fn), .ref kd, .ref wd, .ref hs, .ref pf, .ref lt, .int (zI mn), .ref wg, .int (zI ta), .long ck, .int (zI at9), .int (zI rfn), .ref rk, .ref rw, .ref rh, .int (zI cl), .ref sa, .ref fi, .int (zI bo), .ref ch, .ref cn, .int (zI ad), .int (zI ru), .ref kp, .int (zI dn), .ref rfa])), (pf, .inl (c_pf, 4, .inl f_pf)), (lt, .inl (c_lt, 5, .inl f_lt))]) [0, 1, 2] (by decide +kernel) rfl
    exact W.iret (v := (zI (-1))) hx hb hr (fun t ht hW => kQS_of (by omega) ⟨f_pf, f_lt, q2, (Or.inl ⟨by omega, by omega, rfl, rfl⟩), by rw [ht]; exact hP9, hD9⟩ (hS.F ht)) hS.2.2 dX9_prefer_9
set_option maxRecDepth 20000 in
theorem mw_X9_findClusters_b_0 : (.fieldLink RX9 138 "FontRunsModel" "clusters" "I" : Cond) ∈ wsX9_findClusters := List.mem_cons_of_mem _ (List.mem_append_left _ (List.mem_of_getElem? (i := 0) rfl))
set_option maxRecDepth 20000 in
theorem mw_X9_findClusters_b_1 : (.fieldLink RX9 141 "FontRunsModel" "boxes" "I" : Cond) ∈ wsX9_findClusters := List.mem_cons_of_mem _ (List.mem_append_left _ (List.mem_of_getElem? (i := 1) rfl))
set_option maxRecDepth 20000 in
theorem mw_X9_findClusters_b_2 : (.fieldLink RX9 101 "FontRunsModel" "many" "I" : Cond) ∈ wsX9_findClusters := List.mem_cons_of_mem _ (List.mem_append_left _ (List.mem_of_getElem? (i := 2) rfl))
set_option maxRecDepth 20000 in
theorem mw_X9_findClusters_b_3 : (.fieldLink RX9 46 "FontRunsModel" "start" "[I" : Cond) ∈ wsX9_findClusters := List.mem_cons_of_mem _ (List.mem_append_left _ (List.mem_of_getElem? (i := 4) rfl))
set_option maxRecDepth 20000 in
theorem mw_X9_findClusters_b_4 : (.fieldLink RX9 49 "FontRunsModel" "fits" "[I" : Cond) ∈ wsX9_findClusters := List.mem_cons_of_mem _ (List.mem_append_left _ (List.mem_of_getElem? (i := 5) rfl))
set_option maxRecDepth 20000 in
theorem mw_X9_findClusters_b_5 : (.fieldLink RX9 74 "FontRunsModel" "fonts" "I" : Cond) ∈ wsX9_findClusters := List.mem_cons_of_mem _ (List.mem_append_left _ (List.mem_of_getElem? (i := 6) rfl))
set_option maxRecDepth 20000 in
theorem mw_X9_findClusters_b_6 : (.fieldLink RX9 25 "FontRunsModel" "has" "[I" : Cond) ∈ wsX9_findClusters := List.mem_cons_of_mem _ (List.mem_append_left _ (List.mem_of_getElem? (i := 7) rfl))
set_option maxRecDepth 20000 in
theorem mw_X9_findClusters_b_7 : (.fieldLink RX9 34 "FontRunsModel" "writing" "[I" : Cond) ∈ wsX9_findClusters := List.mem_cons_of_mem _ (List.mem_append_left _ (List.mem_of_getElem? (i := 3) rfl))
theorem ax_X9_findClusters_b_0 {e0 e1 e2 e3 e4 : Nat × va_E} : ([0, 1, 2, 3, 4] : List Nat).map (fun i => ([e0, e1, e2, e3, e4] : va_W)[i]?) = ([e0, e1, e2, e3, e4] : va_W).map some := rfl
set_option maxHeartbeats 4000000 in
set_option maxRecDepth 100000 in
theorem c_X9_findClusters_b (l : Launch) (D : va_G) (sz : Nat) (wo : Int) (h0 : Nat) (fa : Int) (tc : Int) (so : Nat) (sl : Nat) (ce : Nat) (fn : Int) (kd : Nat) (wd : Nat) (hs : Nat) (pf : Nat) (lt : Nat) (mn : Int) (wg : Nat) (ta : Int) (ck : Int64) (at9 : Int) (rfn : Int) (rk : Nat) (rw : Nat) (rh : Nat) (cl : Int) (sa : Nat) (fi : Nat) (bo : Int) (ch : Nat) (cn : Nat) (ad : Int) (ru : Int) (kp : Nat) (dn : Int) (rfa : Nat) (c_wg : ClassId) (f_wg : Nat → Int32) (c_sa : ClassId) (f_sa : Nat → Int32) (c_fi : ClassId) (f_fi : Nat → Int32) (c_hs : ClassId) (f_hs : Nat → Int32) (q0 : rg wo) (q1 : 0 ≤ mn ∧ mn ≤ 24) (q2 : 0 ≤ fn ∧ fn ≤ 4) : Met l yX9_findClusters wsX9_findClusters ({ frames := 0, cells := 0, slots := 0, locals := 0 }) (kPre [.ref h0, .int (zI wo)] D [(h0, .inr (9, [.int (zI fa), .int (zI tc), .ref so, .ref sl, .ref ce, .int (zI fn), .ref kd, .ref wd, .ref hs, .ref pf, .ref lt, .int (zI mn), .ref wg, .int (zI ta), .long ck, .int (zI at9), .int (zI rfn), .ref rk, .ref rw, .ref rh, .int (zI cl), .ref sa, .ref fi, .int (zI bo), .ref ch, .ref cn, .int (zI ad), .int (zI ru), .ref kp, .int (zI dn), .ref rfa])), (wg, .inl (c_wg, 24, .inl f_wg)), (sa, .inl (c_sa, 25, .inl f_sa)), (fi, .inl (c_fi, 24, .inl f_fi)), (hs, .inl (c_hs, 4, .inl f_hs))] [(c_wg, .int), (c_sa, .int), (c_fi, .int), (c_hs, .int)] sz) (kQV (fun t => ∃ (u_cl : Int) (u_bo : Int) (u_f_sa : Nat → Int32) (u_f_fi : Nat → Int32), (0 ≤ u_cl ∧ u_cl ≤ mn) ∧ (0 ≤ u_bo ∧ u_bo ≤ 24) ∧ (kFt u_f_fi fn u_cl wo) ∧ (kRc f_wg mn f_hs fn wo u_cl u_bo u_f_sa u_f_fi) ∧ va_P D vwCl [(h0, .inr (9, [.int (zI fa), .int (zI tc), .ref so, .ref sl, .ref ce, .int (zI fn), .ref kd, .ref wd, .ref hs, .ref pf, .ref lt, .int (zI mn), .ref wg, .int (zI ta), .long ck, .int (zI at9), .int (zI rfn), .ref rk, .ref rw, .ref rh, .int (zI u_cl), .ref sa, .ref fi, .int (zI u_bo), .ref ch, .ref cn, .int (zI ad), .int (zI ru), .ref kp, .int (zI dn), .ref rfa])), (wg, .inl (c_wg, 24, .inl f_wg)), (sa, .inl (c_sa, 25, .inl u_f_sa)), (fi, .inl (c_fi, 24, .inl u_f_fi)), (hs, .inl (c_hs, 4, .inl f_hs))] t.heap ∧ va_D (va_A [(h0, .inr (9, [.int (zI fa), .int (zI tc), .ref so, .ref sl, .ref ce, .int (zI fn), .ref kd, .ref wd, .ref hs, .ref pf, .ref lt, .int (zI mn), .ref wg, .int (zI ta), .long ck, .int (zI at9), .int (zI rfn), .ref rk, .ref rw, .ref rh, .int (zI cl), .ref sa, .ref fi, .int (zI bo), .ref ch, .ref cn, .int (zI ad), .int (zI ru), .ref kp, .int (zI dn), .ref rfa])), (wg, .inl (c_wg, 24, .inl f_wg)), (sa, .inl (c_sa, 25, .inl f_sa)), (fi, .inl (c_fi, 24, .inl f_fi)), (hs, .inl (c_hs, 4, .inl f_hs))] sz) [(h0, .inr (9, [.int (zI fa), .int (zI tc), .ref so, .ref sl, .ref ce, .int (zI fn), .ref kd, .ref wd, .ref hs, .ref pf, .ref lt, .int (zI mn), .ref wg, .int (zI ta), .long ck, .int (zI at9), .int (zI rfn), .ref rk, .ref rw, .ref rh, .int (zI u_cl), .ref sa, .ref fi, .int (zI u_bo), .ref ch, .ref cn, .int (zI ad), .int (zI ru), .ref kp, .int (zI dn), .ref rfa])), (wg, .inl (c_wg, 24, .inl f_wg)), (sa, .inl (c_sa, 25, .inl u_f_sa)), (fi, .inl (c_fi, 24, .inl u_f_fi)), (hs, .inl (c_hs, 4, .inl f_hs))]) (va_A [(h0, .inr (9, [.int (zI fa), .int (zI tc), .ref so, .ref sl, .ref ce, .int (zI fn), .ref kd, .ref wd, .ref hs, .ref pf, .ref lt, .int (zI mn), .ref wg, .int (zI ta), .long ck, .int (zI at9), .int (zI rfn), .ref rk, .ref rw, .ref rh, .int (zI cl), .ref sa, .ref fi, .int (zI bo), .ref ch, .ref cn, .int (zI ad), .int (zI ru), .ref kp, .int (zI dn), .ref rfa])), (wg, .inl (c_wg, 24, .inl f_wg)), (sa, .inl (c_sa, 25, .inl f_sa)), (fi, .inl (c_fi, 24, .inl f_fi)), (hs, .inl (c_hs, 4, .inl f_hs))] sz)) 0 0 (va_A [(h0, .inr (9, [.int (zI fa), .int (zI tc), .ref so, .ref sl, .ref ce, .int (zI fn), .ref kd, .ref wd, .ref hs, .ref pf, .ref lt, .int (zI mn), .ref wg, .int (zI ta), .long ck, .int (zI at9), .int (zI rfn), .ref rk, .ref rw, .ref rh, .int (zI cl), .ref sa, .ref fi, .int (zI bo), .ref ch, .ref cn, .int (zI ad), .int (zI ru), .ref kp, .int (zI dn), .ref rfa])), (wg, .inl (c_wg, 24, .inl f_wg)), (sa, .inl (c_sa, 25, .inl f_sa)), (fi, .inl (c_fi, 24, .inl f_fi)), (hs, .inl (c_hs, 4, .inl f_hs))] sz) := by
  refine Met.ofW (cc := cX9_findClusters) (maxL := 5) (ret := none) (by decide) rfl ?_
  intro p e s m args below meth c s₁ B hml hv
  obtain ⟨rfl, hsz, hP, hK, hD0, hN⟩ := hv
  have hx := B.exec
  have hb := B.bytes
  have hr := B.returns
  have hts := atoms_spec (ws := wsX9_findClusters) B.pre
  have hown : s.vm.findClass RX9 = some m.cls := findClass_of_methodNamed B.named
  have hlocks := B.notSynchronized
  subst hsz
  have hD := hD0.self (sz := s.heap.size)
  generalize hAe : va_A [(h0, .inr (9, [.int (zI fa), .int (zI tc), .ref so, .ref sl, .ref ce, .int (zI fn), .ref kd, .ref wd, .ref hs, .ref pf, .ref lt, .int (zI mn), .ref wg, .int (zI ta), .long ck, .int (zI at9), .int (zI rfn), .ref rk, .ref rw, .ref rh, .int (zI cl), .ref sa, .ref fi, .int (zI bo), .ref ch, .ref cn, .int (zI ad), .int (zI ru), .ref kp, .int (zI dn), .ref rfa])), (wg, .inl (c_wg, 24, .inl f_wg)), (sa, .inl (c_sa, 25, .inl f_sa)), (fi, .inl (c_fi, 24, .inl f_fi)), (hs, .inl (c_hs, 4, .inl f_hs))] s.heap.size = A at hD ⊢
  have hA : ∀ q : Nat, s.heap.size ≤ q → A q := fun q h => by rw [← hAe]; exact Or.inr h
  have hS : va_S A s.heap s.heap [] := va_S.rf
  have hP : va_P D vwCl [(h0, .inr (9, [.int (zI fa), .int (zI tc), .ref so, .ref sl, .ref ce, .int (zI fn), .ref kd, .ref wd, .ref hs, .ref pf, .ref lt, .int (zI mn), .ref wg, .int (zI ta), .long ck, .int (zI at9), .int (zI rfn), .ref rk, .ref rw, .ref rh, .int (zI cl), .ref sa, .ref fi, .int (zI bo), .ref ch, .ref cn, .int (zI ad), .int (zI ru), .ref kp, .int (zI dn), .ref rfa])), (wg, .inl (c_wg, 24, .inl f_wg)), (sa, .inl (c_sa, 25, .inl f_sa)), (fi, .inl (c_fi, 24, .inl f_fi)), (hs, .inl (c_hs, 4, .inl f_hs))] s.heap := hP
  have hl := lv_entry ([.ref h0, .int (zI wo)]) (n := 5) (Nat.le_of_ble_eq_true rfl)
  rw [lg_entry_eq]
  generalize (lg_sl ([.ref h0, .int (zI wo)]) ++ List.replicate (5 - (lg_sl ([.ref h0, .int (zI wo)])).length) Slot.unset).toArray = ls at hl ⊢
  have hl : lv_has ls 5 [(0, .ref h0), (1, .int (zI wo))] := hl
  refine lv_aload_n hx hb dX9_findClusters_0 rfl (lv_at hl 0 rfl) ?_
  refine lv_iconst (v := zI 0) hx hb dX9_findClusters_1 rfl ?_
  refine va_put (D := D) (ci := 9) (v := .int (zI 0)) (ty := .int) (C := RX9) (T := TX9) (N := 31) hx hb hts (fun _ h9 => List.mem_cons_of_mem _ (List.mem_append_right _ h9)) tyX9 tyX9_ok nmX9 hown hK hP hD hS 0 rfl rfl 20 (by decide) (hts (.fieldLink RX9 138 "FontRunsModel" "clusters" "I") mw_X9_findClusters_b_0) (fun _ h9 => h9) rfl (by decide +kernel) rfl rfl (Nat.le_of_ble_eq_true rfl) dX9_findClusters_2 (fun H locs hP hD hS => ?_)
  have hP : va_P D vwCl [(h0, .inr (9, [.int (zI fa), .int (zI tc), .ref so, .ref sl, .ref ce, .int (zI fn), .ref kd, .ref wd, .ref hs, .ref pf, .ref lt, .int (zI mn), .ref wg, .int (zI ta), .long ck, .int (zI at9), .int (zI rfn), .ref rk, .ref rw, .ref rh, .int (zI 0), .ref sa, .ref fi, .int (zI bo), .ref ch, .ref cn, .int (zI ad), .int (zI ru), .ref kp, .int (zI dn), .ref rfa])), (wg, .inl (c_wg, 24, .inl f_wg)), (sa, .inl (c_sa, 25, .inl f_sa)), (fi, .inl (c_fi, 24, .inl f_fi)), (hs, .inl (c_hs, 4, .inl f_hs))] H := hP
  have hD : va_D A [(h0, .inr (9, [.int (zI fa), .int (zI tc), .ref so, .ref sl, .ref ce, .int (zI fn), .ref kd, .ref wd, .ref hs, .ref pf, .ref lt, .int (zI mn), .ref wg, .int (zI ta), .long ck, .int (zI at9), .int (zI rfn), .ref rk, .ref rw, .ref rh, .int (zI 0), .ref sa, .ref fi, .int (zI bo), .ref ch, .ref cn, .int (zI ad), .int (zI ru), .ref kp, .int (zI dn), .ref rfa])), (wg, .inl (c_wg, 24, .inl f_wg)), (sa, .inl (c_sa, 25, .inl f_sa)), (fi, .inl (c_fi, 24, .inl f_fi)), (hs, .inl (c_hs, 4, .inl f_hs))] := hD
  refine lv_aload_n hx hb dX9_findClusters_5 rfl (lv_at hl 0 rfl) ?_
  refine lv_iconst (v := zI 0) hx hb dX9_findClusters_6 rfl ?_
  refine va_put (D := D) (ci := 9) (v := .int (zI 0)) (ty := .int) (C := RX9) (T := TX9) (N := 31) hx hb hts (fun _ h9 => List.mem_cons_of_mem _ (List.mem_append_right _ h9)) tyX9 tyX9_ok nmX9 hown hK hP hD hS 0 rfl rfl 23 (by decide) (hts (.fieldLink RX9 141 "FontRunsModel" "boxes" "I") mw_X9_findClusters_b_1) (fun _ h9 => h9) rfl (by decide +kernel) rfl rfl (Nat.le_of_ble_eq_true rfl) dX9_findClusters_7 (fun H locs hP hD hS => ?_)
  have hP : va_P D vwCl [(h0, .inr (9, [.int (zI fa), .int (zI tc), .ref so, .ref sl, .ref ce, .int (zI fn), .ref kd, .ref wd, .ref hs, .ref pf, .ref lt, .int (zI mn), .ref wg, .int (zI ta), .long ck, .int (zI at9), .int (zI rfn), .ref rk, .ref rw, .ref rh, .int (zI 0), .ref sa, .ref fi, .int (zI 0), .ref ch, .ref cn, .int (zI ad), .int (zI ru), .ref kp, .int (zI dn), .ref rfa])), (wg, .inl (c_wg, 24, .inl f_wg)), (sa, .inl (c_sa, 25, .inl f_sa)), (fi, .inl (c_fi, 24, .inl f_fi)), (hs, .inl (c_hs, 4, .inl f_hs))] H := hP
  have hD : va_D A [(h0, .inr (9, [.int (zI fa), .int (zI tc), .ref so, .ref sl, .ref ce, .int (zI fn), .ref kd, .ref wd, .ref hs, .ref pf, .ref lt, .int (zI mn), .ref wg, .int (zI ta), .long ck, .int (zI at9), .int (zI rfn), .ref rk, .ref rw, .ref rh, .int (zI 0), .ref sa, .ref fi, .int (zI 0), .ref ch, .ref cn, .int (zI ad), .int (zI ru), .ref kp, .int (zI dn), .ref rfa])), (wg, .inl (c_wg, 24, .inl f_wg)), (sa, .inl (c_sa, 25, .inl f_sa)), (fi, .inl (c_fi, 24, .inl f_fi)), (hs, .inl (c_hs, 4, .inl f_hs))] := hD
  refine lv_iconst (v := zI 0) hx hb dX9_findClusters_10 rfl ?_
  refine lv_istore_n (lv' := [(2, .int (zI 0)), (0, .ref h0), (1, .int (zI wo))]) hx hb dX9_findClusters_11 rfl hl (by decide) rfl (fun ls hl => ?_)
  refine k_loopM (I := fun n9 H locs ls => ∃ (jk : Int) (jc : Int) (ja : Nat → Int32), n9 = (mn - jk).toNat ∧ (0 ≤ jk ∧ jk ≤ mn) ∧ (0 ≤ jc ∧ jc ≤ jk) ∧ (kSt ja jc mn) ∧ (kSa f_wg (kNa jk) jc ja) ∧ va_P D vwCl [(h0, .inr (9, [.int (zI fa), .int (zI tc), .ref so, .ref sl, .ref ce, .int (zI fn), .ref kd, .ref wd, .ref hs, .ref pf, .ref lt, .int (zI mn), .ref wg, .int (zI ta), .long ck, .int (zI at9), .int (zI rfn), .ref rk, .ref rw, .ref rh, .int (zI jc), .ref sa, .ref fi, .int (zI 0), .ref ch, .ref cn, .int (zI ad), .int (zI ru), .ref kp, .int (zI dn), .ref rfa])), (wg, .inl (c_wg, 24, .inl f_wg)), (sa, .inl (c_sa, 25, .inl ja)), (fi, .inl (c_fi, 24, .inl f_fi)), (hs, .inl (c_hs, 4, .inl f_hs))] H ∧ va_D A [(h0, .inr (9, [.int (zI fa), .int (zI tc), .ref so, .ref sl, .ref ce, .int (zI fn), .ref kd, .ref wd, .ref hs, .ref pf, .ref lt, .int (zI mn), .ref wg, .int (zI ta), .long ck, .int (zI at9), .int (zI rfn), .ref rk, .ref rw, .ref rh, .int (zI jc), .ref sa, .ref fi, .int (zI 0), .ref ch, .ref cn, .int (zI ad), .int (zI ru), .ref kp, .int (zI dn), .ref rfa])), (wg, .inl (c_wg, 24, .inl f_wg)), (sa, .inl (c_sa, 25, .inl ja)), (fi, .inl (c_fi, 24, .inl f_fi)), (hs, .inl (c_hs, 4, .inl f_hs))] ∧ va_S A s.heap H locs ∧ lv_has ls 5 [(2, .int (zI jk)), (0, .ref h0), (1, .int (zI wo))]) ?_ _ ⟨0, 0, f_sa, rfl, (by omega), (by omega), kSt_0, kSa_0, hP, hD, hS, hl⟩
  intro n12 ih12 H locs ls hI
  obtain ⟨jk, jc, ja, en12, v_120, v_121, v_122, v_123, hP, hD, hS, hl⟩ := hI
  refine lv_iload_n hx hb dX9_findClusters_12 rfl (lv_at hl 0 rfl) ?_
  refine lv_aload_n hx hb dX9_findClusters_13 rfl (lv_at hl 1 rfl) ?_
  refine va_get (D := D) (ci := 9) (v := .int (zI mn)) (C := RX9) (T := TX9) (N := 31) hx hb hts (fun _ h9 => List.mem_cons_of_mem _ (List.mem_append_right _ h9)) hown hK hP 0 rfl rfl 11 (by decide) (hts (.fieldLink RX9 101 "FontRunsModel" "many" "I") mw_X9_findClusters_b_2) (fun _ h9 => h9) rfl dX9_findClusters_14 ?_
  refine kz_icmp_ge (tgt := 61) hx hb dX9_findClusters_17 (by decide) (by omega) (by omega) (fun c_1 => ?_) (fun c_1 => ?_)
  · refine lv_aload_n hx hb dX9_findClusters_61 rfl (lv_at hl 1 rfl) ?_
    refine va_get (D := D) (ci := 9) (v := .ref sa) (C := RX9) (T := TX9) (N := 31) hx hb hts (fun _ h9 => List.mem_cons_of_mem _ (List.mem_append_right _ h9)) hown hK hP 0 rfl rfl 21 (by decide) (hts (.fieldLink RX9 46 "FontRunsModel" "start" "[I") mw_X9_findClusters_b_3) (fun _ h9 => h9) rfl dX9_findClusters_62 ?_
    refine lv_aload_n hx hb dX9_findClusters_65 rfl (lv_at hl 1 rfl) ?_
    refine va_get (D := D) (ci := 9) (v := .int (zI jc)) (C := RX9) (T := TX9) (N := 31) hx hb hts (fun _ h9 => List.mem_cons_of_mem _ (List.mem_append_right _ h9)) hown hK hP 0 rfl rfl 20 (by decide) (hts (.fieldLink RX9 138 "FontRunsModel" "clusters" "I") mw_X9_findClusters_b_0) (fun _ h9 => h9) rfl dX9_findClusters_66 ?_
    refine lv_aload_n hx hb dX9_findClusters_69 rfl (lv_at hl 1 rfl) ?_
    refine va_get (D := D) (ci := 9) (v := .int (zI mn)) (C := RX9) (T := TX9) (N := 31) hx hb hts (fun _ h9 => List.mem_cons_of_mem _ (List.mem_append_right _ h9)) hown hK hP 0 rfl rfl 11 (by decide) (hts (.fieldLink RX9 101 "FontRunsModel" "many" "I") mw_X9_findClusters_b_2) (fun _ h9 => h9) rfl dX9_findClusters_70 ?_
    refine kz_iast hx hb hK hP hD hS 2 1 rfl rfl (by omega) dX9_findClusters_73 (fun H locs hP hD hS => ?_)
    have hP : va_P D vwCl [(h0, .inr (9, [.int (zI fa), .int (zI tc), .ref so, .ref sl, .ref ce, .int (zI fn), .ref kd, .ref wd, .ref hs, .ref pf, .ref lt, .int (zI mn), .ref wg, .int (zI ta), .long ck, .int (zI at9), .int (zI rfn), .ref rk, .ref rw, .ref rh, .int (zI jc), .ref sa, .ref fi, .int (zI 0), .ref ch, .ref cn, .int (zI ad), .int (zI ru), .ref kp, .int (zI dn), .ref rfa])), (wg, .inl (c_wg, 24, .inl f_wg)), (sa, .inl (c_sa, 25, .inl (upd ja (jc).toNat (zI mn)))), (fi, .inl (c_fi, 24, .inl f_fi)), (hs, .inl (c_hs, 4, .inl f_hs))] H := hP
    have hD : va_D A [(h0, .inr (9, [.int (zI fa), .int (zI tc), .ref so, .ref sl, .ref ce, .int (zI fn), .ref kd, .ref wd, .ref hs, .ref pf, .ref lt, .int (zI mn), .ref wg, .int (zI ta), .long ck, .int (zI at9), .int (zI rfn), .ref rk, .ref rw, .ref rh, .int (zI jc), .ref sa, .ref fi, .int (zI 0), .ref ch, .ref cn, .int (zI ad), .int (zI ru), .ref kp, .int (zI dn), .ref rfa])), (wg, .inl (c_wg, 24, .inl f_wg)), (sa, .inl (c_sa, 25, .inl (upd ja (jc).toNat (zI mn)))), (fi, .inl (c_fi, 24, .inl f_fi)), (hs, .inl (c_hs, 4, .inl f_hs))] := hD
    generalize ef_2 : upd ja (jc).toNat (zI mn) = f_2 at hP hD
    have hst : kSt f_2 (jc + 1) mn := by rw [← ef_2]; exact kSt_upd v_122 (by omega) (by omega)
    have hsa : kSa f_wg (kNa mn) jc f_2 := kSa_m (by have q9 : jk = mn := (by omega); rw [← q9]; exact v_123) ef_2
    have hsm : f_2 (kNa jc) = zI mn := by rw [← ef_2]; exact pk_us
    have hmk : kNa mn ≤ 24 := by show mn.toNat ≤ 24; omega
    refine lv_iconst (v := zI 0) hx hb dX9_findClusters_74 rfl ?_
    refine lv_istore_n (lv' := [(2, .int (zI 0)), (0, .ref h0), (1, .int (zI wo))]) hx hb dX9_findClusters_75 rfl hl (by decide) rfl (fun ls hl => ?_)
    refine k_loopM (I := fun n9 H locs ls => ∃ (jc2 : Int) (jb : Int) (jf : Nat → Int32), n9 = (jc - jc2).toNat ∧ (0 ≤ jc2 ∧ jc2 ≤ jc) ∧ (0 ≤ jb ∧ jb ≤ jc2) ∧ (kFt jf fn jc2 wo) ∧ (kFg jf f_wg mn f_hs fn wo jc2) ∧ (jb = kBx jf (kNa jc2)) ∧ va_P D vwCl [(h0, .inr (9, [.int (zI fa), .int (zI tc), .ref so, .ref sl, .ref ce, .int (zI fn), .ref kd, .ref wd, .ref hs, .ref pf, .ref lt, .int (zI mn), .ref wg, .int (zI ta), .long ck, .int (zI at9), .int (zI rfn), .ref rk, .ref rw, .ref rh, .int (zI jc), .ref sa, .ref fi, .int (zI jb), .ref ch, .ref cn, .int (zI ad), .int (zI ru), .ref kp, .int (zI dn), .ref rfa])), (wg, .inl (c_wg, 24, .inl f_wg)), (sa, .inl (c_sa, 25, .inl f_2)), (fi, .inl (c_fi, 24, .inl jf)), (hs, .inl (c_hs, 4, .inl f_hs))] H ∧ va_D A [(h0, .inr (9, [.int (zI fa), .int (zI tc), .ref so, .ref sl, .ref ce, .int (zI fn), .ref kd, .ref wd, .ref hs, .ref pf, .ref lt, .int (zI mn), .ref wg, .int (zI ta), .long ck, .int (zI at9), .int (zI rfn), .ref rk, .ref rw, .ref rh, .int (zI jc), .ref sa, .ref fi, .int (zI jb), .ref ch, .ref cn, .int (zI ad), .int (zI ru), .ref kp, .int (zI dn), .ref rfa])), (wg, .inl (c_wg, 24, .inl f_wg)), (sa, .inl (c_sa, 25, .inl f_2)), (fi, .inl (c_fi, 24, .inl jf)), (hs, .inl (c_hs, 4, .inl f_hs))] ∧ va_S A s.heap H locs ∧ lv_has ls 5 [(2, .int (zI jc2)), (0, .ref h0), (1, .int (zI wo))]) ?_ _ ⟨0, 0, f_fi, rfl, (by omega), (by omega), kFt_0, kFg_0, rfl, hP, hD, hS, hl⟩
    intro n76 ih76 H locs ls hI
    obtain ⟨jc2, jb, jf, en76, v_760, v_761, v_762, v_763, v_764, hP, hD, hS, hl⟩ := hI
    refine lv_iload_n hx hb dX9_findClusters_76 rfl (lv_at hl 0 rfl) ?_
    refine lv_aload_n hx hb dX9_findClusters_77 rfl (lv_at hl 1 rfl) ?_
    refine va_get (D := D) (ci := 9) (v := .int (zI jc)) (C := RX9) (T := TX9) (N := 31) hx hb hts (fun _ h9 => List.mem_cons_of_mem _ (List.mem_append_right _ h9)) hown hK hP 0 rfl rfl 20 (by decide) (hts (.fieldLink RX9 138 "FontRunsModel" "clusters" "I") mw_X9_findClusters_b_0) (fun _ h9 => h9) rfl dX9_findClusters_78 ?_
    refine kz_icmp_ge (tgt := 216) hx hb dX9_findClusters_81 (by decide) (by omega) (by omega) (fun c_3 => ?_) (fun c_3 => ?_)
    · have hP9 := hP.sub (ws' := [(h0, .inr (9, [.int (zI fa), .int (zI tc), .ref so, .ref sl, .ref ce, .int (zI fn), .ref kd, .ref wd, .ref hs, .ref pf, .ref lt, .int (zI mn), .ref wg, .int (zI ta), .long ck, .int (zI at9), .int (zI rfn), .ref rk, .ref rw, .ref rh, .int (zI jc), .ref sa, .ref fi, .int (zI jb), .ref ch, .ref cn, .int (zI ad), .int (zI ru), .ref kp, .int (zI dn), .ref rfa])), (wg, .inl (c_wg, 24, .inl f_wg)), (sa, .inl (c_sa, 25, .inl f_2)), (fi, .inl (c_fi, 24, .inl jf)), (hs, .inl (c_hs, 4, .inl f_hs))]) [0, 1, 2, 3, 4] rfl
      have hD9 := hD.sub (ws' := [(h0, .inr (9, [.int (zI fa), .int (zI tc), .ref so, .ref sl, .ref ce, .int (zI fn), .ref kd, .ref wd, .ref hs, .ref pf, .ref lt, .int (zI mn), .ref wg, .int (zI ta), .long ck, .int (zI at9), .int (zI rfn), .ref rk, .ref rw, .ref rh, .int (zI jc), .ref sa, .ref fi, .int (zI jb), .ref ch, .ref cn, .int (zI ad), .int (zI ru), .ref kp, .int (zI dn), .ref rfa])), (wg, .inl (c_wg, 24, .inl f_wg)), (sa, .inl (c_sa, 25, .inl f_2)), (fi, .inl (c_fi, 24, .inl jf)), (hs, .inl (c_hs, 4, .inl f_hs))]) [0, 1, 2, 3, 4] (by decide +kernel) rfl
      exact W.vret hx hb hr (fun t ht hW => kQV_of ⟨jc, jb, f_2, jf, (by omega), (by omega), ((show jc2 = jc by omega) ▸ v_762), (kRc_of hsa hsm v_763 v_764 (by omega)), by rw [ht]; exact hP9, hD9⟩ (hS.F ht)) hS.2.2 dX9_findClusters_216
    · refine lv_iconst (v := zI 0) hx hb dX9_findClusters_84 rfl ?_
      refine lv_istore_n (lv' := [(3, .int (zI 0)), (2, .int (zI jc2)), (0, .ref h0), (1, .int (zI wo))]) hx hb dX9_findClusters_85 rfl hl (by decide) rfl (fun ls hl => ?_)
      refine lv_aload_n hx hb dX9_findClusters_86 rfl (lv_at hl 2 rfl) ?_
      refine va_get (D := D) (ci := 9) (v := .ref sa) (C := RX9) (T := TX9) (N := 31) hx hb hts (fun _ h9 => List.mem_cons_of_mem _ (List.mem_append_right _ h9)) hown hK hP 0 rfl rfl 21 (by decide) (hts (.fieldLink RX9 46 "FontRunsModel" "start" "[I") mw_X9_findClusters_b_3) (fun _ h9 => h9) rfl dX9_findClusters_87 ?_
      refine lv_iload_n hx hb dX9_findClusters_90 rfl (lv_at hl 1 rfl) ?_
      refine kz_iald hx hb hK hP 2 1 rfl rfl (by omega) dX9_findClusters_91 (fun z_4 rz_4 ez_4 => ?_)
      have bz_4 := kSt_at hst (by omega) (by omega) rz_4 ez_4
      have gz_4 := kSa_beg hsa hmk (by omega) rz_4 ez_4
      have hEn := kEn_gt (w := f_wg) (k := kNa mn) (i := kNa jc2) (by have := hsa.1; show jc2.toNat < _; omega)
      refine lv_istore (lv' := [(4, .int (zI z_4)), (3, .int (zI 0)), (2, .int (zI jc2)), (0, .ref h0), (1, .int (zI wo))]) hx hb dX9_findClusters_92 hl (by decide) rfl (fun ls hl => ?_)
      refine k_loopM (I := fun n9 H locs ls => ∃ (js : Int) (jk2 : Int), n9 = (24 - jk2).toNat ∧ (rg js) ∧ (z_4 ≤ jk2 ∧ jk2 ≤ 24) ∧ (jk2 ≤ (kEn f_wg (kNa mn) (kNa jc2) : Nat)) ∧ (zI js = kOr f_wg (kNa z_4) (kNa (jk2 - z_4))) ∧ va_P D vwCl [(h0, .inr (9, [.int (zI fa), .int (zI tc), .ref so, .ref sl, .ref ce, .int (zI fn), .ref kd, .ref wd, .ref hs, .ref pf, .ref lt, .int (zI mn), .ref wg, .int (zI ta), .long ck, .int (zI at9), .int (zI rfn), .ref rk, .ref rw, .ref rh, .int (zI jc), .ref sa, .ref fi, .int (zI jb), .ref ch, .ref cn, .int (zI ad), .int (zI ru), .ref kp, .int (zI dn), .ref rfa])), (wg, .inl (c_wg, 24, .inl f_wg)), (sa, .inl (c_sa, 25, .inl f_2)), (fi, .inl (c_fi, 24, .inl jf)), (hs, .inl (c_hs, 4, .inl f_hs))] H ∧ va_D A [(h0, .inr (9, [.int (zI fa), .int (zI tc), .ref so, .ref sl, .ref ce, .int (zI fn), .ref kd, .ref wd, .ref hs, .ref pf, .ref lt, .int (zI mn), .ref wg, .int (zI ta), .long ck, .int (zI at9), .int (zI rfn), .ref rk, .ref rw, .ref rh, .int (zI jc), .ref sa, .ref fi, .int (zI jb), .ref ch, .ref cn, .int (zI ad), .int (zI ru), .ref kp, .int (zI dn), .ref rfa])), (wg, .inl (c_wg, 24, .inl f_wg)), (sa, .inl (c_sa, 25, .inl f_2)), (fi, .inl (c_fi, 24, .inl jf)), (hs, .inl (c_hs, 4, .inl f_hs))] ∧ va_S A s.heap H locs ∧ lv_has ls 5 [(4, .int (zI jk2)), (3, .int (zI js)), (2, .int (zI jc2)), (0, .ref h0), (1, .int (zI wo))]) ?_ _ ⟨0, z_4, rfl, (by omega), (by omega), (by omega), kOr_0, hP, hD, hS, hl⟩
      intro n94 ih94 H locs ls hI
      obtain ⟨js, jk2, en94, v_940, v_941, v_942, v_943, hP, hD, hS, hl⟩ := hI
      refine lv_iload hx hb dX9_findClusters_94 (lv_at hl 0 rfl) ?_
      refine lv_aload_n hx hb dX9_findClusters_96 rfl (lv_at hl 3 rfl) ?_
      refine va_get (D := D) (ci := 9) (v := .ref sa) (C := RX9) (T := TX9) (N := 31) hx hb hts (fun _ h9 => List.mem_cons_of_mem _ (List.mem_append_right _ h9)) hown hK hP 0 rfl rfl 21 (by decide) (hts (.fieldLink RX9 46 "FontRunsModel" "start" "[I") mw_X9_findClusters_b_3) (fun _ h9 => h9) rfl dX9_findClusters_97 ?_
      refine lv_iload_n hx hb dX9_findClusters_100 rfl (lv_at hl 2 rfl) ?_
      refine lv_iconst (v := zI 1) hx hb dX9_findClusters_101 rfl ?_
      refine kz_iadd hx hb dX9_findClusters_102 ?_
      refine kz_iald hx hb hK hP 2 1 rfl rfl (by omega) dX9_findClusters_103 (fun z_5 rz_5 ez_5 => ?_)
      have bz_5 := kSt_at hst (by omega) (by omega) rz_5 ez_5
      have gz_5 := kSa_end hsa hmk hsm rfl (by omega) (by omega) rz_5 ez_5
      refine kz_icmp_ge (tgt := 125) hx hb dX9_findClusters_104 (by decide) (by omega) (by omega) (fun c_6 => ?_) (fun c_6 => ?_)
      · refine lv_aload_n hx hb dX9_findClusters_125 rfl (lv_at hl 3 rfl) ?_
        refine va_get (D := D) (ci := 9) (v := .ref fi) (C := RX9) (T := TX9) (N := 31) hx hb hts (fun _ h9 => List.mem_cons_of_mem _ (List.mem_append_right _ h9)) hown hK hP 0 rfl rfl 22 (by decide) (hts (.fieldLink RX9 49 "FontRunsModel" "fits" "[I") mw_X9_findClusters_b_4) (fun _ h9 => h9) rfl dX9_findClusters_126 ?_
        refine lv_iload_n hx hb dX9_findClusters_129 rfl (lv_at hl 2 rfl) ?_
        refine lv_iconst (v := zI 0) hx hb dX9_findClusters_130 rfl ?_
        refine kz_iast hx hb hK hP hD hS 3 2 rfl rfl (by omega) dX9_findClusters_131 (fun H locs hP hD hS => ?_)
        have hP : va_P D vwCl [(h0, .inr (9, [.int (zI fa), .int (zI tc), .ref so, .ref sl, .ref ce, .int (zI fn), .ref kd, .ref wd, .ref hs, .ref pf, .ref lt, .int (zI mn), .ref wg, .int (zI ta), .long ck, .int (zI at9), .int (zI rfn), .ref rk, .ref rw, .ref rh, .int (zI jc), .ref sa, .ref fi, .int (zI jb), .ref ch, .ref cn, .int (zI ad), .int (zI ru), .ref kp, .int (zI dn), .ref rfa])), (wg, .inl (c_wg, 24, .inl f_wg)), (sa, .inl (c_sa, 25, .inl f_2)), (fi, .inl (c_fi, 24, .inl (upd jf (jc2).toNat (zI 0)))), (hs, .inl (c_hs, 4, .inl f_hs))] H := hP
        have hD : va_D A [(h0, .inr (9, [.int (zI fa), .int (zI tc), .ref so, .ref sl, .ref ce, .int (zI fn), .ref kd, .ref wd, .ref hs, .ref pf, .ref lt, .int (zI mn), .ref wg, .int (zI ta), .long ck, .int (zI at9), .int (zI rfn), .ref rk, .ref rw, .ref rh, .int (zI jc), .ref sa, .ref fi, .int (zI jb), .ref ch, .ref cn, .int (zI ad), .int (zI ru), .ref kp, .int (zI dn), .ref rfa])), (wg, .inl (c_wg, 24, .inl f_wg)), (sa, .inl (c_sa, 25, .inl f_2)), (fi, .inl (c_fi, 24, .inl (upd jf (jc2).toNat (zI 0)))), (hs, .inl (c_hs, 4, .inl f_hs))] := hD
        generalize ef_7 : upd jf (jc2).toNat (zI 0) = f_7 at hP hD
        refine lv_iconst (v := zI 0) hx hb dX9_findClusters_132 rfl ?_
        refine lv_istore (lv' := [(4, .int (zI 0)), (3, .int (zI js)), (2, .int (zI jc2)), (0, .ref h0), (1, .int (zI wo))]) hx hb dX9_findClusters_133 hl (by decide) rfl (fun ls hl => ?_)
        refine k_loopM (I := fun n9 H locs ls => ∃ (jg : Int) (jh : Nat → Int32), n9 = (fn - jg).toNat ∧ (0 ≤ jg ∧ jg ≤ fn) ∧ (kFt jh fn jc2 wo) ∧ (kFp (jh jc2.toNat) jg wo) ∧ (kFg jh f_wg mn f_hs fn wo jc2) ∧ (jb = kBx jh (kNa jc2)) ∧ (jh jc2.toNat = kFb (kHm f_hs wo (zI js)) (kNa jg)) ∧ va_P D vwCl [(h0, .inr (9, [.int (zI fa), .int (zI tc), .ref so, .ref sl, .ref ce, .int (zI fn), .ref kd, .ref wd, .ref hs, .ref pf, .ref lt, .int (zI mn), .ref wg, .int (zI ta), .long ck, .int (zI at9), .int (zI rfn), .ref rk, .ref rw, .ref rh, .int (zI jc), .ref sa, .ref fi, .int (zI jb), .ref ch, .ref cn, .int (zI ad), .int (zI ru), .ref kp, .int (zI dn), .ref rfa])), (wg, .inl (c_wg, 24, .inl f_wg)), (sa, .inl (c_sa, 25, .inl f_2)), (fi, .inl (c_fi, 24, .inl jh)), (hs, .inl (c_hs, 4, .inl f_hs))] H ∧ va_D A [(h0, .inr (9, [.int (zI fa), .int (zI tc), .ref so, .ref sl, .ref ce, .int (zI fn), .ref kd, .ref wd, .ref hs, .ref pf, .ref lt, .int (zI mn), .ref wg, .int (zI ta), .long ck, .int (zI at9), .int (zI rfn), .ref rk, .ref rw, .ref rh, .int (zI jc), .ref sa, .ref fi, .int (zI jb), .ref ch, .ref cn, .int (zI ad), .int (zI ru), .ref kp, .int (zI dn), .ref rfa])), (wg, .inl (c_wg, 24, .inl f_wg)), (sa, .inl (c_sa, 25, .inl f_2)), (fi, .inl (c_fi, 24, .inl jh)), (hs, .inl (c_hs, 4, .inl f_hs))] ∧ va_S A s.heap H locs ∧ lv_has ls 5 [(4, .int (zI jg)), (3, .int (zI js)), (2, .int (zI jc2)), (0, .ref h0), (1, .int (zI wo))]) ?_ _ ⟨0, f_7, rfl, (by omega), (by rw [← ef_7]; exact kFt_upd v_762 (by omega)), (Or.inl (by rw [← ef_7, pk_us]; rfl)), (kFg_u v_763 (by omega) ef_7), (kBx_u v_764 (by omega) ef_7), (kFu_0 ef_7), hP, hD, hS, hl⟩
        intro n135 ih135 H locs ls hI
        obtain ⟨jg, jh, en135, v_1350, v_1351, v_1352, v_1353, v_1354, v_1355, hP, hD, hS, hl⟩ := hI
        refine lv_iload hx hb dX9_findClusters_135 (lv_at hl 0 rfl) ?_
        refine lv_aload_n hx hb dX9_findClusters_137 rfl (lv_at hl 3 rfl) ?_
        refine va_get (D := D) (ci := 9) (v := .int (zI fn)) (C := RX9) (T := TX9) (N := 31) hx hb hts (fun _ h9 => List.mem_cons_of_mem _ (List.mem_append_right _ h9)) hown hK hP 0 rfl rfl 5 (by decide) (hts (.fieldLink RX9 74 "FontRunsModel" "fonts" "I") mw_X9_findClusters_b_5) (fun _ h9 => h9) rfl dX9_findClusters_138 ?_
        refine kz_icmp_ge (tgt := 187) hx hb dX9_findClusters_141 (by decide) (by omega) (by omega) (fun c_8 => ?_) (fun c_8 => ?_)
        · refine lv_aload_n hx hb dX9_findClusters_187 rfl (lv_at hl 3 rfl) ?_
          refine lv_dup hx hb dX9_findClusters_188 rfl ?_
          refine va_get (D := D) (ci := 9) (v := .int (zI jb)) (C := RX9) (T := TX9) (N := 31) hx hb hts (fun _ h9 => List.mem_cons_of_mem _ (List.mem_append_right _ h9)) hown hK hP 0 rfl rfl 23 (by decide) (hts (.fieldLink RX9 141 "FontRunsModel" "boxes" "I") mw_X9_findClusters_b_1) (fun _ h9 => h9) rfl dX9_findClusters_189 ?_
          refine lv_aload_n hx hb dX9_findClusters_192 rfl (lv_at hl 3 rfl) ?_
          refine va_get (D := D) (ci := 9) (v := .ref fi) (C := RX9) (T := TX9) (N := 31) hx hb hts (fun _ h9 => List.mem_cons_of_mem _ (List.mem_append_right _ h9)) hown hK hP 0 rfl rfl 22 (by decide) (hts (.fieldLink RX9 49 "FontRunsModel" "fits" "[I") mw_X9_findClusters_b_4) (fun _ h9 => h9) rfl dX9_findClusters_193 ?_
          refine lv_iload_n hx hb dX9_findClusters_196 rfl (lv_at hl 2 rfl) ?_
          refine kz_iald hx hb hK hP 3 2 rfl rfl (by omega) dX9_findClusters_197 (fun z_9 rz_9 ez_9 => ?_)
          refine kz_if_ne (tgt := 205) hx hb dX9_findClusters_198 (by decide) (by omega) (fun c_10 => ?_) (fun c_10 => ?_)
          · refine lv_iconst (v := zI 0) hx hb dX9_findClusters_205 rfl ?_
            refine kz_iadd hx hb dX9_findClusters_206 ?_
            refine va_put (D := D) (ci := 9) (v := .int (zI (jb + 0))) (ty := .int) (C := RX9) (T := TX9) (N := 31) hx hb hts (fun _ h9 => List.mem_cons_of_mem _ (List.mem_append_right _ h9)) tyX9 tyX9_ok nmX9 hown hK hP hD hS 0 rfl rfl 23 (by decide) (hts (.fieldLink RX9 141 "FontRunsModel" "boxes" "I") mw_X9_findClusters_b_1) (fun _ h9 => h9) rfl (by decide +kernel) rfl rfl (Nat.le_of_ble_eq_true rfl) dX9_findClusters_207 (fun H locs hP hD hS => ?_)
            have hP : va_P D vwCl [(h0, .inr (9, [.int (zI fa), .int (zI tc), .ref so, .ref sl, .ref ce, .int (zI fn), .ref kd, .ref wd, .ref hs, .ref pf, .ref lt, .int (zI mn), .ref wg, .int (zI ta), .long ck, .int (zI at9), .int (zI rfn), .ref rk, .ref rw, .ref rh, .int (zI jc), .ref sa, .ref fi, .int (zI (jb + 0)), .ref ch, .ref cn, .int (zI ad), .int (zI ru), .ref kp, .int (zI dn), .ref rfa])), (wg, .inl (c_wg, 24, .inl f_wg)), (sa, .inl (c_sa, 25, .inl f_2)), (fi, .inl (c_fi, 24, .inl jh)), (hs, .inl (c_hs, 4, .inl f_hs))] H := hP
            have hD : va_D A [(h0, .inr (9, [.int (zI fa), .int (zI tc), .ref so, .ref sl, .ref ce, .int (zI fn), .ref kd, .ref wd, .ref hs, .ref pf, .ref lt, .int (zI mn), .ref wg, .int (zI ta), .long ck, .int (zI at9), .int (zI rfn), .ref rk, .ref rw, .ref rh, .int (zI jc), .ref sa, .ref fi, .int (zI (jb + 0)), .ref ch, .ref cn, .int (zI ad), .int (zI ru), .ref kp, .int (zI dn), .ref rfa])), (wg, .inl (c_wg, 24, .inl f_wg)), (sa, .inl (c_sa, 25, .inl f_2)), (fi, .inl (c_fi, 24, .inl jh)), (hs, .inl (c_hs, 4, .inl f_hs))] := hD
            refine lv_iinc (v := (zI (jc2 + 1))) (lv' := [(2, .int (zI (jc2 + 1))), (4, .int (zI jg)), (3, .int (zI js)), (0, .ref h0), (1, .int (zI wo))]) hx hb dX9_findClusters_210 hl (k := 2) rfl (kz_inc _ 1) (by decide) rfl (fun ls hl => ?_)
            refine lv_goto (tgt := 76) hx hb dX9_findClusters_213 (by decide) ?_
            exact ih76 _ (by omega) _ _ _ ⟨(jc2 + 1), (jb + 0), jh, rfl, (by omega), (by omega), (kFt_1 v_1351 ((show fn = jg by omega) ▸ v_1352)), (kFg_1 v_1353 (by omega) v_1355 (by omega) v_943 gz_4 (by omega)), (kBx_1 v_1354 (by omega) ez_9 rz_9 (Or.inr ⟨by omega, by omega⟩)), hP, hD, hS, lv_sub hl [0, 3, 4] rfl⟩
          · refine lv_iconst (v := zI 1) hx hb dX9_findClusters_201 rfl ?_
            refine lv_goto (tgt := 206) hx hb dX9_findClusters_202 (by decide) ?_
            refine kz_iadd hx hb dX9_findClusters_206 ?_
            refine va_put (D := D) (ci := 9) (v := .int (zI (jb + 1))) (ty := .int) (C := RX9) (T := TX9) (N := 31) hx hb hts (fun _ h9 => List.mem_cons_of_mem _ (List.mem_append_right _ h9)) tyX9 tyX9_ok nmX9 hown hK hP hD hS 0 rfl rfl 23 (by decide) (hts (.fieldLink RX9 141 "FontRunsModel" "boxes" "I") mw_X9_findClusters_b_1) (fun _ h9 => h9) rfl (by decide +kernel) rfl rfl (Nat.le_of_ble_eq_true rfl) dX9_findClusters_207 (fun H locs hP hD hS => ?_)
            have hP : va_P D vwCl [(h0, .inr (9, [.int (zI fa), .int (zI tc), .ref so, .ref sl, .ref ce, .int (zI fn), .ref kd, .ref wd, .ref hs, .ref pf, .ref lt, .int (zI mn), .ref wg, .int (zI ta), .long ck, .int (zI at9), .int (zI rfn), .ref rk, .ref rw, .ref rh, .int (zI jc), .ref sa, .ref fi, .int (zI (jb + 1)), .ref ch, .ref cn, .int (zI ad), .int (zI ru), .ref kp, .int (zI dn), .ref rfa])), (wg, .inl (c_wg, 24, .inl f_wg)), (sa, .inl (c_sa, 25, .inl f_2)), (fi, .inl (c_fi, 24, .inl jh)), (hs, .inl (c_hs, 4, .inl f_hs))] H := hP
            have hD : va_D A [(h0, .inr (9, [.int (zI fa), .int (zI tc), .ref so, .ref sl, .ref ce, .int (zI fn), .ref kd, .ref wd, .ref hs, .ref pf, .ref lt, .int (zI mn), .ref wg, .int (zI ta), .long ck, .int (zI at9), .int (zI rfn), .ref rk, .ref rw, .ref rh, .int (zI jc), .ref sa, .ref fi, .int (zI (jb + 1)), .ref ch, .ref cn, .int (zI ad), .int (zI ru), .ref kp, .int (zI dn), .ref rfa])), (wg, .inl (c_wg, 24, .inl f_wg)), (sa, .inl (c_sa, 25, .inl f_2)), (fi, .inl (c_fi, 24, .inl jh)), (hs, .inl (c_hs, 4, .inl f_hs))] := hD
            refine lv_iinc (v := (zI (jc2 + 1))) (lv' := [(2, .int (zI (jc2 + 1))), (4, .int (zI jg)), (3, .int (zI js)), (0, .ref h0), (1, .int (zI wo))]) hx hb dX9_findClusters_210 hl (k := 2) rfl (kz_inc _ 1) (by decide) rfl (fun ls hl => ?_)
            refine lv_goto (tgt := 76) hx hb dX9_findClusters_213 (by decide) ?_
            exact ih76 _ (by omega) _ _ _ ⟨(jc2 + 1), (jb + 1), jh, rfl, (by omega), (by omega), (kFt_1 v_1351 ((show fn = jg by omega) ▸ v_1352)), (kFg_1 v_1353 (by omega) v_1355 (by omega) v_943 gz_4 (by omega)), (kBx_1 v_1354 (by omega) ez_9 rz_9 (Or.inl ⟨by omega, by omega⟩)), hP, hD, hS, lv_sub hl [0, 3, 4] rfl⟩
        · refine lv_aload_n hx hb dX9_findClusters_144 rfl (lv_at hl 3 rfl) ?_
          refine va_get (D := D) (ci := 9) (v := .ref fi) (C := RX9) (T := TX9) (N := 31) hx hb hts (fun _ h9 => List.mem_cons_of_mem _ (List.mem_append_right _ h9)) hown hK hP 0 rfl rfl 22 (by decide) (hts (.fieldLink RX9 49 "FontRunsModel" "fits" "[I") mw_X9_findClusters_b_4) (fun _ h9 => h9) rfl dX9_findClusters_145 ?_
          refine lv_iload_n hx hb dX9_findClusters_148 rfl (lv_at hl 2 rfl) ?_
          refine lv_dup2_11 hx hb dX9_findClusters_149 rfl rfl ?_
          refine kz_iald hx hb hK hP 3 2 rfl rfl (by omega) dX9_findClusters_150 (fun z_11 rz_11 ez_11 => ?_)
          refine lv_iload hx hb dX9_findClusters_151 (lv_at hl 0 rfl) ?_
          refine lv_iload_n hx hb dX9_findClusters_153 rfl (lv_at hl 4 rfl) ?_
          refine kz_icmp_eq (tgt := 178) hx hb dX9_findClusters_154 (by decide) (by omega) (by omega) (fun c_12 => ?_) (fun c_12 => ?_)
          · refine lv_iconst (v := zI 0) hx hb dX9_findClusters_178 rfl ?_
            refine lv_ior hx hb dX9_findClusters_179 ?_
            refine kz_any (fun z_13 rz_13 ez_13 => ?_)
            refine kz_iast hx hb hK hP hD hS 3 2 rfl rfl (by omega) dX9_findClusters_180 (fun H locs hP hD hS => ?_)
            have hP : va_P D vwCl [(h0, .inr (9, [.int (zI fa), .int (zI tc), .ref so, .ref sl, .ref ce, .int (zI fn), .ref kd, .ref wd, .ref hs, .ref pf, .ref lt, .int (zI mn), .ref wg, .int (zI ta), .long ck, .int (zI at9), .int (zI rfn), .ref rk, .ref rw, .ref rh, .int (zI jc), .ref sa, .ref fi, .int (zI jb), .ref ch, .ref cn, .int (zI ad), .int (zI ru), .ref kp, .int (zI dn), .ref rfa])), (wg, .inl (c_wg, 24, .inl f_wg)), (sa, .inl (c_sa, 25, .inl f_2)), (fi, .inl (c_fi, 24, .inl (upd jh (jc2).toNat (zI z_13)))), (hs, .inl (c_hs, 4, .inl f_hs))] H := hP
            have hD : va_D A [(h0, .inr (9, [.int (zI fa), .int (zI tc), .ref so, .ref sl, .ref ce, .int (zI fn), .ref kd, .ref wd, .ref hs, .ref pf, .ref lt, .int (zI mn), .ref wg, .int (zI ta), .long ck, .int (zI at9), .int (zI rfn), .ref rk, .ref rw, .ref rh, .int (zI jc), .ref sa, .ref fi, .int (zI jb), .ref ch, .ref cn, .int (zI ad), .int (zI ru), .ref kp, .int (zI dn), .ref rfa])), (wg, .inl (c_wg, 24, .inl f_wg)), (sa, .inl (c_sa, 25, .inl f_2)), (fi, .inl (c_fi, 24, .inl (upd jh (jc2).toNat (zI z_13)))), (hs, .inl (c_hs, 4, .inl f_hs))] := hD
            generalize ef_14 : upd jh (jc2).toNat (zI z_13) = f_14 at hP hD
            refine lv_iinc (v := (zI (jg + 1))) (lv' := [(4, .int (zI (jg + 1))), (3, .int (zI js)), (2, .int (zI jc2)), (0, .ref h0), (1, .int (zI wo))]) hx hb dX9_findClusters_181 hl (k := 0) rfl (kz_inc _ 1) (by decide) rfl (fun ls hl => ?_)
            refine lv_goto (tgt := 135) hx hb dX9_findClusters_184 (by decide) ?_
            exact ih135 _ (by omega) _ _ _ ⟨(jg + 1), f_14, rfl, (by omega), (by rw [← ef_14]; exact kFt_upd v_1351 (by omega)), (kFp_same v_1352 (by rw [← ef_14, pk_us, ← ez_13, kb_o0, ← ez_11])), (kFg_u v_1353 (by omega) ef_14), (kBx_u v_1354 (by omega) ef_14), (kFu_n v_1355 (by omega) (kHm_w (by omega) c_12) ez_11 ez_13 ef_14), hP, hD, hS, lv_sub hl [0, 1, 2, 3, 4] rfl⟩
          · refine lv_iload_n hx hb dX9_findClusters_157 rfl (lv_at hl 1 rfl) ?_
            refine lv_aload_n hx hb dX9_findClusters_158 rfl (lv_at hl 3 rfl) ?_
            refine va_get (D := D) (ci := 9) (v := .ref hs) (C := RX9) (T := TX9) (N := 31) hx hb hts (fun _ h9 => List.mem_cons_of_mem _ (List.mem_append_right _ h9)) hown hK hP 0 rfl rfl 8 (by decide) (hts (.fieldLink RX9 25 "FontRunsModel" "has" "[I") mw_X9_findClusters_b_6) (fun _ h9 => h9) rfl dX9_findClusters_159 ?_
            refine lv_iload hx hb dX9_findClusters_162 (lv_at hl 0 rfl) ?_
            refine kz_iald hx hb hK hP 4 3 rfl rfl (by omega) dX9_findClusters_164 (fun z_15 rz_15 ez_15 => ?_)
            refine lv_iconst (v := zI (-1)) hx hb dX9_findClusters_165 rfl ?_
            refine lv_ixor hx hb dX9_findClusters_166 ?_
            refine kz_any (fun z_16 rz_16 ez_16 => ?_)
            refine lv_iand hx hb dX9_findClusters_167 ?_
            refine kz_any (fun z_17 rz_17 ez_17 => ?_)
            refine kz_if_ne (tgt := 178) hx hb dX9_findClusters_168 (by decide) (by omega) (fun c_18 => ?_) (fun c_18 => ?_)
            · refine lv_iconst (v := zI 0) hx hb dX9_findClusters_178 rfl ?_
              refine lv_ior hx hb dX9_findClusters_179 ?_
              refine kz_any (fun z_19 rz_19 ez_19 => ?_)
              refine kz_iast hx hb hK hP hD hS 3 2 rfl rfl (by omega) dX9_findClusters_180 (fun H locs hP hD hS => ?_)
              have hP : va_P D vwCl [(h0, .inr (9, [.int (zI fa), .int (zI tc), .ref so, .ref sl, .ref ce, .int (zI fn), .ref kd, .ref wd, .ref hs, .ref pf, .ref lt, .int (zI mn), .ref wg, .int (zI ta), .long ck, .int (zI at9), .int (zI rfn), .ref rk, .ref rw, .ref rh, .int (zI jc), .ref sa, .ref fi, .int (zI jb), .ref ch, .ref cn, .int (zI ad), .int (zI ru), .ref kp, .int (zI dn), .ref rfa])), (wg, .inl (c_wg, 24, .inl f_wg)), (sa, .inl (c_sa, 25, .inl f_2)), (fi, .inl (c_fi, 24, .inl (upd jh (jc2).toNat (zI z_19)))), (hs, .inl (c_hs, 4, .inl f_hs))] H := hP
              have hD : va_D A [(h0, .inr (9, [.int (zI fa), .int (zI tc), .ref so, .ref sl, .ref ce, .int (zI fn), .ref kd, .ref wd, .ref hs, .ref pf, .ref lt, .int (zI mn), .ref wg, .int (zI ta), .long ck, .int (zI at9), .int (zI rfn), .ref rk, .ref rw, .ref rh, .int (zI jc), .ref sa, .ref fi, .int (zI jb), .ref ch, .ref cn, .int (zI ad), .int (zI ru), .ref kp, .int (zI dn), .ref rfa])), (wg, .inl (c_wg, 24, .inl f_wg)), (sa, .inl (c_sa, 25, .inl f_2)), (fi, .inl (c_fi, 24, .inl (upd jh (jc2).toNat (zI z_19)))), (hs, .inl (c_hs, 4, .inl f_hs))] := hD
              generalize ef_20 : upd jh (jc2).toNat (zI z_19) = f_20 at hP hD
              refine lv_iinc (v := (zI (jg + 1))) (lv' := [(4, .int (zI (jg + 1))), (3, .int (zI js)), (2, .int (zI jc2)), (0, .ref h0), (1, .int (zI wo))]) hx hb dX9_findClusters_181 hl (k := 0) rfl (kz_inc _ 1) (by decide) rfl (fun ls hl => ?_)
              refine lv_goto (tgt := 135) hx hb dX9_findClusters_184 (by decide) ?_
              exact ih135 _ (by omega) _ _ _ ⟨(jg + 1), f_20, rfl, (by omega), (by rw [← ef_20]; exact kFt_upd v_1351 (by omega)), (kFp_same v_1352 (by rw [← ef_20, pk_us, ← ez_19, kb_o0, ← ez_11])), (kFg_u v_1353 (by omega) ef_20), (kBx_u v_1354 (by omega) ef_20), (kFu_n v_1355 (by omega) (kHm_n ez_15 ez_16 ez_17 rz_17 c_18) ez_11 ez_19 ef_20), hP, hD, hS, lv_sub hl [0, 1, 2, 3, 4] rfl⟩
            · refine lv_iconst (v := zI 1) hx hb dX9_findClusters_171 rfl ?_
              refine lv_iload hx hb dX9_findClusters_172 (lv_at hl 0 rfl) ?_
              refine lv_ishl hx hb dX9_findClusters_174 ?_
              refine kz_any (fun z_21 rz_21 ez_21 => ?_)
              refine lv_goto (tgt := 179) hx hb dX9_findClusters_175 (by decide) ?_
              refine lv_ior hx hb dX9_findClusters_179 ?_
              refine kz_any (fun z_22 rz_22 ez_22 => ?_)
              refine kz_iast hx hb hK hP hD hS 3 2 rfl rfl (by omega) dX9_findClusters_180 (fun H locs hP hD hS => ?_)
              have hP : va_P D vwCl [(h0, .inr (9, [.int (zI fa), .int (zI tc), .ref so, .ref sl, .ref ce, .int (zI fn), .ref kd, .ref wd, .ref hs, .ref pf, .ref lt, .int (zI mn), .ref wg, .int (zI ta), .long ck, .int (zI at9), .int (zI rfn), .ref rk, .ref rw, .ref rh, .int (zI jc), .ref sa, .ref fi, .int (zI jb), .ref ch, .ref cn, .int (zI ad), .int (zI ru), .ref kp, .int (zI dn), .ref rfa])), (wg, .inl (c_wg, 24, .inl f_wg)), (sa, .inl (c_sa, 25, .inl f_2)), (fi, .inl (c_fi, 24, .inl (upd jh (jc2).toNat (zI z_22)))), (hs, .inl (c_hs, 4, .inl f_hs))] H := hP
              have hD : va_D A [(h0, .inr (9, [.int (zI fa), .int (zI tc), .ref so, .ref sl, .ref ce, .int (zI fn), .ref kd, .ref wd, .ref hs, .ref pf, .ref lt, .int (zI mn), .ref wg, .int (zI ta), .long ck, .int (zI at9), .int (zI rfn), .ref rk, .ref rw, .ref rh, .int (zI jc), .ref sa, .ref fi, .int (zI jb), .ref ch, .ref cn, .int (zI ad), .int (zI ru), .ref kp, .int (zI dn), .ref rfa])), (wg, .inl (c_wg, 24, .inl f_wg)), (sa, .inl (c_sa, 25, .inl f_2)), (fi, .inl (c_fi, 24, .inl (upd jh (jc2).toNat (zI z_22)))), (hs, .inl (c_hs, 4, .inl f_hs))] := hD
              generalize ef_23 : upd jh (jc2).toNat (zI z_22) = f_23 at hP hD
              refine lv_iinc (v := (zI (jg + 1))) (lv' := [(4, .int (zI (jg + 1))), (3, .int (zI js)), (2, .int (zI jc2)), (0, .ref h0), (1, .int (zI wo))]) hx hb dX9_findClusters_181 hl (k := 0) rfl (kz_inc _ 1) (by decide) rfl (fun ls hl => ?_)
              refine lv_goto (tgt := 135) hx hb dX9_findClusters_184 (by decide) ?_
              exact ih135 _ (by omega) _ _ _ ⟨(jg + 1), f_23, rfl, (by omega), (by rw [← ef_23]; exact kFt_upd v_1351 (by omega)), (kFp_set (x := zI z_11) (by omega) c_12 (by rw [← ef_23, pk_us, ← ez_22, ← ez_21])), (kFg_u v_1353 (by omega) ef_23), (kBx_u v_1354 (by omega) ef_23), (kFu_y v_1355 (by omega) (kHm_y (by omega) c_12 ez_15 ez_16 ez_17 c_18) ez_11 ez_21 ez_22 ef_23), hP, hD, hS, lv_sub hl [0, 1, 2, 3, 4] rfl⟩
      · refine lv_iload_n hx hb dX9_findClusters_107 rfl (lv_at hl 1 rfl) ?_
        refine lv_iconst (v := zI 1) hx hb dX9_findClusters_108 rfl ?_
        refine lv_aload_n hx hb dX9_findClusters_109 rfl (lv_at hl 3 rfl) ?_
        refine va_get (D := D) (ci := 9) (v := .ref wg) (C := RX9) (T := TX9) (N := 31) hx hb hts (fun _ h9 => List.mem_cons_of_mem _ (List.mem_append_right _ h9)) hown hK hP 0 rfl rfl 12 (by decide) (hts (.fieldLink RX9 34 "FontRunsModel" "writing" "[I") mw_X9_findClusters_b_7) (fun _ h9 => h9) rfl dX9_findClusters_110 ?_
        refine lv_iload hx hb dX9_findClusters_113 (lv_at hl 0 rfl) ?_
        refine kz_iald hx hb hK hP 1 0 rfl rfl (by omega) dX9_findClusters_115 (fun z_24 rz_24 ez_24 => ?_)
        refine lv_ishl hx hb dX9_findClusters_116 ?_
        refine kz_any (fun z_25 rz_25 ez_25 => ?_)
        refine lv_ior hx hb dX9_findClusters_117 ?_
        refine kz_any (fun z_26 rz_26 ez_26 => ?_)
        refine lv_istore_n (lv' := [(3, .int (zI z_26)), (4, .int (zI jk2)), (2, .int (zI jc2)), (0, .ref h0), (1, .int (zI wo))]) hx hb dX9_findClusters_118 rfl hl (by decide) rfl (fun ls hl => ?_)
        refine lv_iinc (v := (zI (jk2 + 1))) (lv' := [(4, .int (zI (jk2 + 1))), (3, .int (zI z_26)), (2, .int (zI jc2)), (0, .ref h0), (1, .int (zI wo))]) hx hb dX9_findClusters_119 hl (k := 1) rfl (kz_inc _ 1) (by decide) rfl (fun ls hl => ?_)
        refine lv_goto (tgt := 94) hx hb dX9_findClusters_122 (by decide) ?_
        exact ih94 _ (by omega) _ _ _ ⟨z_26, (jk2 + 1), rfl, (by omega), (by omega), (by omega), (kOr_s v_943 (by omega) ez_24 ez_25 ez_26), hP, hD, hS, lv_sub hl [0, 1, 2, 3, 4] rfl⟩
  · refine lv_iload_n hx hb dX9_findClusters_20 rfl (lv_at hl 0 rfl) ?_
    refine kz_if_eq (tgt := 35) hx hb dX9_findClusters_21 (by decide) (by omega) (fun c_27 => ?_) (fun c_27 => ?_)
    · refine lv_aload_n hx hb dX9_findClusters_35 rfl (lv_at hl 1 rfl) ?_
      refine va_get (D := D) (ci := 9) (v := .ref sa) (C := RX9) (T := TX9) (N := 31) hx hb hts (fun _ h9 => List.mem_cons_of_mem _ (List.mem_append_right _ h9)) hown hK hP 0 rfl rfl 21 (by decide) (hts (.fieldLink RX9 46 "FontRunsModel" "start" "[I") mw_X9_findClusters_b_3) (fun _ h9 => h9) rfl dX9_findClusters_36 ?_
      refine lv_aload_n hx hb dX9_findClusters_39 rfl (lv_at hl 1 rfl) ?_
      refine va_get (D := D) (ci := 9) (v := .int (zI jc)) (C := RX9) (T := TX9) (N := 31) hx hb hts (fun _ h9 => List.mem_cons_of_mem _ (List.mem_append_right _ h9)) hown hK hP 0 rfl rfl 20 (by decide) (hts (.fieldLink RX9 138 "FontRunsModel" "clusters" "I") mw_X9_findClusters_b_0) (fun _ h9 => h9) rfl dX9_findClusters_40 ?_
      refine lv_iload_n hx hb dX9_findClusters_43 rfl (lv_at hl 0 rfl) ?_
      refine kz_iast hx hb hK hP hD hS 2 1 rfl rfl (by omega) dX9_findClusters_44 (fun H locs hP hD hS => ?_)
      have hP : va_P D vwCl [(h0, .inr (9, [.int (zI fa), .int (zI tc), .ref so, .ref sl, .ref ce, .int (zI fn), .ref kd, .ref wd, .ref hs, .ref pf, .ref lt, .int (zI mn), .ref wg, .int (zI ta), .long ck, .int (zI at9), .int (zI rfn), .ref rk, .ref rw, .ref rh, .int (zI jc), .ref sa, .ref fi, .int (zI 0), .ref ch, .ref cn, .int (zI ad), .int (zI ru), .ref kp, .int (zI dn), .ref rfa])), (wg, .inl (c_wg, 24, .inl f_wg)), (sa, .inl (c_sa, 25, .inl (upd ja (jc).toNat (zI jk)))), (fi, .inl (c_fi, 24, .inl f_fi)), (hs, .inl (c_hs, 4, .inl f_hs))] H := hP
      have hD : va_D A [(h0, .inr (9, [.int (zI fa), .int (zI tc), .ref so, .ref sl, .ref ce, .int (zI fn), .ref kd, .ref wd, .ref hs, .ref pf, .ref lt, .int (zI mn), .ref wg, .int (zI ta), .long ck, .int (zI at9), .int (zI rfn), .ref rk, .ref rw, .ref rh, .int (zI jc), .ref sa, .ref fi, .int (zI 0), .ref ch, .ref cn, .int (zI ad), .int (zI ru), .ref kp, .int (zI dn), .ref rfa])), (wg, .inl (c_wg, 24, .inl f_wg)), (sa, .inl (c_sa, 25, .inl (upd ja (jc).toNat (zI jk)))), (fi, .inl (c_fi, 24, .inl f_fi)), (hs, .inl (c_hs, 4, .inl f_hs))] := hD
      generalize ef_28 : upd ja (jc).toNat (zI jk) = f_28 at hP hD
      refine lv_aload_n hx hb dX9_findClusters_45 rfl (lv_at hl 1 rfl) ?_
      refine lv_dup hx hb dX9_findClusters_46 rfl ?_
      refine va_get (D := D) (ci := 9) (v := .int (zI jc)) (C := RX9) (T := TX9) (N := 31) hx hb hts (fun _ h9 => List.mem_cons_of_mem _ (List.mem_append_right _ h9)) hown hK hP 0 rfl rfl 20 (by decide) (hts (.fieldLink RX9 138 "FontRunsModel" "clusters" "I") mw_X9_findClusters_b_0) (fun _ h9 => h9) rfl dX9_findClusters_47 ?_
      refine lv_iconst (v := zI 1) hx hb dX9_findClusters_50 rfl ?_
      refine kz_iadd hx hb dX9_findClusters_51 ?_
      refine va_put (D := D) (ci := 9) (v := .int (zI (jc + 1))) (ty := .int) (C := RX9) (T := TX9) (N := 31) hx hb hts (fun _ h9 => List.mem_cons_of_mem _ (List.mem_append_right _ h9)) tyX9 tyX9_ok nmX9 hown hK hP hD hS 0 rfl rfl 20 (by decide) (hts (.fieldLink RX9 138 "FontRunsModel" "clusters" "I") mw_X9_findClusters_b_0) (fun _ h9 => h9) rfl (by decide +kernel) rfl rfl (Nat.le_of_ble_eq_true rfl) dX9_findClusters_52 (fun H locs hP hD hS => ?_)
      have hP : va_P D vwCl [(h0, .inr (9, [.int (zI fa), .int (zI tc), .ref so, .ref sl, .ref ce, .int (zI fn), .ref kd, .ref wd, .ref hs, .ref pf, .ref lt, .int (zI mn), .ref wg, .int (zI ta), .long ck, .int (zI at9), .int (zI rfn), .ref rk, .ref rw, .ref rh, .int (zI (jc + 1)), .ref sa, .ref fi, .int (zI 0), .ref ch, .ref cn, .int (zI ad), .int (zI ru), .ref kp, .int (zI dn), .ref rfa])), (wg, .inl (c_wg, 24, .inl f_wg)), (sa, .inl (c_sa, 25, .inl f_28)), (fi, .inl (c_fi, 24, .inl f_fi)), (hs, .inl (c_hs, 4, .inl f_hs))] H := hP
      have hD : va_D A [(h0, .inr (9, [.int (zI fa), .int (zI tc), .ref so, .ref sl, .ref ce, .int (zI fn), .ref kd, .ref wd, .ref hs, .ref pf, .ref lt, .int (zI mn), .ref wg, .int (zI ta), .long ck, .int (zI at9), .int (zI rfn), .ref rk, .ref rw, .ref rh, .int (zI (jc + 1)), .ref sa, .ref fi, .int (zI 0), .ref ch, .ref cn, .int (zI ad), .int (zI ru), .ref kp, .int (zI dn), .ref rfa])), (wg, .inl (c_wg, 24, .inl f_wg)), (sa, .inl (c_sa, 25, .inl f_28)), (fi, .inl (c_fi, 24, .inl f_fi)), (hs, .inl (c_hs, 4, .inl f_hs))] := hD
      refine lv_iinc (v := (zI (jk + 1))) (lv' := [(2, .int (zI (jk + 1))), (0, .ref h0), (1, .int (zI wo))]) hx hb dX9_findClusters_55 hl (k := 0) rfl (kz_inc _ 1) (by decide) rfl (fun ls hl => ?_)
      refine lv_goto (tgt := 12) hx hb dX9_findClusters_58 (by decide) ?_
      exact ih12 _ (by omega) _ _ _ ⟨(jk + 1), (jc + 1), f_28, rfl, (by omega), (by omega), (by rw [← ef_28]; exact kSt_upd v_122 (by omega) (by omega)), (kSa_f v_123 c_27 ef_28), hP, hD, hS, lv_sub hl [0, 1, 2] rfl⟩
    · refine lv_aload_n hx hb dX9_findClusters_24 rfl (lv_at hl 1 rfl) ?_
      refine va_get (D := D) (ci := 9) (v := .ref wg) (C := RX9) (T := TX9) (N := 31) hx hb hts (fun _ h9 => List.mem_cons_of_mem _ (List.mem_append_right _ h9)) hown hK hP 0 rfl rfl 12 (by decide) (hts (.fieldLink RX9 34 "FontRunsModel" "writing" "[I") mw_X9_findClusters_b_7) (fun _ h9 => h9) rfl dX9_findClusters_25 ?_
      refine lv_iload_n hx hb dX9_findClusters_28 rfl (lv_at hl 0 rfl) ?_
      refine kz_iald hx hb hK hP 1 0 rfl rfl (by omega) dX9_findClusters_29 (fun z_29 rz_29 ez_29 => ?_)
      refine lv_bipush (v := zI 12) hx hb dX9_findClusters_30 (by decide) ?_
      refine kz_icmp_ge (tgt := 55) hx hb dX9_findClusters_32 (by decide) (by omega) (by omega) (fun c_30 => ?_) (fun c_30 => ?_)
      · refine lv_iinc (v := (zI (jk + 1))) (lv' := [(2, .int (zI (jk + 1))), (0, .ref h0), (1, .int (zI wo))]) hx hb dX9_findClusters_55 hl (k := 0) rfl (kz_inc _ 1) (by decide) rfl (fun ls hl => ?_)
        refine lv_goto (tgt := 12) hx hb dX9_findClusters_58 (by decide) ?_
        exact ih12 _ (by omega) _ _ _ ⟨(jk + 1), jc, ja, rfl, (by omega), (by omega), v_122, (kSa_n v_123 (by omega) (by omega) rz_29 ez_29), hP, hD, hS, lv_sub hl [0, 1, 2] rfl⟩
      · refine lv_aload_n hx hb dX9_findClusters_35 rfl (lv_at hl 1 rfl) ?_
        refine va_get (D := D) (ci := 9) (v := .ref sa) (C := RX9) (T := TX9) (N := 31) hx hb hts (fun _ h9 => List.mem_cons_of_mem _ (List.mem_append_right _ h9)) hown hK hP 0 rfl rfl 21 (by decide) (hts (.fieldLink RX9 46 "FontRunsModel" "start" "[I") mw_X9_findClusters_b_3) (fun _ h9 => h9) rfl dX9_findClusters_36 ?_
        refine lv_aload_n hx hb dX9_findClusters_39 rfl (lv_at hl 1 rfl) ?_
        refine va_get (D := D) (ci := 9) (v := .int (zI jc)) (C := RX9) (T := TX9) (N := 31) hx hb hts (fun _ h9 => List.mem_cons_of_mem _ (List.mem_append_right _ h9)) hown hK hP 0 rfl rfl 20 (by decide) (hts (.fieldLink RX9 138 "FontRunsModel" "clusters" "I") mw_X9_findClusters_b_0) (fun _ h9 => h9) rfl dX9_findClusters_40 ?_
        refine lv_iload_n hx hb dX9_findClusters_43 rfl (lv_at hl 0 rfl) ?_
        refine kz_iast hx hb hK hP hD hS 2 1 rfl rfl (by omega) dX9_findClusters_44 (fun H locs hP hD hS => ?_)
        have hP : va_P D vwCl [(h0, .inr (9, [.int (zI fa), .int (zI tc), .ref so, .ref sl, .ref ce, .int (zI fn), .ref kd, .ref wd, .ref hs, .ref pf, .ref lt, .int (zI mn), .ref wg, .int (zI ta), .long ck, .int (zI at9), .int (zI rfn), .ref rk, .ref rw, .ref rh, .int (zI jc), .ref sa, .ref fi, .int (zI 0), .ref ch, .ref cn, .int (zI ad), .int (zI ru), .ref kp, .int (zI dn), .ref rfa])), (wg, .inl (c_wg, 24, .inl f_wg)), (sa, .inl (c_sa, 25, .inl (upd ja (jc).toNat (zI jk)))), (fi, .inl (c_fi, 24, .inl f_fi)), (hs, .inl (c_hs, 4, .inl f_hs))] H := hP
        have hD : va_D A [(h0, .inr (9, [.int (zI fa), .int (zI tc), .ref so, .ref sl, .ref ce, .int (zI fn), .ref kd, .ref wd, .ref hs, .ref pf, .ref lt, .int (zI mn), .ref wg, .int (zI ta), .long ck, .int (zI at9), .int (zI rfn), .ref rk, .ref rw, .ref rh, .int (zI jc), .ref sa, .ref fi, .int (zI 0), .ref ch, .ref cn, .int (zI ad), .int (zI ru), .ref kp, .int (zI dn), .ref rfa])), (wg, .inl (c_wg, 24, .inl f_wg)), (sa, .inl (c_sa, 25, .inl (upd ja (jc).toNat (zI jk)))), (fi, .inl (c_fi, 24, .inl f_fi)), (hs, .inl (c_hs, 4, .inl f_hs))] := hD
        generalize ef_31 : upd ja (jc).toNat (zI jk) = f_31 at hP hD
        refine lv_aload_n hx hb dX9_findClusters_45 rfl (lv_at hl 1 rfl) ?_
        refine lv_dup hx hb dX9_findClusters_46 rfl ?_
        refine va_get (D := D) (ci := 9) (v := .int (zI jc)) (C := RX9) (T := TX9) (N := 31) hx hb hts (fun _ h9 => List.mem_cons_of_mem _ (List.mem_append_right _ h9)) hown hK hP 0 rfl rfl 20 (by decide) (hts (.fieldLink RX9 138 "FontRunsModel" "clusters" "I") mw_X9_findClusters_b_0) (fun _ h9 => h9) rfl dX9_findClusters_47 ?_
        refine lv_iconst (v := zI 1) hx hb dX9_findClusters_50 rfl ?_
        refine kz_iadd hx hb dX9_findClusters_51 ?_
        refine va_put (D := D) (ci := 9) (v := .int (zI (jc + 1))) (ty := .int) (C := RX9) (T := TX9) (N := 31) hx hb hts (fun _ h9 => List.mem_cons_of_mem _ (List.mem_append_right _ h9)) tyX9 tyX9_ok nmX9 hown hK hP hD hS 0 rfl rfl 20 (by decide) (hts (.fieldLink RX9 138 "FontRunsModel" "clusters" "I") mw_X9_findClusters_b_0) (fun _ h9 => h9) rfl (by decide +kernel) rfl rfl (Nat.le_of_ble_eq_true rfl) dX9_findClusters_52 (fun H locs hP hD hS => ?_)
        have hP : va_P D vwCl [(h0, .inr (9, [.int (zI fa), .int (zI tc), .ref so, .ref sl, .ref ce, .int (zI fn), .ref kd, .ref wd, .ref hs, .ref pf, .ref lt, .int (zI mn), .ref wg, .int (zI ta), .long ck, .int (zI at9), .int (zI rfn), .ref rk, .ref rw, .ref rh, .int (zI (jc + 1)), .ref sa, .ref fi, .int (zI 0), .ref ch, .ref cn, .int (zI ad), .int (zI ru), .ref kp, .int (zI dn), .ref rfa])), (wg, .inl (c_wg, 24, .inl f_wg)), (sa, .inl (c_sa, 25, .inl f_31)), (fi, .inl (c_fi, 24, .inl f_fi)), (hs, .inl (c_hs, 4, .inl f_hs))] H := hP
        have hD : va_D A [(h0, .inr (9, [.int (zI fa), .int (zI tc), .ref so, .ref sl, .ref ce, .int (zI fn), .ref kd, .ref wd, .ref hs, .ref pf, .ref lt, .int (zI mn), .ref wg, .int (zI ta), .long ck, .int (zI at9), .int (zI rfn), .ref rk, .ref rw, .ref rh, .int (zI (jc + 1)), .ref sa, .ref fi, .int (zI 0), .ref ch, .ref cn, .int (zI ad), .int (zI ru), .ref kp, .int (zI dn), .ref rfa])), (wg, .inl (c_wg, 24, .inl f_wg)), (sa, .inl (c_sa, 25, .inl f_31)), (fi, .inl (c_fi, 24, .inl f_fi)), (hs, .inl (c_hs, 4, .inl f_hs))] := hD
        refine lv_iinc (v := (zI (jk + 1))) (lv' := [(2, .int (zI (jk + 1))), (0, .ref h0), (1, .int (zI wo))]) hx hb dX9_findClusters_55 hl (k := 0) rfl (kz_inc _ 1) (by decide) rfl (fun ls hl => ?_)
        refine lv_goto (tgt := 12) hx hb dX9_findClusters_58 (by decide) ?_
        exact ih12 _ (by omega) _ _ _ ⟨(jk + 1), (jc + 1), f_31, rfl, (by omega), (by omega), (by rw [← ef_31]; exact kSt_upd v_122 (by omega) (by omega)), (kSa_y v_123 (by omega) (by omega) rz_29 ez_29 ef_31), hP, hD, hS, lv_sub hl [0, 1, 2] rfl⟩
set_option maxRecDepth 20000 in
theorem mw_X9_findChanges_b_0 : (.fieldLink RX9 138 "FontRunsModel" "clusters" "I" : Cond) ∈ wsX9_findChanges := List.mem_cons_of_mem _ (List.mem_append_left _ (List.mem_append_left _ (List.mem_of_getElem? (i := 0) rfl)))
set_option maxRecDepth 20000 in
theorem mw_X9_findChanges_b_1 : (.fieldLink RX9 74 "FontRunsModel" "fonts" "I" : Cond) ∈ wsX9_findChanges := List.mem_cons_of_mem _ (List.mem_append_left _ (List.mem_append_left _ (List.mem_of_getElem? (i := 1) rfl)))
set_option maxRecDepth 20000 in
theorem mw_X9_findChanges_b_2 : (.fieldLink RX9 52 "FontRunsModel" "changes" "[I" : Cond) ∈ wsX9_findChanges := List.mem_cons_of_mem _ (List.mem_append_left _ (List.mem_append_left _ (List.mem_of_getElem? (i := 2) rfl)))
theorem ax_X9_findChanges_b_0 {e0 e1 e2 e3 e4 e5 : Nat × va_E} : ([0, 1, 2, 3, 4] : List Nat).map (fun i => ([e0, e1, e2, e3, e4, e5] : va_W)[i]?) = ([e0, e1, e2, e3, e4] : va_W).map some := rfl
theorem ax_X9_findChanges_b_1 {e0 e1 e2 e3 e4 e5 : Nat × va_E} : ([5] : List Nat).map (fun i => ([e0, e1, e2, e3, e4, e5] : va_W)[i]?) = ([e5] : va_W).map some := rfl
theorem ax_X9_findChanges_b_2 {D : va_G} {cl : List vw_C} {H : Heap} {e0 f0 f1 f2 f3 f4 : Nat × va_E} (h : va_P D cl ((([e0] : va_W) ++ ([f0, f1, f2, f3, f4] : va_W))) H) : va_P D cl (([e0, f0, f1, f2, f3, f4] : va_W)) H := h
theorem ax_X9_findChanges_b_3 {A : Nat → Prop} {e0 f0 f1 f2 f3 f4 : Nat × va_E} (h : va_D A ((([e0] : va_W) ++ ([f0, f1, f2, f3, f4] : va_W)))) : va_D A (([e0, f0, f1, f2, f3, f4] : va_W)) := h
theorem ax_X9_findChanges_b_4 {e0 e1 e2 e3 e4 e5 : Nat × va_E} : ([1, 2, 3, 4, 5, 0] : List Nat).map (fun i => ([e0, e1, e2, e3, e4, e5] : va_W)[i]?) = ([e1, e2, e3, e4, e5, e0] : va_W).map some := rfl
theorem ax_X9_findChanges_b_5 {e0 e1 e2 e3 e4 e5 : Nat × va_E} : ([1, 4] : List Nat).map (fun i => ([e0, e1, e2, e3, e4, e5] : va_W)[i]?) = ([e1, e4] : va_W).map some := rfl
theorem ax_X9_findChanges_b_6 {e0 e1 e2 e3 e4 e5 : Nat × va_E} : ([1, 4, 0] : List Nat).map (fun i => ([e0, e1, e2, e3, e4, e5] : va_W)[i]?) = ([e1, e4, e0] : va_W).map some := rfl
set_option maxHeartbeats 4000000 in
set_option maxRecDepth 100000 in
theorem c_X9_findChanges_b (l : Launch) (D : va_G) (sz : Nat) (wo : Int) (h0 : Nat) (fa : Int) (tc : Int) (so : Nat) (sl : Nat) (ce : Nat) (fn : Int) (kd : Nat) (wd : Nat) (hs : Nat) (pf : Nat) (lt : Nat) (mn : Int) (wg : Nat) (ta : Int) (ck : Int64) (at9 : Int) (rfn : Int) (rk : Nat) (rw : Nat) (rh : Nat) (cl : Int) (sa : Nat) (fi : Nat) (bo : Int) (ch : Nat) (cn : Nat) (ad : Int) (ru : Int) (kp : Nat) (dn : Int) (rfa : Nat) (c_wg : ClassId) (f_wg : Nat → Int32) (c_sa : ClassId) (f_sa : Nat → Int32) (c_fi : ClassId) (f_fi : Nat → Int32) (c_hs : ClassId) (f_hs : Nat → Int32) (c_ch : ClassId) (f_ch : Nat → Int32) (q0 : rg wo) (q1 : 0 ≤ mn ∧ mn ≤ 24) (q2 : 0 ≤ fn ∧ fn ≤ 4) : Met l yX9_findChanges wsX9_findChanges ({ frames := 3, cells := 0, slots := 0, locals := 70 }) (kPre [.ref h0, .int (zI wo)] D [(h0, .inr (9, [.int (zI fa), .int (zI tc), .ref so, .ref sl, .ref ce, .int (zI fn), .ref kd, .ref wd, .ref hs, .ref pf, .ref lt, .int (zI mn), .ref wg, .int (zI ta), .long ck, .int (zI at9), .int (zI rfn), .ref rk, .ref rw, .ref rh, .int (zI cl), .ref sa, .ref fi, .int (zI bo), .ref ch, .ref cn, .int (zI ad), .int (zI ru), .ref kp, .int (zI dn), .ref rfa])), (wg, .inl (c_wg, 24, .inl f_wg)), (sa, .inl (c_sa, 25, .inl f_sa)), (fi, .inl (c_fi, 24, .inl f_fi)), (hs, .inl (c_hs, 4, .inl f_hs)), (ch, .inl (c_ch, 96, .inl f_ch))] [(c_wg, .int), (c_sa, .int), (c_fi, .int), (c_hs, .int), (c_ch, .int)] sz) (kQS (fun rz t => ∃ (u_cl : Int) (u_bo : Int) (u_f_sa : Nat → Int32) (u_f_fi : Nat → Int32) (u_f_ch : Nat → Int32), (0 ≤ u_cl ∧ u_cl ≤ mn) ∧ (0 ≤ u_bo ∧ u_bo ≤ 24) ∧ (kFt u_f_fi fn u_cl wo) ∧ (kDp u_f_ch u_f_fi fn u_cl wo 0) ∧ (0 ≤ rz ∧ rz ≤ 24) ∧ (u_cl = 0 ∨ kBe u_f_ch u_f_fi wo fn rz) ∧ (kRc f_wg mn f_hs fn wo u_cl u_bo u_f_sa u_f_fi) ∧ (¬ u_cl = 0 ∨ rz = 0) ∧ (kCM f_wg mn f_hs fn wo u_cl u_bo u_f_sa u_f_fi u_f_ch rz) ∧ va_P D vwCl [(h0, .inr (9, [.int (zI fa), .int (zI tc), .ref so, .ref sl, .ref ce, .int (zI fn), .ref kd, .ref wd, .ref hs, .ref pf, .ref lt, .int (zI mn), .ref wg, .int (zI ta), .long ck, .int (zI at9), .int (zI rfn), .ref rk, .ref rw, .ref rh, .int (zI u_cl), .ref sa, .ref fi, .int (zI u_bo), .ref ch, .ref cn, .int (zI ad), .int (zI ru), .ref kp, .int (zI dn), .ref rfa])), (wg, .inl (c_wg, 24, .inl f_wg)), (sa, .inl (c_sa, 25, .inl u_f_sa)), (fi, .inl (c_fi, 24, .inl u_f_fi)), (hs, .inl (c_hs, 4, .inl f_hs)), (ch, .inl (c_ch, 96, .inl u_f_ch))] t.heap ∧ va_D (va_A [(h0, .inr (9, [.int (zI fa), .int (zI tc), .ref so, .ref sl, .ref ce, .int (zI fn), .ref kd, .ref wd, .ref hs, .ref pf, .ref lt, .int (zI mn), .ref wg, .int (zI ta), .long ck, .int (zI at9), .int (zI rfn), .ref rk, .ref rw, .ref rh, .int (zI cl), .ref sa, .ref fi, .int (zI bo), .ref ch, .ref cn, .int (zI ad), .int (zI ru), .ref kp, .int (zI dn), .ref rfa])), (wg, .inl (c_wg, 24, .inl f_wg)), (sa, .inl (c_sa, 25, .inl f_sa)), (fi, .inl (c_fi, 24, .inl f_fi)), (hs, .inl (c_hs, 4, .inl f_hs)), (ch, .inl (c_ch, 96, .inl f_ch))] sz) [(h0, .inr (9, [.int (zI fa), .int (zI tc), .ref so, .ref sl, .ref ce, .int (zI fn), .ref kd, .ref wd, .ref hs, .ref pf, .ref lt, .int (zI mn), .ref wg, .int (zI ta), .long ck, .int (zI at9), .int (zI rfn), .ref rk, .ref rw, .ref rh, .int (zI u_cl), .ref sa, .ref fi, .int (zI u_bo), .ref ch, .ref cn, .int (zI ad), .int (zI ru), .ref kp, .int (zI dn), .ref rfa])), (wg, .inl (c_wg, 24, .inl f_wg)), (sa, .inl (c_sa, 25, .inl u_f_sa)), (fi, .inl (c_fi, 24, .inl u_f_fi)), (hs, .inl (c_hs, 4, .inl f_hs)), (ch, .inl (c_ch, 96, .inl u_f_ch))]) (va_A [(h0, .inr (9, [.int (zI fa), .int (zI tc), .ref so, .ref sl, .ref ce, .int (zI fn), .ref kd, .ref wd, .ref hs, .ref pf, .ref lt, .int (zI mn), .ref wg, .int (zI ta), .long ck, .int (zI at9), .int (zI rfn), .ref rk, .ref rw, .ref rh, .int (zI cl), .ref sa, .ref fi, .int (zI bo), .ref ch, .ref cn, .int (zI ad), .int (zI ru), .ref kp, .int (zI dn), .ref rfa])), (wg, .inl (c_wg, 24, .inl f_wg)), (sa, .inl (c_sa, 25, .inl f_sa)), (fi, .inl (c_fi, 24, .inl f_fi)), (hs, .inl (c_hs, 4, .inl f_hs)), (ch, .inl (c_ch, 96, .inl f_ch))] sz)) 0 0 (va_A [(h0, .inr (9, [.int (zI fa), .int (zI tc), .ref so, .ref sl, .ref ce, .int (zI fn), .ref kd, .ref wd, .ref hs, .ref pf, .ref lt, .int (zI mn), .ref wg, .int (zI ta), .long ck, .int (zI at9), .int (zI rfn), .ref rk, .ref rw, .ref rh, .int (zI cl), .ref sa, .ref fi, .int (zI bo), .ref ch, .ref cn, .int (zI ad), .int (zI ru), .ref kp, .int (zI dn), .ref rfa])), (wg, .inl (c_wg, 24, .inl f_wg)), (sa, .inl (c_sa, 25, .inl f_sa)), (fi, .inl (c_fi, 24, .inl f_fi)), (hs, .inl (c_hs, 4, .inl f_hs)), (ch, .inl (c_ch, 96, .inl f_ch))] sz) := by
  refine Met.ofW (cc := cX9_findChanges) (maxL := 4) (ret := (some .int)) (by decide) rfl ?_
  intro p e s m args below meth c s₁ B hml hv
  obtain ⟨rfl, hsz, hP, hK, hD0, hN⟩ := hv
  have hx := B.exec
  have hb := B.bytes
  have hr := B.returns
  have hts := atoms_spec (ws := wsX9_findChanges) B.pre
  have hown : s.vm.findClass RX9 = some m.cls := findClass_of_methodNamed B.named
  have hlocks := B.notSynchronized
  subst hsz
  have hD := hD0.self (sz := s.heap.size)
  generalize hAe : va_A [(h0, .inr (9, [.int (zI fa), .int (zI tc), .ref so, .ref sl, .ref ce, .int (zI fn), .ref kd, .ref wd, .ref hs, .ref pf, .ref lt, .int (zI mn), .ref wg, .int (zI ta), .long ck, .int (zI at9), .int (zI rfn), .ref rk, .ref rw, .ref rh, .int (zI cl), .ref sa, .ref fi, .int (zI bo), .ref ch, .ref cn, .int (zI ad), .int (zI ru), .ref kp, .int (zI dn), .ref rfa])), (wg, .inl (c_wg, 24, .inl f_wg)), (sa, .inl (c_sa, 25, .inl f_sa)), (fi, .inl (c_fi, 24, .inl f_fi)), (hs, .inl (c_hs, 4, .inl f_hs)), (ch, .inl (c_ch, 96, .inl f_ch))] s.heap.size = A at hD ⊢
  have hA : ∀ q : Nat, s.heap.size ≤ q → A q := fun q h => by rw [← hAe]; exact Or.inr h
  have hS : va_S A s.heap s.heap [] := va_S.rf
  have hP : va_P D vwCl [(h0, .inr (9, [.int (zI fa), .int (zI tc), .ref so, .ref sl, .ref ce, .int (zI fn), .ref kd, .ref wd, .ref hs, .ref pf, .ref lt, .int (zI mn), .ref wg, .int (zI ta), .long ck, .int (zI at9), .int (zI rfn), .ref rk, .ref rw, .ref rh, .int (zI cl), .ref sa, .ref fi, .int (zI bo), .ref ch, .ref cn, .int (zI ad), .int (zI ru), .ref kp, .int (zI dn), .ref rfa])), (wg, .inl (c_wg, 24, .inl f_wg)), (sa, .inl (c_sa, 25, .inl f_sa)), (fi, .inl (c_fi, 24, .inl f_fi)), (hs, .inl (c_hs, 4, .inl f_hs)), (ch, .inl (c_ch, 96, .inl f_ch))] s.heap := hP
  have hl := lv_entry ([.ref h0, .int (zI wo)]) (n := 4) (Nat.le_of_ble_eq_true rfl)
  rw [lg_entry_eq]
  generalize (lg_sl ([.ref h0, .int (zI wo)]) ++ List.replicate (4 - (lg_sl ([.ref h0, .int (zI wo)])).length) Slot.unset).toArray = ls at hl ⊢
  have hl : lv_has ls 4 [(0, .ref h0), (1, .int (zI wo))] := hl
  refine lv_aload_n hx hb dX9_findChanges_0 rfl (lv_at hl 0 rfl) ?_
  refine lv_iload_n hx hb dX9_findChanges_1 rfl (lv_at hl 1 rfl) ?_
  have hFc := va_free (wc := [(h0, .inr (9, [.int (zI fa), .int (zI tc), .ref so, .ref sl, .ref ce, .int (zI fn), .ref kd, .ref wd, .ref hs, .ref pf, .ref lt, .int (zI mn), .ref wg, .int (zI ta), .long ck, .int (zI at9), .int (zI rfn), .ref rk, .ref rw, .ref rh, .int (zI cl), .ref sa, .ref fi, .int (zI bo), .ref ch, .ref cn, .int (zI ad), .int (zI ru), .ref kp, .int (zI dn), .ref rfa])), (wg, .inl (c_wg, 24, .inl f_wg)), (sa, .inl (c_sa, 25, .inl f_sa)), (fi, .inl (c_fi, 24, .inl f_fi)), (hs, .inl (c_hs, 4, .inl f_hs))]) hD hS hA [0, 1, 2, 3, 4] ax_X9_findChanges_b_0
  refine va_callv (va_runV (As := [.int (zI wo)]) (rest := []) ⟨hx, hb, hml, hown, hts⟩ (c_X9_findClusters_b l D s.heap.size (wo := wo) (h0 := h0) (fa := fa) (tc := tc) (so := so) (sl := sl) (ce := ce) (fn := fn) (kd := kd) (wd := wd) (hs := hs) (pf := pf) (lt := lt) (mn := mn) (wg := wg) (ta := ta) (ck := ck) (at9 := at9) (rfn := rfn) (rk := rk) (rw := rw) (rh := rh) (cl := cl) (sa := sa) (fi := fi) (bo := bo) (ch := ch) (cn := cn) (ad := ad) (ru := ru) (kp := kp) (dn := dn) (rfa := rfa) (c_wg := c_wg) (f_wg := f_wg) (c_sa := c_sa) (f_sa := f_sa) (c_fi := c_fi) (f_fi := f_fi) (c_hs := c_hs) (f_hs := f_hs) q0 q1 q2) (cwV 1 hts gX9_findChanges_X9_findClusters rfl rfl rfl (by decide +kernel) ⟨Nat.le_of_ble_eq_true rfl, Nat.le_of_ble_eq_true rfl⟩) (kPreV hP (kD0 hD) hK hN [0, 1, 2, 3, 4] [0, 1, 2, 3] ax_X9_findChanges_b_0 rfl (by decide +kernel) 0 9 rfl rfl) rfl rfl hl.1 rfl (lv_room (Nat.le_of_ble_eq_true rfl)) dX9_findChanges_2 ⟨Nat.le_of_ble_eq_true rfl, Nat.le_of_ble_eq_true rfl⟩) hS (fun q _ h => hFc q h) hFc (fun u t H1 locs ht hvm hw hB hz1 hk1 hS => ?_)
  refine Exists.elim hB (fun u_cl_1 hB1 => Exists.elim hB1 (fun u_bo_2 hB2 => Exists.elim hB2 (fun u_f_sa_3 hB3 => Exists.elim hB3 (fun u_f_fi_4 hB4 => ?_))))
  have h_5 := hB4.1
  have h_6 := hB4.2.1
  have h_7 := hB4.2.2.1
  have h_8 := hB4.2.2.2.1
  have hP1 := hB4.2.2.2.2.1
  have hD1 := hB4.2.2.2.2.2
  clear hB hB1 hB2 hB3 hB4
  rw [ht] at hP1
  obtain ⟨hP, hD⟩ := va_join (wr := [(ch, .inl (c_ch, 96, .inl f_ch))]) (w1 := [(h0, .inr (9, [.int (zI fa), .int (zI tc), .ref so, .ref sl, .ref ce, .int (zI fn), .ref kd, .ref wd, .ref hs, .ref pf, .ref lt, .int (zI mn), .ref wg, .int (zI ta), .long ck, .int (zI at9), .int (zI rfn), .ref rk, .ref rw, .ref rh, .int (zI u_cl_1), .ref sa, .ref fi, .int (zI u_bo_2), .ref ch, .ref cn, .int (zI ad), .int (zI ru), .ref kp, .int (zI dn), .ref rfa])), (wg, .inl (c_wg, 24, .inl f_wg)), (sa, .inl (c_sa, 25, .inl u_f_sa_3)), (fi, .inl (c_fi, 24, .inl u_f_fi_4)), (hs, .inl (c_hs, 4, .inl f_hs))]) hP hD [0, 1, 2, 3, 4] [5] ax_X9_findChanges_b_0 ax_X9_findChanges_b_1 (by decide +kernel) (by decide +kernel) hk1 hFc hP1 hD1
  have hP := ax_X9_findChanges_b_2 hP
  have hD := ax_X9_findChanges_b_3 hD
  generalize H1 = H at hP hS ⊢
  have hP : va_P D vwCl [(ch, .inl (c_ch, 96, .inl f_ch)), (h0, .inr (9, [.int (zI fa), .int (zI tc), .ref so, .ref sl, .ref ce, .int (zI fn), .ref kd, .ref wd, .ref hs, .ref pf, .ref lt, .int (zI mn), .ref wg, .int (zI ta), .long ck, .int (zI at9), .int (zI rfn), .ref rk, .ref rw, .ref rh, .int (zI u_cl_1), .ref sa, .ref fi, .int (zI u_bo_2), .ref ch, .ref cn, .int (zI ad), .int (zI ru), .ref kp, .int (zI dn), .ref rfa])), (wg, .inl (c_wg, 24, .inl f_wg)), (sa, .inl (c_sa, 25, .inl u_f_sa_3)), (fi, .inl (c_fi, 24, .inl u_f_fi_4)), (hs, .inl (c_hs, 4, .inl f_hs))] H := hP
  have hD : va_D A [(ch, .inl (c_ch, 96, .inl f_ch)), (h0, .inr (9, [.int (zI fa), .int (zI tc), .ref so, .ref sl, .ref ce, .int (zI fn), .ref kd, .ref wd, .ref hs, .ref pf, .ref lt, .int (zI mn), .ref wg, .int (zI ta), .long ck, .int (zI at9), .int (zI rfn), .ref rk, .ref rw, .ref rh, .int (zI u_cl_1), .ref sa, .ref fi, .int (zI u_bo_2), .ref ch, .ref cn, .int (zI ad), .int (zI ru), .ref kp, .int (zI dn), .ref rfa])), (wg, .inl (c_wg, 24, .inl f_wg)), (sa, .inl (c_sa, 25, .inl u_f_sa_3)), (fi, .inl (c_fi, 24, .inl u_f_fi_4)), (hs, .inl (c_hs, 4, .inl f_hs))] := hD
  refine lv_aload_n hx hb dX9_findChanges_5 rfl (lv_at hl 0 rfl) ?_
  refine va_get (D := D) (ci := 9) (v := .int (zI u_cl_1)) (C := RX9) (T := TX9) (N := 31) hx hb hts (fun _ h9 => List.mem_cons_of_mem _ (List.mem_append_right _ h9)) hown hK hP 1 rfl rfl 20 (by decide) (hts (.fieldLink RX9 138 "FontRunsModel" "clusters" "I") mw_X9_findChanges_b_0) (fun _ h9 => h9) rfl dX9_findChanges_6 ?_
  refine lv_iconst (v := zI 1) hx hb dX9_findChanges_9 rfl ?_
  refine kz_isub hx hb dX9_findChanges_10 ?_
  refine lv_istore_n (lv' := [(2, .int (zI (u_cl_1 - 1))), (0, .ref h0), (1, .int (zI wo))]) hx hb dX9_findChanges_11 rfl hl (by decide) rfl (fun ls hl => ?_)
  refine k_loopM (I := fun n9 H locs ls => ∃ (jc : Int) (ja : Nat → Int32), n9 = (jc + 1).toNat ∧ (-1 ≤ jc ∧ jc ≤ u_cl_1 - 1) ∧ (kDp ja u_f_fi_4 fn u_cl_1 wo (jc + 1)) ∧ va_P D vwCl [(ch, .inl (c_ch, 96, .inl ja)), (h0, .inr (9, [.int (zI fa), .int (zI tc), .ref so, .ref sl, .ref ce, .int (zI fn), .ref kd, .ref wd, .ref hs, .ref pf, .ref lt, .int (zI mn), .ref wg, .int (zI ta), .long ck, .int (zI at9), .int (zI rfn), .ref rk, .ref rw, .ref rh, .int (zI u_cl_1), .ref sa, .ref fi, .int (zI u_bo_2), .ref ch, .ref cn, .int (zI ad), .int (zI ru), .ref kp, .int (zI dn), .ref rfa])), (wg, .inl (c_wg, 24, .inl f_wg)), (sa, .inl (c_sa, 25, .inl u_f_sa_3)), (fi, .inl (c_fi, 24, .inl u_f_fi_4)), (hs, .inl (c_hs, 4, .inl f_hs))] H ∧ va_D A [(ch, .inl (c_ch, 96, .inl ja)), (h0, .inr (9, [.int (zI fa), .int (zI tc), .ref so, .ref sl, .ref ce, .int (zI fn), .ref kd, .ref wd, .ref hs, .ref pf, .ref lt, .int (zI mn), .ref wg, .int (zI ta), .long ck, .int (zI at9), .int (zI rfn), .ref rk, .ref rw, .ref rh, .int (zI u_cl_1), .ref sa, .ref fi, .int (zI u_bo_2), .ref ch, .ref cn, .int (zI ad), .int (zI ru), .ref kp, .int (zI dn), .ref rfa])), (wg, .inl (c_wg, 24, .inl f_wg)), (sa, .inl (c_sa, 25, .inl u_f_sa_3)), (fi, .inl (c_fi, 24, .inl u_f_fi_4)), (hs, .inl (c_hs, 4, .inl f_hs))] ∧ va_S A s.heap H locs ∧ lv_has ls 4 [(2, .int (zI jc)), (0, .ref h0), (1, .int (zI wo))]) ?_ _ ⟨(u_cl_1 - 1), f_ch, rfl, (by omega), (kDp_top (by omega)), hP, hD, hS, hl⟩
  intro n12 ih12 H locs ls hI
  obtain ⟨jc, ja, en12, v_120, v_121, hP, hD, hS, hl⟩ := hI
  refine lv_iload_n hx hb dX9_findChanges_12 rfl (lv_at hl 0 rfl) ?_
  refine kz_if_lt (tgt := 55) hx hb dX9_findChanges_13 (by decide) (by omega) (fun c_9 => ?_) (fun c_9 => ?_)
  · refine lv_aload_n hx hb dX9_findChanges_55 rfl (lv_at hl 1 rfl) ?_
    refine va_get (D := D) (ci := 9) (v := .int (zI u_cl_1)) (C := RX9) (T := TX9) (N := 31) hx hb hts (fun _ h9 => List.mem_cons_of_mem _ (List.mem_append_right _ h9)) hown hK hP 1 rfl rfl 20 (by decide) (hts (.fieldLink RX9 138 "FontRunsModel" "clusters" "I") mw_X9_findChanges_b_0) (fun _ h9 => h9) rfl dX9_findChanges_56 ?_
    refine kz_if_ne (tgt := 66) hx hb dX9_findChanges_59 (by decide) (by omega) (fun c_10 => ?_) (fun c_10 => ?_)
    · refine lv_bipush (v := zI 24) hx hb dX9_findChanges_66 (by decide) ?_
      refine lv_istore_n (lv' := [(2, .int (zI 24)), (0, .ref h0), (1, .int (zI wo))]) hx hb dX9_findChanges_68 rfl hl (by decide) rfl (fun ls hl => ?_)
      refine lv_iconst (v := zI 0) hx hb dX9_findChanges_69 rfl ?_
      refine lv_istore_n (lv' := [(3, .int (zI 0)), (2, .int (zI 24)), (0, .ref h0), (1, .int (zI wo))]) hx hb dX9_findChanges_70 rfl hl (by decide) rfl (fun ls hl => ?_)
      refine k_loopM (I := fun n9 H locs ls => ∃ (jb : Int) (jg2 : Int), n9 = (fn - jg2).toNat ∧ (0 ≤ jg2 ∧ jg2 ≤ fn) ∧ (0 ≤ jb ∧ jb ≤ 24) ∧ (u_cl_1 = 0 ∨ kBe ja u_f_fi_4 wo jg2 jb) ∧ (¬ u_cl_1 = 0 ∨ jb = 0) ∧ va_P D vwCl [(ch, .inl (c_ch, 96, .inl ja)), (h0, .inr (9, [.int (zI fa), .int (zI tc), .ref so, .ref sl, .ref ce, .int (zI fn), .ref kd, .ref wd, .ref hs, .ref pf, .ref lt, .int (zI mn), .ref wg, .int (zI ta), .long ck, .int (zI at9), .int (zI rfn), .ref rk, .ref rw, .ref rh, .int (zI u_cl_1), .ref sa, .ref fi, .int (zI u_bo_2), .ref ch, .ref cn, .int (zI ad), .int (zI ru), .ref kp, .int (zI dn), .ref rfa])), (wg, .inl (c_wg, 24, .inl f_wg)), (sa, .inl (c_sa, 25, .inl u_f_sa_3)), (fi, .inl (c_fi, 24, .inl u_f_fi_4)), (hs, .inl (c_hs, 4, .inl f_hs))] H ∧ va_D A [(ch, .inl (c_ch, 96, .inl ja)), (h0, .inr (9, [.int (zI fa), .int (zI tc), .ref so, .ref sl, .ref ce, .int (zI fn), .ref kd, .ref wd, .ref hs, .ref pf, .ref lt, .int (zI mn), .ref wg, .int (zI ta), .long ck, .int (zI at9), .int (zI rfn), .ref rk, .ref rw, .ref rh, .int (zI u_cl_1), .ref sa, .ref fi, .int (zI u_bo_2), .ref ch, .ref cn, .int (zI ad), .int (zI ru), .ref kp, .int (zI dn), .ref rfa])), (wg, .inl (c_wg, 24, .inl f_wg)), (sa, .inl (c_sa, 25, .inl u_f_sa_3)), (fi, .inl (c_fi, 24, .inl u_f_fi_4)), (hs, .inl (c_hs, 4, .inl f_hs))] ∧ va_S A s.heap H locs ∧ lv_has ls 4 [(3, .int (zI jg2)), (2, .int (zI jb)), (0, .ref h0), (1, .int (zI wo))]) ?_ _ ⟨24, 0, rfl, (by omega), (by omega), (Or.inr kBe_0), (by omega), hP, hD, hS, hl⟩
      intro n71 ih71 H locs ls hI
      obtain ⟨jb, jg2, en71, v_710, v_711, v_712, v_713, hP, hD, hS, hl⟩ := hI
      refine lv_iload_n hx hb dX9_findChanges_71 rfl (lv_at hl 0 rfl) ?_
      refine lv_aload_n hx hb dX9_findChanges_72 rfl (lv_at hl 2 rfl) ?_
      refine va_get (D := D) (ci := 9) (v := .int (zI fn)) (C := RX9) (T := TX9) (N := 31) hx hb hts (fun _ h9 => List.mem_cons_of_mem _ (List.mem_append_right _ h9)) hown hK hP 1 rfl rfl 5 (by decide) (hts (.fieldLink RX9 74 "FontRunsModel" "fonts" "I") mw_X9_findChanges_b_1) (fun _ h9 => h9) rfl dX9_findChanges_73 ?_
      refine kz_icmp_ge (tgt := 123) hx hb dX9_findChanges_76 (by decide) (by omega) (by omega) (fun c_11 => ?_) (fun c_11 => ?_)
      · refine lv_iload_n hx hb dX9_findChanges_123 rfl (lv_at hl 1 rfl) ?_
        have hP9 := hP.sub (ws' := [(h0, .inr (9, [.int (zI fa), .int (zI tc), .ref so, .ref sl, .ref ce, .int (zI fn), .ref kd, .ref wd, .ref hs, .ref pf, .ref lt, .int (zI mn), .ref wg, .int (zI ta), .long ck, .int (zI at9), .int (zI rfn), .ref rk, .ref rw, .ref rh, .int (zI u_cl_1), .ref sa, .ref fi, .int (zI u_bo_2), .ref ch, .ref cn, .int (zI ad), .int (zI ru), .ref kp, .int (zI dn), .ref rfa])), (wg, .inl (c_wg, 24, .inl f_wg)), (sa, .inl (c_sa, 25, .inl u_f_sa_3)), (fi, .inl (c_fi, 24, .inl u_f_fi_4)), (hs, .inl (c_hs, 4, .inl f_hs)), (ch, .inl (c_ch, 96, .inl ja))]) [1, 2, 3, 4, 5, 0] rfl
        have hD9 := hD.sub (ws' := [(h0, .inr (9, [.int (zI fa), .int (zI tc), .ref so, .ref sl, .ref ce, .int (zI fn), .ref kd, .ref wd, .ref hs, .ref pf, .ref lt, .int (zI mn), .ref wg, .int (zI ta), .long ck, .int (zI at9), .int (zI rfn), .ref rk, .ref rw, .ref rh, .int (zI u_cl_1), .ref sa, .ref fi, .int (zI u_bo_2), .ref ch, .ref cn, .int (zI ad), .int (zI ru), .ref kp, .int (zI dn), .ref rfa])), (wg, .inl (c_wg, 24, .inl f_wg)), (sa, .inl (c_sa, 25, .inl u_f_sa_3)), (fi, .inl (c_fi, 24, .inl u_f_fi_4)), (hs, .inl (c_hs, 4, .inl f_hs)), (ch, .inl (c_ch, 96, .inl ja))]) [1, 2, 3, 4, 5, 0] (by decide +kernel) rfl
        exact W.iret (v := (zI jb)) hx hb hr (fun t ht hW => kQS_of (by omega) ⟨u_cl_1, u_bo_2, u_f_sa_3, u_f_fi_4, ja, h_5, h_6, h_7, (kDp_eq v_121 (by omega)), v_711, (Or.imp_right (fun q => kBe_le q (by omega)) v_712), h_8, v_713, ⟨h_8, (kDp_eq v_121 (by omega)), h_7, (Or.imp_right (fun q => kBe_le q (by omega)) v_712), v_713⟩, by rw [ht]; exact hP9, hD9⟩ (hS.F ht)) hS.2.2 dX9_findChanges_124
      · refine lv_aload_n hx hb dX9_findChanges_79 rfl (lv_at hl 2 rfl) ?_
        refine va_get (D := D) (ci := 9) (v := .int (zI u_cl_1)) (C := RX9) (T := TX9) (N := 31) hx hb hts (fun _ h9 => List.mem_cons_of_mem _ (List.mem_append_right _ h9)) hown hK hP 1 rfl rfl 20 (by decide) (hts (.fieldLink RX9 138 "FontRunsModel" "clusters" "I") mw_X9_findChanges_b_0) (fun _ h9 => h9) rfl dX9_findChanges_80 ?_
        refine kz_if_le (tgt := 123) hx hb dX9_findChanges_83 (by decide) (by omega) (fun c_12 => ?_) (fun c_12 => ?_)
        · refine lv_iload_n hx hb dX9_findChanges_123 rfl (lv_at hl 1 rfl) ?_
          have hP9 := hP.sub (ws' := [(h0, .inr (9, [.int (zI fa), .int (zI tc), .ref so, .ref sl, .ref ce, .int (zI fn), .ref kd, .ref wd, .ref hs, .ref pf, .ref lt, .int (zI mn), .ref wg, .int (zI ta), .long ck, .int (zI at9), .int (zI rfn), .ref rk, .ref rw, .ref rh, .int (zI u_cl_1), .ref sa, .ref fi, .int (zI u_bo_2), .ref ch, .ref cn, .int (zI ad), .int (zI ru), .ref kp, .int (zI dn), .ref rfa])), (wg, .inl (c_wg, 24, .inl f_wg)), (sa, .inl (c_sa, 25, .inl u_f_sa_3)), (fi, .inl (c_fi, 24, .inl u_f_fi_4)), (hs, .inl (c_hs, 4, .inl f_hs)), (ch, .inl (c_ch, 96, .inl ja))]) [1, 2, 3, 4, 5, 0] rfl
          have hD9 := hD.sub (ws' := [(h0, .inr (9, [.int (zI fa), .int (zI tc), .ref so, .ref sl, .ref ce, .int (zI fn), .ref kd, .ref wd, .ref hs, .ref pf, .ref lt, .int (zI mn), .ref wg, .int (zI ta), .long ck, .int (zI at9), .int (zI rfn), .ref rk, .ref rw, .ref rh, .int (zI u_cl_1), .ref sa, .ref fi, .int (zI u_bo_2), .ref ch, .ref cn, .int (zI ad), .int (zI ru), .ref kp, .int (zI dn), .ref rfa])), (wg, .inl (c_wg, 24, .inl f_wg)), (sa, .inl (c_sa, 25, .inl u_f_sa_3)), (fi, .inl (c_fi, 24, .inl u_f_fi_4)), (hs, .inl (c_hs, 4, .inl f_hs)), (ch, .inl (c_ch, 96, .inl ja))]) [1, 2, 3, 4, 5, 0] (by decide +kernel) rfl
          exact W.iret (v := (zI jb)) hx hb hr (fun t ht hW => kQS_of (by omega) ⟨u_cl_1, u_bo_2, u_f_sa_3, u_f_fi_4, ja, h_5, h_6, h_7, (kDp_eq v_121 (by omega)), v_711, (Or.inl (by omega)), h_8, v_713, ⟨h_8, (kDp_eq v_121 (by omega)), h_7, (Or.inl (by omega)), v_713⟩, by rw [ht]; exact hP9, hD9⟩ (hS.F ht)) hS.2.2 dX9_findChanges_124
        · refine lv_aload_n hx hb dX9_findChanges_86 rfl (lv_at hl 2 rfl) ?_
          refine lv_iconst (v := zI 0) hx hb dX9_findChanges_87 rfl ?_
          refine lv_iload_n hx hb dX9_findChanges_88 rfl (lv_at hl 0 rfl) ?_
          refine lv_iload_n hx hb dX9_findChanges_89 rfl (lv_at hl 3 rfl) ?_
          refine k_callR (va_runV (As := [.int (zI 0), .int (zI jg2), .int (zI wo)]) (rest := []) ⟨hx, hb, hml, hown, hts⟩ (c_X9_canSet l D H.size (kc := (0 : Int)) (f := jg2) (wo := wo) (h0 := h0) (fa := fa) (tc := tc) (so := so) (sl := sl) (ce := ce) (fn := fn) (kd := kd) (wd := wd) (hs := hs) (pf := pf) (lt := lt) (mn := mn) (wg := wg) (ta := ta) (ck := ck) (at9 := at9) (rfn := rfn) (rk := rk) (rw := rw) (rh := rh) (cl := u_cl_1) (sa := sa) (fi := fi) (bo := u_bo_2) (ch := ch) (cn := cn) (ad := ad) (ru := ru) (kp := kp) (dn := dn) (rfa := rfa) (c_fi := c_fi) (f_fi := u_f_fi_4) (by omega) (by omega) q0) (cwV 3 hts gX9_findChanges_X9_canSet rfl rfl rfl (by decide +kernel) ⟨Nat.le_of_ble_eq_true rfl, Nat.le_of_ble_eq_true rfl⟩) (kPreV hP (kD0 hD) hK hN [1, 4] [2] ax_X9_findChanges_b_5 rfl (by decide +kernel) 1 9 rfl rfl) rfl rfl hl.1 rfl (lv_room (Nat.le_of_ble_eq_true rfl)) dX9_findChanges_90 ⟨Nat.le_of_ble_eq_true rfl, Nat.le_of_ble_eq_true rfl⟩) ?_
          refine lv_if_eq (tgt := 115) hx hb dX9_findChanges_93 (by decide) (fun c_13 => ?_) (fun c_13 => ?_)
          · have c_13 : ¬ (kCan (u_f_fi_4 (0 : Int).toNat) jg2 wo) := b01f c_13
            refine lv_iload_n hx hb dX9_findChanges_115 rfl (lv_at hl 1 rfl) ?_
            refine lv_istore_n (lv' := [(2, .int (zI jb)), (3, .int (zI jg2)), (0, .ref h0), (1, .int (zI wo))]) hx hb dX9_findChanges_116 rfl hl (by decide) rfl (fun ls hl => ?_)
            refine lv_iinc (v := (zI (jg2 + 1))) (lv' := [(3, .int (zI (jg2 + 1))), (2, .int (zI jb)), (0, .ref h0), (1, .int (zI wo))]) hx hb dX9_findChanges_117 hl (k := 1) rfl (kz_inc _ 1) (by decide) rfl (fun ls hl => ?_)
            refine lv_goto (tgt := 71) hx hb dX9_findChanges_120 (by decide) ?_
            exact ih71 _ (by omega) _ _ _ ⟨jb, (jg2 + 1), rfl, (by omega), v_711, (Or.inr (kBe_no (Or.resolve_left v_712 (by omega)) c_13)), v_713, hP, hD, hS, lv_sub hl [0, 1, 2, 3] rfl⟩
          · have c_13 : kCan (u_f_fi_4 (0 : Int).toNat) jg2 wo := b01t c_13
            refine lv_aload_n hx hb dX9_findChanges_96 rfl (lv_at hl 2 rfl) ?_
            refine va_get (D := D) (ci := 9) (v := .ref ch) (C := RX9) (T := TX9) (N := 31) hx hb hts (fun _ h9 => List.mem_cons_of_mem _ (List.mem_append_right _ h9)) hown hK hP 1 rfl rfl 24 (by decide) (hts (.fieldLink RX9 52 "FontRunsModel" "changes" "[I") mw_X9_findChanges_b_2) (fun _ h9 => h9) rfl dX9_findChanges_97 ?_
            refine lv_iload_n hx hb dX9_findChanges_100 rfl (lv_at hl 0 rfl) ?_
            refine kz_iald hx hb hK hP 0 4 rfl rfl (by omega) dX9_findChanges_101 (fun z_14 rz_14 ez_14 => ?_)
            have gz_14 := v_121 0 jg2 (by omega) (by omega) (by omega) (by omega)
            have az_14 := kch_at0 rz_14 ez_14
            have bz_14 : 0 ≤ z_14 ∧ z_14 ≤ 24 := by have u1 := gz_14.1; have u2 := gz_14.2.1; rw [az_14] at u1 u2; exact ⟨u1, u2⟩
            refine lv_iload_n hx hb dX9_findChanges_102 rfl (lv_at hl 1 rfl) ?_
            refine kz_icmp_ge (tgt := 115) hx hb dX9_findChanges_103 (by decide) (by omega) (by omega) (fun c_15 => ?_) (fun c_15 => ?_)
            · refine lv_iload_n hx hb dX9_findChanges_115 rfl (lv_at hl 1 rfl) ?_
              refine lv_istore_n (lv' := [(2, .int (zI jb)), (3, .int (zI jg2)), (0, .ref h0), (1, .int (zI wo))]) hx hb dX9_findChanges_116 rfl hl (by decide) rfl (fun ls hl => ?_)
              refine lv_iinc (v := (zI (jg2 + 1))) (lv' := [(3, .int (zI (jg2 + 1))), (2, .int (zI jb)), (0, .ref h0), (1, .int (zI wo))]) hx hb dX9_findChanges_117 hl (k := 1) rfl (kz_inc _ 1) (by decide) rfl (fun ls hl => ?_)
              refine lv_goto (tgt := 71) hx hb dX9_findChanges_120 (by decide) ?_
              exact ih71 _ (by omega) _ _ _ ⟨jb, (jg2 + 1), rfl, (by omega), v_711, (Or.inr (kBe_ge (v := z_14) (Or.resolve_left v_712 (by omega)) az_14.symm (by omega))), v_713, hP, hD, hS, lv_sub hl [0, 1, 2, 3] rfl⟩
            · refine lv_aload_n hx hb dX9_findChanges_106 rfl (lv_at hl 2 rfl) ?_
              refine va_get (D := D) (ci := 9) (v := .ref ch) (C := RX9) (T := TX9) (N := 31) hx hb hts (fun _ h9 => List.mem_cons_of_mem _ (List.mem_append_right _ h9)) hown hK hP 1 rfl rfl 24 (by decide) (hts (.fieldLink RX9 52 "FontRunsModel" "changes" "[I") mw_X9_findChanges_b_2) (fun _ h9 => h9) rfl dX9_findChanges_107 ?_
              refine lv_iload_n hx hb dX9_findChanges_110 rfl (lv_at hl 0 rfl) ?_
              refine kz_iald hx hb hK hP 0 4 rfl rfl (by omega) dX9_findChanges_111 (fun z_16 rz_16 ez_16 => ?_)
              have q9 : z_14 = z_16 := (zI_eq rz_14 rz_16).mp (ez_14.symm.trans ez_16)
              subst q9
              refine lv_goto (tgt := 116) hx hb dX9_findChanges_112 (by decide) ?_
              refine lv_istore_n (lv' := [(2, .int (zI z_14)), (3, .int (zI jg2)), (0, .ref h0), (1, .int (zI wo))]) hx hb dX9_findChanges_116 rfl hl (by decide) rfl (fun ls hl => ?_)
              refine lv_iinc (v := (zI (jg2 + 1))) (lv' := [(3, .int (zI (jg2 + 1))), (2, .int (zI z_14)), (0, .ref h0), (1, .int (zI wo))]) hx hb dX9_findChanges_117 hl (k := 1) rfl (kz_inc _ 1) (by decide) rfl (fun ls hl => ?_)
              refine lv_goto (tgt := 71) hx hb dX9_findChanges_120 (by decide) ?_
              exact ih71 _ (by omega) _ _ _ ⟨z_14, (jg2 + 1), rfl, (by omega), (by omega), (Or.inr (kBe_lt (Or.resolve_left v_712 (by omega)) (by omega) c_13 (by omega) az_14.symm (by omega))), (by omega), hP, hD, hS, lv_sub hl [0, 1, 2, 3] rfl⟩
    · refine lv_iconst (v := zI 0) hx hb dX9_findChanges_62 rfl ?_
      refine lv_goto (tgt := 68) hx hb dX9_findChanges_63 (by decide) ?_
      refine lv_istore_n (lv' := [(2, .int (zI 0)), (0, .ref h0), (1, .int (zI wo))]) hx hb dX9_findChanges_68 rfl hl (by decide) rfl (fun ls hl => ?_)
      refine lv_iconst (v := zI 0) hx hb dX9_findChanges_69 rfl ?_
      refine lv_istore_n (lv' := [(3, .int (zI 0)), (2, .int (zI 0)), (0, .ref h0), (1, .int (zI wo))]) hx hb dX9_findChanges_70 rfl hl (by decide) rfl (fun ls hl => ?_)
      refine k_loopM (I := fun n9 H locs ls => ∃ (jb : Int) (jg2 : Int), n9 = (fn - jg2).toNat ∧ (0 ≤ jg2 ∧ jg2 ≤ fn) ∧ (0 ≤ jb ∧ jb ≤ 24) ∧ (u_cl_1 = 0 ∨ kBe ja u_f_fi_4 wo jg2 jb) ∧ (¬ u_cl_1 = 0 ∨ jb = 0) ∧ va_P D vwCl [(ch, .inl (c_ch, 96, .inl ja)), (h0, .inr (9, [.int (zI fa), .int (zI tc), .ref so, .ref sl, .ref ce, .int (zI fn), .ref kd, .ref wd, .ref hs, .ref pf, .ref lt, .int (zI mn), .ref wg, .int (zI ta), .long ck, .int (zI at9), .int (zI rfn), .ref rk, .ref rw, .ref rh, .int (zI u_cl_1), .ref sa, .ref fi, .int (zI u_bo_2), .ref ch, .ref cn, .int (zI ad), .int (zI ru), .ref kp, .int (zI dn), .ref rfa])), (wg, .inl (c_wg, 24, .inl f_wg)), (sa, .inl (c_sa, 25, .inl u_f_sa_3)), (fi, .inl (c_fi, 24, .inl u_f_fi_4)), (hs, .inl (c_hs, 4, .inl f_hs))] H ∧ va_D A [(ch, .inl (c_ch, 96, .inl ja)), (h0, .inr (9, [.int (zI fa), .int (zI tc), .ref so, .ref sl, .ref ce, .int (zI fn), .ref kd, .ref wd, .ref hs, .ref pf, .ref lt, .int (zI mn), .ref wg, .int (zI ta), .long ck, .int (zI at9), .int (zI rfn), .ref rk, .ref rw, .ref rh, .int (zI u_cl_1), .ref sa, .ref fi, .int (zI u_bo_2), .ref ch, .ref cn, .int (zI ad), .int (zI ru), .ref kp, .int (zI dn), .ref rfa])), (wg, .inl (c_wg, 24, .inl f_wg)), (sa, .inl (c_sa, 25, .inl u_f_sa_3)), (fi, .inl (c_fi, 24, .inl u_f_fi_4)), (hs, .inl (c_hs, 4, .inl f_hs))] ∧ va_S A s.heap H locs ∧ lv_has ls 4 [(3, .int (zI jg2)), (2, .int (zI jb)), (0, .ref h0), (1, .int (zI wo))]) ?_ _ ⟨0, 0, rfl, (by omega), (by omega), (Or.inl c_10), (by omega), hP, hD, hS, hl⟩
      intro n71 ih71 H locs ls hI
      obtain ⟨jb, jg2, en71, v_710, v_711, v_712, v_713, hP, hD, hS, hl⟩ := hI
      refine lv_iload_n hx hb dX9_findChanges_71 rfl (lv_at hl 0 rfl) ?_
      refine lv_aload_n hx hb dX9_findChanges_72 rfl (lv_at hl 2 rfl) ?_
      refine va_get (D := D) (ci := 9) (v := .int (zI fn)) (C := RX9) (T := TX9) (N := 31) hx hb hts (fun _ h9 => List.mem_cons_of_mem _ (List.mem_append_right _ h9)) hown hK hP 1 rfl rfl 5 (by decide) (hts (.fieldLink RX9 74 "FontRunsModel" "fonts" "I") mw_X9_findChanges_b_1) (fun _ h9 => h9) rfl dX9_findChanges_73 ?_
      refine kz_icmp_ge (tgt := 123) hx hb dX9_findChanges_76 (by decide) (by omega) (by omega) (fun c_17 => ?_) (fun c_17 => ?_)
      · refine lv_iload_n hx hb dX9_findChanges_123 rfl (lv_at hl 1 rfl) ?_
        have hP9 := hP.sub (ws' := [(h0, .inr (9, [.int (zI fa), .int (zI tc), .ref so, .ref sl, .ref ce, .int (zI fn), .ref kd, .ref wd, .ref hs, .ref pf, .ref lt, .int (zI mn), .ref wg, .int (zI ta), .long ck, .int (zI at9), .int (zI rfn), .ref rk, .ref rw, .ref rh, .int (zI u_cl_1), .ref sa, .ref fi, .int (zI u_bo_2), .ref ch, .ref cn, .int (zI ad), .int (zI ru), .ref kp, .int (zI dn), .ref rfa])), (wg, .inl (c_wg, 24, .inl f_wg)), (sa, .inl (c_sa, 25, .inl u_f_sa_3)), (fi, .inl (c_fi, 24, .inl u_f_fi_4)), (hs, .inl (c_hs, 4, .inl f_hs)), (ch, .inl (c_ch, 96, .inl ja))]) [1, 2, 3, 4, 5, 0] rfl
        have hD9 := hD.sub (ws' := [(h0, .inr (9, [.int (zI fa), .int (zI tc), .ref so, .ref sl, .ref ce, .int (zI fn), .ref kd, .ref wd, .ref hs, .ref pf, .ref lt, .int (zI mn), .ref wg, .int (zI ta), .long ck, .int (zI at9), .int (zI rfn), .ref rk, .ref rw, .ref rh, .int (zI u_cl_1), .ref sa, .ref fi, .int (zI u_bo_2), .ref ch, .ref cn, .int (zI ad), .int (zI ru), .ref kp, .int (zI dn), .ref rfa])), (wg, .inl (c_wg, 24, .inl f_wg)), (sa, .inl (c_sa, 25, .inl u_f_sa_3)), (fi, .inl (c_fi, 24, .inl u_f_fi_4)), (hs, .inl (c_hs, 4, .inl f_hs)), (ch, .inl (c_ch, 96, .inl ja))]) [1, 2, 3, 4, 5, 0] (by decide +kernel) rfl
        exact W.iret (v := (zI jb)) hx hb hr (fun t ht hW => kQS_of (by omega) ⟨u_cl_1, u_bo_2, u_f_sa_3, u_f_fi_4, ja, h_5, h_6, h_7, (kDp_eq v_121 (by omega)), v_711, (Or.inl c_10), h_8, v_713, ⟨h_8, (kDp_eq v_121 (by omega)), h_7, (Or.inl c_10), v_713⟩, by rw [ht]; exact hP9, hD9⟩ (hS.F ht)) hS.2.2 dX9_findChanges_124
      · refine lv_aload_n hx hb dX9_findChanges_79 rfl (lv_at hl 2 rfl) ?_
        refine va_get (D := D) (ci := 9) (v := .int (zI u_cl_1)) (C := RX9) (T := TX9) (N := 31) hx hb hts (fun _ h9 => List.mem_cons_of_mem _ (List.mem_append_right _ h9)) hown hK hP 1 rfl rfl 20 (by decide) (hts (.fieldLink RX9 138 "FontRunsModel" "clusters" "I") mw_X9_findChanges_b_0) (fun _ h9 => h9) rfl dX9_findChanges_80 ?_
        refine kz_if_le (tgt := 123) hx hb dX9_findChanges_83 (by decide) (by omega) (fun c_18 => ?_) (fun c_18 => ?_)
        · refine lv_iload_n hx hb dX9_findChanges_123 rfl (lv_at hl 1 rfl) ?_
          have hP9 := hP.sub (ws' := [(h0, .inr (9, [.int (zI fa), .int (zI tc), .ref so, .ref sl, .ref ce, .int (zI fn), .ref kd, .ref wd, .ref hs, .ref pf, .ref lt, .int (zI mn), .ref wg, .int (zI ta), .long ck, .int (zI at9), .int (zI rfn), .ref rk, .ref rw, .ref rh, .int (zI u_cl_1), .ref sa, .ref fi, .int (zI u_bo_2), .ref ch, .ref cn, .int (zI ad), .int (zI ru), .ref kp, .int (zI dn), .ref rfa])), (wg, .inl (c_wg, 24, .inl f_wg)), (sa, .inl (c_sa, 25, .inl u_f_sa_3)), (fi, .inl (c_fi, 24, .inl u_f_fi_4)), (hs, .inl (c_hs, 4, .inl f_hs)), (ch, .inl (c_ch, 96, .inl ja))]) [1, 2, 3, 4, 5, 0] rfl
          have hD9 := hD.sub (ws' := [(h0, .inr (9, [.int (zI fa), .int (zI tc), .ref so, .ref sl, .ref ce, .int (zI fn), .ref kd, .ref wd, .ref hs, .ref pf, .ref lt, .int (zI mn), .ref wg, .int (zI ta), .long ck, .int (zI at9), .int (zI rfn), .ref rk, .ref rw, .ref rh, .int (zI u_cl_1), .ref sa, .ref fi, .int (zI u_bo_2), .ref ch, .ref cn, .int (zI ad), .int (zI ru), .ref kp, .int (zI dn), .ref rfa])), (wg, .inl (c_wg, 24, .inl f_wg)), (sa, .inl (c_sa, 25, .inl u_f_sa_3)), (fi, .inl (c_fi, 24, .inl u_f_fi_4)), (hs, .inl (c_hs, 4, .inl f_hs)), (ch, .inl (c_ch, 96, .inl ja))]) [1, 2, 3, 4, 5, 0] (by decide +kernel) rfl
          exact W.iret (v := (zI jb)) hx hb hr (fun t ht hW => kQS_of (by omega) ⟨u_cl_1, u_bo_2, u_f_sa_3, u_f_fi_4, ja, h_5, h_6, h_7, (kDp_eq v_121 (by omega)), v_711, (Or.inl c_10), h_8, v_713, ⟨h_8, (kDp_eq v_121 (by omega)), h_7, (Or.inl c_10), v_713⟩, by rw [ht]; exact hP9, hD9⟩ (hS.F ht)) hS.2.2 dX9_findChanges_124
        · refine lv_aload_n hx hb dX9_findChanges_86 rfl (lv_at hl 2 rfl) ?_
          refine lv_iconst (v := zI 0) hx hb dX9_findChanges_87 rfl ?_
          refine lv_iload_n hx hb dX9_findChanges_88 rfl (lv_at hl 0 rfl) ?_
          refine lv_iload_n hx hb dX9_findChanges_89 rfl (lv_at hl 3 rfl) ?_
          refine k_callR (va_runV (As := [.int (zI 0), .int (zI jg2), .int (zI wo)]) (rest := []) ⟨hx, hb, hml, hown, hts⟩ (c_X9_canSet l D H.size (kc := (0 : Int)) (f := jg2) (wo := wo) (h0 := h0) (fa := fa) (tc := tc) (so := so) (sl := sl) (ce := ce) (fn := fn) (kd := kd) (wd := wd) (hs := hs) (pf := pf) (lt := lt) (mn := mn) (wg := wg) (ta := ta) (ck := ck) (at9 := at9) (rfn := rfn) (rk := rk) (rw := rw) (rh := rh) (cl := u_cl_1) (sa := sa) (fi := fi) (bo := u_bo_2) (ch := ch) (cn := cn) (ad := ad) (ru := ru) (kp := kp) (dn := dn) (rfa := rfa) (c_fi := c_fi) (f_fi := u_f_fi_4) (by omega) (by omega) q0) (cwV 3 hts gX9_findChanges_X9_canSet rfl rfl rfl (by decide +kernel) ⟨Nat.le_of_ble_eq_true rfl, Nat.le_of_ble_eq_true rfl⟩) (kPreV hP (kD0 hD) hK hN [1, 4] [2] ax_X9_findChanges_b_5 rfl (by decide +kernel) 1 9 rfl rfl) rfl rfl hl.1 rfl (lv_room (Nat.le_of_ble_eq_true rfl)) dX9_findChanges_90 ⟨Nat.le_of_ble_eq_true rfl, Nat.le_of_ble_eq_true rfl⟩) ?_
          refine lv_if_eq (tgt := 115) hx hb dX9_findChanges_93 (by decide) (fun c_19 => ?_) (fun c_19 => ?_)
          · have c_19 : ¬ (kCan (u_f_fi_4 (0 : Int).toNat) jg2 wo) := b01f c_19
            refine lv_iload_n hx hb dX9_findChanges_115 rfl (lv_at hl 1 rfl) ?_
            refine lv_istore_n (lv' := [(2, .int (zI jb)), (3, .int (zI jg2)), (0, .ref h0), (1, .int (zI wo))]) hx hb dX9_findChanges_116 rfl hl (by decide) rfl (fun ls hl => ?_)
            refine lv_iinc (v := (zI (jg2 + 1))) (lv' := [(3, .int (zI (jg2 + 1))), (2, .int (zI jb)), (0, .ref h0), (1, .int (zI wo))]) hx hb dX9_findChanges_117 hl (k := 1) rfl (kz_inc _ 1) (by decide) rfl (fun ls hl => ?_)
            refine lv_goto (tgt := 71) hx hb dX9_findChanges_120 (by decide) ?_
            exact ih71 _ (by omega) _ _ _ ⟨jb, (jg2 + 1), rfl, (by omega), v_711, (Or.inl c_10), v_713, hP, hD, hS, lv_sub hl [0, 1, 2, 3] rfl⟩
          · have c_19 : kCan (u_f_fi_4 (0 : Int).toNat) jg2 wo := b01t c_19
            refine lv_aload_n hx hb dX9_findChanges_96 rfl (lv_at hl 2 rfl) ?_
            refine va_get (D := D) (ci := 9) (v := .ref ch) (C := RX9) (T := TX9) (N := 31) hx hb hts (fun _ h9 => List.mem_cons_of_mem _ (List.mem_append_right _ h9)) hown hK hP 1 rfl rfl 24 (by decide) (hts (.fieldLink RX9 52 "FontRunsModel" "changes" "[I") mw_X9_findChanges_b_2) (fun _ h9 => h9) rfl dX9_findChanges_97 ?_
            refine lv_iload_n hx hb dX9_findChanges_100 rfl (lv_at hl 0 rfl) ?_
            refine kz_iald hx hb hK hP 0 4 rfl rfl (by omega) dX9_findChanges_101 (fun z_20 rz_20 ez_20 => ?_)
            have gz_20 := v_121 0 jg2 (by omega) (by omega) (by omega) (by omega)
            have az_20 := kch_at0 rz_20 ez_20
            have bz_20 : 0 ≤ z_20 ∧ z_20 ≤ 24 := by have u1 := gz_20.1; have u2 := gz_20.2.1; rw [az_20] at u1 u2; exact ⟨u1, u2⟩
            refine lv_iload_n hx hb dX9_findChanges_102 rfl (lv_at hl 1 rfl) ?_
            refine kz_icmp_ge (tgt := 115) hx hb dX9_findChanges_103 (by decide) (by omega) (by omega) (fun c_21 => ?_) (fun c_21 => ?_)
            · refine lv_iload_n hx hb dX9_findChanges_115 rfl (lv_at hl 1 rfl) ?_
              refine lv_istore_n (lv' := [(2, .int (zI jb)), (3, .int (zI jg2)), (0, .ref h0), (1, .int (zI wo))]) hx hb dX9_findChanges_116 rfl hl (by decide) rfl (fun ls hl => ?_)
              refine lv_iinc (v := (zI (jg2 + 1))) (lv' := [(3, .int (zI (jg2 + 1))), (2, .int (zI jb)), (0, .ref h0), (1, .int (zI wo))]) hx hb dX9_findChanges_117 hl (k := 1) rfl (kz_inc _ 1) (by decide) rfl (fun ls hl => ?_)
              refine lv_goto (tgt := 71) hx hb dX9_findChanges_120 (by decide) ?_
              exact ih71 _ (by omega) _ _ _ ⟨jb, (jg2 + 1), rfl, (by omega), v_711, (Or.inl c_10), v_713, hP, hD, hS, lv_sub hl [0, 1, 2, 3] rfl⟩
            · refine lv_aload_n hx hb dX9_findChanges_106 rfl (lv_at hl 2 rfl) ?_
              refine va_get (D := D) (ci := 9) (v := .ref ch) (C := RX9) (T := TX9) (N := 31) hx hb hts (fun _ h9 => List.mem_cons_of_mem _ (List.mem_append_right _ h9)) hown hK hP 1 rfl rfl 24 (by decide) (hts (.fieldLink RX9 52 "FontRunsModel" "changes" "[I") mw_X9_findChanges_b_2) (fun _ h9 => h9) rfl dX9_findChanges_107 ?_
              refine lv_iload_n hx hb dX9_findChanges_110 rfl (lv_at hl 0 rfl) ?_
              refine kz_iald hx hb hK hP 0 4 rfl rfl (by omega) dX9_findChanges_111 (fun z_22 rz_22 ez_22 => ?_)
              have q9 : z_20 = z_22 := (zI_eq rz_20 rz_22).mp (ez_20.symm.trans ez_22)
              subst q9
              refine lv_goto (tgt := 116) hx hb dX9_findChanges_112 (by decide) ?_
              refine lv_istore_n (lv' := [(2, .int (zI z_20)), (3, .int (zI jg2)), (0, .ref h0), (1, .int (zI wo))]) hx hb dX9_findChanges_116 rfl hl (by decide) rfl (fun ls hl => ?_)
              refine lv_iinc (v := (zI (jg2 + 1))) (lv' := [(3, .int (zI (jg2 + 1))), (2, .int (zI z_20)), (0, .ref h0), (1, .int (zI wo))]) hx hb dX9_findChanges_117 hl (k := 1) rfl (kz_inc _ 1) (by decide) rfl (fun ls hl => ?_)
              refine lv_goto (tgt := 71) hx hb dX9_findChanges_120 (by decide) ?_
              exact ih71 _ (by omega) _ _ _ ⟨z_20, (jg2 + 1), rfl, (by omega), (by omega), (Or.inl c_10), (by omega), hP, hD, hS, lv_sub hl [0, 1, 2, 3] rfl⟩
  · refine lv_iconst (v := zI 0) hx hb dX9_findChanges_16 rfl ?_
    refine lv_istore_n (lv' := [(3, .int (zI 0)), (2, .int (zI jc)), (0, .ref h0), (1, .int (zI wo))]) hx hb dX9_findChanges_17 rfl hl (by decide) rfl (fun ls hl => ?_)
    refine k_loopM (I := fun n9 H locs ls => ∃ (jg : Int) (jh : Nat → Int32), n9 = (fn - jg).toNat ∧ (0 ≤ jg ∧ jg ≤ fn) ∧ (kDp jh u_f_fi_4 fn u_cl_1 wo (jc + 1)) ∧ (kRw jh u_f_fi_4 fn u_cl_1 wo jc jg) ∧ va_P D vwCl [(ch, .inl (c_ch, 96, .inl jh)), (h0, .inr (9, [.int (zI fa), .int (zI tc), .ref so, .ref sl, .ref ce, .int (zI fn), .ref kd, .ref wd, .ref hs, .ref pf, .ref lt, .int (zI mn), .ref wg, .int (zI ta), .long ck, .int (zI at9), .int (zI rfn), .ref rk, .ref rw, .ref rh, .int (zI u_cl_1), .ref sa, .ref fi, .int (zI u_bo_2), .ref ch, .ref cn, .int (zI ad), .int (zI ru), .ref kp, .int (zI dn), .ref rfa])), (wg, .inl (c_wg, 24, .inl f_wg)), (sa, .inl (c_sa, 25, .inl u_f_sa_3)), (fi, .inl (c_fi, 24, .inl u_f_fi_4)), (hs, .inl (c_hs, 4, .inl f_hs))] H ∧ va_D A [(ch, .inl (c_ch, 96, .inl jh)), (h0, .inr (9, [.int (zI fa), .int (zI tc), .ref so, .ref sl, .ref ce, .int (zI fn), .ref kd, .ref wd, .ref hs, .ref pf, .ref lt, .int (zI mn), .ref wg, .int (zI ta), .long ck, .int (zI at9), .int (zI rfn), .ref rk, .ref rw, .ref rh, .int (zI u_cl_1), .ref sa, .ref fi, .int (zI u_bo_2), .ref ch, .ref cn, .int (zI ad), .int (zI ru), .ref kp, .int (zI dn), .ref rfa])), (wg, .inl (c_wg, 24, .inl f_wg)), (sa, .inl (c_sa, 25, .inl u_f_sa_3)), (fi, .inl (c_fi, 24, .inl u_f_fi_4)), (hs, .inl (c_hs, 4, .inl f_hs))] ∧ va_S A s.heap H locs ∧ lv_has ls 4 [(3, .int (zI jg)), (2, .int (zI jc)), (0, .ref h0), (1, .int (zI wo))]) ?_ _ ⟨0, ja, rfl, (by omega), v_121, kRw_0, hP, hD, hS, hl⟩
    intro n18 ih18 H locs ls hI
    obtain ⟨jg, jh, en18, v_180, v_181, v_182, hP, hD, hS, hl⟩ := hI
    refine lv_iload_n hx hb dX9_findChanges_18 rfl (lv_at hl 0 rfl) ?_
    refine lv_aload_n hx hb dX9_findChanges_19 rfl (lv_at hl 2 rfl) ?_
    refine va_get (D := D) (ci := 9) (v := .int (zI fn)) (C := RX9) (T := TX9) (N := 31) hx hb hts (fun _ h9 => List.mem_cons_of_mem _ (List.mem_append_right _ h9)) hown hK hP 1 rfl rfl 5 (by decide) (hts (.fieldLink RX9 74 "FontRunsModel" "fonts" "I") mw_X9_findChanges_b_1) (fun _ h9 => h9) rfl dX9_findChanges_20 ?_
    refine kz_icmp_ge (tgt := 49) hx hb dX9_findChanges_23 (by decide) (by omega) (by omega) (fun c_23 => ?_) (fun c_23 => ?_)
    · refine lv_iinc (v := (zI (jc - 1))) (lv' := [(2, .int (zI (jc - 1))), (3, .int (zI jg)), (0, .ref h0), (1, .int (zI wo))]) hx hb dX9_findChanges_49 hl (k := 1) rfl (kz_dec _ 1) (by decide) rfl (fun ls hl => ?_)
      refine lv_goto (tgt := 12) hx hb dX9_findChanges_52 (by decide) ?_
      exact ih12 _ (by omega) _ _ _ ⟨(jc - 1), jh, rfl, (by omega), (kDp_eq (kDp_dn v_181 (kRw_le v_182 (by omega))) (by omega)), hP, hD, hS, lv_sub hl [0, 2, 3] rfl⟩
    · refine lv_aload_n hx hb dX9_findChanges_26 rfl (lv_at hl 2 rfl) ?_
      refine va_get (D := D) (ci := 9) (v := .ref ch) (C := RX9) (T := TX9) (N := 31) hx hb hts (fun _ h9 => List.mem_cons_of_mem _ (List.mem_append_right _ h9)) hown hK hP 1 rfl rfl 24 (by decide) (hts (.fieldLink RX9 52 "FontRunsModel" "changes" "[I") mw_X9_findChanges_b_2) (fun _ h9 => h9) rfl dX9_findChanges_27 ?_
      refine lv_iconst (v := zI 4) hx hb dX9_findChanges_30 rfl ?_
      refine lv_iload_n hx hb dX9_findChanges_31 rfl (lv_at hl 1 rfl) ?_
      refine kz_imul hx hb dX9_findChanges_32 ?_
      refine lv_iload_n hx hb dX9_findChanges_33 rfl (lv_at hl 0 rfl) ?_
      refine kz_iadd hx hb dX9_findChanges_34 ?_
      refine lv_aload_n hx hb dX9_findChanges_35 rfl (lv_at hl 2 rfl) ?_
      refine lv_iload_n hx hb dX9_findChanges_36 rfl (lv_at hl 1 rfl) ?_
      refine lv_iload_n hx hb dX9_findChanges_37 rfl (lv_at hl 0 rfl) ?_
      refine lv_iload_n hx hb dX9_findChanges_38 rfl (lv_at hl 3 rfl) ?_
      refine k_callP (va_runV (As := [.int (zI jc), .int (zI jg), .int (zI wo)]) (rest := [.int (zI ((4 * jc) + jg)), .ref ch]) ⟨hx, hb, hml, hown, hts⟩ (c_X9_fewestBehind l D H.size (kc := jc) (kf := jg) (wo := wo) (h0 := h0) (fa := fa) (tc := tc) (so := so) (sl := sl) (ce := ce) (fn := fn) (kd := kd) (wd := wd) (hs := hs) (pf := pf) (lt := lt) (mn := mn) (wg := wg) (ta := ta) (ck := ck) (at9 := at9) (rfn := rfn) (rk := rk) (rw := rw) (rh := rh) (cl := u_cl_1) (sa := sa) (fi := fi) (bo := u_bo_2) (ch := ch) (cn := cn) (ad := ad) (ru := ru) (kp := kp) (dn := dn) (rfa := rfa) (c_fi := c_fi) (f_fi := u_f_fi_4) (c_ch := c_ch) (f_ch := jh) (by omega) (by omega) q0 (by omega) q2 v_181) (cwV 3 hts gX9_findChanges_X9_fewestBehind rfl rfl rfl (by decide +kernel) ⟨Nat.le_of_ble_eq_true rfl, Nat.le_of_ble_eq_true rfl⟩) (kPreV hP (kD0 hD) hK hN [1, 4, 0] [2, 4] ax_X9_findChanges_b_6 rfl (by decide +kernel) 1 9 rfl rfl) rfl rfl hl.1 rfl (lv_room (Nat.le_of_ble_eq_true rfl)) dX9_findChanges_39 ⟨Nat.le_of_ble_eq_true rfl, Nat.le_of_ble_eq_true rfl⟩) (fun z_24 rz_24 h_25 => ?_)
      refine kz_iast hx hb hK hP hD hS 0 4 rfl rfl (by omega) dX9_findChanges_42 (fun H locs hP hD hS => ?_)
      have hP : va_P D vwCl [(ch, .inl (c_ch, 96, .inl (upd jh ((4 * jc) + jg).toNat (zI z_24)))), (h0, .inr (9, [.int (zI fa), .int (zI tc), .ref so, .ref sl, .ref ce, .int (zI fn), .ref kd, .ref wd, .ref hs, .ref pf, .ref lt, .int (zI mn), .ref wg, .int (zI ta), .long ck, .int (zI at9), .int (zI rfn), .ref rk, .ref rw, .ref rh, .int (zI u_cl_1), .ref sa, .ref fi, .int (zI u_bo_2), .ref ch, .ref cn, .int (zI ad), .int (zI ru), .ref kp, .int (zI dn), .ref rfa])), (wg, .inl (c_wg, 24, .inl f_wg)), (sa, .inl (c_sa, 25, .inl u_f_sa_3)), (fi, .inl (c_fi, 24, .inl u_f_fi_4)), (hs, .inl (c_hs, 4, .inl f_hs))] H := hP
      have hD : va_D A [(ch, .inl (c_ch, 96, .inl (upd jh ((4 * jc) + jg).toNat (zI z_24)))), (h0, .inr (9, [.int (zI fa), .int (zI tc), .ref so, .ref sl, .ref ce, .int (zI fn), .ref kd, .ref wd, .ref hs, .ref pf, .ref lt, .int (zI mn), .ref wg, .int (zI ta), .long ck, .int (zI at9), .int (zI rfn), .ref rk, .ref rw, .ref rh, .int (zI u_cl_1), .ref sa, .ref fi, .int (zI u_bo_2), .ref ch, .ref cn, .int (zI ad), .int (zI ru), .ref kp, .int (zI dn), .ref rfa])), (wg, .inl (c_wg, 24, .inl f_wg)), (sa, .inl (c_sa, 25, .inl u_f_sa_3)), (fi, .inl (c_fi, 24, .inl u_f_fi_4)), (hs, .inl (c_hs, 4, .inl f_hs))] := hD
      generalize ef_26 : upd jh ((4 * jc) + jg).toNat (zI z_24) = f_26 at hP hD
      refine lv_iinc (v := (zI (jg + 1))) (lv' := [(3, .int (zI (jg + 1))), (2, .int (zI jc)), (0, .ref h0), (1, .int (zI wo))]) hx hb dX9_findChanges_43 hl (k := 0) rfl (kz_inc _ 1) (by decide) rfl (fun ls hl => ?_)
      refine lv_goto (tgt := 18) hx hb dX9_findChanges_46 (by decide) ?_
      exact ih18 _ (by omega) _ _ _ ⟨(jg + 1), f_26, rfl, (by omega), (by rw [← ef_26]; exact kDp_upd (by omega) v_181), (by rw [← ef_26]; exact kRw_upd (by omega) v_182 (by omega) h_25.1 h_25.2.1), hP, hD, hS, lv_sub hl [0, 1, 2, 3] rfl⟩
