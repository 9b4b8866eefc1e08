set_option maxRecDepth 20000 in
theorem mw_X9_stepOf_w_0 : (.fieldLink RX9 19 "FontRunsModel" "kind" "[I" : Cond) ∈ wsX9_stepOf := List.mem_cons_of_mem _ (List.mem_append_left _ (List.mem_of_getElem? (i := 0) rfl))
set_option maxRecDepth 20000 in
theorem mw_X9_stepOf_w_1 : (.fieldLink RX9 22 "FontRunsModel" "width" "[I" : Cond) ∈ wsX9_stepOf := List.mem_cons_of_mem _ (List.mem_append_left _ (List.mem_of_getElem? (i := 1) rfl))
set_option maxHeartbeats 4000000 in
set_option maxRecDepth 100000 in
theorem c_X9_stepOf_w (l : Launch) (D : va_G) (sz : Nat) (f : Int) (h0 : Nat) (fa : Int) (tc : Int) (so : Nat) (sl : Nat) (ce : Nat) (fn : Int) (kd : Nat) (wd : Nat) (hs : Nat) (pf : Nat) (lt : Nat) (mn : Int) (wg : Nat) (ta : Int) (ck : Int64) (at9 : Int) (rfn : Int) (rk : Nat) (rw : Nat) (rh : Nat) (cl : Int) (sa : Nat) (fi : Nat) (bo : Int) (ch : Nat) (cn : Nat) (ad : Int) (ru : Int) (kp : Nat) (dn : Int) (rfa : Nat) (c_kd : ClassId) (f_kd : Nat → Int32) (c_wd : ClassId) (f_wd : Nat → Int32) (q0 : 0 ≤ f ∧ f ≤ 3) : Met l yX9_stepOf wsX9_stepOf ({ frames := 0, cells := 0, slots := 0, locals := 0 }) (kPre [.ref h0, .int (zI f)] D [(h0, .inr (9, [.int (zI fa), .int (zI tc), .ref so, .ref sl, .ref ce, .int (zI fn), .ref kd, .ref wd, .ref hs, .ref pf, .ref lt, .int (zI mn), .ref wg, .int (zI ta), .long ck, .int (zI at9), .int (zI rfn), .ref rk, .ref rw, .ref rh, .int (zI cl), .ref sa, .ref fi, .int (zI bo), .ref ch, .ref cn, .int (zI ad), .int (zI ru), .ref kp, .int (zI dn), .ref rfa])), (kd, .inl (c_kd, 4, .inl f_kd)), (wd, .inl (c_wd, 4, .inl f_wd))] [(c_kd, .int), (c_wd, .int)] sz) (QcP (fun rz => zI rz = kStM (f_kd f.toNat) (f_wd f.toNat))) 0 0 (fun _ => False) := by
  refine Met.ofW (cc := cX9_stepOf) (maxL := 2) (ret := (some .int)) (by decide) rfl ?_
  intro p e s m args below meth c s₁ B hml hv
  obtain ⟨rfl, hsz, hP, hK, hD0, hN⟩ := hv
  have hx := B.exec
  have hb := B.bytes
  have hr := B.returns
  have hts := atoms_spec (ws := wsX9_stepOf) B.pre
  have hown : s.vm.findClass RX9 = some m.cls := findClass_of_methodNamed B.named
  have hlocks := B.notSynchronized
  subst hsz
  have hD := hD0
  have hP : va_P D vwCl [(h0, .inr (9, [.int (zI fa), .int (zI tc), .ref so, .ref sl, .ref ce, .int (zI fn), .ref kd, .ref wd, .ref hs, .ref pf, .ref lt, .int (zI mn), .ref wg, .int (zI ta), .long ck, .int (zI at9), .int (zI rfn), .ref rk, .ref rw, .ref rh, .int (zI cl), .ref sa, .ref fi, .int (zI bo), .ref ch, .ref cn, .int (zI ad), .int (zI ru), .ref kp, .int (zI dn), .ref rfa])), (kd, .inl (c_kd, 4, .inl f_kd)), (wd, .inl (c_wd, 4, .inl f_wd))] s.heap := hP
  have hl := lv_entry ([.ref h0, .int (zI f)]) (n := 2) (Nat.le_of_ble_eq_true rfl)
  rw [lg_entry_eq]
  generalize (lg_sl ([.ref h0, .int (zI f)]) ++ List.replicate (2 - (lg_sl ([.ref h0, .int (zI f)])).length) Slot.unset).toArray = ls at hl ⊢
  have hl : lv_has ls 2 [(0, .ref h0), (1, .int (zI f))] := hl
  refine lv_aload_n hx hb dX9_stepOf_0 rfl (lv_at hl 0 rfl) ?_
  refine va_get (D := D) (ci := 9) (v := .ref kd) (C := RX9) (T := TX9) (N := 31) hx hb hts (fun _ h9 => List.mem_cons_of_mem _ (List.mem_append_right _ h9)) hown hK hP 0 rfl rfl 6 (by decide) (hts (.fieldLink RX9 19 "FontRunsModel" "kind" "[I") mw_X9_stepOf_w_0) (fun _ h9 => h9) rfl dX9_stepOf_1 ?_
  refine lv_iload_n hx hb dX9_stepOf_4 rfl (lv_at hl 1 rfl) ?_
  refine kz_iald hx hb hK hP 1 0 rfl rfl (by omega) dX9_stepOf_5 (fun z_1 rz_1 ez_1 => ?_)
  refine kz_if_ne (tgt := 18) hx hb dX9_stepOf_6 (by decide) (by omega) (fun c_2 => ?_) (fun c_2 => ?_)
  · refine lv_aload_n hx hb dX9_stepOf_18 rfl (lv_at hl 0 rfl) ?_
    refine va_get (D := D) (ci := 9) (v := .ref kd) (C := RX9) (T := TX9) (N := 31) hx hb hts (fun _ h9 => List.mem_cons_of_mem _ (List.mem_append_right _ h9)) hown hK hP 0 rfl rfl 6 (by decide) (hts (.fieldLink RX9 19 "FontRunsModel" "kind" "[I") mw_X9_stepOf_w_0) (fun _ h9 => h9) rfl dX9_stepOf_19 ?_
    refine lv_iload_n hx hb dX9_stepOf_22 rfl (lv_at hl 1 rfl) ?_
    refine kz_iald hx hb hK hP 1 0 rfl rfl (by omega) dX9_stepOf_23 (fun z_3 rz_3 ez_3 => ?_)
    have q9 : z_1 = z_3 := (zI_eq rz_1 rz_3).mp (ez_1.symm.trans ez_3)
    subst q9
    refine lv_iconst (v := zI 1) hx hb dX9_stepOf_24 rfl ?_
    refine kz_icmp_ne (tgt := 39) hx hb dX9_stepOf_25 (by decide) (by omega) (by omega) (fun c_4 => ?_) (fun c_4 => ?_)
    · refine lv_iconst (v := zI 2) hx hb dX9_stepOf_39 rfl ?_
      refine lv_aload_n hx hb dX9_stepOf_40 rfl (lv_at hl 0 rfl) ?_
      refine va_get (D := D) (ci := 9) (v := .ref wd) (C := RX9) (T := TX9) (N := 31) hx hb hts (fun _ h9 => List.mem_cons_of_mem _ (List.mem_append_right _ h9)) hown hK hP 0 rfl rfl 7 (by decide) (hts (.fieldLink RX9 22 "FontRunsModel" "width" "[I") mw_X9_stepOf_w_1) (fun _ h9 => h9) rfl dX9_stepOf_41 ?_
      refine lv_iload_n hx hb dX9_stepOf_44 rfl (lv_at hl 1 rfl) ?_
      refine kz_iald hx hb hK hP 2 1 rfl rfl (by omega) dX9_stepOf_45 (fun z_5 rz_5 ez_5 => ?_)
      refine kz_imul hx hb dX9_stepOf_46 ?_
      refine kz_any (fun z_6 rz_6 ez_6 => ?_)
      exact W.iret (v := (zI z_6)) hx hb hr (fun t ht hW => QcP_of (by omega) (by rw [ez_1, ez_5]; first | exact kStM_0 (by omega) ez_6 | exact kStM_1 (by omega) ez_6 | exact kStM_2 (by omega) (by omega) ez_6) ht) (fun _ h9 => by cases h9) dX9_stepOf_47
    · refine lv_aload_n hx hb dX9_stepOf_28 rfl (lv_at hl 0 rfl) ?_
      refine va_get (D := D) (ci := 9) (v := .ref wd) (C := RX9) (T := TX9) (N := 31) hx hb hts (fun _ h9 => List.mem_cons_of_mem _ (List.mem_append_right _ h9)) hown hK hP 0 rfl rfl 7 (by decide) (hts (.fieldLink RX9 22 "FontRunsModel" "width" "[I") mw_X9_stepOf_w_1) (fun _ h9 => h9) rfl dX9_stepOf_29 ?_
      refine lv_iload_n hx hb dX9_stepOf_32 rfl (lv_at hl 1 rfl) ?_
      refine kz_iald hx hb hK hP 2 1 rfl rfl (by omega) dX9_stepOf_33 (fun z_7 rz_7 ez_7 => ?_)
      refine lv_iconst (v := zI 1) hx hb dX9_stepOf_34 rfl ?_
      refine kz_iadd hx hb dX9_stepOf_35 ?_
      refine lv_goto (tgt := 47) hx hb dX9_stepOf_36 (by decide) ?_
      refine kz_any (fun z_8 rz_8 ez_8 => ?_)
      exact W.iret (v := (zI z_8)) hx hb hr (fun t ht hW => QcP_of (by omega) (by rw [ez_1, ez_7]; first | exact kStM_0 (by omega) ez_8 | exact kStM_1 (by omega) ez_8 | exact kStM_2 (by omega) (by omega) ez_8) ht) (fun _ h9 => by cases h9) dX9_stepOf_47
  · refine lv_aload_n hx hb dX9_stepOf_9 rfl (lv_at hl 0 rfl) ?_
    refine va_get (D := D) (ci := 9) (v := .ref wd) (C := RX9) (T := TX9) (N := 31) hx hb hts (fun _ h9 => List.mem_cons_of_mem _ (List.mem_append_right _ h9)) hown hK hP 0 rfl rfl 7 (by decide) (hts (.fieldLink RX9 22 "FontRunsModel" "width" "[I") mw_X9_stepOf_w_1) (fun _ h9 => h9) rfl dX9_stepOf_10 ?_
    refine lv_iload_n hx hb dX9_stepOf_13 rfl (lv_at hl 1 rfl) ?_
    refine kz_iald hx hb hK hP 2 1 rfl rfl (by omega) dX9_stepOf_14 (fun z_9 rz_9 ez_9 => ?_)
    refine lv_goto (tgt := 47) hx hb dX9_stepOf_15 (by decide) ?_
    refine kz_any (fun z_10 rz_10 ez_10 => ?_)
    exact W.iret (v := (zI z_10)) hx hb hr (fun t ht hW => QcP_of (by omega) (by rw [ez_1, ez_9]; first | exact kStM_0 (by omega) ez_10 | exact kStM_1 (by omega) ez_10 | exact kStM_2 (by omega) (by omega) ez_10) ht) (fun _ h9 => by cases h9) dX9_stepOf_47
set_option maxRecDepth 20000 in
theorem mw_X9_placeOf_w_0 : (.fieldLink RX9 28 "FontRunsModel" "preference" "[I" : Cond) ∈ wsX9_placeOf := List.mem_cons_of_mem _ (List.mem_append_left _ (List.mem_of_getElem? (i := 0) rfl))
set_option maxHeartbeats 4000000 in
set_option maxRecDepth 100000 in
theorem c_X9_placeOf_w (l : Launch) (D : va_G) (sz : Nat) (f : Int) (h0 : Nat) (fa : Int) (tc : Int) (so : Nat) (sl : Nat) (ce : Nat) (fn : Int) (kd : Nat) (wd : Nat) (hs : Nat) (pf : Nat) (lt : Nat) (mn : Int) (wg : Nat) (ta : Int) (ck : Int64) (at9 : Int) (rfn : Int) (rk : Nat) (rw : Nat) (rh : Nat) (cl : Int) (sa : Nat) (fi : Nat) (bo : Int) (ch : Nat) (cn : Nat) (ad : Int) (ru : Int) (kp : Nat) (dn : Int) (rfa : Nat) (c_pf : ClassId) (f_pf : Nat → Int32) (q0 : 0 ≤ f ∧ f < fn) (q1 : 0 ≤ fn ∧ fn ≤ 4) (q2 : kPm f_pf fn) : Met l yX9_placeOf wsX9_placeOf ({ frames := 0, cells := 0, slots := 0, locals := 0 }) (kPre [.ref h0, .int (zI f)] D [(h0, .inr (9, [.int (zI fa), .int (zI tc), .ref so, .ref sl, .ref ce, .int (zI fn), .ref kd, .ref wd, .ref hs, .ref pf, .ref lt, .int (zI mn), .ref wg, .int (zI ta), .long ck, .int (zI at9), .int (zI rfn), .ref rk, .ref rw, .ref rh, .int (zI cl), .ref sa, .ref fi, .int (zI bo), .ref ch, .ref cn, .int (zI ad), .int (zI ru), .ref kp, .int (zI dn), .ref rfa])), (pf, .inl (c_pf, 4, .inl f_pf))] [(c_pf, .int)] sz) (QcP (fun rz => (0 ≤ rz ∧ rz < fn) ∧ f_pf rz.toNat = zI f ∧ kNo f_pf f rz)) 0 0 (fun _ => False) := by
  refine Met.ofW (cc := cX9_placeOf) (maxL := 3) (ret := (some .int)) (by decide) rfl ?_
  intro p e s m args below meth c s₁ B hml hv
  obtain ⟨rfl, hsz, hP, hK, hD0, hN⟩ := hv
  have hx := B.exec
  have hb := B.bytes
  have hr := B.returns
  have hts := atoms_spec (ws := wsX9_placeOf) B.pre
  have hown : s.vm.findClass RX9 = some m.cls := findClass_of_methodNamed B.named
  have hlocks := B.notSynchronized
  subst hsz
  have hD := hD0
  have hP : va_P D vwCl [(h0, .inr (9, [.int (zI fa), .int (zI tc), .ref so, .ref sl, .ref ce, .int (zI fn), .ref kd, .ref wd, .ref hs, .ref pf, .ref lt, .int (zI mn), .ref wg, .int (zI ta), .long ck, .int (zI at9), .int (zI rfn), .ref rk, .ref rw, .ref rh, .int (zI cl), .ref sa, .ref fi, .int (zI bo), .ref ch, .ref cn, .int (zI ad), .int (zI ru), .ref kp, .int (zI dn), .ref rfa])), (pf, .inl (c_pf, 4, .inl f_pf))] s.heap := hP
  have hl := lv_entry ([.ref h0, .int (zI f)]) (n := 3) (Nat.le_of_ble_eq_true rfl)
  rw [lg_entry_eq]
  generalize (lg_sl ([.ref h0, .int (zI f)]) ++ List.replicate (3 - (lg_sl ([.ref h0, .int (zI f)])).length) Slot.unset).toArray = ls at hl ⊢
  have hl : lv_has ls 3 [(0, .ref h0), (1, .int (zI f))] := hl
  refine lv_iconst (v := zI 0) hx hb dX9_placeOf_0 rfl ?_
  refine lv_istore_n (lv' := [(2, .int (zI 0)), (0, .ref h0), (1, .int (zI f))]) hx hb dX9_placeOf_1 rfl hl (by decide) rfl (fun ls hl => ?_)
  refine k_loopM (I := fun n9 H locs ls => ∃ (jk : Int), n9 = (fn - jk).toNat ∧ (kHas f_pf fn f jk) ∧ (kNo f_pf f jk) ∧ H = s.heap ∧ locs = [] ∧ lv_has ls 3 [(2, .int (zI jk)), (0, .ref h0), (1, .int (zI f))]) ?_ _ ⟨0, rfl, (kHas_0 q2 (by omega) (by omega)), kNo_0, rfl, rfl, hl⟩
  intro n2 ih2 H locs ls hI
  obtain ⟨jk, en2, v_20, v_21, eH, eL, hl⟩ := hI
  subst eH
  subst eL
  have b2 := kHas_lt v_20
  refine lv_aload_n hx hb dX9_placeOf_2 rfl (lv_at hl 1 rfl) ?_
  refine va_get (D := D) (ci := 9) (v := .ref pf) (C := RX9) (T := TX9) (N := 31) hx hb hts (fun _ h9 => List.mem_cons_of_mem _ (List.mem_append_right _ h9)) hown hK hP 0 rfl rfl 9 (by decide) (hts (.fieldLink RX9 28 "FontRunsModel" "preference" "[I") mw_X9_placeOf_w_0) (fun _ h9 => h9) rfl dX9_placeOf_3 ?_
  refine lv_iload_n hx hb dX9_placeOf_6 rfl (lv_at hl 0 rfl) ?_
  refine kz_iald hx hb hK hP 1 0 rfl rfl (by omega) dX9_placeOf_7 (fun z_1 rz_1 ez_1 => ?_)
  refine lv_iload_n hx hb dX9_placeOf_8 rfl (lv_at hl 2 rfl) ?_
  refine kz_icmp_eq (tgt := 18) hx hb dX9_placeOf_9 (by decide) (by omega) (by omega) (fun c_2 => ?_) (fun c_2 => ?_)
  · refine lv_iload_n hx hb dX9_placeOf_18 rfl (lv_at hl 0 rfl) ?_
    exact W.iret (v := (zI jk)) hx hb hr (fun t ht hW => QcP_of (by omega) ⟨by omega, by rw [ez_1, c_2], v_21⟩ ht) (fun _ h9 => by cases h9) dX9_placeOf_19
  · refine lv_iinc (v := (zI (jk + 1))) (lv' := [(2, .int (zI (jk + 1))), (0, .ref h0), (1, .int (zI f))]) hx hb dX9_placeOf_12 hl (k := 0) rfl (kz_inc _ 1) (by decide) rfl (fun ls hl => ?_)
    refine lv_goto (tgt := 2) hx hb dX9_placeOf_15 (by decide) ?_
    exact ih2 _ (by omega) _ _ _ ⟨(jk + 1), rfl, (kHas_1 v_20 rz_1 (by omega) ez_1 c_2), (kNo_s v_21 (by omega) rz_1 (by omega) ez_1 (by omega)), rfl, rfl, lv_sub hl [0, 1, 2] rfl⟩
set_option maxRecDepth 20000 in
theorem mw_X9_comesFirst_w_0 : (.fieldLink RX9 28 "FontRunsModel" "preference" "[I" : Cond) ∈ wsX9_comesFirst := List.mem_cons_of_mem _ (List.mem_append_left _ (List.mem_of_getElem? (i := 0) rfl))
theorem ax_X9_comesFirst_w_0 {e0 e1 : Nat × va_E} : ([0, 1] : List Nat).map (fun i => ([e0, e1] : va_W)[i]?) = ([e0, e1] : va_W).map some := rfl
set_option maxHeartbeats 4000000 in
set_option maxRecDepth 100000 in
theorem c_X9_comesFirst_w (l : Launch) (D : va_G) (sz : Nat) (f : Int) (h0 : Nat) (fa : Int) (tc : Int) (so : Nat) (sl : Nat) (ce : Nat) (fn : Int) (kd : Nat) (wd : Nat) (hs : Nat) (pf : Nat) (lt : Nat) (mn : Int) (wg : Nat) (ta : Int) (ck : Int64) (at9 : Int) (rfn : Int) (rk : Nat) (rw : Nat) (rh : Nat) (cl : Int) (sa : Nat) (fi : Nat) (bo : Int) (ch : Nat) (cn : Nat) (ad : Int) (ru : Int) (kp : Nat) (dn : Int) (rfa : Nat) (c_pf : ClassId) (f_pf : Nat → Int32) (q0 : 0 ≤ f ∧ f < fn) (q1 : 0 ≤ fn ∧ fn ≤ 4) (q2 : kPm f_pf fn) : Met l yX9_comesFirst wsX9_comesFirst ({ frames := 1, cells := 0, slots := 0, locals := 22 }) (kPre [.ref h0, .int (zI f)] D [(h0, .inr (9, [.int (zI fa), .int (zI tc), .ref so, .ref sl, .ref ce, .int (zI fn), .ref kd, .ref wd, .ref hs, .ref pf, .ref lt, .int (zI mn), .ref wg, .int (zI ta), .long ck, .int (zI at9), .int (zI rfn), .ref rk, .ref rw, .ref rh, .int (zI cl), .ref sa, .ref fi, .int (zI bo), .ref ch, .ref cn, .int (zI ad), .int (zI ru), .ref kp, .int (zI dn), .ref rfa])), (pf, .inl (c_pf, 4, .inl f_pf))] [(c_pf, .int)] sz) (kQS (fun rz t => ∃ (u_f_pf : Nat → Int32), (kPm u_f_pf fn) ∧ ((0 ≤ rz ∧ rz < fn) ∧ f_pf rz.toNat = zI f ∧ kNo f_pf f rz) ∧ (u_f_pf = upd (kMv f_pf rz 0) 0 (zI f)) ∧ va_P D vwCl [(h0, .inr (9, [.int (zI fa), .int (zI tc), .ref so, .ref sl, .ref ce, .int (zI fn), .ref kd, .ref wd, .ref hs, .ref pf, .ref lt, .int (zI mn), .ref wg, .int (zI ta), .long ck, .int (zI at9), .int (zI rfn), .ref rk, .ref rw, .ref rh, .int (zI cl), .ref sa, .ref fi, .int (zI bo), .ref ch, .ref cn, .int (zI ad), .int (zI ru), .ref kp, .int (zI dn), .ref rfa])), (pf, .inl (c_pf, 4, .inl u_f_pf))] t.heap ∧ va_D (va_A [(h0, .inr (9, [.int (zI fa), .int (zI tc), .ref so, .ref sl, .ref ce, .int (zI fn), .ref kd, .ref wd, .ref hs, .ref pf, .ref lt, .int (zI mn), .ref wg, .int (zI ta), .long ck, .int (zI at9), .int (zI rfn), .ref rk, .ref rw, .ref rh, .int (zI cl), .ref sa, .ref fi, .int (zI bo), .ref ch, .ref cn, .int (zI ad), .int (zI ru), .ref kp, .int (zI dn), .ref rfa])), (pf, .inl (c_pf, 4, .inl f_pf))] sz) [(h0, .inr (9, [.int (zI fa), .int (zI tc), .ref so, .ref sl, .ref ce, .int (zI fn), .ref kd, .ref wd, .ref hs, .ref pf, .ref lt, .int (zI mn), .ref wg, .int (zI ta), .long ck, .int (zI at9), .int (zI rfn), .ref rk, .ref rw, .ref rh, .int (zI cl), .ref sa, .ref fi, .int (zI bo), .ref ch, .ref cn, .int (zI ad), .int (zI ru), .ref kp, .int (zI dn), .ref rfa])), (pf, .inl (c_pf, 4, .inl u_f_pf))]) (va_A [(h0, .inr (9, [.int (zI fa), .int (zI tc), .ref so, .ref sl, .ref ce, .int (zI fn), .ref kd, .ref wd, .ref hs, .ref pf, .ref lt, .int (zI mn), .ref wg, .int (zI ta), .long ck, .int (zI at9), .int (zI rfn), .ref rk, .ref rw, .ref rh, .int (zI cl), .ref sa, .ref fi, .int (zI bo), .ref ch, .ref cn, .int (zI ad), .int (zI ru), .ref kp, .int (zI dn), .ref rfa])), (pf, .inl (c_pf, 4, .inl f_pf))] sz)) 0 0 (va_A [(h0, .inr (9, [.int (zI fa), .int (zI tc), .ref so, .ref sl, .ref ce, .int (zI fn), .ref kd, .ref wd, .ref hs, .ref pf, .ref lt, .int (zI mn), .ref wg, .int (zI ta), .long ck, .int (zI at9), .int (zI rfn), .ref rk, .ref rw, .ref rh, .int (zI cl), .ref sa, .ref fi, .int (zI bo), .ref ch, .ref cn, .int (zI ad), .int (zI ru), .ref kp, .int (zI dn), .ref rfa])), (pf, .inl (c_pf, 4, .inl f_pf))] sz) := by
  refine Met.ofW (cc := cX9_comesFirst) (maxL := 4) (ret := (some .int)) (by decide) rfl ?_
  intro p e s m args below meth c s₁ B hml hv
  obtain ⟨rfl, hsz, hP, hK, hD0, hN⟩ := hv
  have hx := B.exec
  have hb := B.bytes
  have hr := B.returns
  have hts := atoms_spec (ws := wsX9_comesFirst) B.pre
  have hown : s.vm.findClass RX9 = some m.cls := findClass_of_methodNamed B.named
  have hlocks := B.notSynchronized
  subst hsz
  have hD := hD0.self (sz := s.heap.size)
  generalize hAe : va_A [(h0, .inr (9, [.int (zI fa), .int (zI tc), .ref so, .ref sl, .ref ce, .int (zI fn), .ref kd, .ref wd, .ref hs, .ref pf, .ref lt, .int (zI mn), .ref wg, .int (zI ta), .long ck, .int (zI at9), .int (zI rfn), .ref rk, .ref rw, .ref rh, .int (zI cl), .ref sa, .ref fi, .int (zI bo), .ref ch, .ref cn, .int (zI ad), .int (zI ru), .ref kp, .int (zI dn), .ref rfa])), (pf, .inl (c_pf, 4, .inl f_pf))] s.heap.size = A at hD ⊢
  have hA : ∀ q : Nat, s.heap.size ≤ q → A q := fun q h => by rw [← hAe]; exact Or.inr h
  have hS : va_S A s.heap s.heap [] := va_S.rf
  have hP : va_P D vwCl [(h0, .inr (9, [.int (zI fa), .int (zI tc), .ref so, .ref sl, .ref ce, .int (zI fn), .ref kd, .ref wd, .ref hs, .ref pf, .ref lt, .int (zI mn), .ref wg, .int (zI ta), .long ck, .int (zI at9), .int (zI rfn), .ref rk, .ref rw, .ref rh, .int (zI cl), .ref sa, .ref fi, .int (zI bo), .ref ch, .ref cn, .int (zI ad), .int (zI ru), .ref kp, .int (zI dn), .ref rfa])), (pf, .inl (c_pf, 4, .inl f_pf))] s.heap := hP
  have hl := lv_entry ([.ref h0, .int (zI f)]) (n := 4) (Nat.le_of_ble_eq_true rfl)
  rw [lg_entry_eq]
  generalize (lg_sl ([.ref h0, .int (zI f)]) ++ List.replicate (4 - (lg_sl ([.ref h0, .int (zI f)])).length) Slot.unset).toArray = ls at hl ⊢
  have hl : lv_has ls 4 [(0, .ref h0), (1, .int (zI f))] := hl
  refine lv_aload_n hx hb dX9_comesFirst_0 rfl (lv_at hl 0 rfl) ?_
  refine lv_iload_n hx hb dX9_comesFirst_1 rfl (lv_at hl 1 rfl) ?_
  refine k_callP (va_runV (As := [.int (zI f)]) (rest := []) ⟨hx, hb, hml, hown, hts⟩ (c_X9_placeOf_w l D s.heap.size (f := f) (h0 := h0) (fa := fa) (tc := tc) (so := so) (sl := sl) (ce := ce) (fn := fn) (kd := kd) (wd := wd) (hs := hs) (pf := pf) (lt := lt) (mn := mn) (wg := wg) (ta := ta) (ck := ck) (at9 := at9) (rfn := rfn) (rk := rk) (rw := rw) (rh := rh) (cl := cl) (sa := sa) (fi := fi) (bo := bo) (ch := ch) (cn := cn) (ad := ad) (ru := ru) (kp := kp) (dn := dn) (rfa := rfa) (c_pf := c_pf) (f_pf := f_pf) q0 q1 q2) (cwV 1 hts gX9_comesFirst_X9_placeOf rfl rfl rfl (by decide +kernel) ⟨Nat.le_of_ble_eq_true rfl, Nat.le_of_ble_eq_true rfl⟩) (kPreV hP (kD0 hD) hK hN [0, 1] [0] ax_X9_comesFirst_w_0 rfl (by decide +kernel) 0 9 rfl rfl) rfl rfl hl.1 rfl (lv_room (Nat.le_of_ble_eq_true rfl)) dX9_comesFirst_2 ⟨Nat.le_of_ble_eq_true rfl, Nat.le_of_ble_eq_true rfl⟩) (fun z_1 rz_1 h_2 => ?_)
  refine lv_istore_n (lv' := [(2, .int (zI z_1)), (0, .ref h0), (1, .int (zI f))]) hx hb dX9_comesFirst_5 rfl hl (by decide) rfl (fun ls hl => ?_)
  refine lv_iload_n hx hb dX9_comesFirst_6 rfl (lv_at hl 0 rfl) ?_
  refine lv_istore_n (lv' := [(3, .int (zI z_1)), (2, .int (zI z_1)), (0, .ref h0), (1, .int (zI f))]) hx hb dX9_comesFirst_7 rfl hl (by decide) rfl (fun ls hl => ?_)
  refine k_loopM (I := fun n9 H locs ls => ∃ (jk : Int) (ja : Nat → Int32), n9 = (jk).toNat ∧ (0 ≤ jk ∧ jk ≤ z_1) ∧ (ja = kMv f_pf z_1 jk) ∧ va_P D vwCl [(h0, .inr (9, [.int (zI fa), .int (zI tc), .ref so, .ref sl, .ref ce, .int (zI fn), .ref kd, .ref wd, .ref hs, .ref pf, .ref lt, .int (zI mn), .ref wg, .int (zI ta), .long ck, .int (zI at9), .int (zI rfn), .ref rk, .ref rw, .ref rh, .int (zI cl), .ref sa, .ref fi, .int (zI bo), .ref ch, .ref cn, .int (zI ad), .int (zI ru), .ref kp, .int (zI dn), .ref rfa])), (pf, .inl (c_pf, 4, .inl ja))] H ∧ va_D A [(h0, .inr (9, [.int (zI fa), .int (zI tc), .ref so, .ref sl, .ref ce, .int (zI fn), .ref kd, .ref wd, .ref hs, .ref pf, .ref lt, .int (zI mn), .ref wg, .int (zI ta), .long ck, .int (zI at9), .int (zI rfn), .ref rk, .ref rw, .ref rh, .int (zI cl), .ref sa, .ref fi, .int (zI bo), .ref ch, .ref cn, .int (zI ad), .int (zI ru), .ref kp, .int (zI dn), .ref rfa])), (pf, .inl (c_pf, 4, .inl ja))] ∧ va_S A s.heap H locs ∧ lv_has ls 4 [(3, .int (zI jk)), (2, .int (zI z_1)), (0, .ref h0), (1, .int (zI f))]) ?_ _ ⟨z_1, f_pf, rfl, (by omega), (kMv_0 _ _).symm, hP, hD, hS, hl⟩
  intro n8 ih8 H locs ls hI
  obtain ⟨jk, ja, en8, v_80, v_81, hP, hD, hS, hl⟩ := hI
  refine lv_iload_n hx hb dX9_comesFirst_8 rfl (lv_at hl 0 rfl) ?_
  refine kz_if_le (tgt := 32) hx hb dX9_comesFirst_9 (by decide) (by omega) (fun c_3 => ?_) (fun c_3 => ?_)
  · refine lv_aload_n hx hb dX9_comesFirst_32 rfl (lv_at hl 2 rfl) ?_
    refine va_get (D := D) (ci := 9) (v := .ref pf) (C := RX9) (T := TX9) (N := 31) hx hb hts (fun _ h9 => List.mem_cons_of_mem _ (List.mem_append_right _ h9)) hown hK hP 0 rfl rfl 9 (by decide) (hts (.fieldLink RX9 28 "FontRunsModel" "preference" "[I") mw_X9_comesFirst_w_0) (fun _ h9 => h9) rfl dX9_comesFirst_33 ?_
    refine lv_iconst (v := zI 0) hx hb dX9_comesFirst_36 rfl ?_
    refine lv_iload_n hx hb dX9_comesFirst_37 rfl (lv_at hl 3 rfl) ?_
    refine kz_iast hx hb hK hP hD hS 1 0 rfl rfl (by omega) dX9_comesFirst_38 (fun H locs hP hD hS => ?_)
    have hP : va_P D vwCl [(h0, .inr (9, [.int (zI fa), .int (zI tc), .ref so, .ref sl, .ref ce, .int (zI fn), .ref kd, .ref wd, .ref hs, .ref pf, .ref lt, .int (zI mn), .ref wg, .int (zI ta), .long ck, .int (zI at9), .int (zI rfn), .ref rk, .ref rw, .ref rh, .int (zI cl), .ref sa, .ref fi, .int (zI bo), .ref ch, .ref cn, .int (zI ad), .int (zI ru), .ref kp, .int (zI dn), .ref rfa])), (pf, .inl (c_pf, 4, .inl (upd ja (0 : Int).toNat (zI f))))] H := hP
    have hD : va_D A [(h0, .inr (9, [.int (zI fa), .int (zI tc), .ref so, .ref sl, .ref ce, .int (zI fn), .ref kd, .ref wd, .ref hs, .ref pf, .ref lt, .int (zI mn), .ref wg, .int (zI ta), .long ck, .int (zI at9), .int (zI rfn), .ref rk, .ref rw, .ref rh, .int (zI cl), .ref sa, .ref fi, .int (zI bo), .ref ch, .ref cn, .int (zI ad), .int (zI ru), .ref kp, .int (zI dn), .ref rfa])), (pf, .inl (c_pf, 4, .inl (upd ja (0 : Int).toNat (zI f))))] := hD
    generalize ef_4 : upd ja (0 : Int).toNat (zI f) = f_4 at hP hD
    refine lv_iload_n hx hb dX9_comesFirst_39 rfl (lv_at hl 1 rfl) ?_
    have hP9 := hP.sub (ws' := [(h0, .inr (9, [.int (zI fa), .int (zI tc), .ref so, .ref sl, .ref ce, .int (zI fn), .ref kd, .ref wd, .ref hs, .ref pf, .ref lt, .int (zI mn), .ref wg, .int (zI ta), .long ck, .int (zI at9), .int (zI rfn), .ref rk, .ref rw, .ref rh, .int (zI cl), .ref sa, .ref fi, .int (zI bo), .ref ch, .ref cn, .int (zI ad), .int (zI ru), .ref kp, .int (zI dn), .ref rfa])), (pf, .inl (c_pf, 4, .inl f_4))]) [0, 1] rfl
    have hD9 := hD.sub (ws' := [(h0, .inr (9, [.int (zI fa), .int (zI tc), .ref so, .ref sl, .ref ce, .int (zI fn), .ref kd, .ref wd, .ref hs, .ref pf, .ref lt, .int (zI mn), .ref wg, .int (zI ta), .long ck, .int (zI at9), .int (zI rfn), .ref rk, .ref rw, .ref rh, .int (zI cl), .ref sa, .ref fi, .int (zI bo), .ref ch, .ref cn, .int (zI ad), .int (zI ru), .ref kp, .int (zI dn), .ref rfa])), (pf, .inl (c_pf, 4, .inl f_4))]) [0, 1] (by decide +kernel) rfl
    exact W.iret (v := (zI z_1)) hx hb hr (fun t ht hW => kQS_of (by omega) ⟨f_4, (by rw [← ef_4, v_81, show jk = 0 by omega]; exact kPm_mv q2 (by omega) (by omega) (by omega) h_2.2.1), h_2, (kMvE ef_4 v_81 (by omega)), by rw [ht]; exact hP9, hD9⟩ (hS.F ht)) hS.2.2 dX9_comesFirst_40
  · refine lv_aload_n hx hb dX9_comesFirst_12 rfl (lv_at hl 2 rfl) ?_
    refine va_get (D := D) (ci := 9) (v := .ref pf) (C := RX9) (T := TX9) (N := 31) hx hb hts (fun _ h9 => List.mem_cons_of_mem _ (List.mem_append_right _ h9)) hown hK hP 0 rfl rfl 9 (by decide) (hts (.fieldLink RX9 28 "FontRunsModel" "preference" "[I") mw_X9_comesFirst_w_0) (fun _ h9 => h9) rfl dX9_comesFirst_13 ?_
    refine lv_iload_n hx hb dX9_comesFirst_16 rfl (lv_at hl 0 rfl) ?_
    refine lv_aload_n hx hb dX9_comesFirst_17 rfl (lv_at hl 2 rfl) ?_
    refine va_get (D := D) (ci := 9) (v := .ref pf) (C := RX9) (T := TX9) (N := 31) hx hb hts (fun _ h9 => List.mem_cons_of_mem _ (List.mem_append_right _ h9)) hown hK hP 0 rfl rfl 9 (by decide) (hts (.fieldLink RX9 28 "FontRunsModel" "preference" "[I") mw_X9_comesFirst_w_0) (fun _ h9 => h9) rfl dX9_comesFirst_18 ?_
    refine lv_iload_n hx hb dX9_comesFirst_21 rfl (lv_at hl 0 rfl) ?_
    refine lv_iconst (v := zI 1) hx hb dX9_comesFirst_22 rfl ?_
    refine kz_isub hx hb dX9_comesFirst_23 ?_
    refine kz_iald hx hb hK hP 1 0 rfl rfl (by omega) dX9_comesFirst_24 (fun z_5 rz_5 ez_5 => ?_)
    refine kz_iast hx hb hK hP hD hS 1 0 rfl rfl (by omega) dX9_comesFirst_25 (fun H locs hP hD hS => ?_)
    have hP : va_P D vwCl [(h0, .inr (9, [.int (zI fa), .int (zI tc), .ref so, .ref sl, .ref ce, .int (zI fn), .ref kd, .ref wd, .ref hs, .ref pf, .ref lt, .int (zI mn), .ref wg, .int (zI ta), .long ck, .int (zI at9), .int (zI rfn), .ref rk, .ref rw, .ref rh, .int (zI cl), .ref sa, .ref fi, .int (zI bo), .ref ch, .ref cn, .int (zI ad), .int (zI ru), .ref kp, .int (zI dn), .ref rfa])), (pf, .inl (c_pf, 4, .inl (upd ja (jk).toNat (zI z_5))))] H := hP
    have hD : va_D A [(h0, .inr (9, [.int (zI fa), .int (zI tc), .ref so, .ref sl, .ref ce, .int (zI fn), .ref kd, .ref wd, .ref hs, .ref pf, .ref lt, .int (zI mn), .ref wg, .int (zI ta), .long ck, .int (zI at9), .int (zI rfn), .ref rk, .ref rw, .ref rh, .int (zI cl), .ref sa, .ref fi, .int (zI bo), .ref ch, .ref cn, .int (zI ad), .int (zI ru), .ref kp, .int (zI dn), .ref rfa])), (pf, .inl (c_pf, 4, .inl (upd ja (jk).toNat (zI z_5))))] := hD
    generalize ef_6 : upd ja (jk).toNat (zI z_5) = f_6 at hP hD
    refine lv_iinc (v := (zI (jk - 1))) (lv' := [(3, .int (zI (jk - 1))), (2, .int (zI z_1)), (0, .ref h0), (1, .int (zI f))]) hx hb dX9_comesFirst_26 hl (k := 0) rfl (kz_dec _ 1) (by decide) rfl (fun ls hl => ?_)
    refine lv_goto (tgt := 8) hx hb dX9_comesFirst_29 (by decide) ?_
    exact ih8 _ (by omega) _ _ _ ⟨(jk - 1), f_6, rfl, (by omega), (by rw [← ef_6, v_81]; exact kMv_1 f_pf (by omega) (by rw [← v_81]; exact ez_5)), hP, hD, hS, lv_sub hl [0, 1, 2, 3] rfl⟩
theorem dX9_prefer_0 : decode cX9_prefer 0 = .ok (.aload_n 0, 1) := by decide +kernel
theorem dX9_prefer_1 : decode cX9_prefer 1 = .ok (.iload_n 1, 1) := by decide +kernel
theorem dX9_prefer_2 : decode cX9_prefer 2 = .ok (.invokevirtual 120, 3) := by decide +kernel
theorem dX9_prefer_5 : decode cX9_prefer 5 = .ok (.ifCond .ne 5, 3) := by decide +kernel
theorem dX9_prefer_8 : decode cX9_prefer 8 = .ok (.iconst (-1), 1) := by decide +kernel
theorem dX9_prefer_9 : decode cX9_prefer 9 = .ok (.ireturn, 1) := by decide +kernel
theorem dX9_prefer_10 : decode cX9_prefer 10 = .ok (.iconst 4, 1) := by decide +kernel
theorem dX9_prefer_11 : decode cX9_prefer 11 = .ok (.istore_n 2, 1) := by decide +kernel
theorem dX9_prefer_12 : decode cX9_prefer 12 = .ok (.iload_n 2, 1) := by decide +kernel
theorem dX9_prefer_13 : decode cX9_prefer 13 = .ok (.ifCond .le 23, 3) := by decide +kernel
theorem dX9_prefer_16 : decode cX9_prefer 16 = .ok (.aload_n 0, 1) := by decide +kernel
theorem dX9_prefer_17 : decode cX9_prefer 17 = .ok (.getfield 31, 3) := by decide +kernel
theorem dX9_prefer_20 : decode cX9_prefer 20 = .ok (.iload_n 2, 1) := by decide +kernel
theorem dX9_prefer_21 : decode cX9_prefer 21 = .ok (.aload_n 0, 1) := by decide +kernel
theorem dX9_prefer_22 : decode cX9_prefer 22 = .ok (.getfield 31, 3) := by decide +kernel
theorem dX9_prefer_25 : decode cX9_prefer 25 = .ok (.iload_n 2, 1) := by decide +kernel
theorem dX9_prefer_26 : decode cX9_prefer 26 = .ok (.iconst 1, 1) := by decide +kernel
theorem dX9_prefer_27 : decode cX9_prefer 27 = .ok (.isub, 1) := by decide +kernel
theorem dX9_prefer_28 : decode cX9_prefer 28 = .ok (.iaload, 1) := by decide +kernel
theorem dX9_prefer_29 : decode cX9_prefer 29 = .ok (.iastore, 1) := by decide +kernel
theorem dX9_prefer_30 : decode cX9_prefer 30 = .ok (.iinc 2 (-1), 3) := by decide +kernel
theorem dX9_prefer_33 : decode cX9_prefer 33 = .ok (.goto (-21), 3) := by decide +kernel
theorem dX9_prefer_36 : decode cX9_prefer 36 = .ok (.aload_n 0, 1) := by decide +kernel
theorem dX9_prefer_37 : decode cX9_prefer 37 = .ok (.getfield 31, 3) := by decide +kernel
theorem dX9_prefer_40 : decode cX9_prefer 40 = .ok (.iconst 0, 1) := by decide +kernel
theorem dX9_prefer_41 : decode cX9_prefer 41 = .ok (.iload_n 1, 1) := by decide +kernel
theorem dX9_prefer_42 : decode cX9_prefer 42 = .ok (.iastore, 1) := by decide +kernel
theorem dX9_prefer_43 : decode cX9_prefer 43 = .ok (.aload_n 0, 1) := by decide +kernel
theorem dX9_prefer_44 : decode cX9_prefer 44 = .ok (.iload_n 1, 1) := by decide +kernel
theorem dX9_prefer_45 : decode cX9_prefer 45 = .ok (.invokevirtual 174, 3) := by decide +kernel
theorem dX9_prefer_48 : decode cX9_prefer 48 = .ok (.ireturn, 1) := by decide +kernel
set_option maxRecDepth 20000 in
theorem ggX9_prefer_X9_comesFirst : GoodIn wsX9_prefer wsX9_comesFirst := goodIn_4 _ (List.forall_mem_cons.mpr ⟨List.mem_cons_of_mem _ (List.mem_append_left _ (List.mem_of_getElem? (i := 10) rfl)), List.forall_mem_append.mpr ⟨List.forall_mem_cons.mpr ⟨List.mem_cons_of_mem _ (List.mem_append_left _ (List.mem_of_getElem? (i := 11) rfl)), List.forall_mem_cons.mpr ⟨List.mem_cons_of_mem _ (List.mem_append_left _ (List.mem_of_getElem? (i := 12) rfl)), List.forall_mem_cons.mpr ⟨List.mem_cons_of_mem _ (List.mem_append_left _ (List.mem_of_getElem? (i := 13) rfl)), List.forall_mem_cons.mpr ⟨List.mem_cons_of_mem _ (List.mem_append_left _ (List.mem_of_getElem? (i := 14) rfl)), List.forall_mem_cons.mpr ⟨List.mem_cons_of_mem _ (List.mem_append_left _ (List.mem_of_getElem? (i := 4) rfl)), List.forall_mem_cons.mpr ⟨List.mem_cons_of_mem _ (List.mem_append_left _ (List.mem_of_getElem? (i := 15) rfl)), fun _ h9 => absurd h9 List.not_mem_nil⟩⟩⟩⟩⟩⟩, fun w h9 => List.mem_cons_of_mem _ (List.mem_append_right _ (h9))⟩⟩) (by decide +kernel)
set_option maxRecDepth 20000 in
theorem gX9_prefer_X9_comesFirst : GoodIn wsX9_prefer (wsV RX9 174 RX9 yX9_comesFirst wsX9_comesFirst) := goodIn_app (goodIn_4 _ (List.forall_mem_cons.mpr ⟨List.mem_cons_of_mem _ (List.mem_append_left _ (List.mem_of_getElem? (i := 7) rfl)), List.forall_mem_cons.mpr ⟨List.mem_cons_of_mem _ (List.mem_append_left _ (List.mem_of_getElem? (i := 8) rfl)), List.forall_mem_cons.mpr ⟨List.mem_cons_of_mem _ (List.mem_append_left _ (List.mem_of_getElem? (i := 9) rfl)), List.forall_mem_cons.mpr ⟨List.mem_cons_of_mem _ (List.mem_append_left _ (List.mem_of_getElem? (i := 4) rfl)), fun _ h9 => absurd h9 List.not_mem_nil⟩⟩⟩⟩) (by decide +kernel)) ggX9_prefer_X9_comesFirst
set_option maxRecDepth 20000 in
theorem ggX9_prefer_X9_isFont : GoodIn wsX9_prefer wsX9_isFont := goodIn_4 _ (List.forall_mem_cons.mpr ⟨List.mem_cons_of_mem _ (List.mem_append_left _ (List.mem_of_getElem? (i := 5) rfl)), List.forall_mem_append.mpr ⟨List.forall_mem_cons.mpr ⟨List.mem_cons_of_mem _ (List.mem_append_left _ (List.mem_of_getElem? (i := 6) rfl)), fun _ h9 => absurd h9 List.not_mem_nil⟩, fun w h9 => List.mem_cons_of_mem _ (List.mem_append_right _ (h9))⟩⟩) (by decide +kernel)
set_option maxRecDepth 20000 in
theorem gX9_prefer_X9_isFont : GoodIn wsX9_prefer (wsV RX9 120 RX9 yX9_isFont wsX9_isFont) := goodIn_app (goodIn_4 _ (List.forall_mem_cons.mpr ⟨List.mem_cons_of_mem _ (List.mem_append_left _ (List.mem_of_getElem? (i := 1) rfl)), List.forall_mem_cons.mpr ⟨List.mem_cons_of_mem _ (List.mem_append_left _ (List.mem_of_getElem? (i := 2) rfl)), List.forall_mem_cons.mpr ⟨List.mem_cons_of_mem _ (List.mem_append_left _ (List.mem_of_getElem? (i := 3) rfl)), List.forall_mem_cons.mpr ⟨List.mem_cons_of_mem _ (List.mem_append_left _ (List.mem_of_getElem? (i := 4) rfl)), fun _ h9 => absurd h9 List.not_mem_nil⟩⟩⟩⟩) (by decide +kernel)) ggX9_prefer_X9_isFont
set_option maxRecDepth 20000 in
theorem mw_X9_prefer_0 : (.fieldLink RX9 31 "FontRunsModel" "latest" "[I" : Cond) ∈ wsX9_prefer := List.mem_cons_of_mem _ (List.mem_append_left _ (List.mem_of_getElem? (i := 0) rfl))
theorem ax_X9_prefer_0 {e0 e1 e2 : Nat × va_E} : ([0] : List Nat).map (fun i => ([e0, e1, e2] : va_W)[i]?) = ([e0] : va_W).map some := rfl
theorem ax_X9_prefer_1 {e0 e1 e2 : Nat × va_E} : ([0, 1] : List Nat).map (fun i => ([e0, e1, e2] : va_W)[i]?) = ([e0, e1] : va_W).map some := rfl
theorem ax_X9_prefer_2 {e0 e1 e2 : Nat × va_E} : ([2] : List Nat).map (fun i => ([e0, e1, e2] : va_W)[i]?) = ([e2] : va_W).map some := rfl
theorem ax_X9_prefer_3 {D : va_G} {cl : List vw_C} {H : Heap} {e0 f0 f1 : Nat × va_E} (h : va_P D cl ((([e0] : va_W) ++ ([f0, f1] : va_W))) H) : va_P D cl (([e0, f0, f1] : va_W)) H := h
theorem ax_X9_prefer_4 {A : Nat → Prop} {e0 f0 f1 : Nat × va_E} (h : va_D A ((([e0] : va_W) ++ ([f0, f1] : va_W)))) : va_D A (([e0, f0, f1] : va_W)) := h
theorem ax_X9_prefer_5 {e0 e1 e2 : Nat × va_E} : ([1, 2, 0] : List Nat).map (fun i => ([e0, e1, e2] : va_W)[i]?) = ([e1, e2, e0] : va_W).map some := rfl
theorem ax_X9_prefer_6 {e0 e1 e2 : Nat × va_E} : ([0, 1, 2] : List Nat).map (fun i => ([e0, e1, e2] : va_W)[i]?) = ([e0, e1, e2] : va_W).map some := rfl
set_option maxHeartbeats 4000000 in
set_option maxRecDepth 100000 in
theorem c_X9_prefer (l : Launch) (D : va_G) (sz : Nat) (f : Int) (h0 : Nat) (fa : Int) (tc : Int) (so : Nat) (sl : Nat) (ce : Nat) (fn : Int) (kd : Nat) (wd : Nat) (hs : Nat) (pf : Nat) (lt : Nat) (mn : Int) (wg : Nat) (ta : Int) (ck : Int64) (at9 : Int) (rfn : Int) (rk : Nat) (rw : Nat) (rh : Nat) (cl : Int) (sa : Nat) (fi : Nat) (bo : Int) (ch : Nat) (cn : Nat) (ad : Int) (ru : Int) (kp : Nat) (dn : Int) (rfa : Nat) (c_pf : ClassId) (f_pf : Nat → Int32) (c_lt : ClassId) (f_lt : Nat → Int32) (q0 : rg f) (q1 : 0 ≤ fn ∧ fn ≤ 4) (q2 : kPm f_pf fn) : Met l yX9_prefer wsX9_prefer ({ frames := 2, cells := 0, slots := 0, locals := 45 }) (kPre [.ref h0, .int (zI f)] D [(h0, .inr (9, [.int (zI fa), .int (zI tc), .ref so, .ref sl, .ref ce, .int (zI fn), .ref kd, .ref wd, .ref hs, .ref pf, .ref lt, .int (zI mn), .ref wg, .int (zI ta), .long ck, .int (zI at9), .int (zI rfn), .ref rk, .ref rw, .ref rh, .int (zI cl), .ref sa, .ref fi, .int (zI bo), .ref ch, .ref cn, .int (zI ad), .int (zI ru), .ref kp, .int (zI dn), .ref rfa])), (pf, .inl (c_pf, 4, .inl f_pf)), (lt, .inl (c_lt, 5, .inl f_lt))] [(c_pf, .int), (c_lt, .int)] sz) (kQS (fun rz t => ∃ (u_f_pf : Nat → Int32) (u_f_lt : Nat → Int32), (kPm u_f_pf fn) ∧ (kPrM f fn f_pf u_f_pf f_lt u_f_lt rz) ∧ va_P D vwCl [(h0, .inr (9, [.int (zI fa), .int (zI tc), .ref so, .ref sl, .ref ce, .int (zI fn), .ref kd, .ref wd, .ref hs, .ref pf, .ref lt, .int (zI mn), .ref wg, .int (zI ta), .long ck, .int (zI at9), .int (zI rfn), .ref rk, .ref rw, .ref rh, .int (zI cl), .ref sa, .ref fi, .int (zI bo), .ref ch, .ref cn, .int (zI ad), .int (zI ru), .ref kp, .int (zI dn), .ref rfa])), (pf, .inl (c_pf, 4, .inl u_f_pf)), (lt, .inl (c_lt, 5, .inl u_f_lt))] t.heap ∧ va_D (va_A [(h0, .inr (9, [.int (zI fa), .int (zI tc), .ref so, .ref sl, .ref ce, .int (zI fn), .ref kd, .ref wd, .ref hs, .ref pf, .ref lt, .int (zI mn), .ref wg, .int (zI ta), .long ck, .int (zI at9), .int (zI rfn), .ref rk, .ref rw, .ref rh, .int (zI cl), .ref sa, .ref fi, .int (zI bo), .ref ch, .ref cn, .int (zI ad), .int (zI ru), .ref kp, .int (zI dn), .ref rfa])), (pf, .inl (c_pf, 4, .inl f_pf)), (lt, .inl (c_lt, 5, .inl f_lt))] sz) [(h0, .inr (9, [.int (zI fa), .int (zI tc), .ref so, .ref sl, .ref ce, .int (zI fn), .ref kd, .ref wd, .ref hs, .ref pf, .ref lt, .int (zI mn), .ref wg, .int (zI ta), .long ck, .int (zI at9), .int (zI rfn), .ref rk, .ref rw, .ref rh, .int (zI cl), .ref sa, .ref fi, .int (zI bo), .ref ch, .ref cn, .int (zI ad), .int (zI ru), .ref kp, .int (zI dn), .ref rfa])), (pf, .inl (c_pf, 4, .inl u_f_pf)), (lt, .inl (c_lt, 5, .inl u_f_lt))]) (va_A [(h0, .inr (9, [.int (zI fa), .int (zI tc), .ref so, .ref sl, .ref ce, .int (zI fn), .ref kd, .ref wd, .ref hs, .ref pf, .ref lt, .int (zI mn), .ref wg, .int (zI ta), .long ck, .int (zI at9), .int (zI rfn), .ref rk, .ref rw, .ref rh, .int (zI cl), .ref sa, .ref fi, .int (zI bo), .ref ch, .ref cn, .int (zI ad), .int (zI ru), .ref kp, .int (zI dn), .ref rfa])), (pf, .inl (c_pf, 4, .inl f_pf)), (lt, .inl (c_lt, 5, .inl f_lt))] sz)) 0 0 (va_A [(h0, .inr (9, [.int (zI fa), .int (zI tc), .ref so, .ref sl, .ref ce, .int (zI fn), .ref kd, .ref wd, .ref hs, .ref pf, .ref lt, .int (zI mn), .ref wg, .int (zI ta), .long ck, .int (zI at9), .int (zI rfn), .ref rk, .ref rw, .ref rh, .int (zI cl), .ref sa, .ref fi, .int (zI bo), .ref ch, .ref cn, .int (zI ad), .int (zI ru), .ref kp, .int (zI dn), .ref rfa])), (pf, .inl (c_pf, 4, .inl f_pf)), (lt, .inl (c_lt, 5, .inl f_lt))] sz) := by
  refine Met.ofW (cc := cX9_prefer) (maxL := 3) (ret := (some .int)) (by decide) rfl ?_
  intro p e s m args below meth c s₁ B hml hv
  obtain ⟨rfl, hsz, hP, hK, hD0, hN⟩ := hv
  have hx := B.exec
  have hb := B.bytes
  have hr := B.returns
  have hts := atoms_spec (ws := wsX9_prefer) B.pre
  have hown : s.vm.findClass RX9 = some m.cls := findClass_of_methodNamed B.named
  have hlocks := B.notSynchronized
  subst hsz
  have hD := hD0.self (sz := s.heap.size)
  generalize hAe : va_A [(h0, .inr (9, [.int (zI fa), .int (zI tc), .ref so, .ref sl, .ref ce, .int (zI fn), .ref kd, .ref wd, .ref hs, .ref pf, .ref lt, .int (zI mn), .ref wg, .int (zI ta), .long ck, .int (zI at9), .int (zI rfn), .ref rk, .ref rw, .ref rh, .int (zI cl), .ref sa, .ref fi, .int (zI bo), .ref ch, .ref cn, .int (zI ad), .int (zI ru), .ref kp, .int (zI dn), .ref rfa])), (pf, .inl (c_pf, 4, .inl f_pf)), (lt, .inl (c_lt, 5, .inl f_lt))] s.heap.size = A at hD ⊢
  have hA : ∀ q : Nat, s.heap.size ≤ q → A q := fun q h => by rw [← hAe]; exact Or.inr h
  have hS : va_S A s.heap s.heap [] := va_S.rf
  have hP : va_P D vwCl [(h0, .inr (9, [.int (zI fa), .int (zI tc), .ref so, .ref sl, .ref ce, .int (zI fn), .ref kd, .ref wd, .ref hs, .ref pf, .ref lt, .int (zI mn), .ref wg, .int (zI ta), .long ck, .int (zI at9), .int (zI rfn), .ref rk, .ref rw, .ref rh, .int (zI cl), .ref sa, .ref fi, .int (zI bo), .ref ch, .ref cn, .int (zI ad), .int (zI ru), .ref kp, .int (zI dn), .ref rfa])), (pf, .inl (c_pf, 4, .inl f_pf)), (lt, .inl (c_lt, 5, .inl f_lt))] s.heap := hP
  have hl := lv_entry ([.ref h0, .int (zI f)]) (n := 3) (Nat.le_of_ble_eq_true rfl)
  rw [lg_entry_eq]
  generalize (lg_sl ([.ref h0, .int (zI f)]) ++ List.replicate (3 - (lg_sl ([.ref h0, .int (zI f)])).length) Slot.unset).toArray = ls at hl ⊢
  have hl : lv_has ls 3 [(0, .ref h0), (1, .int (zI f))] := hl
  refine lv_aload_n hx hb dX9_prefer_0 rfl (lv_at hl 0 rfl) ?_
  refine lv_iload_n hx hb dX9_prefer_1 rfl (lv_at hl 1 rfl) ?_
  refine k_callR (va_runV (As := [.int (zI f)]) (rest := []) ⟨hx, hb, hml, hown, hts⟩ (c_X9_isFont l D s.heap.size (f := f) (h0 := h0) (fa := fa) (tc := tc) (so := so) (sl := sl) (ce := ce) (fn := fn) (kd := kd) (wd := wd) (hs := hs) (pf := pf) (lt := lt) (mn := mn) (wg := wg) (ta := ta) (ck := ck) (at9 := at9) (rfn := rfn) (rk := rk) (rw := rw) (rh := rh) (cl := cl) (sa := sa) (fi := fi) (bo := bo) (ch := ch) (cn := cn) (ad := ad) (ru := ru) (kp := kp) (dn := dn) (rfa := rfa) q0 q1) (cwV 1 hts gX9_prefer_X9_isFont rfl rfl rfl (by decide +kernel) ⟨Nat.le_of_ble_eq_true rfl, Nat.le_of_ble_eq_true rfl⟩) (kPreV hP (kD0 hD) hK hN [0] [] ax_X9_prefer_0 rfl (by decide +kernel) 0 9 rfl rfl) rfl rfl hl.1 rfl (lv_room (Nat.le_of_ble_eq_true rfl)) dX9_prefer_2 ⟨Nat.le_of_ble_eq_true rfl, Nat.le_of_ble_eq_true rfl⟩) ?_
  refine lv_if_ne (tgt := 10) hx hb dX9_prefer_5 (by decide) (fun c_1 => ?_) (fun c_1 => ?_)
  · have c_1 : 0 ≤ f ∧ f < fn := b01t c_1
    refine lv_iconst (v := zI 4) hx hb dX9_prefer_10 rfl ?_
    refine lv_istore_n (lv' := [(2, .int (zI 4)), (0, .ref h0), (1, .int (zI f))]) hx hb dX9_prefer_11 rfl hl (by decide) rfl (fun ls hl => ?_)
    refine k_loopM (I := fun n9 H locs ls => ∃ (jk : Int) (ja : Nat → Int32), n9 = (jk).toNat ∧ (0 ≤ jk ∧ jk ≤ 4) ∧ (ja = kMv f_lt 4 jk) ∧ va_P D vwCl [(h0, .inr (9, [.int (zI fa), .int (zI tc), .ref so, .ref sl, .ref ce, .int (zI fn), .ref kd, .ref wd, .ref hs, .ref pf, .ref lt, .int (zI mn), .ref wg, .int (zI ta), .long ck, .int (zI at9), .int (zI rfn), .ref rk, .ref rw, .ref rh, .int (zI cl), .ref sa, .ref fi, .int (zI bo), .ref ch, .ref cn, .int (zI ad), .int (zI ru), .ref kp, .int (zI dn), .ref rfa])), (pf, .inl (c_pf, 4, .inl f_pf)), (lt, .inl (c_lt, 5, .inl ja))] H ∧ va_D A [(h0, .inr (9, [.int (zI fa), .int (zI tc), .ref so, .ref sl, .ref ce, .int (zI fn), .ref kd, .ref wd, .ref hs, .ref pf, .ref lt, .int (zI mn), .ref wg, .int (zI ta), .long ck, .int (zI at9), .int (zI rfn), .ref rk, .ref rw, .ref rh, .int (zI cl), .ref sa, .ref fi, .int (zI bo), .ref ch, .ref cn, .int (zI ad), .int (zI ru), .ref kp, .int (zI dn), .ref rfa])), (pf, .inl (c_pf, 4, .inl f_pf)), (lt, .inl (c_lt, 5, .inl ja))] ∧ va_S A s.heap H locs ∧ lv_has ls 3 [(2, .int (zI jk)), (0, .ref h0), (1, .int (zI f))]) ?_ _ ⟨4, f_lt, rfl, (by omega), (kMv_0 _ _).symm, hP, hD, hS, hl⟩
    intro n12 ih12 H locs ls hI
    obtain ⟨jk, ja, en12, v_120, v_121, hP, hD, hS, hl⟩ := hI
    refine lv_iload_n hx hb dX9_prefer_12 rfl (lv_at hl 0 rfl) ?_
    refine kz_if_le (tgt := 36) hx hb dX9_prefer_13 (by decide) (by omega) (fun c_2 => ?_) (fun c_2 => ?_)
    · refine lv_aload_n hx hb dX9_prefer_36 rfl (lv_at hl 1 rfl) ?_
      refine va_get (D := D) (ci := 9) (v := .ref lt) (C := RX9) (T := TX9) (N := 31) hx hb hts (fun _ h9 => List.mem_cons_of_mem _ (List.mem_append_right _ h9)) hown hK hP 0 rfl rfl 10 (by decide) (hts (.fieldLink RX9 31 "FontRunsModel" "latest" "[I") mw_X9_prefer_0) (fun _ h9 => h9) rfl dX9_prefer_37 ?_
      refine lv_iconst (v := zI 0) hx hb dX9_prefer_40 rfl ?_
      refine lv_iload_n hx hb dX9_prefer_41 rfl (lv_at hl 2 rfl) ?_
      refine kz_iast hx hb hK hP hD hS 2 1 rfl rfl (by omega) dX9_prefer_42 (fun H locs hP hD hS => ?_)
      have hP : va_P D vwCl [(h0, .inr (9, [.int (zI fa), .int (zI tc), .ref so, .ref sl, .ref ce, .int (zI fn), .ref kd, .ref wd, .ref hs, .ref pf, .ref lt, .int (zI mn), .ref wg, .int (zI ta), .long ck, .int (zI at9), .int (zI rfn), .ref rk, .ref rw, .ref rh, .int (zI cl), .ref sa, .ref fi, .int (zI bo), .ref ch, .ref cn, .int (zI ad), .int (zI ru), .ref kp, .int (zI dn), .ref rfa])), (pf, .inl (c_pf, 4, .inl f_pf)), (lt, .inl (c_lt, 5, .inl (upd ja (0 : Int).toNat (zI f))))] H := hP
      have hD : va_D A [(h0, .inr (9, [.int (zI fa), .int (zI tc), .ref so, .ref sl, .ref ce, .int (zI fn), .ref kd, .ref wd, .ref hs, .ref pf, .ref lt, .int (zI mn), .ref wg, .int (zI ta), .long ck, .int (zI at9), .int (zI rfn), .ref rk, .ref rw, .ref rh, .int (zI cl), .ref sa, .ref fi, .int (zI bo), .ref ch, .ref cn, .int (zI ad), .int (zI ru), .ref kp, .int (zI dn), .ref rfa])), (pf, .inl (c_pf, 4, .inl f_pf)), (lt, .inl (c_lt, 5, .inl (upd ja (0 : Int).toNat (zI f))))] := hD
      generalize ef_3 : upd ja (0 : Int).toNat (zI f) = f_3 at hP hD
      refine lv_aload_n hx hb dX9_prefer_43 rfl (lv_at hl 1 rfl) ?_
      refine lv_iload_n hx hb dX9_prefer_44 rfl (lv_at hl 2 rfl) ?_
      have hFc := va_free (wc := [(h0, .inr (9, [.int (zI fa), .int (zI tc), .ref so, .ref sl, .ref ce, .int (zI fn), .ref kd, .ref wd, .ref hs, .ref pf, .ref lt, .int (zI mn), .ref wg, .int (zI ta), .long ck, .int (zI at9), .int (zI rfn), .ref rk, .ref rw, .ref rh, .int (zI cl), .ref sa, .ref fi, .int (zI bo), .ref ch, .ref cn, .int (zI ad), .int (zI ru), .ref kp, .int (zI dn), .ref rfa])), (pf, .inl (c_pf, 4, .inl f_pf))]) hD hS hA [0, 1] ax_X9_prefer_1
      refine va_calli (va_runV (As := [.int (zI f)]) (rest := []) ⟨hx, hb, hml, hown, hts⟩ (c_X9_comesFirst_w l D H.size (f := f) (h0 := h0) (fa := fa) (tc := tc) (so := so) (sl := sl) (ce := ce) (fn := fn) (kd := kd) (wd := wd) (hs := hs) (pf := pf) (lt := lt) (mn := mn) (wg := wg) (ta := ta) (ck := ck) (at9 := at9) (rfn := rfn) (rk := rk) (rw := rw) (rh := rh) (cl := cl) (sa := sa) (fi := fi) (bo := bo) (ch := ch) (cn := cn) (ad := ad) (ru := ru) (kp := kp) (dn := dn) (rfa := rfa) (c_pf := c_pf) (f_pf := f_pf) (by omega) q1 q2) (cwV 1 hts gX9_prefer_X9_comesFirst rfl rfl rfl (by decide +kernel) ⟨Nat.le_of_ble_eq_true rfl, Nat.le_of_ble_eq_true rfl⟩) (kPreV hP (kD0 hD) hK hN [0, 1] [0] ax_X9_prefer_1 rfl (by decide +kernel) 0 9 rfl rfl) rfl rfl hl.1 rfl (lv_room (Nat.le_of_ble_eq_true rfl)) dX9_prefer_45 ⟨Nat.le_of_ble_eq_true rfl, Nat.le_of_ble_eq_true rfl⟩) hS (fun q _ h => hFc q h) hFc (fun r u t H1 locs ht hvm hw hB hz1 hk1 hS => ?_)
      obtain ⟨z_5, e9⟩ : ∃ z, z = u := ⟨_, rfl⟩
      subst e9
      obtain ⟨rfl, rz_5⟩ := hw
      refine Exists.elim hB (fun u_f_pf_4 hB1 => ?_)
      have h_6 := hB1.1
      have h_7 := hB1.2.1
      have h_8 := hB1.2.2.1
      have hP1 := hB1.2.2.2.1
      have hD1 := hB1.2.2.2.2
      clear hB hB1
      rw [ht] at hP1
      obtain ⟨hP, hD⟩ := va_join (wr := [(lt, .inl (c_lt, 5, .inl f_3))]) (w1 := [(h0, .inr (9, [.int (zI fa), .int (zI tc), .ref so, .ref sl, .ref ce, .int (zI fn), .ref kd, .ref wd, .ref hs, .ref pf, .ref lt, .int (zI mn), .ref wg, .int (zI ta), .long ck, .int (zI at9), .int (zI rfn), .ref rk, .ref rw, .ref rh, .int (zI cl), .ref sa, .ref fi, .int (zI bo), .ref ch, .ref cn, .int (zI ad), .int (zI ru), .ref kp, .int (zI dn), .ref rfa])), (pf, .inl (c_pf, 4, .inl u_f_pf_4))]) hP hD [0, 1] [2] ax_X9_prefer_1 ax_X9_prefer_2 (by decide +kernel) (by decide +kernel) hk1 hFc hP1 hD1
      have hP := ax_X9_prefer_3 hP
      have hD := ax_X9_prefer_4 hD
      generalize H1 = H at hP hS ⊢
      have hP : va_P D vwCl [(lt, .inl (c_lt, 5, .inl f_3)), (h0, .inr (9, [.int (zI fa), .int (zI tc), .ref so, .ref sl, .ref ce, .int (zI fn), .ref kd, .ref wd, .ref hs, .ref pf, .ref lt, .int (zI mn), .ref wg, .int (zI ta), .long ck, .int (zI at9), .int (zI rfn), .ref rk, .ref rw, .ref rh, .int (zI cl), .ref sa, .ref fi, .int (zI bo), .ref ch, .ref cn, .int (zI ad), .int (zI ru), .ref kp, .int (zI dn), .ref rfa])), (pf, .inl (c_pf, 4, .inl u_f_pf_4))] H := hP
      have hD : va_D A [(lt, .inl (c_lt, 5, .inl f_3)), (h0, .inr (9, [.int (zI fa), .int (zI tc), .ref so, .ref sl, .ref ce, .int (zI fn), .ref kd, .ref wd, .ref hs, .ref pf, .ref lt, .int (zI mn), .ref wg, .int (zI ta), .long ck, .int (zI at9), .int (zI rfn), .ref rk, .ref rw, .ref rh, .int (zI cl), .ref sa, .ref fi, .int (zI bo), .ref ch, .ref cn, .int (zI ad), .int (zI ru), .ref kp, .int (zI dn), .ref rfa])), (pf, .inl (c_pf, 4, .inl u_f_pf_4))] := hD
      have hP9 := hP.sub (ws' := [(h0, .inr (9, [.int (zI fa), .int (zI tc), .ref so, .ref sl, .ref ce, .int (zI fn), .ref kd, .ref wd, .ref hs, .ref pf, .ref lt, .int (zI mn), .ref wg, .int (zI ta), .long ck, .int (zI at9), .int (zI rfn), .ref rk, .ref rw, .ref rh, .int (zI cl), .ref sa, .ref fi, .int (zI bo), .ref ch, .ref cn, .int (zI ad), .int (zI ru), .ref kp, .int (zI dn), .ref rfa])), (pf, .inl (c_pf, 4, .inl u_f_pf_4)), (lt, .inl (c_lt, 5, .inl f_3))]) [1, 2, 0] rfl
      have hD9 := hD.sub (ws' := [(h0, .inr (9, [.int (zI fa), .int (zI tc), .ref so, .ref sl, .ref ce, .int (zI fn), .ref kd, .ref wd, .ref hs, .ref pf, .ref lt, .int (zI mn), .ref wg, .int (zI ta), .long ck, .int (zI at9), .int (zI rfn), .ref rk, .ref rw, .ref rh, .int (zI cl), .ref sa, .ref fi, .int (zI bo), .ref ch, .ref cn, .int (zI ad), .int (zI ru), .ref kp, .int (zI dn), .ref rfa])), (pf, .inl (c_pf, 4, .inl u_f_pf_4)), (lt, .inl (c_lt, 5, .inl f_3))]) [1, 2, 0] (by decide +kernel) rfl
      exact W.iret (v := (zI z_5)) hx hb hr (fun t ht hW => kQS_of (by omega) ⟨u_f_pf_4, f_3, h_6, (Or.inr ⟨by omega, h_7, h_8, kMvE ef_3 v_121 (by omega)⟩), by rw [ht]; exact hP9, hD9⟩ (hS.F ht)) hS.2.2 dX9_prefer_48
    · refine lv_aload_n hx hb dX9_prefer_16 rfl (lv_at hl 1 rfl) ?_
      refine va_get (D := D) (ci := 9) (v := .ref lt) (C := RX9) (T := TX9) (N := 31) hx hb hts (fun _ h9 => List.mem_cons_of_mem _ (List.mem_append_right _ h9)) hown hK hP 0 rfl rfl 10 (by decide) (hts (.fieldLink RX9 31 "FontRunsModel" "latest" "[I") mw_X9_prefer_0) (fun _ h9 => h9) rfl dX9_prefer_17 ?_
      refine lv_iload_n hx hb dX9_prefer_20 rfl (lv_at hl 0 rfl) ?_
      refine lv_aload_n hx hb dX9_prefer_21 rfl (lv_at hl 1 rfl) ?_
      refine va_get (D := D) (ci := 9) (v := .ref lt) (C := RX9) (T := TX9) (N := 31) hx hb hts (fun _ h9 => List.mem_cons_of_mem _ (List.mem_append_right _ h9)) hown hK hP 0 rfl rfl 10 (by decide) (hts (.fieldLink RX9 31 "FontRunsModel" "latest" "[I") mw_X9_prefer_0) (fun _ h9 => h9) rfl dX9_prefer_22 ?_
      refine lv_iload_n hx hb dX9_prefer_25 rfl (lv_at hl 0 rfl) ?_
      refine lv_iconst (v := zI 1) hx hb dX9_prefer_26 rfl ?_
      refine kz_isub hx hb dX9_prefer_27 ?_
      refine kz_iald hx hb hK hP 2 1 rfl rfl (by omega) dX9_prefer_28 (fun z_9 rz_9 ez_9 => ?_)
      refine kz_iast hx hb hK hP hD hS 2 1 rfl rfl (by omega) dX9_prefer_29 (fun H locs hP hD hS => ?_)
      have hP : va_P D vwCl [(h0, .inr (9, [.int (zI fa), .int (zI tc), .ref so, .ref sl, .ref ce, .int (zI fn), .ref kd, .ref wd, .ref hs, .ref pf, .ref lt, .int (zI mn), .ref wg, .int (zI ta), .long ck, .int (zI at9), .int (zI rfn), .ref rk, .ref rw, .ref rh, .int (zI cl), .ref sa, .ref fi, .int (zI bo), .ref ch, .ref cn, .int (zI ad), .int (zI ru), .ref kp, .int (zI dn), .ref rfa])), (pf, .inl (c_pf, 4, .inl f_pf)), (lt, .inl (c_lt, 5, .inl (upd ja (jk).toNat (zI z_9))))] H := hP
      have hD : va_D A [(h0, .inr (9, [.int (zI fa), .int (zI tc), .ref so, .ref sl, .ref ce, .int (zI fn), .ref kd, .ref wd, .ref hs, .ref pf, .ref lt, .int (zI mn), .ref wg, .int (zI ta), .long ck, .int (zI at9), .int (zI rfn), .ref rk, .ref rw, .ref rh, .int (zI cl), .ref sa, .ref fi, .int (zI bo), .ref ch, .ref cn, .int (zI ad), .int (zI ru), .ref kp, .int (zI dn), .ref rfa])), (pf, .inl (c_pf, 4, .inl f_pf)), (lt, .inl (c_lt, 5, .inl (upd ja (jk).toNat (zI z_9))))] := hD
      generalize ef_10 : upd ja (jk).toNat (zI z_9) = f_10 at hP hD
      refine lv_iinc (v := (zI (jk - 1))) (lv' := [(2, .int (zI (jk - 1))), (0, .ref h0), (1, .int (zI f))]) hx hb dX9_prefer_30 hl (k := 0) rfl (kz_dec _ 1) (by decide) rfl (fun ls hl => ?_)
      refine lv_goto (tgt := 12) hx hb dX9_prefer_33 (by decide) ?_
      exact ih12 _ (by omega) _ _ _ ⟨(jk - 1), f_10, rfl, (by omega), (by rw [← ef_10, v_121]; exact kMv_1 f_lt (by omega) (by rw [← v_121]; exact ez_9)), hP, hD, hS, lv_sub hl [0, 1, 2] rfl⟩
  · have c_1 : ¬ (0 ≤ f ∧ f < fn) := b01f c_1
    refine lv_iconst (v := zI (-1)) hx hb dX9_prefer_8 rfl ?_
    have hP9 := hP.sub (ws' := [(h0, .inr (9, [.int (zI fa), .int (zI tc), .ref so, .ref sl, .ref ce, .int (zI fn), .ref kd, .ref wd, .ref hs, .ref pf, .ref lt, .int (zI mn), .ref wg, .int (zI ta), .long ck, .int (zI at9), .int (zI rfn), .ref rk, .ref rw, .ref rh, .int (zI cl), .ref sa, .ref fi, .int (zI bo), .ref ch, .ref cn, .int (zI ad), .int (zI ru), .ref kp, .int (zI dn), .ref rfa])), (pf, .inl (c_pf, 4, .inl f_pf)), (lt, .inl (c_lt, 5, .inl f_lt))]) [0, 1, 2] rfl
    have hD9 := hD.sub (ws' := [(h0, .inr (9, [.int (zI fa), .int (zI tc), .ref so, .ref sl, .ref ce, .int (zI fn), .ref kd, .ref wd, .ref hs, .ref pf, .ref lt, .int (zI mn), .ref wg, .int (zI ta), .long ck, .int (zI at9), .int (zI rfn), .ref rk, .ref rw, .ref rh, .int (zI cl), .ref sa, .ref fi, .int (zI bo), .ref ch, .ref cn, .int (zI ad), .int (zI ru), .ref kp, .int (zI dn), .ref rfa])), (pf, .inl (c_pf, 4, .inl f_pf)), (lt, .inl (c_lt, 5, .inl f_lt))]) [0, 1, 2] (by decide +kernel) rfl
    exact W.iret (v := (zI (-1))) hx hb hr (fun t ht hW => kQS_of (by omega) ⟨f_pf, f_lt, q2, (Or.inl ⟨by omega, by omega, rfl, rfl⟩), by rw [ht]; exact hP9, hD9⟩ (hS.F ht)) hS.2.2 dX9_prefer_9
