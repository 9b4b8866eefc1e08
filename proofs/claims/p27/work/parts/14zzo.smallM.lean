set_option maxRecDepth 20000 in
theorem mw_X9_stepOf_w_0 : (.fieldLink RX9 19 "FontRunsModel" "kind" "[I" : Cond) ∈ wsX9_stepOf := List.mem_cons_of_mem _ (List.mem_append_left _ (List.mem_of_getElem? (i := 0) rfl))
set_option maxRecDepth 20000 in
theorem mw_X9_stepOf_w_1 : (.fieldLink RX9 22 "FontRunsModel" "width" "[I" : Cond) ∈ wsX9_stepOf := List.mem_cons_of_mem _ (List.mem_append_left _ (List.mem_of_getElem? (i := 1) rfl))
set_option maxHeartbeats 4000000 in
set_option maxRecDepth 100000 in
theorem c_X9_stepOf_w (l : Launch) (D : va_G) (sz : Nat) (f : Int) (h0 : Nat) (fa : Int) (tc : Int) (so : Nat) (sl : Nat) (ce : Nat) (fn : Int) (kd : Nat) (wd : Nat) (hs : Nat) (pf : Nat) (lt : Nat) (mn : Int) (wg : Nat) (ta : Int) (ck : Int64) (at9 : Int) (rfn : Int) (rk : Nat) (rw : Nat) (rh : Nat) (cl : Int) (sa : Nat) (fi : Nat) (bo : Int) (ch : Nat) (cn : Nat) (ad : Int) (ru : Int) (kp : Nat) (dn : Int) (rfa : Nat) (c_kd : ClassId) (f_kd : Nat → Int32) (c_wd : ClassId) (f_wd : Nat → Int32) (q0 : 0 ≤ f ∧ f ≤ 3) : Met l yX9_stepOf wsX9_stepOf ({ frames := 0, cells := 0, slots := 0, locals := 0 }) (kPre [.ref h0, .int (zI f)] D [(h0, .inr (9, [.int (zI fa), .int (zI tc), .ref so, .ref sl, .ref ce, .int (zI fn), .ref kd, .ref wd, .ref hs, .ref pf, .ref lt, .int (zI mn), .ref wg, .int (zI ta), .long ck, .int (zI at9), .int (zI rfn), .ref rk, .ref rw, .ref rh, .int (zI cl), .ref sa, .ref fi, .int (zI bo), .ref ch, .ref cn, .int (zI ad), .int (zI ru), .ref kp, .int (zI dn), .ref rfa])), (kd, .inl (c_kd, 4, .inl f_kd)), (wd, .inl (c_wd, 4, .inl f_wd))] [(c_kd, .int), (c_wd, .int)] sz) (QcP (fun rz => zI rz = kStM (f_kd f.toNat) (f_wd f.toNat))) 0 0 (fun _ => False) := by
  refine Met.ofW (cc := cX9_stepOf) (maxL := 2) (ret := (some .int)) (by decide) rfl ?_
  intro p e s m args below meth c s₁ B hml hv
  obtain ⟨rfl, hsz, hP, hK, hD0, hN⟩ := hv
  have hx := B.exec
  have hb := B.bytes
  have hr := B.returns
  have hts := atoms_spec (ws := wsX9_stepOf) B.pre
  have hown : s.vm.findClass RX9 = some m.cls := findClass_of_methodNamed B.named
  have hlocks := B.notSynchronized
  subst hsz
  have hD := hD0
  have hP : va_P D vwCl [(h0, .inr (9, [.int (zI fa), .int (zI tc), .ref so, .ref sl, .ref ce, .int (zI fn), .ref kd, .ref wd, .ref hs, .ref pf, .ref lt, .int (zI mn), .ref wg, .int (zI ta), .long ck, .int (zI at9), .int (zI rfn), .ref rk, .ref rw, .ref rh, .int (zI cl), .ref sa, .ref fi, .int (zI bo), .ref ch, .ref cn, .int (zI ad), .int (zI ru), .ref kp, .int (zI dn), .ref rfa])), (kd, .inl (c_kd, 4, .inl f_kd)), (wd, .inl (c_wd, 4, .inl f_wd))] s.heap := hP
  have hl := lv_entry ([.ref h0, .int (zI f)]) (n := 2) (Nat.le_of_ble_eq_true rfl)
  rw [lg_entry_eq]
  generalize (lg_sl ([.ref h0, .int (zI f)]) ++ List.replicate (2 - (lg_sl ([.ref h0, .int (zI f)])).length) Slot.unset).toArray = ls at hl ⊢
  have hl : lv_has ls 2 [(0, .ref h0), (1, .int (zI f))] := hl
  refine lv_aload_n hx hb dX9_stepOf_0 rfl (lv_at hl 0 rfl) ?_
  refine va_get (D := D) (ci := 9) (v := .ref kd) (C := RX9) (T := TX9) (N := 31) hx hb hts (fun _ h9 => List.mem_cons_of_mem _ (List.mem_append_right _ h9)) hown hK hP 0 rfl rfl 6 (by decide) (hts (.fieldLink RX9 19 "FontRunsModel" "kind" "[I") mw_X9_stepOf_w_0) (fun _ h9 => h9) rfl dX9_stepOf_1 ?_
  refine lv_iload_n hx hb dX9_stepOf_4 rfl (lv_at hl 1 rfl) ?_
  refine kz_iald hx hb hK hP 1 0 rfl rfl (by omega) dX9_stepOf_5 (fun z_1 rz_1 ez_1 => ?_)
  refine kz_if_ne (tgt := 18) hx hb dX9_stepOf_6 (by decide) (by omega) (fun c_2 => ?_) (fun c_2 => ?_)
  · refine lv_aload_n hx hb dX9_stepOf_18 rfl (lv_at hl 0 rfl) ?_
    refine va_get (D := D) (ci := 9) (v := .ref kd) (C := RX9) (T := TX9) (N := 31) hx hb hts (fun _ h9 => List.mem_cons_of_mem _ (List.mem_append_right _ h9)) hown hK hP 0 rfl rfl 6 (by decide) (hts (.fieldLink RX9 19 "FontRunsModel" "kind" "[I") mw_X9_stepOf_w_0) (fun _ h9 => h9) rfl dX9_stepOf_19 ?_
    refine lv_iload_n hx hb dX9_stepOf_22 rfl (lv_at hl 1 rfl) ?_
    refine kz_iald hx hb hK hP 1 0 rfl rfl (by omega) dX9_stepOf_23 (fun z_3 rz_3 ez_3 => ?_)
    have q9 : z_1 = z_3 := (zI_eq rz_1 rz_3).mp (ez_1.symm.trans ez_3)
    subst q9
    refine lv_iconst (v := zI 1) hx hb dX9_stepOf_24 rfl ?_
    refine kz_icmp_ne (tgt := 39) hx hb dX9_stepOf_25 (by decide) (by omega) (by omega) (fun c_4 => ?_) (fun c_4 => ?_)
    · refine lv_iconst (v := zI 2) hx hb dX9_stepOf_39 rfl ?_
      refine lv_aload_n hx hb dX9_stepOf_40 rfl (lv_at hl 0 rfl) ?_
      refine va_get (D := D) (ci := 9) (v := .ref wd) (C := RX9) (T := TX9) (N := 31) hx hb hts (fun _ h9 => List.mem_cons_of_mem _ (List.mem_append_right _ h9)) hown hK hP 0 rfl rfl 7 (by decide) (hts (.fieldLink RX9 22 "FontRunsModel" "width" "[I") mw_X9_stepOf_w_1) (fun _ h9 => h9) rfl dX9_stepOf_41 ?_
      refine lv_iload_n hx hb dX9_stepOf_44 rfl (lv_at hl 1 rfl) ?_
      refine kz_iald hx hb hK hP 2 1 rfl rfl (by omega) dX9_stepOf_45 (fun z_5 rz_5 ez_5 => ?_)
      refine kz_imul hx hb dX9_stepOf_46 ?_
      refine kz_any (fun z_6 rz_6 ez_6 => ?_)
      exact W.iret (v := (zI z_6)) hx hb hr (fun t ht hW => QcP_of (by omega) (by rw [ez_1, ez_5]; first | exact kStM_0 (by omega) ez_6 | exact kStM_1 (by omega) ez_6 | exact kStM_2 (by omega) (by omega) ez_6) ht) (fun _ h9 => by cases h9) dX9_stepOf_47
    · refine lv_aload_n hx hb dX9_stepOf_28 rfl (lv_at hl 0 rfl) ?_
      refine va_get (D := D) (ci := 9) (v := .ref wd) (C := RX9) (T := TX9) (N := 31) hx hb hts (fun _ h9 => List.mem_cons_of_mem _ (List.mem_append_right _ h9)) hown hK hP 0 rfl rfl 7 (by decide) (hts (.fieldLink RX9 22 "FontRunsModel" "width" "[I") mw_X9_stepOf_w_1) (fun _ h9 => h9) rfl dX9_stepOf_29 ?_
      refine lv_iload_n hx hb dX9_stepOf_32 rfl (lv_at hl 1 rfl) ?_
      refine kz_iald hx hb hK hP 2 1 rfl rfl (by omega) dX9_stepOf_33 (fun z_7 rz_7 ez_7 => ?_)
      refine lv_iconst (v := zI 1) hx hb dX9_stepOf_34 rfl ?_
      refine kz_iadd hx hb dX9_stepOf_35 ?_
      refine lv_goto (tgt := 47) hx hb dX9_stepOf_36 (by decide) ?_
      refine kz_any (fun z_8 rz_8 ez_8 => ?_)
      exact W.iret (v := (zI z_8)) hx hb hr (fun t ht hW => QcP_of (by omega) (by rw [ez_1, ez_7]; first | exact kStM_0 (by omega) ez_8 | exact kStM_1 (by omega) ez_8 | exact kStM_2 (by omega) (by omega) ez_8) ht) (fun _ h9 => by cases h9) dX9_stepOf_47
  · refine lv_aload_n hx hb dX9_stepOf_9 rfl (lv_at hl 0 rfl) ?_
    refine va_get (D := D) (ci := 9) (v := .ref wd) (C := RX9) (T := TX9) (N := 31) hx hb hts (fun _ h9 => List.mem_cons_of_mem _ (List.mem_append_right _ h9)) hown hK hP 0 rfl rfl 7 (by decide) (hts (.fieldLink RX9 22 "FontRunsModel" "width" "[I") mw_X9_stepOf_w_1) (fun _ h9 => h9) rfl dX9_stepOf_10 ?_
    refine lv_iload_n hx hb dX9_stepOf_13 rfl (lv_at hl 1 rfl) ?_
    refine kz_iald hx hb hK hP 2 1 rfl rfl (by omega) dX9_stepOf_14 (fun z_9 rz_9 ez_9 => ?_)
    refine lv_goto (tgt := 47) hx hb dX9_stepOf_15 (by decide) ?_
    refine kz_any (fun z_10 rz_10 ez_10 => ?_)
    exact W.iret (v := (zI z_10)) hx hb hr (fun t ht hW => QcP_of (by omega) (by rw [ez_1, ez_9]; first | exact kStM_0 (by omega) ez_10 | exact kStM_1 (by omega) ez_10 | exact kStM_2 (by omega) (by omega) ez_10) ht) (fun _ h9 => by cases h9) dX9_stepOf_47
set_option maxRecDepth 20000 in
theorem mw_X9_placeOf_w_0 : (.fieldLink RX9 28 "FontRunsModel" "preference" "[I" : Cond) ∈ wsX9_placeOf := List.mem_cons_of_mem _ (List.mem_append_left _ (List.mem_of_getElem? (i := 0) rfl))
set_option maxHeartbeats 4000000 in
set_option maxRecDepth 100000 in
theorem c_X9_placeOf_w (l : Launch) (D : va_G) (sz : Nat) (f : Int) (h0 : Nat) (fa : Int) (tc : Int) (so : Nat) (sl : Nat) (ce : Nat) (fn : Int) (kd : Nat) (wd : Nat) (hs : Nat) (pf : Nat) (lt : Nat) (mn : Int) (wg : Nat) (ta : Int) (ck : Int64) (at9 : Int) (rfn : Int) (rk : Nat) (rw : Nat) (rh : Nat) (cl : Int) (sa : Nat) (fi : Nat) (bo : Int) (ch : Nat) (cn : Nat) (ad : Int) (ru : Int) (kp : Nat) (dn : Int) (rfa : Nat) (c_pf : ClassId) (f_pf : Nat → Int32) (q0 : 0 ≤ f ∧ f < fn) (q1 : 0 ≤ fn ∧ fn ≤ 4) (q2 : kPm f_pf fn) : Met l yX9_placeOf wsX9_placeOf ({ frames := 0, cells := 0, slots := 0, locals := 0 }) (kPre [.ref h0, .int (zI f)] D [(h0, .inr (9, [.int (zI fa), .int (zI tc), .ref so, .ref sl, .ref ce, .int (zI fn), .ref kd, .ref wd, .ref hs, .ref pf, .ref lt, .int (zI mn), .ref wg, .int (zI ta), .long ck, .int (zI at9), .int (zI rfn), .ref rk, .ref rw, .ref rh, .int (zI cl), .ref sa, .ref fi, .int (zI bo), .ref ch, .ref cn, .int (zI ad), .int (zI ru), .ref kp, .int (zI dn), .ref rfa])), (pf, .inl (c_pf, 4, .inl f_pf))] [(c_pf, .int)] sz) (QcP (fun rz => (0 ≤ rz ∧ rz < fn) ∧ f_pf rz.toNat = zI f ∧ kNo f_pf f rz)) 0 0 (fun _ => False) := by
  refine Met.ofW (cc := cX9_placeOf) (maxL := 3) (ret := (some .int)) (by decide) rfl ?_
  intro p e s m args below meth c s₁ B hml hv
  obtain ⟨rfl, hsz, hP, hK, hD0, hN⟩ := hv
  have hx := B.exec
  have hb := B.bytes
  have hr := B.returns
  have hts := atoms_spec (ws := wsX9_placeOf) B.pre
  have hown : s.vm.findClass RX9 = some m.cls := findClass_of_methodNamed B.named
  have hlocks := B.notSynchronized
  subst hsz
  have hD := hD0
  have hP : va_P D vwCl [(h0, .inr (9, [.int (zI fa), .int (zI tc), .ref so, .ref sl, .ref ce, .int (zI fn), .ref kd, .ref wd, .ref hs, .ref pf, .ref lt, .int (zI mn), .ref wg, .int (zI ta), .long ck, .int (zI at9), .int (zI rfn), .ref rk, .ref rw, .ref rh, .int (zI cl), .ref sa, .ref fi, .int (zI bo), .ref ch, .ref cn, .int (zI ad), .int (zI ru), .ref kp, .int (zI dn), .ref rfa])), (pf, .inl (c_pf, 4, .inl f_pf))] s.heap := hP
  have hl := lv_entry ([.ref h0, .int (zI f)]) (n := 3) (Nat.le_of_ble_eq_true rfl)
  rw [lg_entry_eq]
  generalize (lg_sl ([.ref h0, .int (zI f)]) ++ List.replicate (3 - (lg_sl ([.ref h0, .int (zI f)])).length) Slot.unset).toArray = ls at hl ⊢
  have hl : lv_has ls 3 [(0, .ref h0), (1, .int (zI f))] := hl
  refine lv_iconst (v := zI 0) hx hb dX9_placeOf_0 rfl ?_
  refine lv_istore_n (lv' := [(2, .int (zI 0)), (0, .ref h0), (1, .int (zI f))]) hx hb dX9_placeOf_1 rfl hl (by decide) rfl (fun ls hl => ?_)
  refine k_loopM (I := fun n9 H locs ls => ∃ (jk : Int), n9 = (fn - jk).toNat ∧ (kHas f_pf fn f jk) ∧ (kNo f_pf f jk) ∧ H = s.heap ∧ locs = [] ∧ lv_has ls 3 [(2, .int (zI jk)), (0, .ref h0), (1, .int (zI f))]) ?_ _ ⟨0, rfl, (kHas_0 q2 (by omega) (by omega)), kNo_0, rfl, rfl, hl⟩
  intro n2 ih2 H locs ls hI
  obtain ⟨jk, en2, v_20, v_21, eH, eL, hl⟩ := hI
  subst eH
  subst eL
  have b2 := kHas_lt v_20
  refine lv_aload_n hx hb dX9_placeOf_2 rfl (lv_at hl 1 rfl) ?_
  refine va_get (D := D) (ci := 9) (v := .ref pf) (C := RX9) (T := TX9) (N := 31) hx hb hts (fun _ h9 => List.mem_cons_of_mem _ (List.mem_append_right _ h9)) hown hK hP 0 rfl rfl 9 (by decide) (hts (.fieldLink RX9 28 "FontRunsModel" "preference" "[I") mw_X9_placeOf_w_0) (fun _ h9 => h9) rfl dX9_placeOf_3 ?_
  refine lv_iload_n hx hb dX9_placeOf_6 rfl (lv_at hl 0 rfl) ?_
  refine kz_iald hx hb hK hP 1 0 rfl rfl (by omega) dX9_placeOf_7 (fun z_1 rz_1 ez_1 => ?_)
  refine lv_iload_n hx hb dX9_placeOf_8 rfl (lv_at hl 2 rfl) ?_
  refine kz_icmp_eq (tgt := 18) hx hb dX9_placeOf_9 (by decide) (by omega) (by omega) (fun c_2 => ?_) (fun c_2 => ?_)
  · refine lv_iload_n hx hb dX9_placeOf_18 rfl (lv_at hl 0 rfl) ?_
    exact W.iret (v := (zI jk)) hx hb hr (fun t ht hW => QcP_of (by omega) ⟨by omega, by rw [ez_1, c_2], v_21⟩ ht) (fun _ h9 => by cases h9) dX9_placeOf_19
  · refine lv_iinc (v := (zI (jk + 1))) (lv' := [(2, .int (zI (jk + 1))), (0, .ref h0), (1, .int (zI f))]) hx hb dX9_placeOf_12 hl (k := 0) rfl (kz_inc _ 1) (by decide) rfl (fun ls hl => ?_)
    refine lv_goto (tgt := 2) hx hb dX9_placeOf_15 (by decide) ?_
    exact ih2 _ (by omega) _ _ _ ⟨(jk + 1), rfl, (kHas_1 v_20 rz_1 (by omega) ez_1 c_2), (kNo_s v_21 (by omega) rz_1 (by omega) ez_1 (by omega)), rfl, rfl, lv_sub hl [0, 1, 2] rfl⟩
set_option maxRecDepth 20000 in
theorem mw_X9_comesFirst_w_0 : (.fieldLink RX9 28 "FontRunsModel" "preference" "[I" : Cond) ∈ wsX9_comesFirst := List.mem_cons_of_mem _ (List.mem_append_left _ (List.mem_of_getElem? (i := 0) rfl))
theorem ax_X9_comesFirst_w_0 {e0 e1 : Nat × va_E} : ([0, 1] : List Nat).map (fun i => ([e0, e1] : va_W)[i]?) = ([e0, e1] : va_W).map some := rfl
set_option maxHeartbeats 4000000 in
set_option maxRecDepth 100000 in
theorem c_X9_comesFirst_w (l : Launch) (D : va_G) (sz : Nat) (f : Int) (h0 : Nat) (fa : Int) (tc : Int) (so : Nat) (sl : Nat) (ce : Nat) (fn : Int) (kd : Nat) (wd : Nat) (hs : Nat) (pf : Nat) (lt : Nat) (mn : Int) (wg : Nat) (ta : Int) (ck : Int64) (at9 : Int) (rfn : Int) (rk : Nat) (rw : Nat) (rh : Nat) (cl : Int) (sa : Nat) (fi : Nat) (bo : Int) (ch : Nat) (cn : Nat) (ad : Int) (ru : Int) (kp : Nat) (dn : Int) (rfa : Nat) (c_pf : ClassId) (f_pf : Nat → Int32) (q0 : 0 ≤ f ∧ f < fn) (q1 : 0 ≤ fn ∧ fn ≤ 4) (q2 : kPm f_pf fn) : Met l yX9_comesFirst wsX9_comesFirst ({ frames := 1, cells := 0, slots := 0, locals := 22 }) (kPre [.ref h0, .int (zI f)] D [(h0, .inr (9, [.int (zI fa), .int (zI tc), .ref so, .ref sl, .ref ce, .int (zI fn), .ref kd, .ref wd, .ref hs, .ref pf, .ref lt, .int (zI mn), .ref wg, .int (zI ta), .long ck, .int (zI at9), .int (zI rfn), .ref rk, .ref rw, .ref rh, .int (zI cl), .ref sa, .ref fi, .int (zI bo), .ref ch, .ref cn, .int (zI ad), .int (zI ru), .ref kp, .int (zI dn), .ref rfa])), (pf, .inl (c_pf, 4, .inl f_pf))] [(c_pf, .int)] sz) (kQS (fun rz t => ∃ (u_f_pf : Nat → Int32), (kPm u_f_pf fn) ∧ ((0 ≤ rz ∧ rz < fn) ∧ f_pf rz.toNat = zI f ∧ kNo f_pf f rz) ∧ (u_f_pf = upd (kMv f_pf rz 0) 0 (zI f)) ∧ va_P D vwCl [(h0, .inr (9, [.int (zI fa), .int (zI tc), .ref so, .ref sl, .ref ce, .int (zI fn), .ref kd, .ref wd, .ref hs, .ref pf, .ref lt, .int (zI mn), .ref wg, .int (zI ta), .long ck, .int (zI at9), .int (zI rfn), .ref rk, .ref rw, .ref rh, .int (zI cl), .ref sa, .ref fi, .int (zI bo), .ref ch, .ref cn, .int (zI ad), .int (zI ru), .ref kp, .int (zI dn), .ref rfa])), (pf, .inl (c_pf, 4, .inl u_f_pf))] t.heap ∧ va_D (va_A [(h0, .inr (9, [.int (zI fa), .int (zI tc), .ref so, .ref sl, .ref ce, .int (zI fn), .ref kd, .ref wd, .ref hs, .ref pf, .ref lt, .int (zI mn), .ref wg, .int (zI ta), .long ck, .int (zI at9), .int (zI rfn), .ref rk, .ref rw, .ref rh, .int (zI cl), .ref sa, .ref fi, .int (zI bo), .ref ch, .ref cn, .int (zI ad), .int (zI ru), .ref kp, .int (zI dn), .ref rfa])), (pf, .inl (c_pf, 4, .inl f_pf))] sz) [(h0, .inr (9, [.int (zI fa), .int (zI tc), .ref so, .ref sl, .ref ce, .int (zI fn), .ref kd, .ref wd, .ref hs, .ref pf, .ref lt, .int (zI mn), .ref wg, .int (zI ta), .long ck, .int (zI at9), .int (zI rfn), .ref rk, .ref rw, .ref rh, .int (zI cl), .ref sa, .ref fi, .int (zI bo), .ref ch, .ref cn, .int (zI ad), .int (zI ru), .ref kp, .int (zI dn), .ref rfa])), (pf, .inl (c_pf, 4, .inl u_f_pf))]) (va_A [(h0, .inr (9, [.int (zI fa), .int (zI tc), .ref so, .ref sl, .ref ce, .int (zI fn), .ref kd, .ref wd, .ref hs, .ref pf, .ref lt, .int (zI mn), .ref wg, .int (zI ta), .long ck, .int (zI at9), .int (zI rfn), .ref rk, .ref rw, .ref rh, .int (zI cl), .ref sa, .ref fi, .int (zI bo), .ref ch, .ref cn, .int (zI ad), .int (zI ru), .ref kp, .int (zI dn), .ref rfa])), (pf, .inl (c_pf, 4, .inl f_pf))] sz)) 0 0 (va_A [(h0, .inr (9, [.int (zI fa), .int (zI tc), .ref so, .ref sl, .ref ce, .int (zI fn), .ref kd, .ref wd, .ref hs, .ref pf, .ref lt, .int (zI mn), .ref wg, .int (zI ta), .long ck, .int (zI at9), .int (zI rfn), .ref rk, .ref rw, .ref rh, .int (zI cl), .ref sa, .ref fi, .int (zI bo), .ref ch, .ref cn, .int (zI ad), .int (zI ru), .ref kp, .int (zI dn), .ref rfa])), (pf, .inl (c_pf, 4, .inl f_pf))] sz) := by
  refine Met.ofW (cc := cX9_comesFirst) (maxL := 4) (ret := (some .int)) (by decide) rfl ?_
  intro p e s m args below meth c s₁ B hml hv
  obtain ⟨rfl, hsz, hP, hK, hD0, hN⟩ := hv
  have hx := B.exec
  have hb := B.bytes
  have hr := B.returns
  have hts := atoms_spec (ws := wsX9_comesFirst) B.pre
  have hown : s.vm.findClass RX9 = some m.cls := findClass_of_methodNamed B.named
  have hlocks := B.notSynchronized
  subst hsz
  have hD := hD0.self (sz := s.heap.size)
  generalize hAe : va_A [(h0, .inr (9, [.int (zI fa), .int (zI tc), .ref so, .ref sl, .ref ce, .int (zI fn), .ref kd, .ref wd, .ref hs, .ref pf, .ref lt, .int (zI mn), .ref wg, .int (zI ta), .long ck, .int (zI at9), .int (zI rfn), .ref rk, .ref rw, .ref rh, .int (zI cl), .ref sa, .ref fi, .int (zI bo), .ref ch, .ref cn, .int (zI ad), .int (zI ru), .ref kp, .int (zI dn), .ref rfa])), (pf, .inl (c_pf, 4, .inl f_pf))] s.heap.size = A at hD ⊢
  have hA : ∀ q : Nat, s.heap.size ≤ q → A q := fun q h => by rw [← hAe]; exact Or.inr h
  have hS : va_S A s.heap s.heap [] := va_S.rf
  have hP : va_P D vwCl [(h0, .inr (9, [.int (zI fa), .int (zI tc), .ref so, .ref sl, .ref ce, .int (zI fn), .ref kd, .ref wd, .ref hs, .ref pf, .ref lt, .int (zI mn), .ref wg, .int (zI ta), .long ck, .int (zI at9), .int (zI rfn), .ref rk, .ref rw, .ref rh, .int (zI cl), .ref sa, .ref fi, .int (zI bo), .ref ch, .ref cn, .int (zI ad), .int (zI ru), .ref kp, .int (zI dn), .ref rfa])), (pf, .inl (c_pf, 4, .inl f_pf))] s.heap := hP
  have hl := lv_entry ([.ref h0, .int (zI f)]) (n := 4) (Nat.le_of_ble_eq_true rfl)
  rw [lg_entry_eq]
  generalize (lg_sl ([.ref h0, .int (zI f)]) ++ List.replicate (4 - (lg_sl ([.ref h0, .int (zI f)])).length) Slot.unset).toArray = ls at hl ⊢
  have hl : lv_has ls 4 [(0, .ref h0), (1, .int (zI f))] := hl
  refine lv_aload_n hx hb dX9_comesFirst_0 rfl (lv_at hl 0 rfl) ?_
  refine lv_iload_n hx hb dX9_comesFirst_1 rfl (lv_at hl 1 rfl) ?_
  refine k_callP (va_runV (As := [.int (zI f)]) (rest := []) ⟨hx, hb, hml, hown, hts⟩ (c_X9_placeOf_w l D s.heap.size (f := f) (h0 := h0) (fa := fa) (tc := tc) (so := so) (sl := sl) (ce := ce) (fn := fn) (kd := kd) (wd := wd) (hs := hs) (pf := pf) (lt := lt) (mn := mn) (wg := wg) (ta := ta) (ck := ck) (at9 := at9) (rfn := rfn) (rk := rk) (rw := rw) (rh := rh) (cl := cl) (sa := sa) (fi := fi) (bo := bo) (ch := ch) (cn := cn) (ad := ad) (ru := ru) (kp := kp) (dn := dn) (rfa := rfa) (c_pf := c_pf) (f_pf := f_pf) q0 q1 q2) (cwV 1 hts gX9_comesFirst_X9_placeOf rfl rfl rfl (by decide +kernel) ⟨Nat.le_of_ble_eq_true rfl, Nat.le_of_ble_eq_true rfl⟩) (kPreV hP (kD0 hD) hK hN [0, 1] [0] ax_X9_comesFirst_w_0 rfl (by decide +kernel) 0 9 rfl rfl) rfl rfl hl.1 rfl (lv_room (Nat.le_of_ble_eq_true rfl)) dX9_comesFirst_2 ⟨Nat.le_of_ble_eq_true rfl, Nat.le_of_ble_eq_true rfl⟩) (fun z_1 rz_1 h_2 => ?_)
  refine lv_istore_n (lv' := [(2, .int (zI z_1)), (0, .ref h0), (1, .int (zI f))]) hx hb dX9_comesFirst_5 rfl hl (by decide) rfl (fun ls hl => ?_)
  refine lv_iload_n hx hb dX9_comesFirst_6 rfl (lv_at hl 0 rfl) ?_
  refine lv_istore_n (lv' := [(3, .int (zI z_1)), (2, .int (zI z_1)), (0, .ref h0), (1, .int (zI f))]) hx hb dX9_comesFirst_7 rfl hl (by decide) rfl (fun ls hl => ?_)
  refine k_loopM (I := fun n9 H locs ls => ∃ (jk : Int) (ja : Nat → Int32), n9 = (jk).toNat ∧ (0 ≤ jk ∧ jk ≤ z_1) ∧ (ja = kMv f_pf z_1 jk) ∧ va_P D vwCl [(h0, .inr (9, [.int (zI fa), .int (zI tc), .ref so, .ref sl, .ref ce, .int (zI fn), .ref kd, .ref wd, .ref hs, .ref pf, .ref lt, .int (zI mn), .ref wg, .int (zI ta), .long ck, .int (zI at9), .int (zI rfn), .ref rk, .ref rw, .ref rh, .int (zI cl), .ref sa, .ref fi, .int (zI bo), .ref ch, .ref cn, .int (zI ad), .int (zI ru), .ref kp, .int (zI dn), .ref rfa])), (pf, .inl (c_pf, 4, .inl ja))] H ∧ va_D A [(h0, .inr (9, [.int (zI fa), .int (zI tc), .ref so, .ref sl, .ref ce, .int (zI fn), .ref kd, .ref wd, .ref hs, .ref pf, .ref lt, .int (zI mn), .ref wg, .int (zI ta), .long ck, .int (zI at9), .int (zI rfn), .ref rk, .ref rw, .ref rh, .int (zI cl), .ref sa, .ref fi, .int (zI bo), .ref ch, .ref cn, .int (zI ad), .int (zI ru), .ref kp, .int (zI dn), .ref rfa])), (pf, .inl (c_pf, 4, .inl ja))] ∧ va_S A s.heap H locs ∧ lv_has ls 4 [(3, .int (zI jk)), (2, .int (zI z_1)), (0, .ref h0), (1, .int (zI f))]) ?_ _ ⟨z_1, f_pf, rfl, (by omega), (kMv_0 _ _).symm, hP, hD, hS, hl⟩
  intro n8 ih8 H locs ls hI
  obtain ⟨jk, ja, en8, v_80, v_81, hP, hD, hS, hl⟩ := hI
  refine lv_iload_n hx hb dX9_comesFirst_8 rfl (lv_at hl 0 rfl) ?_
  refine kz_if_le (tgt := 32) hx hb dX9_comesFirst_9 (by decide) (by omega) (fun c_3 => ?_) (fun c_3 => ?_)
  · refine lv_aload_n hx hb dX9_comesFirst_32 rfl (lv_at hl 2 rfl) ?_
    refine va_get (D := D) (ci := 9) (v := .ref pf) (C := RX9) (T := TX9) (N := 31) hx hb hts (fun _ h9 => List.mem_cons_of_mem _ (List.mem_append_right _ h9)) hown hK hP 0 rfl rfl 9 (by decide) (hts (.fieldLink RX9 28 "FontRunsModel" "preference" "[I") mw_X9_comesFirst_w_0) (fun _ h9 => h9) rfl dX9_comesFirst_33 ?_
    refine lv_iconst (v := zI 0) hx hb dX9_comesFirst_36 rfl ?_
    refine lv_iload_n hx hb dX9_comesFirst_37 rfl (lv_at hl 3 rfl) ?_
    refine kz_iast hx hb hK hP hD hS 1 0 rfl rfl (by omega) dX9_comesFirst_38 (fun H locs hP hD hS => ?_)
    have hP : va_P D vwCl [(h0, .inr (9, [.int (zI fa), .int (zI tc), .ref so, .ref sl, .ref ce, .int (zI fn), .ref kd, .ref wd, .ref hs, .ref pf, .ref lt, .int (zI mn), .ref wg, .int (zI ta), .long ck, .int (zI at9), .int (zI rfn), .ref rk, .ref rw, .ref rh, .int (zI cl), .ref sa, .ref fi, .int (zI bo), .ref ch, .ref cn, .int (zI ad), .int (zI ru), .ref kp, .int (zI dn), .ref rfa])), (pf, .inl (c_pf, 4, .inl (upd ja (0 : Int).toNat (zI f))))] H := hP
    have hD : va_D A [(h0, .inr (9, [.int (zI fa), .int (zI tc), .ref so, .ref sl, .ref ce, .int (zI fn), .ref kd, .ref wd, .ref hs, .ref pf, .ref lt, .int (zI mn), .ref wg, .int (zI ta), .long ck, .int (zI at9), .int (zI rfn), .ref rk, .ref rw, .ref rh, .int (zI cl), .ref sa, .ref fi, .int (zI bo), .ref ch, .ref cn, .int (zI ad), .int (zI ru), .ref kp, .int (zI dn), .ref rfa])), (pf, .inl (c_pf, 4, .inl (upd ja (0 : Int).toNat (zI f))))] := hD
    generalize ef_4 : upd ja (0 : Int).toNat (zI f) = f_4 at hP hD
    refine lv_iload_n hx hb dX9_comesFirst_39 rfl (lv_at hl 1 rfl) ?_
    have hP9 := hP.sub (ws' := [(h0, .inr (9, [.int (zI fa), .int (zI tc), .ref so, .ref sl, .ref ce, .int (zI fn), .ref kd, .ref wd, .ref hs, .ref pf, .ref lt, .int (zI mn), .ref wg, .int (zI ta), .long ck, .int (zI at9), .int (zI rfn), .ref rk, .ref rw, .ref rh, .int (zI cl), .ref sa, .ref fi, .int (zI bo), .ref ch, .ref cn, .int (zI ad), .int (zI ru), .ref kp, .int (zI dn), .ref rfa])), (pf, .inl (c_pf, 4, .inl f_4))]) [0, 1] rfl
    have hD9 := hD.sub (ws' := [(h0, .inr (9, [.int (zI fa), .int (zI tc), .ref so, .ref sl, .ref ce, .int (zI fn), .ref kd, .ref wd, .ref hs, .ref pf, .ref lt, .int (zI mn), .ref wg, .int (zI ta), .long ck, .int (zI at9), .int (zI rfn), .ref rk, .ref rw, .ref rh, .int (zI cl), .ref sa, .ref fi, .int (zI bo), .ref ch, .ref cn, .int (zI ad), .int (zI ru), .ref kp, .int (zI dn), .ref rfa])), (pf, .inl (c_pf, 4, .inl f_4))]) [0, 1] (by decide +kernel) rfl
    exact W.iret (v := (zI z_1)) hx hb hr (fun t ht hW => kQS_of (by omega) ⟨f_4, (by rw [← ef_4, v_81, show jk = 0 by omega]; exact kPm_mv q2 (by omega) (by omega) (by omega) h_2.2.1), h_2, (kMvE ef_4 v_81 (by omega)), by rw [ht]; exact hP9, hD9⟩ (hS.F ht)) hS.2.2 dX9_comesFirst_40
  · refine lv_aload_n hx hb dX9_comesFirst_12 rfl (lv_at hl 2 rfl) ?_
    refine va_get (D := D) (ci := 9) (v := .ref pf) (C := RX9) (T := TX9) (N := 31) hx hb hts (fun _ h9 => List.mem_cons_of_mem _ (List.mem_append_right _ h9)) hown hK hP 0 rfl rfl 9 (by decide) (hts (.fieldLink RX9 28 "FontRunsModel" "preference" "[I") mw_X9_comesFirst_w_0) (fun _ h9 => h9) rfl dX9_comesFirst_13 ?_
    refine lv_iload_n hx hb dX9_comesFirst_16 rfl (lv_at hl 0 rfl) ?_
    refine lv_aload_n hx hb dX9_comesFirst_17 rfl (lv_at hl 2 rfl) ?_
    refine va_get (D := D) (ci := 9) (v := .ref pf) (C := RX9) (T := TX9) (N := 31) hx hb hts (fun _ h9 => List.mem_cons_of_mem _ (List.mem_append_right _ h9)) hown hK hP 0 rfl rfl 9 (by decide) (hts (.fieldLink RX9 28 "FontRunsModel" "preference" "[I") mw_X9_comesFirst_w_0) (fun _ h9 => h9) rfl dX9_comesFirst_18 ?_
    refine lv_iload_n hx hb dX9_comesFirst_21 rfl (lv_at hl 0 rfl) ?_
    refine lv_iconst (v := zI 1) hx hb dX9_comesFirst_22 rfl ?_
    refine kz_isub hx hb dX9_comesFirst_23 ?_
    refine kz_iald hx hb hK hP 1 0 rfl rfl (by omega) dX9_comesFirst_24 (fun z_5 rz_5 ez_5 => ?_)
    refine kz_iast hx hb hK hP hD hS 1 0 rfl rfl (by omega) dX9_comesFirst_25 (fun H locs hP hD hS => ?_)
    have hP : va_P D vwCl [(h0, .inr (9, [.int (zI fa), .int (zI tc), .ref so, .ref sl, .ref ce, .int (zI fn), .ref kd, .ref wd, .ref hs, .ref pf, .ref lt, .int (zI mn), .ref wg, .int (zI ta), .long ck, .int (zI at9), .int (zI rfn), .ref rk, .ref rw, .ref rh, .int (zI cl), .ref sa, .ref fi, .int (zI bo), .ref ch, .ref cn, .int (zI ad), .int (zI ru), .ref kp, .int (zI dn), .ref rfa])), (pf, .inl (c_pf, 4, .inl (upd ja (jk).toNat (zI z_5))))] H := hP
    have hD : va_D A [(h0, .inr (9, [.int (zI fa), .int (zI tc), .ref so, .ref sl, .ref ce, .int (zI fn), .ref kd, .ref wd, .ref hs, .ref pf, .ref lt, .int (zI mn), .ref wg, .int (zI ta), .long ck, .int (zI at9), .int (zI rfn), .ref rk, .ref rw, .ref rh, .int (zI cl), .ref sa, .ref fi, .int (zI bo), .ref ch, .ref cn, .int (zI ad), .int (zI ru), .ref kp, .int (zI dn), .ref rfa])), (pf, .inl (c_pf, 4, .inl (upd ja (jk).toNat (zI z_5))))] := hD
    generalize ef_6 : upd ja (jk).toNat (zI z_5) = f_6 at hP hD
    refine lv_iinc (v := (zI (jk - 1))) (lv' := [(3, .int (zI (jk - 1))), (2, .int (zI z_1)), (0, .ref h0), (1, .int (zI f))]) hx hb dX9_comesFirst_26 hl (k := 0) rfl (kz_dec _ 1) (by decide) rfl (fun ls hl => ?_)
    refine lv_goto (tgt := 8) hx hb dX9_comesFirst_29 (by decide) ?_
    exact ih8 _ (by omega) _ _ _ ⟨(jk - 1), f_6, rfl, (by omega), (by rw [← ef_6, v_81]; exact kMv_1 f_pf (by omega) (by rw [← v_81]; exact ez_5)), hP, hD, hS, lv_sub hl [0, 1, 2, 3] rfl⟩
theorem dX9_prefer_0 : decode cX9_prefer 0 = .ok (.aload_n 0, 1) := kqo_2a kbl_X9_prefer (pc := 0) rfl
theorem dX9_prefer_1 : decode cX9_prefer 1 = .ok (.iload_n 1, 1) := kqo_1b kbl_X9_prefer (pc := 1) rfl
theorem dX9_prefer_2 : decode cX9_prefer 2 = .ok (.invokevirtual 120, 3) := kqo_b6 (x1 := 0) (x2 := 120) kbl_X9_prefer (pc := 2) rfl rfl
theorem dX9_prefer_5 : decode cX9_prefer 5 = .ok (.ifCond .ne 5, 3) := kqo_9a (x1 := 0) (x2 := 5) kbl_X9_prefer (pc := 5) rfl rfl
theorem dX9_prefer_8 : decode cX9_prefer 8 = .ok (.iconst (-1), 1) := kqo_02 kbl_X9_prefer (pc := 8) rfl
theorem dX9_prefer_9 : decode cX9_prefer 9 = .ok (.ireturn, 1) := kqo_ac kbl_X9_prefer (pc := 9) rfl
theorem dX9_prefer_10 : decode cX9_prefer 10 = .ok (.iconst 4, 1) := kqo_07 kbl_X9_prefer (pc := 10) rfl
theorem dX9_prefer_11 : decode cX9_prefer 11 = .ok (.istore_n 2, 1) := kqo_3d kbl_X9_prefer (pc := 11) rfl
theorem dX9_prefer_12 : decode cX9_prefer 12 = .ok (.iload_n 2, 1) := kqo_1c kbl_X9_prefer (pc := 12) rfl
theorem dX9_prefer_13 : decode cX9_prefer 13 = .ok (.ifCond .le 23, 3) := kqo_9e (x1 := 0) (x2 := 23) kbl_X9_prefer (pc := 13) rfl rfl
theorem dX9_prefer_16 : decode cX9_prefer 16 = .ok (.aload_n 0, 1) := kqo_2a kbl_X9_prefer (pc := 16) rfl
theorem dX9_prefer_17 : decode cX9_prefer 17 = .ok (.getfield 31, 3) := kqo_b4 (x1 := 0) (x2 := 31) kbl_X9_prefer (pc := 17) rfl rfl
theorem dX9_prefer_20 : decode cX9_prefer 20 = .ok (.iload_n 2, 1) := kqo_1c kbl_X9_prefer (pc := 20) rfl
theorem dX9_prefer_21 : decode cX9_prefer 21 = .ok (.aload_n 0, 1) := kqo_2a kbl_X9_prefer (pc := 21) rfl
theorem dX9_prefer_22 : decode cX9_prefer 22 = .ok (.getfield 31, 3) := kqo_b4 (x1 := 0) (x2 := 31) kbl_X9_prefer (pc := 22) rfl rfl
theorem dX9_prefer_25 : decode cX9_prefer 25 = .ok (.iload_n 2, 1) := kqo_1c kbl_X9_prefer (pc := 25) rfl
theorem dX9_prefer_26 : decode cX9_prefer 26 = .ok (.iconst 1, 1) := kqo_04 kbl_X9_prefer (pc := 26) rfl
theorem dX9_prefer_27 : decode cX9_prefer 27 = .ok (.isub, 1) := kqo_64 kbl_X9_prefer (pc := 27) rfl
theorem dX9_prefer_28 : decode cX9_prefer 28 = .ok (.iaload, 1) := kqo_2e kbl_X9_prefer (pc := 28) rfl
theorem dX9_prefer_29 : decode cX9_prefer 29 = .ok (.iastore, 1) := kqo_4f kbl_X9_prefer (pc := 29) rfl
theorem dX9_prefer_30 : decode cX9_prefer 30 = .ok (.iinc 2 (-1), 3) := kqo_84 (x1 := 2) (x2 := 255) kbl_X9_prefer (pc := 30) rfl rfl
theorem dX9_prefer_33 : decode cX9_prefer 33 = .ok (.goto (-21), 3) := kqo_a7 (x1 := 255) (x2 := 235) kbl_X9_prefer (pc := 33) rfl rfl
theorem dX9_prefer_36 : decode cX9_prefer 36 = .ok (.aload_n 0, 1) := kqo_2a kbl_X9_prefer (pc := 36) rfl
theorem dX9_prefer_37 : decode cX9_prefer 37 = .ok (.getfield 31, 3) := kqo_b4 (x1 := 0) (x2 := 31) kbl_X9_prefer (pc := 37) rfl rfl
theorem dX9_prefer_40 : decode cX9_prefer 40 = .ok (.iconst 0, 1) := kqo_03 kbl_X9_prefer (pc := 40) rfl
theorem dX9_prefer_41 : decode cX9_prefer 41 = .ok (.iload_n 1, 1) := kqo_1b kbl_X9_prefer (pc := 41) rfl
theorem dX9_prefer_42 : decode cX9_prefer 42 = .ok (.iastore, 1) := kqo_4f kbl_X9_prefer (pc := 42) rfl
theorem dX9_prefer_43 : decode cX9_prefer 43 = .ok (.aload_n 0, 1) := kqo_2a kbl_X9_prefer (pc := 43) rfl
theorem dX9_prefer_44 : decode cX9_prefer 44 = .ok (.iload_n 1, 1) := kqo_1b kbl_X9_prefer (pc := 44) rfl
theorem dX9_prefer_45 : decode cX9_prefer 45 = .ok (.invokevirtual 174, 3) := kqo_b6 (x1 := 0) (x2 := 174) kbl_X9_prefer (pc := 45) rfl rfl
theorem dX9_prefer_48 : decode cX9_prefer 48 = .ok (.ireturn, 1) := kqo_ac kbl_X9_prefer (pc := 48) rfl
set_option maxRecDepth 20000 in
theorem ggX9_prefer_X9_comesFirst : GoodIn wsX9_prefer wsX9_comesFirst := goodIn_4 _ (List.forall_mem_cons.mpr ⟨List.mem_cons_of_mem _ (List.mem_append_left _ (List.mem_of_getElem? (i := 10) rfl)), List.forall_mem_append.mpr ⟨List.forall_mem_cons.mpr ⟨List.mem_cons_of_mem _ (List.mem_append_left _ (List.mem_of_getElem? (i := 11) rfl)), List.forall_mem_cons.mpr ⟨List.mem_cons_of_mem _ (List.mem_append_left _ (List.mem_of_getElem? (i := 12) rfl)), List.forall_mem_cons.mpr ⟨List.mem_cons_of_mem _ (List.mem_append_left _ (List.mem_of_getElem? (i := 13) rfl)), List.forall_mem_cons.mpr ⟨List.mem_cons_of_mem _ (List.mem_append_left _ (List.mem_of_getElem? (i := 14) rfl)), List.forall_mem_cons.mpr ⟨List.mem_cons_of_mem _ (List.mem_append_left _ (List.mem_of_getElem? (i := 4) rfl)), List.forall_mem_cons.mpr ⟨List.mem_cons_of_mem _ (List.mem_append_left _ (List.mem_of_getElem? (i := 15) rfl)), fun _ h9 => absurd h9 List.not_mem_nil⟩⟩⟩⟩⟩⟩, fun w h9 => List.mem_cons_of_mem _ (List.mem_append_right _ (h9))⟩⟩) (by decide +kernel)
set_option maxRecDepth 20000 in
theorem gX9_prefer_X9_comesFirst : GoodIn wsX9_prefer (wsV RX9 174 RX9 yX9_comesFirst wsX9_comesFirst) := goodIn_app (goodIn_4 _ (List.forall_mem_cons.mpr ⟨List.mem_cons_of_mem _ (List.mem_append_left _ (List.mem_of_getElem? (i := 7) rfl)), List.forall_mem_cons.mpr ⟨List.mem_cons_of_mem _ (List.mem_append_left _ (List.mem_of_getElem? (i := 8) rfl)), List.forall_mem_cons.mpr ⟨List.mem_cons_of_mem _ (List.mem_append_left _ (List.mem_of_getElem? (i := 9) rfl)), List.forall_mem_cons.mpr ⟨List.mem_cons_of_mem _ (List.mem_append_left _ (List.mem_of_getElem? (i := 4) rfl)), fun _ h9 => absurd h9 List.not_mem_nil⟩⟩⟩⟩) (by decide +kernel)) ggX9_prefer_X9_comesFirst
set_option maxRecDepth 20000 in
theorem ggX9_prefer_X9_isFont : GoodIn wsX9_prefer wsX9_isFont := goodIn_4 _ (List.forall_mem_cons.mpr ⟨List.mem_cons_of_mem _ (List.mem_append_left _ (List.mem_of_getElem? (i := 5) rfl)), List.forall_mem_append.mpr ⟨List.forall_mem_cons.mpr ⟨List.mem_cons_of_mem _ (List.mem_append_left _ (List.mem_of_getElem? (i := 6) rfl)), fun _ h9 => absurd h9 List.not_mem_nil⟩, fun w h9 => List.mem_cons_of_mem _ (List.mem_append_right _ (h9))⟩⟩) (by decide +kernel)
set_option maxRecDepth 20000 in
theorem gX9_prefer_X9_isFont : GoodIn wsX9_prefer (wsV RX9 120 RX9 yX9_isFont wsX9_isFont) := goodIn_app (goodIn_4 _ (List.forall_mem_cons.mpr ⟨List.mem_cons_of_mem _ (List.mem_append_left _ (List.mem_of_getElem? (i := 1) rfl)), List.forall_mem_cons.mpr ⟨List.mem_cons_of_mem _ (List.mem_append_left _ (List.mem_of_getElem? (i := 2) rfl)), List.forall_mem_cons.mpr ⟨List.mem_cons_of_mem _ (List.mem_append_left _ (List.mem_of_getElem? (i := 3) rfl)), List.forall_mem_cons.mpr ⟨List.mem_cons_of_mem _ (List.mem_append_left _ (List.mem_of_getElem? (i := 4) rfl)), fun _ h9 => absurd h9 List.not_mem_nil⟩⟩⟩⟩) (by decide +kernel)) ggX9_prefer_X9_isFont
set_option maxRecDepth 20000 in
theorem mw_X9_prefer_0 : (.fieldLink RX9 31 "FontRunsModel" "latest" "[I" : Cond) ∈ wsX9_prefer := List.mem_cons_of_mem _ (List.mem_append_left _ (List.mem_of_getElem? (i := 0) rfl))
theorem ax_X9_prefer_0 {e0 e1 e2 : Nat × va_E} : ([0] : List Nat).map (fun i => ([e0, e1, e2] : va_W)[i]?) = ([e0] : va_W).map some := rfl
theorem ax_X9_prefer_1 {e0 e1 e2 : Nat × va_E} : ([0, 1] : List Nat).map (fun i => ([e0, e1, e2] : va_W)[i]?) = ([e0, e1] : va_W).map some := rfl
theorem ax_X9_prefer_2 {e0 e1 e2 : Nat × va_E} : ([2] : List Nat).map (fun i => ([e0, e1, e2] : va_W)[i]?) = ([e2] : va_W).map some := rfl
theorem ax_X9_prefer_3 {D : va_G} {cl : List vw_C} {H : Heap} {e0 f0 f1 : Nat × va_E} (h : va_P D cl ((([e0] : va_W) ++ ([f0, f1] : va_W))) H) : va_P D cl (([e0, f0, f1] : va_W)) H := h
theorem ax_X9_prefer_4 {A : Nat → Prop} {e0 f0 f1 : Nat × va_E} (h : va_D A ((([e0] : va_W) ++ ([f0, f1] : va_W)))) : va_D A (([e0, f0, f1] : va_W)) := h
theorem ax_X9_prefer_5 {e0 e1 e2 : Nat × va_E} : ([1, 2, 0] : List Nat).map (fun i => ([e0, e1, e2] : va_W)[i]?) = ([e1, e2, e0] : va_W).map some := rfl
theorem ax_X9_prefer_6 {e0 e1 e2 : Nat × va_E} : ([0, 1, 2] : List Nat).map (fun i => ([e0, e1, e2] : va_W)[i]?) = ([e0, e1, e2] : va_W).map some := rfl
set_option maxHeartbeats 4000000 in
set_option maxRecDepth 100000 in
theorem c_X9_prefer (l : Launch) (D : va_G) (sz : Nat) (f : Int) (h0 : Nat) (fa : Int) (tc : Int) (so : Nat) (sl : Nat) (ce : Nat) (fn : Int) (kd : Nat) (wd : Nat) (hs : Nat) (pf : Nat) (lt : Nat) (mn : Int) (wg : Nat) (ta : Int) (ck : Int64) (at9 : Int) (rfn : Int) (rk : Nat) (rw : Nat) (rh : Nat) (cl : Int) (sa : Nat) (fi : Nat) (bo : Int) (ch : Nat) (cn : Nat) (ad : Int) (ru : Int) (kp : Nat) (dn : Int) (rfa : Nat) (c_pf : ClassId) (f_pf : Nat → Int32) (c_lt : ClassId) (f_lt : Nat → Int32) (q0 : rg f) (q1 : 0 ≤ fn ∧ fn ≤ 4) (q2 : kPm f_pf fn) : Met l yX9_prefer wsX9_prefer ({ frames := 2, cells := 0, slots := 0, locals := 45 }) (kPre [.ref h0, .int (zI f)] D [(h0, .inr (9, [.int (zI fa), .int (zI tc), .ref so, .ref sl, .ref ce, .int (zI fn), .ref kd, .ref wd, .ref hs, .ref pf, .ref lt, .int (zI mn), .ref wg, .int (zI ta), .long ck, .int (zI at9), .int (zI rfn), .ref rk, .ref rw, .ref rh, .int (zI cl), .ref sa, .ref fi, .int (zI bo), .ref ch, .ref cn, .int (zI ad), .int (zI ru), .ref kp, .int (zI dn), .ref rfa])), (pf, .inl (c_pf, 4, .inl f_pf)), (lt, .inl (c_lt, 5, .inl f_lt))] [(c_pf, .int), (c_lt, .int)] sz) (kQS (fun rz t => ∃ (u_f_pf : Nat → Int32) (u_f_lt : Nat → Int32), (kPm u_f_pf fn) ∧ (kPrM f fn f_pf u_f_pf f_lt u_f_lt rz) ∧ va_P D vwCl [(h0, .inr (9, [.int (zI fa), .int (zI tc), .ref so, .ref sl, .ref ce, .int (zI fn), .ref kd, .ref wd, .ref hs, .ref pf, .ref lt, .int (zI mn), .ref wg, .int (zI ta), .long ck, .int (zI at9), .int (zI rfn), .ref rk, .ref rw, .ref rh, .int (zI cl), .ref sa, .ref fi, .int (zI bo), .ref ch, .ref cn, .int (zI ad), .int (zI ru), .ref kp, .int (zI dn), .ref rfa])), (pf, .inl (c_pf, 4, .inl u_f_pf)), (lt, .inl (c_lt, 5, .inl u_f_lt))] t.heap ∧ va_D (va_A [(h0, .inr (9, [.int (zI fa), .int (zI tc), .ref so, .ref sl, .ref ce, .int (zI fn), .ref kd, .ref wd, .ref hs, .ref pf, .ref lt, .int (zI mn), .ref wg, .int (zI ta), .long ck, .int (zI at9), .int (zI rfn), .ref rk, .ref rw, .ref rh, .int (zI cl), .ref sa, .ref fi, .int (zI bo), .ref ch, .ref cn, .int (zI ad), .int (zI ru), .ref kp, .int (zI dn), .ref rfa])), (pf, .inl (c_pf, 4, .inl f_pf)), (lt, .inl (c_lt, 5, .inl f_lt))] sz) [(h0, .inr (9, [.int (zI fa), .int (zI tc), .ref so, .ref sl, .ref ce, .int (zI fn), .ref kd, .ref wd, .ref hs, .ref pf, .ref lt, .int (zI mn), .ref wg, .int (zI ta), .long ck, .int (zI at9), .int (zI rfn), .ref rk, .ref rw, .ref rh, .int (zI cl), .ref sa, .ref fi, .int (zI bo), .ref ch, .ref cn, .int (zI ad), .int (zI ru), .ref kp, .int (zI dn), .ref rfa])), (pf, .inl (c_pf, 4, .inl u_f_pf)), (lt, .inl (c_lt, 5, .inl u_f_lt))]) (va_A [(h0, .inr (9, [.int (zI fa), .int (zI tc), .ref so, .ref sl, .ref ce, .int (zI fn), .ref kd, .ref wd, .ref hs, .ref pf, .ref lt, .int (zI mn), .ref wg, .int (zI ta), .long ck, .int (zI at9), .int (zI rfn), .ref rk, .ref rw, .ref rh, .int (zI cl), .ref sa, .ref fi, .int (zI bo), .ref ch, .ref cn, .int (zI ad), .int (zI ru), .ref kp, .int (zI dn), .ref rfa])), (pf, .inl (c_pf, 4, .inl f_pf)), (lt, .inl (c_lt, 5, .inl f_lt))] sz)) 0 0 (va_A [(h0, .inr (9, [.int (zI fa), .int (zI tc), .ref so, .ref sl, .ref ce, .int (zI fn), .ref kd, .ref wd, .ref hs, .ref pf, .ref lt, .int (zI mn), .ref wg, .int (zI ta), .long ck, .int (zI at9), .int (zI rfn), .ref rk, .ref rw, .ref rh, .int (zI cl), .ref sa, .ref fi, .int (zI bo), .ref ch, .ref cn, .int (zI ad), .int (zI ru), .ref kp, .int (zI dn), .ref rfa])), (pf, .inl (c_pf, 4, .inl f_pf)), (lt, .inl (c_lt, 5, .inl f_lt))] sz) := by
  refine Met.ofW (cc := cX9_prefer) (maxL := 3) (ret := (some .int)) (by decide) rfl ?_
  intro p e s m args below meth c s₁ B hml hv
  obtain ⟨rfl, hsz, hP, hK, hD0, hN⟩ := hv
  have hx := B.exec
  have hb := B.bytes
  have hr := B.returns
  have hts := atoms_spec (ws := wsX9_prefer) B.pre
  have hown : s.vm.findClass RX9 = some m.cls := findClass_of_methodNamed B.named
  have hlocks := B.notSynchronized
  subst hsz
  have hD := hD0.self (sz := s.heap.size)
  generalize hAe : va_A [(h0, .inr (9, [.int (zI fa), .int (zI tc), .ref so, .ref sl, .ref ce, .int (zI fn), .ref kd, .ref wd, .ref hs, .ref pf, .ref lt, .int (zI mn), .ref wg, .int (zI ta), .long ck, .int (zI at9), .int (zI rfn), .ref rk, .ref rw, .ref rh, .int (zI cl), .ref sa, .ref fi, .int (zI bo), .ref ch, .ref cn, .int (zI ad), .int (zI ru), .ref kp, .int (zI dn), .ref rfa])), (pf, .inl (c_pf, 4, .inl f_pf)), (lt, .inl (c_lt, 5, .inl f_lt))] s.heap.size = A at hD ⊢
  have hA : ∀ q : Nat, s.heap.size ≤ q → A q := fun q h => by rw [← hAe]; exact Or.inr h
  have hS : va_S A s.heap s.heap [] := va_S.rf
  have hP : va_P D vwCl [(h0, .inr (9, [.int (zI fa), .int (zI tc), .ref so, .ref sl, .ref ce, .int (zI fn), .ref kd, .ref wd, .ref hs, .ref pf, .ref lt, .int (zI mn), .ref wg, .int (zI ta), .long ck, .int (zI at9), .int (zI rfn), .ref rk, .ref rw, .ref rh, .int (zI cl), .ref sa, .ref fi, .int (zI bo), .ref ch, .ref cn, .int (zI ad), .int (zI ru), .ref kp, .int (zI dn), .ref rfa])), (pf, .inl (c_pf, 4, .inl f_pf)), (lt, .inl (c_lt, 5, .inl f_lt))] s.heap := hP
  have hl := lv_entry ([.ref h0, .int (zI f)]) (n := 3) (Nat.le_of_ble_eq_true rfl)
  rw [lg_entry_eq]
  generalize (lg_sl ([.ref h0, .int (zI f)]) ++ List.replicate (3 - (lg_sl ([.ref h0, .int (zI f)])).length) Slot.unset).toArray = ls at hl ⊢
  have hl : lv_has ls 3 [(0, .ref h0), (1, .int (zI f))] := hl
  refine lv_aload_n hx hb dX9_prefer_0 rfl (lv_at hl 0 rfl) ?_
  refine lv_iload_n hx hb dX9_prefer_1 rfl (lv_at hl 1 rfl) ?_
  refine k_callR (va_runV (As := [.int (zI f)]) (rest := []) ⟨hx, hb, hml, hown, hts⟩ (c_X9_isFont l D s.heap.size (f := f) (h0 := h0) (fa := fa) (tc := tc) (so := so) (sl := sl) (ce := ce) (fn := fn) (kd := kd) (wd := wd) (hs := hs) (pf := pf) (lt := lt) (mn := mn) (wg := wg) (ta := ta) (ck := ck) (at9 := at9) (rfn := rfn) (rk := rk) (rw := rw) (rh := rh) (cl := cl) (sa := sa) (fi := fi) (bo := bo) (ch := ch) (cn := cn) (ad := ad) (ru := ru) (kp := kp) (dn := dn) (rfa := rfa) q0 q1) (cwV 1 hts gX9_prefer_X9_isFont rfl rfl rfl (by decide +kernel) ⟨Nat.le_of_ble_eq_true rfl, Nat.le_of_ble_eq_true rfl⟩) (kPreV hP (kD0 hD) hK hN [0] [] ax_X9_prefer_0 rfl (by decide +kernel) 0 9 rfl rfl) rfl rfl hl.1 rfl (lv_room (Nat.le_of_ble_eq_true rfl)) dX9_prefer_2 ⟨Nat.le_of_ble_eq_true rfl, Nat.le_of_ble_eq_true rfl⟩) ?_
  refine lv_if_ne (tgt := 10) hx hb dX9_prefer_5 (by decide) (fun c_1 => ?_) (fun c_1 => ?_)
  · have c_1 : 0 ≤ f ∧ f < fn := b01t c_1
    refine lv_iconst (v := zI 4) hx hb dX9_prefer_10 rfl ?_
    refine lv_istore_n (lv' := [(2, .int (zI 4)), (0, .ref h0), (1, .int (zI f))]) hx hb dX9_prefer_11 rfl hl (by decide) rfl (fun ls hl => ?_)
    refine k_loopM (I := fun n9 H locs ls => ∃ (jk : Int) (ja : Nat → Int32), n9 = (jk).toNat ∧ (0 ≤ jk ∧ jk ≤ 4) ∧ (ja = kMv f_lt 4 jk) ∧ va_P D vwCl [(h0, .inr (9, [.int (zI fa), .int (zI tc), .ref so, .ref sl, .ref ce, .int (zI fn), .ref kd, .ref wd, .ref hs, .ref pf, .ref lt, .int (zI mn), .ref wg, .int (zI ta), .long ck, .int (zI at9), .int (zI rfn), .ref rk, .ref rw, .ref rh, .int (zI cl), .ref sa, .ref fi, .int (zI bo), .ref ch, .ref cn, .int (zI ad), .int (zI ru), .ref kp, .int (zI dn), .ref rfa])), (pf, .inl (c_pf, 4, .inl f_pf)), (lt, .inl (c_lt, 5, .inl ja))] H ∧ va_D A [(h0, .inr (9, [.int (zI fa), .int (zI tc), .ref so, .ref sl, .ref ce, .int (zI fn), .ref kd, .ref wd, .ref hs, .ref pf, .ref lt, .int (zI mn), .ref wg, .int (zI ta), .long ck, .int (zI at9), .int (zI rfn), .ref rk, .ref rw, .ref rh, .int (zI cl), .ref sa, .ref fi, .int (zI bo), .ref ch, .ref cn, .int (zI ad), .int (zI ru), .ref kp, .int (zI dn), .ref rfa])), (pf, .inl (c_pf, 4, .inl f_pf)), (lt, .inl (c_lt, 5, .inl ja))] ∧ va_S A s.heap H locs ∧ lv_has ls 3 [(2, .int (zI jk)), (0, .ref h0), (1, .int (zI f))]) ?_ _ ⟨4, f_lt, rfl, (by omega), (kMv_0 _ _).symm, hP, hD, hS, hl⟩
    intro n12 ih12 H locs ls hI
    obtain ⟨jk, ja, en12, v_120, v_121, hP, hD, hS, hl⟩ := hI
    refine lv_iload_n hx hb dX9_prefer_12 rfl (lv_at hl 0 rfl) ?_
    refine kz_if_le (tgt := 36) hx hb dX9_prefer_13 (by decide) (by omega) (fun c_2 => ?_) (fun c_2 => ?_)
    · refine lv_aload_n hx hb dX9_prefer_36 rfl (lv_at hl 1 rfl) ?_
      refine va_get (D := D) (ci := 9) (v := .ref lt) (C := RX9) (T := TX9) (N := 31) hx hb hts (fun _ h9 => List.mem_cons_of_mem _ (List.mem_append_right _ h9)) hown hK hP 0 rfl rfl 10 (by decide) (hts (.fieldLink RX9 31 "FontRunsModel" "latest" "[I") mw_X9_prefer_0) (fun _ h9 => h9) rfl dX9_prefer_37 ?_
      refine lv_iconst (v := zI 0) hx hb dX9_prefer_40 rfl ?_
      refine lv_iload_n hx hb dX9_prefer_41 rfl (lv_at hl 2 rfl) ?_
      refine kz_iast hx hb hK hP hD hS 2 1 rfl rfl (by omega) dX9_prefer_42 (fun H locs hP hD hS => ?_)
      have hP : va_P D vwCl [(h0, .inr (9, [.int (zI fa), .int (zI tc), .ref so, .ref sl, .ref ce, .int (zI fn), .ref kd, .ref wd, .ref hs, .ref pf, .ref lt, .int (zI mn), .ref wg, .int (zI ta), .long ck, .int (zI at9), .int (zI rfn), .ref rk, .ref rw, .ref rh, .int (zI cl), .ref sa, .ref fi, .int (zI bo), .ref ch, .ref cn, .int (zI ad), .int (zI ru), .ref kp, .int (zI dn), .ref rfa])), (pf, .inl (c_pf, 4, .inl f_pf)), (lt, .inl (c_lt, 5, .inl (upd ja (0 : Int).toNat (zI f))))] H := hP
      have hD : va_D A [(h0, .inr (9, [.int (zI fa), .int (zI tc), .ref so, .ref sl, .ref ce, .int (zI fn), .ref kd, .ref wd, .ref hs, .ref pf, .ref lt, .int (zI mn), .ref wg, .int (zI ta), .long ck, .int (zI at9), .int (zI rfn), .ref rk, .ref rw, .ref rh, .int (zI cl), .ref sa, .ref fi, .int (zI bo), .ref ch, .ref cn, .int (zI ad), .int (zI ru), .ref kp, .int (zI dn), .ref rfa])), (pf, .inl (c_pf, 4, .inl f_pf)), (lt, .inl (c_lt, 5, .inl (upd ja (0 : Int).toNat (zI f))))] := hD
      generalize ef_3 : upd ja (0 : Int).toNat (zI f) = f_3 at hP hD
      refine lv_aload_n hx hb dX9_prefer_43 rfl (lv_at hl 1 rfl) ?_
      refine lv_iload_n hx hb dX9_prefer_44 rfl (lv_at hl 2 rfl) ?_
      have hFc := va_free (wc := [(h0, .inr (9, [.int (zI fa), .int (zI tc), .ref so, .ref sl, .ref ce, .int (zI fn), .ref kd, .ref wd, .ref hs, .ref pf, .ref lt, .int (zI mn), .ref wg, .int (zI ta), .long ck, .int (zI at9), .int (zI rfn), .ref rk, .ref rw, .ref rh, .int (zI cl), .ref sa, .ref fi, .int (zI bo), .ref ch, .ref cn, .int (zI ad), .int (zI ru), .ref kp, .int (zI dn), .ref rfa])), (pf, .inl (c_pf, 4, .inl f_pf))]) hD hS hA [0, 1] ax_X9_prefer_1
      refine va_calli (va_runV (As := [.int (zI f)]) (rest := []) ⟨hx, hb, hml, hown, hts⟩ (c_X9_comesFirst_w l D H.size (f := f) (h0 := h0) (fa := fa) (tc := tc) (so := so) (sl := sl) (ce := ce) (fn := fn) (kd := kd) (wd := wd) (hs := hs) (pf := pf) (lt := lt) (mn := mn) (wg := wg) (ta := ta) (ck := ck) (at9 := at9) (rfn := rfn) (rk := rk) (rw := rw) (rh := rh) (cl := cl) (sa := sa) (fi := fi) (bo := bo) (ch := ch) (cn := cn) (ad := ad) (ru := ru) (kp := kp) (dn := dn) (rfa := rfa) (c_pf := c_pf) (f_pf := f_pf) (by omega) q1 q2) (cwV 1 hts gX9_prefer_X9_comesFirst rfl rfl rfl (by decide +kernel) ⟨Nat.le_of_ble_eq_true rfl, Nat.le_of_ble_eq_true rfl⟩) (kPreV hP (kD0 hD) hK hN [0, 1] [0] ax_X9_prefer_1 rfl (by decide +kernel) 0 9 rfl rfl) rfl rfl hl.1 rfl (lv_room (Nat.le_of_ble_eq_true rfl)) dX9_prefer_45 ⟨Nat.le_of_ble_eq_true rfl, Nat.le_of_ble_eq_true rfl⟩) hS (fun q _ h => hFc q h) hFc (fun r u t H1 locs ht hvm hw hB hz1 hk1 hS => ?_)
      obtain ⟨z_5, e9⟩ : ∃ z, z = u := ⟨_, rfl⟩
      subst e9
      obtain ⟨rfl, rz_5⟩ := hw
      refine Exists.elim hB (fun u_f_pf_4 hB1 => ?_)
      have h_6 := hB1.1
      have h_7 := hB1.2.1
      have h_8 := hB1.2.2.1
      have hP1 := hB1.2.2.2.1
      have hD1 := hB1.2.2.2.2
      clear hB hB1
      rw [ht] at hP1
      obtain ⟨hP, hD⟩ := va_join (wr := [(lt, .inl (c_lt, 5, .inl f_3))]) (w1 := [(h0, .inr (9, [.int (zI fa), .int (zI tc), .ref so, .ref sl, .ref ce, .int (zI fn), .ref kd, .ref wd, .ref hs, .ref pf, .ref lt, .int (zI mn), .ref wg, .int (zI ta), .long ck, .int (zI at9), .int (zI rfn), .ref rk, .ref rw, .ref rh, .int (zI cl), .ref sa, .ref fi, .int (zI bo), .ref ch, .ref cn, .int (zI ad), .int (zI ru), .ref kp, .int (zI dn), .ref rfa])), (pf, .inl (c_pf, 4, .inl u_f_pf_4))]) hP hD [0, 1] [2] ax_X9_prefer_1 ax_X9_prefer_2 (by decide +kernel) (by decide +kernel) hk1 hFc hP1 hD1
      have hP := ax_X9_prefer_3 hP
      have hD := ax_X9_prefer_4 hD
      generalize H1 = H at hP hS ⊢
      have hP : va_P D vwCl [(lt, .inl (c_lt, 5, .inl f_3)), (h0, .inr (9, [.int (zI fa), .int (zI tc), .ref so, .ref sl, .ref ce, .int (zI fn), .ref kd, .ref wd, .ref hs, .ref pf, .ref lt, .int (zI mn), .ref wg, .int (zI ta), .long ck, .int (zI at9), .int (zI rfn), .ref rk, .ref rw, .ref rh, .int (zI cl), .ref sa, .ref fi, .int (zI bo), .ref ch, .ref cn, .int (zI ad), .int (zI ru), .ref kp, .int (zI dn), .ref rfa])), (pf, .inl (c_pf, 4, .inl u_f_pf_4))] H := hP
      have hD : va_D A [(lt, .inl (c_lt, 5, .inl f_3)), (h0, .inr (9, [.int (zI fa), .int (zI tc), .ref so, .ref sl, .ref ce, .int (zI fn), .ref kd, .ref wd, .ref hs, .ref pf, .ref lt, .int (zI mn), .ref wg, .int (zI ta), .long ck, .int (zI at9), .int (zI rfn), .ref rk, .ref rw, .ref rh, .int (zI cl), .ref sa, .ref fi, .int (zI bo), .ref ch, .ref cn, .int (zI ad), .int (zI ru), .ref kp, .int (zI dn), .ref rfa])), (pf, .inl (c_pf, 4, .inl u_f_pf_4))] := hD
      have hP9 := hP.sub (ws' := [(h0, .inr (9, [.int (zI fa), .int (zI tc), .ref so, .ref sl, .ref ce, .int (zI fn), .ref kd, .ref wd, .ref hs, .ref pf, .ref lt, .int (zI mn), .ref wg, .int (zI ta), .long ck, .int (zI at9), .int (zI rfn), .ref rk, .ref rw, .ref rh, .int (zI cl), .ref sa, .ref fi, .int (zI bo), .ref ch, .ref cn, .int (zI ad), .int (zI ru), .ref kp, .int (zI dn), .ref rfa])), (pf, .inl (c_pf, 4, .inl u_f_pf_4)), (lt, .inl (c_lt, 5, .inl f_3))]) [1, 2, 0] rfl
      have hD9 := hD.sub (ws' := [(h0, .inr (9, [.int (zI fa), .int (zI tc), .ref so, .ref sl, .ref ce, .int (zI fn), .ref kd, .ref wd, .ref hs, .ref pf, .ref lt, .int (zI mn), .ref wg, .int (zI ta), .long ck, .int (zI at9), .int (zI rfn), .ref rk, .ref rw, .ref rh, .int (zI cl), .ref sa, .ref fi, .int (zI bo), .ref ch, .ref cn, .int (zI ad), .int (zI ru), .ref kp, .int (zI dn), .ref rfa])), (pf, .inl (c_pf, 4, .inl u_f_pf_4)), (lt, .inl (c_lt, 5, .inl f_3))]) [1, 2, 0] (by decide +kernel) rfl
      exact W.iret (v := (zI z_5)) hx hb hr (fun t ht hW => kQS_of (by omega) ⟨u_f_pf_4, f_3, h_6, (Or.inr ⟨by omega, h_7, h_8, kMvE ef_3 v_121 (by omega)⟩), by rw [ht]; exact hP9, hD9⟩ (hS.F ht)) hS.2.2 dX9_prefer_48
    · refine lv_aload_n hx hb dX9_prefer_16 rfl (lv_at hl 1 rfl) ?_
      refine va_get (D := D) (ci := 9) (v := .ref lt) (C := RX9) (T := TX9) (N := 31) hx hb hts (fun _ h9 => List.mem_cons_of_mem _ (List.mem_append_right _ h9)) hown hK hP 0 rfl rfl 10 (by decide) (hts (.fieldLink RX9 31 "FontRunsModel" "latest" "[I") mw_X9_prefer_0) (fun _ h9 => h9) rfl dX9_prefer_17 ?_
      refine lv_iload_n hx hb dX9_prefer_20 rfl (lv_at hl 0 rfl) ?_
      refine lv_aload_n hx hb dX9_prefer_21 rfl (lv_at hl 1 rfl) ?_
      refine va_get (D := D) (ci := 9) (v := .ref lt) (C := RX9) (T := TX9) (N := 31) hx hb hts (fun _ h9 => List.mem_cons_of_mem _ (List.mem_append_right _ h9)) hown hK hP 0 rfl rfl 10 (by decide) (hts (.fieldLink RX9 31 "FontRunsModel" "latest" "[I") mw_X9_prefer_0) (fun _ h9 => h9) rfl dX9_prefer_22 ?_
      refine lv_iload_n hx hb dX9_prefer_25 rfl (lv_at hl 0 rfl) ?_
      refine lv_iconst (v := zI 1) hx hb dX9_prefer_26 rfl ?_
      refine kz_isub hx hb dX9_prefer_27 ?_
      refine kz_iald hx hb hK hP 2 1 rfl rfl (by omega) dX9_prefer_28 (fun z_9 rz_9 ez_9 => ?_)
      refine kz_iast hx hb hK hP hD hS 2 1 rfl rfl (by omega) dX9_prefer_29 (fun H locs hP hD hS => ?_)
      have hP : va_P D vwCl [(h0, .inr (9, [.int (zI fa), .int (zI tc), .ref so, .ref sl, .ref ce, .int (zI fn), .ref kd, .ref wd, .ref hs, .ref pf, .ref lt, .int (zI mn), .ref wg, .int (zI ta), .long ck, .int (zI at9), .int (zI rfn), .ref rk, .ref rw, .ref rh, .int (zI cl), .ref sa, .ref fi, .int (zI bo), .ref ch, .ref cn, .int (zI ad), .int (zI ru), .ref kp, .int (zI dn), .ref rfa])), (pf, .inl (c_pf, 4, .inl f_pf)), (lt, .inl (c_lt, 5, .inl (upd ja (jk).toNat (zI z_9))))] H := hP
      have hD : va_D A [(h0, .inr (9, [.int (zI fa), .int (zI tc), .ref so, .ref sl, .ref ce, .int (zI fn), .ref kd, .ref wd, .ref hs, .ref pf, .ref lt, .int (zI mn), .ref wg, .int (zI ta), .long ck, .int (zI at9), .int (zI rfn), .ref rk, .ref rw, .ref rh, .int (zI cl), .ref sa, .ref fi, .int (zI bo), .ref ch, .ref cn, .int (zI ad), .int (zI ru), .ref kp, .int (zI dn), .ref rfa])), (pf, .inl (c_pf, 4, .inl f_pf)), (lt, .inl (c_lt, 5, .inl (upd ja (jk).toNat (zI z_9))))] := hD
      generalize ef_10 : upd ja (jk).toNat (zI z_9) = f_10 at hP hD
      refine lv_iinc (v := (zI (jk - 1))) (lv' := [(2, .int (zI (jk - 1))), (0, .ref h0), (1, .int (zI f))]) hx hb dX9_prefer_30 hl (k := 0) rfl (kz_dec _ 1) (by decide) rfl (fun ls hl => ?_)
      refine lv_goto (tgt := 12) hx hb dX9_prefer_33 (by decide) ?_
      exact ih12 _ (by omega) _ _ _ ⟨(jk - 1), f_10, rfl, (by omega), (by rw [← ef_10, v_121]; exact kMv_1 f_lt (by omega) (by rw [← v_121]; exact ez_9)), hP, hD, hS, lv_sub hl [0, 1, 2] rfl⟩
  · have c_1 : ¬ (0 ≤ f ∧ f < fn) := b01f c_1
    refine lv_iconst (v := zI (-1)) hx hb dX9_prefer_8 rfl ?_
    have hP9 := hP.sub (ws' := [(h0, .inr (9, [.int (zI fa), .int (zI tc), .ref so, .ref sl, .ref ce, .int (zI fn), .ref kd, .ref wd, .ref hs, .ref pf, .ref lt, .int (zI mn), .ref wg, .int (zI ta), .long ck, .int (zI at9), .int (zI rfn), .ref rk, .ref rw, .ref rh, .int (zI cl), .ref sa, .ref fi, .int (zI bo), .ref ch, .ref cn, .int (zI ad), .int (zI ru), .ref kp, .int (zI dn), .ref rfa])), (pf, .inl (c_pf, 4, .inl f_pf)), (lt, .inl (c_lt, 5, .inl f_lt))]) [0, 1, 2] rfl
    have hD9 := hD.sub (ws' := [(h0, .inr (9, [.int (zI fa), .int (zI tc), .ref so, .ref sl, .ref ce, .int (zI fn), .ref kd, .ref wd, .ref hs, .ref pf, .ref lt, .int (zI mn), .ref wg, .int (zI ta), .long ck, .int (zI at9), .int (zI rfn), .ref rk, .ref rw, .ref rh, .int (zI cl), .ref sa, .ref fi, .int (zI bo), .ref ch, .ref cn, .int (zI ad), .int (zI ru), .ref kp, .int (zI dn), .ref rfa])), (pf, .inl (c_pf, 4, .inl f_pf)), (lt, .inl (c_lt, 5, .inl f_lt))]) [0, 1, 2] (by decide +kernel) rfl
    exact W.iret (v := (zI (-1))) hx hb hr (fun t ht hW => kQS_of (by omega) ⟨f_pf, f_lt, q2, (Or.inl ⟨by omega, by omega, rfl, rfl⟩), by rw [ht]; exact hP9, hD9⟩ (hS.F ht)) hS.2.2 dX9_prefer_9
theorem dX9_isSign_0 : decode cX9_isSign 0 = .ok (.aload_n 0, 1) := kqo_2a kbl_X9_isSign (pc := 0) rfl
theorem dX9_isSign_1 : decode cX9_isSign 1 = .ok (.getfield 77, 3) := kqo_b4 (x1 := 0) (x2 := 77) kbl_X9_isSign (pc := 1) rfl rfl
theorem dX9_isSign_4 : decode cX9_isSign 4 = .ok (.iload_n 1, 1) := kqo_1b kbl_X9_isSign (pc := 4) rfl
theorem dX9_isSign_5 : decode cX9_isSign 5 = .ok (.if_icmp .ge 16, 3) := kqo_a2 (x1 := 0) (x2 := 16) kbl_X9_isSign (pc := 5) rfl rfl
theorem dX9_isSign_8 : decode cX9_isSign 8 = .ok (.aload_n 0, 1) := kqo_2a kbl_X9_isSign (pc := 8) rfl
theorem dX9_isSign_9 : decode cX9_isSign 9 = .ok (.getfield 16, 3) := kqo_b4 (x1 := 0) (x2 := 16) kbl_X9_isSign (pc := 9) rfl rfl
theorem dX9_isSign_12 : decode cX9_isSign 12 = .ok (.aload_n 0, 1) := kqo_2a kbl_X9_isSign (pc := 12) rfl
theorem dX9_isSign_13 : decode cX9_isSign 13 = .ok (.getfield 77, 3) := kqo_b4 (x1 := 0) (x2 := 77) kbl_X9_isSign (pc := 13) rfl rfl
theorem dX9_isSign_16 : decode cX9_isSign 16 = .ok (.iaload, 1) := kqo_2e kbl_X9_isSign (pc := 16) rfl
theorem dX9_isSign_17 : decode cX9_isSign 17 = .ok (.iload_n 2, 1) := kqo_1c kbl_X9_isSign (pc := 17) rfl
theorem dX9_isSign_18 : decode cX9_isSign 18 = .ok (.if_icmp .eq 5, 3) := kqo_9f (x1 := 0) (x2 := 5) kbl_X9_isSign (pc := 18) rfl rfl
theorem dX9_isSign_21 : decode cX9_isSign 21 = .ok (.iconst 0, 1) := kqo_03 kbl_X9_isSign (pc := 21) rfl
theorem dX9_isSign_22 : decode cX9_isSign 22 = .ok (.ireturn, 1) := kqo_ac kbl_X9_isSign (pc := 22) rfl
theorem dX9_isSign_23 : decode cX9_isSign 23 = .ok (.aload_n 0, 1) := kqo_2a kbl_X9_isSign (pc := 23) rfl
theorem dX9_isSign_24 : decode cX9_isSign 24 = .ok (.dup, 1) := kqo_59 kbl_X9_isSign (pc := 24) rfl
theorem dX9_isSign_25 : decode cX9_isSign 25 = .ok (.getfield 77, 3) := kqo_b4 (x1 := 0) (x2 := 77) kbl_X9_isSign (pc := 25) rfl rfl
theorem dX9_isSign_28 : decode cX9_isSign 28 = .ok (.iconst 1, 1) := kqo_04 kbl_X9_isSign (pc := 28) rfl
theorem dX9_isSign_29 : decode cX9_isSign 29 = .ok (.iadd, 1) := kqo_60 kbl_X9_isSign (pc := 29) rfl
theorem dX9_isSign_30 : decode cX9_isSign 30 = .ok (.putfield 77, 3) := kqo_b5 (x1 := 0) (x2 := 77) kbl_X9_isSign (pc := 30) rfl rfl
theorem dX9_isSign_33 : decode cX9_isSign 33 = .ok (.iconst 1, 1) := kqo_04 kbl_X9_isSign (pc := 33) rfl
theorem dX9_isSign_34 : decode cX9_isSign 34 = .ok (.ireturn, 1) := kqo_ac kbl_X9_isSign (pc := 34) rfl
set_option maxRecDepth 20000 in
theorem mw_X9_isSign_0 : (.fieldLink RX9 77 "FontRunsModel" "at" "I" : Cond) ∈ wsX9_isSign := List.mem_cons_of_mem _ (List.mem_append_left _ (List.mem_of_getElem? (i := 0) rfl))
set_option maxRecDepth 20000 in
theorem mw_X9_isSign_1 : (.fieldLink RX9 16 "FontRunsModel" "cells" "[I" : Cond) ∈ wsX9_isSign := List.mem_cons_of_mem _ (List.mem_append_left _ (List.mem_of_getElem? (i := 1) rfl))
theorem ax_X9_isSign_0 {e0 e1 : Nat × va_E} : ([0, 1] : List Nat).map (fun i => ([e0, e1] : va_W)[i]?) = ([e0, e1] : va_W).map some := rfl
set_option maxHeartbeats 4000000 in
set_option maxRecDepth 100000 in
theorem c_X9_isSign (l : Launch) (D : va_G) (sz : Nat) (en : Int) (x : Int) (h0 : Nat) (fa : Int) (tc : Int) (so : Nat) (sl : Nat) (ce : Nat) (fn : Int) (kd : Nat) (wd : Nat) (hs : Nat) (pf : Nat) (lt : Nat) (mn : Int) (wg : Nat) (ta : Int) (ck : Int64) (at9 : Int) (rfn : Int) (rk : Nat) (rw : Nat) (rh : Nat) (cl : Int) (sa : Nat) (fi : Nat) (bo : Int) (ch : Nat) (cn : Nat) (ad : Int) (ru : Int) (kp : Nat) (dn : Int) (rfa : Nat) (c_ce : ClassId) (f_ce : Nat → Int32) (q0 : rg x) (q1 : en ≤ 240 ∧ 0 ≤ en) (q2 : 0 ≤ at9 ∧ at9 ≤ 240) : Met l yX9_isSign wsX9_isSign ({ frames := 0, cells := 0, slots := 0, locals := 0 }) (kPre [.ref h0, .int (zI en), .int (zI x)] D [(h0, .inr (9, [.int (zI fa), .int (zI tc), .ref so, .ref sl, .ref ce, .int (zI fn), .ref kd, .ref wd, .ref hs, .ref pf, .ref lt, .int (zI mn), .ref wg, .int (zI ta), .long ck, .int (zI at9), .int (zI rfn), .ref rk, .ref rw, .ref rh, .int (zI cl), .ref sa, .ref fi, .int (zI bo), .ref ch, .ref cn, .int (zI ad), .int (zI ru), .ref kp, .int (zI dn), .ref rfa])), (ce, .inl (c_ce, 240, .inl f_ce))] [(c_ce, .int)] sz) (kQS (fun rz t => ∃ (u_at9 : Int), (0 ≤ u_at9 ∧ u_at9 ≤ 240) ∧ ((rz = 1 ∧ at9 < en ∧ (f_ce at9.toNat).toInt = x ∧ u_at9 = at9 + 1) ∨ (rz = 0 ∧ ¬ (at9 < en ∧ (f_ce at9.toNat).toInt = x) ∧ u_at9 = at9)) ∧ (rz = 0 ∨ rz = 1) ∧ va_P D vwCl [(h0, .inr (9, [.int (zI fa), .int (zI tc), .ref so, .ref sl, .ref ce, .int (zI fn), .ref kd, .ref wd, .ref hs, .ref pf, .ref lt, .int (zI mn), .ref wg, .int (zI ta), .long ck, .int (zI u_at9), .int (zI rfn), .ref rk, .ref rw, .ref rh, .int (zI cl), .ref sa, .ref fi, .int (zI bo), .ref ch, .ref cn, .int (zI ad), .int (zI ru), .ref kp, .int (zI dn), .ref rfa])), (ce, .inl (c_ce, 240, .inl f_ce))] t.heap ∧ va_D (va_A [(h0, .inr (9, [.int (zI fa), .int (zI tc), .ref so, .ref sl, .ref ce, .int (zI fn), .ref kd, .ref wd, .ref hs, .ref pf, .ref lt, .int (zI mn), .ref wg, .int (zI ta), .long ck, .int (zI at9), .int (zI rfn), .ref rk, .ref rw, .ref rh, .int (zI cl), .ref sa, .ref fi, .int (zI bo), .ref ch, .ref cn, .int (zI ad), .int (zI ru), .ref kp, .int (zI dn), .ref rfa])), (ce, .inl (c_ce, 240, .inl f_ce))] sz) [(h0, .inr (9, [.int (zI fa), .int (zI tc), .ref so, .ref sl, .ref ce, .int (zI fn), .ref kd, .ref wd, .ref hs, .ref pf, .ref lt, .int (zI mn), .ref wg, .int (zI ta), .long ck, .int (zI u_at9), .int (zI rfn), .ref rk, .ref rw, .ref rh, .int (zI cl), .ref sa, .ref fi, .int (zI bo), .ref ch, .ref cn, .int (zI ad), .int (zI ru), .ref kp, .int (zI dn), .ref rfa])), (ce, .inl (c_ce, 240, .inl f_ce))]) (va_A [(h0, .inr (9, [.int (zI fa), .int (zI tc), .ref so, .ref sl, .ref ce, .int (zI fn), .ref kd, .ref wd, .ref hs, .ref pf, .ref lt, .int (zI mn), .ref wg, .int (zI ta), .long ck, .int (zI at9), .int (zI rfn), .ref rk, .ref rw, .ref rh, .int (zI cl), .ref sa, .ref fi, .int (zI bo), .ref ch, .ref cn, .int (zI ad), .int (zI ru), .ref kp, .int (zI dn), .ref rfa])), (ce, .inl (c_ce, 240, .inl f_ce))] sz)) 0 0 (va_A [(h0, .inr (9, [.int (zI fa), .int (zI tc), .ref so, .ref sl, .ref ce, .int (zI fn), .ref kd, .ref wd, .ref hs, .ref pf, .ref lt, .int (zI mn), .ref wg, .int (zI ta), .long ck, .int (zI at9), .int (zI rfn), .ref rk, .ref rw, .ref rh, .int (zI cl), .ref sa, .ref fi, .int (zI bo), .ref ch, .ref cn, .int (zI ad), .int (zI ru), .ref kp, .int (zI dn), .ref rfa])), (ce, .inl (c_ce, 240, .inl f_ce))] sz) := by
  refine Met.ofW (cc := cX9_isSign) (maxL := 3) (ret := (some .boolean)) (by decide) rfl ?_
  intro p e s m args below meth c s₁ B hml hv
  obtain ⟨rfl, hsz, hP, hK, hD0, hN⟩ := hv
  have hx := B.exec
  have hb := B.bytes
  have hr := B.returns
  have hts := atoms_spec (ws := wsX9_isSign) B.pre
  have hown : s.vm.findClass RX9 = some m.cls := findClass_of_methodNamed B.named
  have hlocks := B.notSynchronized
  subst hsz
  have hD := hD0.self (sz := s.heap.size)
  generalize hAe : va_A [(h0, .inr (9, [.int (zI fa), .int (zI tc), .ref so, .ref sl, .ref ce, .int (zI fn), .ref kd, .ref wd, .ref hs, .ref pf, .ref lt, .int (zI mn), .ref wg, .int (zI ta), .long ck, .int (zI at9), .int (zI rfn), .ref rk, .ref rw, .ref rh, .int (zI cl), .ref sa, .ref fi, .int (zI bo), .ref ch, .ref cn, .int (zI ad), .int (zI ru), .ref kp, .int (zI dn), .ref rfa])), (ce, .inl (c_ce, 240, .inl f_ce))] s.heap.size = A at hD ⊢
  have hA : ∀ q : Nat, s.heap.size ≤ q → A q := fun q h => by rw [← hAe]; exact Or.inr h
  have hS : va_S A s.heap s.heap [] := va_S.rf
  have hP : va_P D vwCl [(h0, .inr (9, [.int (zI fa), .int (zI tc), .ref so, .ref sl, .ref ce, .int (zI fn), .ref kd, .ref wd, .ref hs, .ref pf, .ref lt, .int (zI mn), .ref wg, .int (zI ta), .long ck, .int (zI at9), .int (zI rfn), .ref rk, .ref rw, .ref rh, .int (zI cl), .ref sa, .ref fi, .int (zI bo), .ref ch, .ref cn, .int (zI ad), .int (zI ru), .ref kp, .int (zI dn), .ref rfa])), (ce, .inl (c_ce, 240, .inl f_ce))] s.heap := hP
  have hl := lv_entry ([.ref h0, .int (zI en), .int (zI x)]) (n := 3) (Nat.le_of_ble_eq_true rfl)
  rw [lg_entry_eq]
  generalize (lg_sl ([.ref h0, .int (zI en), .int (zI x)]) ++ List.replicate (3 - (lg_sl ([.ref h0, .int (zI en), .int (zI x)])).length) Slot.unset).toArray = ls at hl ⊢
  have hl : lv_has ls 3 [(0, .ref h0), (1, .int (zI en)), (2, .int (zI x))] := hl
  refine lv_aload_n hx hb dX9_isSign_0 rfl (lv_at hl 0 rfl) ?_
  refine va_get (D := D) (ci := 9) (v := .int (zI at9)) (C := RX9) (T := TX9) (N := 31) hx hb hts (fun _ h9 => List.mem_cons_of_mem _ (List.mem_append_right _ h9)) hown hK hP 0 rfl rfl 15 (by decide) (hts (.fieldLink RX9 77 "FontRunsModel" "at" "I") mw_X9_isSign_0) (fun _ h9 => h9) rfl dX9_isSign_1 ?_
  refine lv_iload_n hx hb dX9_isSign_4 rfl (lv_at hl 1 rfl) ?_
  refine kz_icmp_ge (tgt := 21) hx hb dX9_isSign_5 (by decide) (by omega) (by omega) (fun c_1 => ?_) (fun c_1 => ?_)
  · refine lv_iconst (v := zI 0) hx hb dX9_isSign_21 rfl ?_
    have hP9 := hP.sub (ws' := [(h0, .inr (9, [.int (zI fa), .int (zI tc), .ref so, .ref sl, .ref ce, .int (zI fn), .ref kd, .ref wd, .ref hs, .ref pf, .ref lt, .int (zI mn), .ref wg, .int (zI ta), .long ck, .int (zI at9), .int (zI rfn), .ref rk, .ref rw, .ref rh, .int (zI cl), .ref sa, .ref fi, .int (zI bo), .ref ch, .ref cn, .int (zI ad), .int (zI ru), .ref kp, .int (zI dn), .ref rfa])), (ce, .inl (c_ce, 240, .inl f_ce))]) [0, 1] rfl
    have hD9 := hD.sub (ws' := [(h0, .inr (9, [.int (zI fa), .int (zI tc), .ref so, .ref sl, .ref ce, .int (zI fn), .ref kd, .ref wd, .ref hs, .ref pf, .ref lt, .int (zI mn), .ref wg, .int (zI ta), .long ck, .int (zI at9), .int (zI rfn), .ref rk, .ref rw, .ref rh, .int (zI cl), .ref sa, .ref fi, .int (zI bo), .ref ch, .ref cn, .int (zI ad), .int (zI ru), .ref kp, .int (zI dn), .ref rfa])), (ce, .inl (c_ce, 240, .inl f_ce))]) [0, 1] (by decide +kernel) rfl
    exact W.zret (v := (zI 0)) hx hb hr rfl (fun t ht hW => kQS_of (by omega) ⟨at9, q2, (by omega), (by omega), by rw [ht]; exact hP9, hD9⟩ (hS.F ht)) hS.2.2 dX9_isSign_22
  · refine lv_aload_n hx hb dX9_isSign_8 rfl (lv_at hl 0 rfl) ?_
    refine va_get (D := D) (ci := 9) (v := .ref ce) (C := RX9) (T := TX9) (N := 31) hx hb hts (fun _ h9 => List.mem_cons_of_mem _ (List.mem_append_right _ h9)) hown hK hP 0 rfl rfl 4 (by decide) (hts (.fieldLink RX9 16 "FontRunsModel" "cells" "[I") mw_X9_isSign_1) (fun _ h9 => h9) rfl dX9_isSign_9 ?_
    refine lv_aload_n hx hb dX9_isSign_12 rfl (lv_at hl 0 rfl) ?_
    refine va_get (D := D) (ci := 9) (v := .int (zI at9)) (C := RX9) (T := TX9) (N := 31) hx hb hts (fun _ h9 => List.mem_cons_of_mem _ (List.mem_append_right _ h9)) hown hK hP 0 rfl rfl 15 (by decide) (hts (.fieldLink RX9 77 "FontRunsModel" "at" "I") mw_X9_isSign_0) (fun _ h9 => h9) rfl dX9_isSign_13 ?_
    refine kz_iald hx hb hK hP 1 0 rfl rfl (by omega) dX9_isSign_16 (fun z_2 rz_2 ez_2 => ?_)
    have tz_2 : (f_ce (at9).toNat).toInt = z_2 := by rw [ez_2, zI_toInt rz_2]
    refine lv_iload_n hx hb dX9_isSign_17 rfl (lv_at hl 2 rfl) ?_
    refine kz_icmp_eq (tgt := 23) hx hb dX9_isSign_18 (by decide) (by omega) (by omega) (fun c_3 => ?_) (fun c_3 => ?_)
    · refine lv_aload_n hx hb dX9_isSign_23 rfl (lv_at hl 0 rfl) ?_
      refine lv_dup hx hb dX9_isSign_24 rfl ?_
      refine va_get (D := D) (ci := 9) (v := .int (zI at9)) (C := RX9) (T := TX9) (N := 31) hx hb hts (fun _ h9 => List.mem_cons_of_mem _ (List.mem_append_right _ h9)) hown hK hP 0 rfl rfl 15 (by decide) (hts (.fieldLink RX9 77 "FontRunsModel" "at" "I") mw_X9_isSign_0) (fun _ h9 => h9) rfl dX9_isSign_25 ?_
      refine lv_iconst (v := zI 1) hx hb dX9_isSign_28 rfl ?_
      refine kz_iadd hx hb dX9_isSign_29 ?_
      refine va_put (D := D) (ci := 9) (v := .int (zI (at9 + 1))) (ty := .int) (C := RX9) (T := TX9) (N := 31) hx hb hts (fun _ h9 => List.mem_cons_of_mem _ (List.mem_append_right _ h9)) tyX9 tyX9_ok nmX9 hown hK hP hD hS 0 rfl rfl 15 (by decide) (hts (.fieldLink RX9 77 "FontRunsModel" "at" "I") mw_X9_isSign_0) (fun _ h9 => h9) rfl (by decide +kernel) rfl rfl (Nat.le_of_ble_eq_true rfl) dX9_isSign_30 (fun H locs hP hD hS => ?_)
      have hP : va_P D vwCl [(h0, .inr (9, [.int (zI fa), .int (zI tc), .ref so, .ref sl, .ref ce, .int (zI fn), .ref kd, .ref wd, .ref hs, .ref pf, .ref lt, .int (zI mn), .ref wg, .int (zI ta), .long ck, .int (zI (at9 + 1)), .int (zI rfn), .ref rk, .ref rw, .ref rh, .int (zI cl), .ref sa, .ref fi, .int (zI bo), .ref ch, .ref cn, .int (zI ad), .int (zI ru), .ref kp, .int (zI dn), .ref rfa])), (ce, .inl (c_ce, 240, .inl f_ce))] H := hP
      have hD : va_D A [(h0, .inr (9, [.int (zI fa), .int (zI tc), .ref so, .ref sl, .ref ce, .int (zI fn), .ref kd, .ref wd, .ref hs, .ref pf, .ref lt, .int (zI mn), .ref wg, .int (zI ta), .long ck, .int (zI (at9 + 1)), .int (zI rfn), .ref rk, .ref rw, .ref rh, .int (zI cl), .ref sa, .ref fi, .int (zI bo), .ref ch, .ref cn, .int (zI ad), .int (zI ru), .ref kp, .int (zI dn), .ref rfa])), (ce, .inl (c_ce, 240, .inl f_ce))] := hD
      refine lv_iconst (v := zI 1) hx hb dX9_isSign_33 rfl ?_
      have hP9 := hP.sub (ws' := [(h0, .inr (9, [.int (zI fa), .int (zI tc), .ref so, .ref sl, .ref ce, .int (zI fn), .ref kd, .ref wd, .ref hs, .ref pf, .ref lt, .int (zI mn), .ref wg, .int (zI ta), .long ck, .int (zI (at9 + 1)), .int (zI rfn), .ref rk, .ref rw, .ref rh, .int (zI cl), .ref sa, .ref fi, .int (zI bo), .ref ch, .ref cn, .int (zI ad), .int (zI ru), .ref kp, .int (zI dn), .ref rfa])), (ce, .inl (c_ce, 240, .inl f_ce))]) [0, 1] rfl
      have hD9 := hD.sub (ws' := [(h0, .inr (9, [.int (zI fa), .int (zI tc), .ref so, .ref sl, .ref ce, .int (zI fn), .ref kd, .ref wd, .ref hs, .ref pf, .ref lt, .int (zI mn), .ref wg, .int (zI ta), .long ck, .int (zI (at9 + 1)), .int (zI rfn), .ref rk, .ref rw, .ref rh, .int (zI cl), .ref sa, .ref fi, .int (zI bo), .ref ch, .ref cn, .int (zI ad), .int (zI ru), .ref kp, .int (zI dn), .ref rfa])), (ce, .inl (c_ce, 240, .inl f_ce))]) [0, 1] (by decide +kernel) rfl
      exact W.zret (v := (zI 1)) hx hb hr rfl (fun t ht hW => kQS_of (by omega) ⟨(at9 + 1), (by omega), (by omega), (by omega), by rw [ht]; exact hP9, hD9⟩ (hS.F ht)) hS.2.2 dX9_isSign_34
    · refine lv_iconst (v := zI 0) hx hb dX9_isSign_21 rfl ?_
      have hP9 := hP.sub (ws' := [(h0, .inr (9, [.int (zI fa), .int (zI tc), .ref so, .ref sl, .ref ce, .int (zI fn), .ref kd, .ref wd, .ref hs, .ref pf, .ref lt, .int (zI mn), .ref wg, .int (zI ta), .long ck, .int (zI at9), .int (zI rfn), .ref rk, .ref rw, .ref rh, .int (zI cl), .ref sa, .ref fi, .int (zI bo), .ref ch, .ref cn, .int (zI ad), .int (zI ru), .ref kp, .int (zI dn), .ref rfa])), (ce, .inl (c_ce, 240, .inl f_ce))]) [0, 1] rfl
      have hD9 := hD.sub (ws' := [(h0, .inr (9, [.int (zI fa), .int (zI tc), .ref so, .ref sl, .ref ce, .int (zI fn), .ref kd, .ref wd, .ref hs, .ref pf, .ref lt, .int (zI mn), .ref wg, .int (zI ta), .long ck, .int (zI at9), .int (zI rfn), .ref rk, .ref rw, .ref rh, .int (zI cl), .ref sa, .ref fi, .int (zI bo), .ref ch, .ref cn, .int (zI ad), .int (zI ru), .ref kp, .int (zI dn), .ref rfa])), (ce, .inl (c_ce, 240, .inl f_ce))]) [0, 1] (by decide +kernel) rfl
      exact W.zret (v := (zI 0)) hx hb hr rfl (fun t ht hW => kQS_of (by omega) ⟨at9, q2, (by omega), (by omega), by rw [ht]; exact hP9, hD9⟩ (hS.F ht)) hS.2.2 dX9_isSign_22
theorem dX9_readFont_0 : decode cX9_readFont 0 = .ok (.aload_n 0, 1) := kqo_2a kbl_X9_readFont (pc := 0) rfl
theorem dX9_readFont_1 : decode cX9_readFont 1 = .ok (.getfield 77, 3) := kqo_b4 (x1 := 0) (x2 := 77) kbl_X9_readFont (pc := 1) rfl rfl
theorem dX9_readFont_4 : decode cX9_readFont 4 = .ok (.iload_n 1, 1) := kqo_1b kbl_X9_readFont (pc := 4) rfl
theorem dX9_readFont_5 : decode cX9_readFont 5 = .ok (.if_icmp .ge 22, 3) := kqo_a2 (x1 := 0) (x2 := 22) kbl_X9_readFont (pc := 5) rfl rfl
theorem dX9_readFont_8 : decode cX9_readFont 8 = .ok (.aload_n 0, 1) := kqo_2a kbl_X9_readFont (pc := 8) rfl
theorem dX9_readFont_9 : decode cX9_readFont 9 = .ok (.getfield 16, 3) := kqo_b4 (x1 := 0) (x2 := 16) kbl_X9_readFont (pc := 9) rfl rfl
theorem dX9_readFont_12 : decode cX9_readFont 12 = .ok (.aload_n 0, 1) := kqo_2a kbl_X9_readFont (pc := 12) rfl
theorem dX9_readFont_13 : decode cX9_readFont 13 = .ok (.getfield 77, 3) := kqo_b4 (x1 := 0) (x2 := 77) kbl_X9_readFont (pc := 13) rfl rfl
theorem dX9_readFont_16 : decode cX9_readFont 16 = .ok (.iaload, 1) := kqo_2e kbl_X9_readFont (pc := 16) rfl
theorem dX9_readFont_17 : decode cX9_readFont 17 = .ok (.bipush 65, 2) := kqo_10 (x1 := 65) kbl_X9_readFont (pc := 17) rfl rfl
theorem dX9_readFont_19 : decode cX9_readFont 19 = .ok (.bipush 67, 2) := kqo_10 (x1 := 67) kbl_X9_readFont (pc := 19) rfl rfl
theorem dX9_readFont_21 : decode cX9_readFont 21 = .ok (.invokestatic 70, 3) := kqo_b8 (x1 := 0) (x2 := 70) kbl_X9_readFont (pc := 21) rfl rfl
theorem dX9_readFont_24 : decode cX9_readFont 24 = .ok (.ifCond .ne 5, 3) := kqo_9a (x1 := 0) (x2 := 5) kbl_X9_readFont (pc := 24) rfl rfl
theorem dX9_readFont_27 : decode cX9_readFont 27 = .ok (.iconst 0, 1) := kqo_03 kbl_X9_readFont (pc := 27) rfl
theorem dX9_readFont_28 : decode cX9_readFont 28 = .ok (.ireturn, 1) := kqo_ac kbl_X9_readFont (pc := 28) rfl
theorem dX9_readFont_29 : decode cX9_readFont 29 = .ok (.aload_n 0, 1) := kqo_2a kbl_X9_readFont (pc := 29) rfl
theorem dX9_readFont_30 : decode cX9_readFont 30 = .ok (.getfield 37, 3) := kqo_b4 (x1 := 0) (x2 := 37) kbl_X9_readFont (pc := 30) rfl rfl
theorem dX9_readFont_33 : decode cX9_readFont 33 = .ok (.aload_n 0, 1) := kqo_2a kbl_X9_readFont (pc := 33) rfl
theorem dX9_readFont_34 : decode cX9_readFont 34 = .ok (.getfield 98, 3) := kqo_b4 (x1 := 0) (x2 := 98) kbl_X9_readFont (pc := 34) rfl rfl
theorem dX9_readFont_37 : decode cX9_readFont 37 = .ok (.aload_n 0, 1) := kqo_2a kbl_X9_readFont (pc := 37) rfl
theorem dX9_readFont_38 : decode cX9_readFont 38 = .ok (.getfield 16, 3) := kqo_b4 (x1 := 0) (x2 := 16) kbl_X9_readFont (pc := 38) rfl rfl
theorem dX9_readFont_41 : decode cX9_readFont 41 = .ok (.aload_n 0, 1) := kqo_2a kbl_X9_readFont (pc := 41) rfl
theorem dX9_readFont_42 : decode cX9_readFont 42 = .ok (.getfield 77, 3) := kqo_b4 (x1 := 0) (x2 := 77) kbl_X9_readFont (pc := 42) rfl rfl
theorem dX9_readFont_45 : decode cX9_readFont 45 = .ok (.iaload, 1) := kqo_2e kbl_X9_readFont (pc := 45) rfl
theorem dX9_readFont_46 : decode cX9_readFont 46 = .ok (.bipush 65, 2) := kqo_10 (x1 := 65) kbl_X9_readFont (pc := 46) rfl rfl
theorem dX9_readFont_48 : decode cX9_readFont 48 = .ok (.isub, 1) := kqo_64 kbl_X9_readFont (pc := 48) rfl
theorem dX9_readFont_49 : decode cX9_readFont 49 = .ok (.iastore, 1) := kqo_4f kbl_X9_readFont (pc := 49) rfl
theorem dX9_readFont_50 : decode cX9_readFont 50 = .ok (.aload_n 0, 1) := kqo_2a kbl_X9_readFont (pc := 50) rfl
theorem dX9_readFont_51 : decode cX9_readFont 51 = .ok (.dup, 1) := kqo_59 kbl_X9_readFont (pc := 51) rfl
theorem dX9_readFont_52 : decode cX9_readFont 52 = .ok (.getfield 77, 3) := kqo_b4 (x1 := 0) (x2 := 77) kbl_X9_readFont (pc := 52) rfl rfl
theorem dX9_readFont_55 : decode cX9_readFont 55 = .ok (.iconst 1, 1) := kqo_04 kbl_X9_readFont (pc := 55) rfl
theorem dX9_readFont_56 : decode cX9_readFont 56 = .ok (.iadd, 1) := kqo_60 kbl_X9_readFont (pc := 56) rfl
theorem dX9_readFont_57 : decode cX9_readFont 57 = .ok (.putfield 77, 3) := kqo_b5 (x1 := 0) (x2 := 77) kbl_X9_readFont (pc := 57) rfl rfl
theorem dX9_readFont_60 : decode cX9_readFont 60 = .ok (.aload_n 0, 1) := kqo_2a kbl_X9_readFont (pc := 60) rfl
theorem dX9_readFont_61 : decode cX9_readFont 61 = .ok (.getfield 77, 3) := kqo_b4 (x1 := 0) (x2 := 77) kbl_X9_readFont (pc := 61) rfl rfl
theorem dX9_readFont_64 : decode cX9_readFont 64 = .ok (.iload_n 1, 1) := kqo_1b kbl_X9_readFont (pc := 64) rfl
theorem dX9_readFont_65 : decode cX9_readFont 65 = .ok (.if_icmp .ge 22, 3) := kqo_a2 (x1 := 0) (x2 := 22) kbl_X9_readFont (pc := 65) rfl rfl
theorem dX9_readFont_68 : decode cX9_readFont 68 = .ok (.aload_n 0, 1) := kqo_2a kbl_X9_readFont (pc := 68) rfl
theorem dX9_readFont_69 : decode cX9_readFont 69 = .ok (.getfield 16, 3) := kqo_b4 (x1 := 0) (x2 := 16) kbl_X9_readFont (pc := 69) rfl rfl
theorem dX9_readFont_72 : decode cX9_readFont 72 = .ok (.aload_n 0, 1) := kqo_2a kbl_X9_readFont (pc := 72) rfl
theorem dX9_readFont_73 : decode cX9_readFont 73 = .ok (.getfield 77, 3) := kqo_b4 (x1 := 0) (x2 := 77) kbl_X9_readFont (pc := 73) rfl rfl
theorem dX9_readFont_76 : decode cX9_readFont 76 = .ok (.iaload, 1) := kqo_2e kbl_X9_readFont (pc := 76) rfl
theorem dX9_readFont_77 : decode cX9_readFont 77 = .ok (.bipush 49, 2) := kqo_10 (x1 := 49) kbl_X9_readFont (pc := 77) rfl rfl
theorem dX9_readFont_79 : decode cX9_readFont 79 = .ok (.bipush 57, 2) := kqo_10 (x1 := 57) kbl_X9_readFont (pc := 79) rfl rfl
theorem dX9_readFont_81 : decode cX9_readFont 81 = .ok (.invokestatic 70, 3) := kqo_b8 (x1 := 0) (x2 := 70) kbl_X9_readFont (pc := 81) rfl rfl
theorem dX9_readFont_84 : decode cX9_readFont 84 = .ok (.ifCond .ne 5, 3) := kqo_9a (x1 := 0) (x2 := 5) kbl_X9_readFont (pc := 84) rfl rfl
theorem dX9_readFont_87 : decode cX9_readFont 87 = .ok (.iconst 0, 1) := kqo_03 kbl_X9_readFont (pc := 87) rfl
theorem dX9_readFont_88 : decode cX9_readFont 88 = .ok (.ireturn, 1) := kqo_ac kbl_X9_readFont (pc := 88) rfl
theorem dX9_readFont_89 : decode cX9_readFont 89 = .ok (.aload_n 0, 1) := kqo_2a kbl_X9_readFont (pc := 89) rfl
theorem dX9_readFont_90 : decode cX9_readFont 90 = .ok (.getfield 40, 3) := kqo_b4 (x1 := 0) (x2 := 40) kbl_X9_readFont (pc := 90) rfl rfl
theorem dX9_readFont_93 : decode cX9_readFont 93 = .ok (.aload_n 0, 1) := kqo_2a kbl_X9_readFont (pc := 93) rfl
theorem dX9_readFont_94 : decode cX9_readFont 94 = .ok (.getfield 98, 3) := kqo_b4 (x1 := 0) (x2 := 98) kbl_X9_readFont (pc := 94) rfl rfl
theorem dX9_readFont_97 : decode cX9_readFont 97 = .ok (.aload_n 0, 1) := kqo_2a kbl_X9_readFont (pc := 97) rfl
theorem dX9_readFont_98 : decode cX9_readFont 98 = .ok (.getfield 16, 3) := kqo_b4 (x1 := 0) (x2 := 16) kbl_X9_readFont (pc := 98) rfl rfl
theorem dX9_readFont_101 : decode cX9_readFont 101 = .ok (.aload_n 0, 1) := kqo_2a kbl_X9_readFont (pc := 101) rfl
theorem dX9_readFont_102 : decode cX9_readFont 102 = .ok (.getfield 77, 3) := kqo_b4 (x1 := 0) (x2 := 77) kbl_X9_readFont (pc := 102) rfl rfl
theorem dX9_readFont_105 : decode cX9_readFont 105 = .ok (.iaload, 1) := kqo_2e kbl_X9_readFont (pc := 105) rfl
theorem dX9_readFont_106 : decode cX9_readFont 106 = .ok (.bipush 48, 2) := kqo_10 (x1 := 48) kbl_X9_readFont (pc := 106) rfl rfl
theorem dX9_readFont_108 : decode cX9_readFont 108 = .ok (.isub, 1) := kqo_64 kbl_X9_readFont (pc := 108) rfl
theorem dX9_readFont_109 : decode cX9_readFont 109 = .ok (.iastore, 1) := kqo_4f kbl_X9_readFont (pc := 109) rfl
theorem dX9_readFont_110 : decode cX9_readFont 110 = .ok (.aload_n 0, 1) := kqo_2a kbl_X9_readFont (pc := 110) rfl
theorem dX9_readFont_111 : decode cX9_readFont 111 = .ok (.dup, 1) := kqo_59 kbl_X9_readFont (pc := 111) rfl
theorem dX9_readFont_112 : decode cX9_readFont 112 = .ok (.getfield 77, 3) := kqo_b4 (x1 := 0) (x2 := 77) kbl_X9_readFont (pc := 112) rfl rfl
theorem dX9_readFont_115 : decode cX9_readFont 115 = .ok (.iconst 1, 1) := kqo_04 kbl_X9_readFont (pc := 115) rfl
theorem dX9_readFont_116 : decode cX9_readFont 116 = .ok (.iadd, 1) := kqo_60 kbl_X9_readFont (pc := 116) rfl
theorem dX9_readFont_117 : decode cX9_readFont 117 = .ok (.putfield 77, 3) := kqo_b5 (x1 := 0) (x2 := 77) kbl_X9_readFont (pc := 117) rfl rfl
theorem dX9_readFont_120 : decode cX9_readFont 120 = .ok (.iconst 0, 1) := kqo_03 kbl_X9_readFont (pc := 120) rfl
theorem dX9_readFont_121 : decode cX9_readFont 121 = .ok (.istore_n 2, 1) := kqo_3d kbl_X9_readFont (pc := 121) rfl
theorem dX9_readFont_122 : decode cX9_readFont 122 = .ok (.iconst 1, 1) := kqo_04 kbl_X9_readFont (pc := 122) rfl
theorem dX9_readFont_123 : decode cX9_readFont 123 = .ok (.istore_n 3, 1) := kqo_3e kbl_X9_readFont (pc := 123) rfl
theorem dX9_readFont_124 : decode cX9_readFont 124 = .ok (.iload_n 3, 1) := kqo_1d kbl_X9_readFont (pc := 124) rfl
theorem dX9_readFont_125 : decode cX9_readFont 125 = .ok (.ifCond .eq 84, 3) := kqo_99 (x1 := 0) (x2 := 84) kbl_X9_readFont (pc := 125) rfl rfl
theorem dX9_readFont_128 : decode cX9_readFont 128 = .ok (.iload_n 2, 1) := kqo_1c kbl_X9_readFont (pc := 128) rfl
theorem dX9_readFont_129 : decode cX9_readFont 129 = .ok (.invokestatic 114, 3) := kqo_b8 (x1 := 0) (x2 := 114) kbl_X9_readFont (pc := 129) rfl rfl
theorem dX9_readFont_132 : decode cX9_readFont 132 = .ok (.bipush 8, 2) := kqo_10 (x1 := 8) kbl_X9_readFont (pc := 132) rfl rfl
theorem dX9_readFont_134 : decode cX9_readFont 134 = .ok (.if_icmp .ge 75, 3) := kqo_a2 (x1 := 0) (x2 := 75) kbl_X9_readFont (pc := 134) rfl rfl
theorem dX9_readFont_137 : decode cX9_readFont 137 = .ok (.aload_n 0, 1) := kqo_2a kbl_X9_readFont (pc := 137) rfl
theorem dX9_readFont_138 : decode cX9_readFont 138 = .ok (.getfield 77, 3) := kqo_b4 (x1 := 0) (x2 := 77) kbl_X9_readFont (pc := 138) rfl rfl
theorem dX9_readFont_141 : decode cX9_readFont 141 = .ok (.iload_n 1, 1) := kqo_1b kbl_X9_readFont (pc := 141) rfl
theorem dX9_readFont_142 : decode cX9_readFont 142 = .ok (.if_icmp .ge 67, 3) := kqo_a2 (x1 := 0) (x2 := 67) kbl_X9_readFont (pc := 142) rfl rfl
theorem dX9_readFont_145 : decode cX9_readFont 145 = .ok (.aload_n 0, 1) := kqo_2a kbl_X9_readFont (pc := 145) rfl
theorem dX9_readFont_146 : decode cX9_readFont 146 = .ok (.getfield 16, 3) := kqo_b4 (x1 := 0) (x2 := 16) kbl_X9_readFont (pc := 146) rfl rfl
theorem dX9_readFont_149 : decode cX9_readFont 149 = .ok (.aload_n 0, 1) := kqo_2a kbl_X9_readFont (pc := 149) rfl
theorem dX9_readFont_150 : decode cX9_readFont 150 = .ok (.getfield 77, 3) := kqo_b4 (x1 := 0) (x2 := 77) kbl_X9_readFont (pc := 150) rfl rfl
theorem dX9_readFont_153 : decode cX9_readFont 153 = .ok (.iaload, 1) := kqo_2e kbl_X9_readFont (pc := 153) rfl
theorem dX9_readFont_154 : decode cX9_readFont 154 = .ok (.bipush 97, 2) := kqo_10 (x1 := 97) kbl_X9_readFont (pc := 154) rfl rfl
theorem dX9_readFont_156 : decode cX9_readFont 156 = .ok (.isub, 1) := kqo_64 kbl_X9_readFont (pc := 156) rfl
theorem dX9_readFont_157 : decode cX9_readFont 157 = .ok (.istore 4, 2) := kqo_36 (x1 := 4) kbl_X9_readFont (pc := 157) rfl rfl
theorem dX9_readFont_159 : decode cX9_readFont 159 = .ok (.iload 4, 2) := kqo_15 (x1 := 4) kbl_X9_readFont (pc := 159) rfl rfl
theorem dX9_readFont_161 : decode cX9_readFont 161 = .ok (.iconst 0, 1) := kqo_03 kbl_X9_readFont (pc := 161) rfl
theorem dX9_readFont_162 : decode cX9_readFont 162 = .ok (.bipush 15, 2) := kqo_10 (x1 := 15) kbl_X9_readFont (pc := 162) rfl rfl
theorem dX9_readFont_164 : decode cX9_readFont 164 = .ok (.invokestatic 70, 3) := kqo_b8 (x1 := 0) (x2 := 70) kbl_X9_readFont (pc := 164) rfl rfl
theorem dX9_readFont_167 : decode cX9_readFont 167 = .ok (.ifCond .eq 16, 3) := kqo_99 (x1 := 0) (x2 := 16) kbl_X9_readFont (pc := 167) rfl rfl
theorem dX9_readFont_170 : decode cX9_readFont 170 = .ok (.iload_n 2, 1) := kqo_1c kbl_X9_readFont (pc := 170) rfl
theorem dX9_readFont_171 : decode cX9_readFont 171 = .ok (.iload 4, 2) := kqo_15 (x1 := 4) kbl_X9_readFont (pc := 171) rfl rfl
theorem dX9_readFont_173 : decode cX9_readFont 173 = .ok (.invokestatic 117, 3) := kqo_b8 (x1 := 0) (x2 := 117) kbl_X9_readFont (pc := 173) rfl rfl
theorem dX9_readFont_176 : decode cX9_readFont 176 = .ok (.ifCond .ne 7, 3) := kqo_9a (x1 := 0) (x2 := 7) kbl_X9_readFont (pc := 176) rfl rfl
theorem dX9_readFont_179 : decode cX9_readFont 179 = .ok (.iconst 1, 1) := kqo_04 kbl_X9_readFont (pc := 179) rfl
theorem dX9_readFont_180 : decode cX9_readFont 180 = .ok (.goto 4, 3) := kqo_a7 (x1 := 0) (x2 := 4) kbl_X9_readFont (pc := 180) rfl rfl
theorem dX9_readFont_183 : decode cX9_readFont 183 = .ok (.iconst 0, 1) := kqo_03 kbl_X9_readFont (pc := 183) rfl
theorem dX9_readFont_184 : decode cX9_readFont 184 = .ok (.istore_n 3, 1) := kqo_3e kbl_X9_readFont (pc := 184) rfl
theorem dX9_readFont_185 : decode cX9_readFont 185 = .ok (.iload_n 3, 1) := kqo_1d kbl_X9_readFont (pc := 185) rfl
theorem dX9_readFont_186 : decode cX9_readFont 186 = .ok (.ifCond .eq 20, 3) := kqo_99 (x1 := 0) (x2 := 20) kbl_X9_readFont (pc := 186) rfl rfl
theorem dX9_readFont_189 : decode cX9_readFont 189 = .ok (.iload_n 2, 1) := kqo_1c kbl_X9_readFont (pc := 189) rfl
theorem dX9_readFont_190 : decode cX9_readFont 190 = .ok (.iconst 1, 1) := kqo_04 kbl_X9_readFont (pc := 190) rfl
theorem dX9_readFont_191 : decode cX9_readFont 191 = .ok (.iload 4, 2) := kqo_15 (x1 := 4) kbl_X9_readFont (pc := 191) rfl rfl
theorem dX9_readFont_193 : decode cX9_readFont 193 = .ok (.ishl, 1) := kqo_78 kbl_X9_readFont (pc := 193) rfl
theorem dX9_readFont_194 : decode cX9_readFont 194 = .ok (.ior, 1) := kqo_80 kbl_X9_readFont (pc := 194) rfl
theorem dX9_readFont_195 : decode cX9_readFont 195 = .ok (.istore_n 2, 1) := kqo_3d kbl_X9_readFont (pc := 195) rfl
theorem dX9_readFont_196 : decode cX9_readFont 196 = .ok (.aload_n 0, 1) := kqo_2a kbl_X9_readFont (pc := 196) rfl
theorem dX9_readFont_197 : decode cX9_readFont 197 = .ok (.dup, 1) := kqo_59 kbl_X9_readFont (pc := 197) rfl
theorem dX9_readFont_198 : decode cX9_readFont 198 = .ok (.getfield 77, 3) := kqo_b4 (x1 := 0) (x2 := 77) kbl_X9_readFont (pc := 198) rfl rfl
theorem dX9_readFont_201 : decode cX9_readFont 201 = .ok (.iconst 1, 1) := kqo_04 kbl_X9_readFont (pc := 201) rfl
theorem dX9_readFont_202 : decode cX9_readFont 202 = .ok (.iadd, 1) := kqo_60 kbl_X9_readFont (pc := 202) rfl
theorem dX9_readFont_203 : decode cX9_readFont 203 = .ok (.putfield 77, 3) := kqo_b5 (x1 := 0) (x2 := 77) kbl_X9_readFont (pc := 203) rfl rfl
theorem dX9_readFont_206 : decode cX9_readFont 206 = .ok (.goto (-82), 3) := kqo_a7 (x1 := 255) (x2 := 174) kbl_X9_readFont (pc := 206) rfl rfl
theorem dX9_readFont_209 : decode cX9_readFont 209 = .ok (.aload_n 0, 1) := kqo_2a kbl_X9_readFont (pc := 209) rfl
theorem dX9_readFont_210 : decode cX9_readFont 210 = .ok (.getfield 43, 3) := kqo_b4 (x1 := 0) (x2 := 43) kbl_X9_readFont (pc := 210) rfl rfl
theorem dX9_readFont_213 : decode cX9_readFont 213 = .ok (.aload_n 0, 1) := kqo_2a kbl_X9_readFont (pc := 213) rfl
theorem dX9_readFont_214 : decode cX9_readFont 214 = .ok (.getfield 98, 3) := kqo_b4 (x1 := 0) (x2 := 98) kbl_X9_readFont (pc := 214) rfl rfl
theorem dX9_readFont_217 : decode cX9_readFont 217 = .ok (.iload_n 2, 1) := kqo_1c kbl_X9_readFont (pc := 217) rfl
theorem dX9_readFont_218 : decode cX9_readFont 218 = .ok (.iastore, 1) := kqo_4f kbl_X9_readFont (pc := 218) rfl
theorem dX9_readFont_219 : decode cX9_readFont 219 = .ok (.aload_n 0, 1) := kqo_2a kbl_X9_readFont (pc := 219) rfl
theorem dX9_readFont_220 : decode cX9_readFont 220 = .ok (.dup, 1) := kqo_59 kbl_X9_readFont (pc := 220) rfl
theorem dX9_readFont_221 : decode cX9_readFont 221 = .ok (.getfield 98, 3) := kqo_b4 (x1 := 0) (x2 := 98) kbl_X9_readFont (pc := 221) rfl rfl
theorem dX9_readFont_224 : decode cX9_readFont 224 = .ok (.iconst 1, 1) := kqo_04 kbl_X9_readFont (pc := 224) rfl
theorem dX9_readFont_225 : decode cX9_readFont 225 = .ok (.iadd, 1) := kqo_60 kbl_X9_readFont (pc := 225) rfl
theorem dX9_readFont_226 : decode cX9_readFont 226 = .ok (.putfield 98, 3) := kqo_b5 (x1 := 0) (x2 := 98) kbl_X9_readFont (pc := 226) rfl rfl
theorem dX9_readFont_229 : decode cX9_readFont 229 = .ok (.iload_n 2, 1) := kqo_1c kbl_X9_readFont (pc := 229) rfl
theorem dX9_readFont_230 : decode cX9_readFont 230 = .ok (.ifCond .eq 7, 3) := kqo_99 (x1 := 0) (x2 := 7) kbl_X9_readFont (pc := 230) rfl rfl
theorem dX9_readFont_233 : decode cX9_readFont 233 = .ok (.iconst 1, 1) := kqo_04 kbl_X9_readFont (pc := 233) rfl
theorem dX9_readFont_234 : decode cX9_readFont 234 = .ok (.goto 4, 3) := kqo_a7 (x1 := 0) (x2 := 4) kbl_X9_readFont (pc := 234) rfl rfl
theorem dX9_readFont_237 : decode cX9_readFont 237 = .ok (.iconst 0, 1) := kqo_03 kbl_X9_readFont (pc := 237) rfl
theorem dX9_readFont_238 : decode cX9_readFont 238 = .ok (.ireturn, 1) := kqo_ac kbl_X9_readFont (pc := 238) rfl
set_option maxRecDepth 20000 in
theorem ggX9_readFont_X9_isOf : GoodIn wsX9_readFont wsX9_isOf := goodIn_4 _ (List.forall_mem_cons.mpr ⟨List.mem_cons_of_mem _ (List.mem_append_left _ (List.mem_of_getElem? (i := 15) rfl)), fun _ h9 => absurd h9 List.not_mem_nil⟩) (by decide +kernel)
set_option maxRecDepth 20000 in
theorem gX9_readFont_X9_isOf : GoodIn wsX9_readFont (va_wsS RX9 117 yX9_isOf wsX9_isOf) := goodIn_app (goodIn_4 _ (List.forall_mem_cons.mpr ⟨List.mem_cons_of_mem _ (List.mem_append_left _ (List.mem_of_getElem? (i := 13) rfl)), List.forall_mem_cons.mpr ⟨List.mem_cons_of_mem _ (List.mem_append_left _ (List.mem_of_getElem? (i := 14) rfl)), List.forall_mem_cons.mpr ⟨List.mem_cons_of_mem _ (List.mem_append_left _ (List.mem_of_getElem? (i := 8) rfl)), fun _ h9 => absurd h9 List.not_mem_nil⟩⟩⟩) (by decide +kernel)) ggX9_readFont_X9_isOf
set_option maxRecDepth 20000 in
theorem ggX9_readFont_X9_size : GoodIn wsX9_readFont wsX9_size := goodIn_4 _ (List.forall_mem_cons.mpr ⟨List.mem_cons_of_mem _ (List.mem_append_left _ (List.mem_of_getElem? (i := 12) rfl)), fun _ h9 => absurd h9 List.not_mem_nil⟩) (by decide +kernel)
set_option maxRecDepth 20000 in
theorem gX9_readFont_X9_size : GoodIn wsX9_readFont (va_wsS RX9 114 yX9_size wsX9_size) := goodIn_app (goodIn_4 _ (List.forall_mem_cons.mpr ⟨List.mem_cons_of_mem _ (List.mem_append_left _ (List.mem_of_getElem? (i := 10) rfl)), List.forall_mem_cons.mpr ⟨List.mem_cons_of_mem _ (List.mem_append_left _ (List.mem_of_getElem? (i := 11) rfl)), List.forall_mem_cons.mpr ⟨List.mem_cons_of_mem _ (List.mem_append_left _ (List.mem_of_getElem? (i := 8) rfl)), fun _ h9 => absurd h9 List.not_mem_nil⟩⟩⟩) (by decide +kernel)) ggX9_readFont_X9_size
set_option maxRecDepth 20000 in
theorem ggX9_readFont_X9_within : GoodIn wsX9_readFont wsX9_within := goodIn_4 _ (List.forall_mem_cons.mpr ⟨List.mem_cons_of_mem _ (List.mem_append_left _ (List.mem_of_getElem? (i := 9) rfl)), fun _ h9 => absurd h9 List.not_mem_nil⟩) (by decide +kernel)
set_option maxRecDepth 20000 in
theorem gX9_readFont_X9_within : GoodIn wsX9_readFont (va_wsS RX9 70 yX9_within wsX9_within) := goodIn_app (goodIn_4 _ (List.forall_mem_cons.mpr ⟨List.mem_cons_of_mem _ (List.mem_append_left _ (List.mem_of_getElem? (i := 6) rfl)), List.forall_mem_cons.mpr ⟨List.mem_cons_of_mem _ (List.mem_append_left _ (List.mem_of_getElem? (i := 7) rfl)), List.forall_mem_cons.mpr ⟨List.mem_cons_of_mem _ (List.mem_append_left _ (List.mem_of_getElem? (i := 8) rfl)), fun _ h9 => absurd h9 List.not_mem_nil⟩⟩⟩) (by decide +kernel)) ggX9_readFont_X9_within
set_option maxRecDepth 20000 in
theorem mw_X9_readFont_0 : (.fieldLink RX9 77 "FontRunsModel" "at" "I" : Cond) ∈ wsX9_readFont := List.mem_cons_of_mem _ (List.mem_append_left _ (List.mem_of_getElem? (i := 0) rfl))
set_option maxRecDepth 20000 in
theorem mw_X9_readFont_1 : (.fieldLink RX9 16 "FontRunsModel" "cells" "[I" : Cond) ∈ wsX9_readFont := List.mem_cons_of_mem _ (List.mem_append_left _ (List.mem_of_getElem? (i := 1) rfl))
set_option maxRecDepth 20000 in
theorem mw_X9_readFont_2 : (.fieldLink RX9 37 "FontRunsModel" "readKind" "[I" : Cond) ∈ wsX9_readFont := List.mem_cons_of_mem _ (List.mem_append_left _ (List.mem_of_getElem? (i := 2) rfl))
set_option maxRecDepth 20000 in
theorem mw_X9_readFont_3 : (.fieldLink RX9 98 "FontRunsModel" "readFonts" "I" : Cond) ∈ wsX9_readFont := List.mem_cons_of_mem _ (List.mem_append_left _ (List.mem_of_getElem? (i := 3) rfl))
set_option maxRecDepth 20000 in
theorem mw_X9_readFont_4 : (.fieldLink RX9 40 "FontRunsModel" "readWidth" "[I" : Cond) ∈ wsX9_readFont := List.mem_cons_of_mem _ (List.mem_append_left _ (List.mem_of_getElem? (i := 4) rfl))
set_option maxRecDepth 20000 in
theorem mw_X9_readFont_5 : (.fieldLink RX9 43 "FontRunsModel" "readHas" "[I" : Cond) ∈ wsX9_readFont := List.mem_cons_of_mem _ (List.mem_append_left _ (List.mem_of_getElem? (i := 5) rfl))
theorem ax_X9_readFont_0 {e0 e1 e2 e3 e4 : Nat × va_E} : ([0, 1, 2, 3, 4] : List Nat).map (fun i => ([e0, e1, e2, e3, e4] : va_W)[i]?) = ([e0, e1, e2, e3, e4] : va_W).map some := rfl
theorem ax_X9_readFont_1 {e0 e1 e2 e3 e4 : Nat × va_E} : ([] : List Nat).map (fun i => ([e0, e1, e2, e3, e4] : va_W)[i]?) = ([] : va_W).map some := rfl
set_option maxHeartbeats 4000000 in
set_option maxRecDepth 100000 in
theorem c_X9_readFont (l : Launch) (D : va_G) (sz : Nat) (en : Int) (h0 : Nat) (fa : Int) (tc : Int) (so : Nat) (sl : Nat) (ce : Nat) (fn : Int) (kd : Nat) (wd : Nat) (hs : Nat) (pf : Nat) (lt : Nat) (mn : Int) (wg : Nat) (ta : Int) (ck : Int64) (at9 : Int) (rfn : Int) (rk : Nat) (rw : Nat) (rh : Nat) (cl : Int) (sa : Nat) (fi : Nat) (bo : Int) (ch : Nat) (cn : Nat) (ad : Int) (ru : Int) (kp : Nat) (dn : Int) (rfa : Nat) (c_ce : ClassId) (f_ce : Nat → Int32) (c_rk : ClassId) (f_rk : Nat → Int32) (c_rw : ClassId) (f_rw : Nat → Int32) (c_rh : ClassId) (f_rh : Nat → Int32) (o : Int) (A0 : Nat → Int32) (B0 : Nat → Int32) (C0 : Nat → Int32) (q0 : en ≤ 240 ∧ 0 ≤ en) (q1 : 0 ≤ rfn ∧ rfn ≤ 3) (q2 : o ≤ at9 ∧ at9 ≤ en) (q3 : kGo (kCd f_ce o) A0 B0 C0 (kNa (at9 - o)) = some (2, rfn + 1, f_rk, f_rw, upd f_rh rfn.toNat (zI 0))) (q4 : 0 ≤ at9 ∧ at9 ≤ 240) : Met l yX9_readFont wsX9_readFont ({ frames := 1, cells := 0, slots := 0, locals := 22 }) (kPre [.ref h0, .int (zI en)] D [(h0, .inr (9, [.int (zI fa), .int (zI tc), .ref so, .ref sl, .ref ce, .int (zI fn), .ref kd, .ref wd, .ref hs, .ref pf, .ref lt, .int (zI mn), .ref wg, .int (zI ta), .long ck, .int (zI at9), .int (zI rfn), .ref rk, .ref rw, .ref rh, .int (zI cl), .ref sa, .ref fi, .int (zI bo), .ref ch, .ref cn, .int (zI ad), .int (zI ru), .ref kp, .int (zI dn), .ref rfa])), (ce, .inl (c_ce, 240, .inl f_ce)), (rk, .inl (c_rk, 4, .inl f_rk)), (rw, .inl (c_rw, 4, .inl f_rw)), (rh, .inl (c_rh, 4, .inl f_rh))] [(c_ce, .int), (c_rk, .int), (c_rw, .int), (c_rh, .int)] sz) (kQS (fun rz t => ∃ (u_at9 : Int) (u_rfn : Int) (u_f_rk : Nat → Int32) (u_f_rw : Nat → Int32) (u_f_rh : Nat → Int32), (0 ≤ u_at9 ∧ u_at9 ≤ 240) ∧ (kRf f_ce A0 B0 C0 o en u_at9 rfn u_rfn u_f_rk u_f_rw u_f_rh rz) ∧ (o ≤ u_at9 ∧ u_at9 ≤ en) ∧ (u_rfn = rfn ∨ u_rfn = rfn + 1) ∧ (rz = 0 ∨ (rz = 1 ∧ u_rfn = rfn + 1)) ∧ va_P D vwCl [(h0, .inr (9, [.int (zI fa), .int (zI tc), .ref so, .ref sl, .ref ce, .int (zI fn), .ref kd, .ref wd, .ref hs, .ref pf, .ref lt, .int (zI mn), .ref wg, .int (zI ta), .long ck, .int (zI u_at9), .int (zI u_rfn), .ref rk, .ref rw, .ref rh, .int (zI cl), .ref sa, .ref fi, .int (zI bo), .ref ch, .ref cn, .int (zI ad), .int (zI ru), .ref kp, .int (zI dn), .ref rfa])), (ce, .inl (c_ce, 240, .inl f_ce)), (rk, .inl (c_rk, 4, .inl u_f_rk)), (rw, .inl (c_rw, 4, .inl u_f_rw)), (rh, .inl (c_rh, 4, .inl u_f_rh))] t.heap ∧ va_D (va_A [(h0, .inr (9, [.int (zI fa), .int (zI tc), .ref so, .ref sl, .ref ce, .int (zI fn), .ref kd, .ref wd, .ref hs, .ref pf, .ref lt, .int (zI mn), .ref wg, .int (zI ta), .long ck, .int (zI at9), .int (zI rfn), .ref rk, .ref rw, .ref rh, .int (zI cl), .ref sa, .ref fi, .int (zI bo), .ref ch, .ref cn, .int (zI ad), .int (zI ru), .ref kp, .int (zI dn), .ref rfa])), (ce, .inl (c_ce, 240, .inl f_ce)), (rk, .inl (c_rk, 4, .inl f_rk)), (rw, .inl (c_rw, 4, .inl f_rw)), (rh, .inl (c_rh, 4, .inl f_rh))] sz) [(h0, .inr (9, [.int (zI fa), .int (zI tc), .ref so, .ref sl, .ref ce, .int (zI fn), .ref kd, .ref wd, .ref hs, .ref pf, .ref lt, .int (zI mn), .ref wg, .int (zI ta), .long ck, .int (zI u_at9), .int (zI u_rfn), .ref rk, .ref rw, .ref rh, .int (zI cl), .ref sa, .ref fi, .int (zI bo), .ref ch, .ref cn, .int (zI ad), .int (zI ru), .ref kp, .int (zI dn), .ref rfa])), (ce, .inl (c_ce, 240, .inl f_ce)), (rk, .inl (c_rk, 4, .inl u_f_rk)), (rw, .inl (c_rw, 4, .inl u_f_rw)), (rh, .inl (c_rh, 4, .inl u_f_rh))]) (va_A [(h0, .inr (9, [.int (zI fa), .int (zI tc), .ref so, .ref sl, .ref ce, .int (zI fn), .ref kd, .ref wd, .ref hs, .ref pf, .ref lt, .int (zI mn), .ref wg, .int (zI ta), .long ck, .int (zI at9), .int (zI rfn), .ref rk, .ref rw, .ref rh, .int (zI cl), .ref sa, .ref fi, .int (zI bo), .ref ch, .ref cn, .int (zI ad), .int (zI ru), .ref kp, .int (zI dn), .ref rfa])), (ce, .inl (c_ce, 240, .inl f_ce)), (rk, .inl (c_rk, 4, .inl f_rk)), (rw, .inl (c_rw, 4, .inl f_rw)), (rh, .inl (c_rh, 4, .inl f_rh))] sz)) 0 0 (va_A [(h0, .inr (9, [.int (zI fa), .int (zI tc), .ref so, .ref sl, .ref ce, .int (zI fn), .ref kd, .ref wd, .ref hs, .ref pf, .ref lt, .int (zI mn), .ref wg, .int (zI ta), .long ck, .int (zI at9), .int (zI rfn), .ref rk, .ref rw, .ref rh, .int (zI cl), .ref sa, .ref fi, .int (zI bo), .ref ch, .ref cn, .int (zI ad), .int (zI ru), .ref kp, .int (zI dn), .ref rfa])), (ce, .inl (c_ce, 240, .inl f_ce)), (rk, .inl (c_rk, 4, .inl f_rk)), (rw, .inl (c_rw, 4, .inl f_rw)), (rh, .inl (c_rh, 4, .inl f_rh))] sz) := by
  refine Met.ofW (cc := cX9_readFont) (maxL := 5) (ret := (some .boolean)) (by decide) rfl ?_
  intro p e s m args below meth c s₁ B hml hv
  obtain ⟨rfl, hsz, hP, hK, hD0, hN⟩ := hv
  have hx := B.exec
  have hb := B.bytes
  have hr := B.returns
  have hts := atoms_spec (ws := wsX9_readFont) B.pre
  have hown : s.vm.findClass RX9 = some m.cls := findClass_of_methodNamed B.named
  have hlocks := B.notSynchronized
  subst hsz
  have hD := hD0.self (sz := s.heap.size)
  generalize hAe : va_A [(h0, .inr (9, [.int (zI fa), .int (zI tc), .ref so, .ref sl, .ref ce, .int (zI fn), .ref kd, .ref wd, .ref hs, .ref pf, .ref lt, .int (zI mn), .ref wg, .int (zI ta), .long ck, .int (zI at9), .int (zI rfn), .ref rk, .ref rw, .ref rh, .int (zI cl), .ref sa, .ref fi, .int (zI bo), .ref ch, .ref cn, .int (zI ad), .int (zI ru), .ref kp, .int (zI dn), .ref rfa])), (ce, .inl (c_ce, 240, .inl f_ce)), (rk, .inl (c_rk, 4, .inl f_rk)), (rw, .inl (c_rw, 4, .inl f_rw)), (rh, .inl (c_rh, 4, .inl f_rh))] s.heap.size = A at hD ⊢
  have hA : ∀ q : Nat, s.heap.size ≤ q → A q := fun q h => by rw [← hAe]; exact Or.inr h
  have hS : va_S A s.heap s.heap [] := va_S.rf
  have hP : va_P D vwCl [(h0, .inr (9, [.int (zI fa), .int (zI tc), .ref so, .ref sl, .ref ce, .int (zI fn), .ref kd, .ref wd, .ref hs, .ref pf, .ref lt, .int (zI mn), .ref wg, .int (zI ta), .long ck, .int (zI at9), .int (zI rfn), .ref rk, .ref rw, .ref rh, .int (zI cl), .ref sa, .ref fi, .int (zI bo), .ref ch, .ref cn, .int (zI ad), .int (zI ru), .ref kp, .int (zI dn), .ref rfa])), (ce, .inl (c_ce, 240, .inl f_ce)), (rk, .inl (c_rk, 4, .inl f_rk)), (rw, .inl (c_rw, 4, .inl f_rw)), (rh, .inl (c_rh, 4, .inl f_rh))] s.heap := hP
  have hl := lv_entry ([.ref h0, .int (zI en)]) (n := 5) (Nat.le_of_ble_eq_true rfl)
  rw [lg_entry_eq]
  generalize (lg_sl ([.ref h0, .int (zI en)]) ++ List.replicate (5 - (lg_sl ([.ref h0, .int (zI en)])).length) Slot.unset).toArray = ls at hl ⊢
  have hl : lv_has ls 5 [(0, .ref h0), (1, .int (zI en))] := hl
  refine lv_aload_n hx hb dX9_readFont_0 rfl (lv_at hl 0 rfl) ?_
  refine va_get (D := D) (ci := 9) (v := .int (zI at9)) (C := RX9) (T := TX9) (N := 31) hx hb hts (fun _ h9 => List.mem_cons_of_mem _ (List.mem_append_right _ h9)) hown hK hP 0 rfl rfl 15 (by decide) (hts (.fieldLink RX9 77 "FontRunsModel" "at" "I") mw_X9_readFont_0) (fun _ h9 => h9) rfl dX9_readFont_1 ?_
  refine lv_iload_n hx hb dX9_readFont_4 rfl (lv_at hl 1 rfl) ?_
  refine kz_icmp_ge (tgt := 27) hx hb dX9_readFont_5 (by decide) (by omega) (by omega) (fun c_1 => ?_) (fun c_1 => ?_)
  · refine lv_iconst (v := zI 0) hx hb dX9_readFont_27 rfl ?_
    have hP9 := hP.sub (ws' := [(h0, .inr (9, [.int (zI fa), .int (zI tc), .ref so, .ref sl, .ref ce, .int (zI fn), .ref kd, .ref wd, .ref hs, .ref pf, .ref lt, .int (zI mn), .ref wg, .int (zI ta), .long ck, .int (zI at9), .int (zI rfn), .ref rk, .ref rw, .ref rh, .int (zI cl), .ref sa, .ref fi, .int (zI bo), .ref ch, .ref cn, .int (zI ad), .int (zI ru), .ref kp, .int (zI dn), .ref rfa])), (ce, .inl (c_ce, 240, .inl f_ce)), (rk, .inl (c_rk, 4, .inl f_rk)), (rw, .inl (c_rw, 4, .inl f_rw)), (rh, .inl (c_rh, 4, .inl f_rh))]) [0, 1, 2, 3, 4] rfl
    have hD9 := hD.sub (ws' := [(h0, .inr (9, [.int (zI fa), .int (zI tc), .ref so, .ref sl, .ref ce, .int (zI fn), .ref kd, .ref wd, .ref hs, .ref pf, .ref lt, .int (zI mn), .ref wg, .int (zI ta), .long ck, .int (zI at9), .int (zI rfn), .ref rk, .ref rw, .ref rh, .int (zI cl), .ref sa, .ref fi, .int (zI bo), .ref ch, .ref cn, .int (zI ad), .int (zI ru), .ref kp, .int (zI dn), .ref rfa])), (ce, .inl (c_ce, 240, .inl f_ce)), (rk, .inl (c_rk, 4, .inl f_rk)), (rw, .inl (c_rw, 4, .inl f_rw)), (rh, .inl (c_rh, 4, .inl f_rh))]) [0, 1, 2, 3, 4] (by decide +kernel) rfl
    exact W.zret (v := (zI 0)) hx hb hr rfl (fun t ht hW => kQS_of (by omega) ⟨at9, rfn, f_rk, f_rw, f_rh, q4, (kRf_0 rfl (kBadE q3 (by decide) (by omega))), q2, (by omega), (by omega), by rw [ht]; exact hP9, hD9⟩ (hS.F ht)) hS.2.2 dX9_readFont_28
  · refine lv_aload_n hx hb dX9_readFont_8 rfl (lv_at hl 0 rfl) ?_
    refine va_get (D := D) (ci := 9) (v := .ref ce) (C := RX9) (T := TX9) (N := 31) hx hb hts (fun _ h9 => List.mem_cons_of_mem _ (List.mem_append_right _ h9)) hown hK hP 0 rfl rfl 4 (by decide) (hts (.fieldLink RX9 16 "FontRunsModel" "cells" "[I") mw_X9_readFont_1) (fun _ h9 => h9) rfl dX9_readFont_9 ?_
    refine lv_aload_n hx hb dX9_readFont_12 rfl (lv_at hl 0 rfl) ?_
    refine va_get (D := D) (ci := 9) (v := .int (zI at9)) (C := RX9) (T := TX9) (N := 31) hx hb hts (fun _ h9 => List.mem_cons_of_mem _ (List.mem_append_right _ h9)) hown hK hP 0 rfl rfl 15 (by decide) (hts (.fieldLink RX9 77 "FontRunsModel" "at" "I") mw_X9_readFont_0) (fun _ h9 => h9) rfl dX9_readFont_13 ?_
    refine kz_iald hx hb hK hP 1 0 rfl rfl (by omega) dX9_readFont_16 (fun z_2 rz_2 ez_2 => ?_)
    refine lv_bipush (v := zI 65) hx hb dX9_readFont_17 (by decide) ?_
    refine lv_bipush (v := zI 67) hx hb dX9_readFont_19 (by decide) ?_
    refine k_callR (va_runS (As := [.int (zI z_2), .int (zI 65), .int (zI 67)]) (rest := []) ⟨hx, hb, hml, hown, hts⟩ (c_X9_within l D s.heap.size (v := z_2) (a := 65) (b := 67) (by omega) (by omega) (by omega)) (va_cwS 3 hts gX9_readFont_X9_within rfl rfl rfl (by decide +kernel) ⟨Nat.le_of_ble_eq_true rfl, Nat.le_of_ble_eq_true rfl⟩) (kPreS hP (kD0 hD) hK hN [] [] ax_X9_readFont_1 rfl (by decide +kernel)) rfl rfl hl.1 rfl (lv_room (Nat.le_of_ble_eq_true rfl)) dX9_readFont_21 ⟨Nat.le_of_ble_eq_true rfl, Nat.le_of_ble_eq_true rfl⟩) ?_
    refine lv_if_ne (tgt := 29) hx hb dX9_readFont_24 (by decide) (fun c_3 => ?_) (fun c_3 => ?_)
    · have c_3 : 65 ≤ z_2 ∧ z_2 ≤ 67 := b01t c_3
      refine lv_aload_n hx hb dX9_readFont_29 rfl (lv_at hl 0 rfl) ?_
      refine va_get (D := D) (ci := 9) (v := .ref rk) (C := RX9) (T := TX9) (N := 31) hx hb hts (fun _ h9 => List.mem_cons_of_mem _ (List.mem_append_right _ h9)) hown hK hP 0 rfl rfl 17 (by decide) (hts (.fieldLink RX9 37 "FontRunsModel" "readKind" "[I") mw_X9_readFont_2) (fun _ h9 => h9) rfl dX9_readFont_30 ?_
      refine lv_aload_n hx hb dX9_readFont_33 rfl (lv_at hl 0 rfl) ?_
      refine va_get (D := D) (ci := 9) (v := .int (zI rfn)) (C := RX9) (T := TX9) (N := 31) hx hb hts (fun _ h9 => List.mem_cons_of_mem _ (List.mem_append_right _ h9)) hown hK hP 0 rfl rfl 16 (by decide) (hts (.fieldLink RX9 98 "FontRunsModel" "readFonts" "I") mw_X9_readFont_3) (fun _ h9 => h9) rfl dX9_readFont_34 ?_
      refine lv_aload_n hx hb dX9_readFont_37 rfl (lv_at hl 0 rfl) ?_
      refine va_get (D := D) (ci := 9) (v := .ref ce) (C := RX9) (T := TX9) (N := 31) hx hb hts (fun _ h9 => List.mem_cons_of_mem _ (List.mem_append_right _ h9)) hown hK hP 0 rfl rfl 4 (by decide) (hts (.fieldLink RX9 16 "FontRunsModel" "cells" "[I") mw_X9_readFont_1) (fun _ h9 => h9) rfl dX9_readFont_38 ?_
      refine lv_aload_n hx hb dX9_readFont_41 rfl (lv_at hl 0 rfl) ?_
      refine va_get (D := D) (ci := 9) (v := .int (zI at9)) (C := RX9) (T := TX9) (N := 31) hx hb hts (fun _ h9 => List.mem_cons_of_mem _ (List.mem_append_right _ h9)) hown hK hP 0 rfl rfl 15 (by decide) (hts (.fieldLink RX9 77 "FontRunsModel" "at" "I") mw_X9_readFont_0) (fun _ h9 => h9) rfl dX9_readFont_42 ?_
      refine kz_iald hx hb hK hP 1 0 rfl rfl (by omega) dX9_readFont_45 (fun z_4 rz_4 ez_4 => ?_)
      have q9 : z_2 = z_4 := (zI_eq rz_2 rz_4).mp (ez_2.symm.trans ez_4)
      subst q9
      refine lv_bipush (v := zI 65) hx hb dX9_readFont_46 (by decide) ?_
      refine kz_isub hx hb dX9_readFont_48 ?_
      refine kz_iast hx hb hK hP hD hS 2 1 rfl rfl (by omega) dX9_readFont_49 (fun H locs hP hD hS => ?_)
      have hP : va_P D vwCl [(h0, .inr (9, [.int (zI fa), .int (zI tc), .ref so, .ref sl, .ref ce, .int (zI fn), .ref kd, .ref wd, .ref hs, .ref pf, .ref lt, .int (zI mn), .ref wg, .int (zI ta), .long ck, .int (zI at9), .int (zI rfn), .ref rk, .ref rw, .ref rh, .int (zI cl), .ref sa, .ref fi, .int (zI bo), .ref ch, .ref cn, .int (zI ad), .int (zI ru), .ref kp, .int (zI dn), .ref rfa])), (ce, .inl (c_ce, 240, .inl f_ce)), (rk, .inl (c_rk, 4, .inl (upd f_rk (rfn).toNat (zI (z_2 - 65))))), (rw, .inl (c_rw, 4, .inl f_rw)), (rh, .inl (c_rh, 4, .inl f_rh))] H := hP
      have hD : va_D A [(h0, .inr (9, [.int (zI fa), .int (zI tc), .ref so, .ref sl, .ref ce, .int (zI fn), .ref kd, .ref wd, .ref hs, .ref pf, .ref lt, .int (zI mn), .ref wg, .int (zI ta), .long ck, .int (zI at9), .int (zI rfn), .ref rk, .ref rw, .ref rh, .int (zI cl), .ref sa, .ref fi, .int (zI bo), .ref ch, .ref cn, .int (zI ad), .int (zI ru), .ref kp, .int (zI dn), .ref rfa])), (ce, .inl (c_ce, 240, .inl f_ce)), (rk, .inl (c_rk, 4, .inl (upd f_rk (rfn).toNat (zI (z_2 - 65))))), (rw, .inl (c_rw, 4, .inl f_rw)), (rh, .inl (c_rh, 4, .inl f_rh))] := hD
      generalize ef_5 : upd f_rk (rfn).toNat (zI (z_2 - 65)) = f_5 at hP hD
      refine lv_aload_n hx hb dX9_readFont_50 rfl (lv_at hl 0 rfl) ?_
      refine lv_dup hx hb dX9_readFont_51 rfl ?_
      refine va_get (D := D) (ci := 9) (v := .int (zI at9)) (C := RX9) (T := TX9) (N := 31) hx hb hts (fun _ h9 => List.mem_cons_of_mem _ (List.mem_append_right _ h9)) hown hK hP 0 rfl rfl 15 (by decide) (hts (.fieldLink RX9 77 "FontRunsModel" "at" "I") mw_X9_readFont_0) (fun _ h9 => h9) rfl dX9_readFont_52 ?_
      refine lv_iconst (v := zI 1) hx hb dX9_readFont_55 rfl ?_
      refine kz_iadd hx hb dX9_readFont_56 ?_
      refine va_put (D := D) (ci := 9) (v := .int (zI (at9 + 1))) (ty := .int) (C := RX9) (T := TX9) (N := 31) hx hb hts (fun _ h9 => List.mem_cons_of_mem _ (List.mem_append_right _ h9)) tyX9 tyX9_ok nmX9 hown hK hP hD hS 0 rfl rfl 15 (by decide) (hts (.fieldLink RX9 77 "FontRunsModel" "at" "I") mw_X9_readFont_0) (fun _ h9 => h9) rfl (by decide +kernel) rfl rfl (Nat.le_of_ble_eq_true rfl) dX9_readFont_57 (fun H locs hP hD hS => ?_)
      have hP : va_P D vwCl [(h0, .inr (9, [.int (zI fa), .int (zI tc), .ref so, .ref sl, .ref ce, .int (zI fn), .ref kd, .ref wd, .ref hs, .ref pf, .ref lt, .int (zI mn), .ref wg, .int (zI ta), .long ck, .int (zI (at9 + 1)), .int (zI rfn), .ref rk, .ref rw, .ref rh, .int (zI cl), .ref sa, .ref fi, .int (zI bo), .ref ch, .ref cn, .int (zI ad), .int (zI ru), .ref kp, .int (zI dn), .ref rfa])), (ce, .inl (c_ce, 240, .inl f_ce)), (rk, .inl (c_rk, 4, .inl f_5)), (rw, .inl (c_rw, 4, .inl f_rw)), (rh, .inl (c_rh, 4, .inl f_rh))] H := hP
      have hD : va_D A [(h0, .inr (9, [.int (zI fa), .int (zI tc), .ref so, .ref sl, .ref ce, .int (zI fn), .ref kd, .ref wd, .ref hs, .ref pf, .ref lt, .int (zI mn), .ref wg, .int (zI ta), .long ck, .int (zI (at9 + 1)), .int (zI rfn), .ref rk, .ref rw, .ref rh, .int (zI cl), .ref sa, .ref fi, .int (zI bo), .ref ch, .ref cn, .int (zI ad), .int (zI ru), .ref kp, .int (zI dn), .ref rfa])), (ce, .inl (c_ce, 240, .inl f_ce)), (rk, .inl (c_rk, 4, .inl f_5)), (rw, .inl (c_rw, 4, .inl f_rw)), (rh, .inl (c_rh, 4, .inl f_rh))] := hD
      have G1 := kGo_k q3 (by omega) (by omega) ez_2 rz_2 (by omega) ef_5
      refine lv_aload_n hx hb dX9_readFont_60 rfl (lv_at hl 0 rfl) ?_
      refine va_get (D := D) (ci := 9) (v := .int (zI (at9 + 1))) (C := RX9) (T := TX9) (N := 31) hx hb hts (fun _ h9 => List.mem_cons_of_mem _ (List.mem_append_right _ h9)) hown hK hP 0 rfl rfl 15 (by decide) (hts (.fieldLink RX9 77 "FontRunsModel" "at" "I") mw_X9_readFont_0) (fun _ h9 => h9) rfl dX9_readFont_61 ?_
      refine lv_iload_n hx hb dX9_readFont_64 rfl (lv_at hl 1 rfl) ?_
      refine kz_icmp_ge (tgt := 87) hx hb dX9_readFont_65 (by decide) (by omega) (by omega) (fun c_6 => ?_) (fun c_6 => ?_)
      · refine lv_iconst (v := zI 0) hx hb dX9_readFont_87 rfl ?_
        have hP9 := hP.sub (ws' := [(h0, .inr (9, [.int (zI fa), .int (zI tc), .ref so, .ref sl, .ref ce, .int (zI fn), .ref kd, .ref wd, .ref hs, .ref pf, .ref lt, .int (zI mn), .ref wg, .int (zI ta), .long ck, .int (zI (at9 + 1)), .int (zI rfn), .ref rk, .ref rw, .ref rh, .int (zI cl), .ref sa, .ref fi, .int (zI bo), .ref ch, .ref cn, .int (zI ad), .int (zI ru), .ref kp, .int (zI dn), .ref rfa])), (ce, .inl (c_ce, 240, .inl f_ce)), (rk, .inl (c_rk, 4, .inl f_5)), (rw, .inl (c_rw, 4, .inl f_rw)), (rh, .inl (c_rh, 4, .inl f_rh))]) [0, 1, 2, 3, 4] rfl
        have hD9 := hD.sub (ws' := [(h0, .inr (9, [.int (zI fa), .int (zI tc), .ref so, .ref sl, .ref ce, .int (zI fn), .ref kd, .ref wd, .ref hs, .ref pf, .ref lt, .int (zI mn), .ref wg, .int (zI ta), .long ck, .int (zI (at9 + 1)), .int (zI rfn), .ref rk, .ref rw, .ref rh, .int (zI cl), .ref sa, .ref fi, .int (zI bo), .ref ch, .ref cn, .int (zI ad), .int (zI ru), .ref kp, .int (zI dn), .ref rfa])), (ce, .inl (c_ce, 240, .inl f_ce)), (rk, .inl (c_rk, 4, .inl f_5)), (rw, .inl (c_rw, 4, .inl f_rw)), (rh, .inl (c_rh, 4, .inl f_rh))]) [0, 1, 2, 3, 4] (by decide +kernel) rfl
        exact W.zret (v := (zI 0)) hx hb hr rfl (fun t ht hW => kQS_of (by omega) ⟨(at9 + 1), rfn, f_5, f_rw, f_rh, (by omega), (kRf_0 rfl (kBadE G1 (by decide) (by omega))), (by omega), (by omega), (by omega), by rw [ht]; exact hP9, hD9⟩ (hS.F ht)) hS.2.2 dX9_readFont_88
      · refine lv_aload_n hx hb dX9_readFont_68 rfl (lv_at hl 0 rfl) ?_
        refine va_get (D := D) (ci := 9) (v := .ref ce) (C := RX9) (T := TX9) (N := 31) hx hb hts (fun _ h9 => List.mem_cons_of_mem _ (List.mem_append_right _ h9)) hown hK hP 0 rfl rfl 4 (by decide) (hts (.fieldLink RX9 16 "FontRunsModel" "cells" "[I") mw_X9_readFont_1) (fun _ h9 => h9) rfl dX9_readFont_69 ?_
        refine lv_aload_n hx hb dX9_readFont_72 rfl (lv_at hl 0 rfl) ?_
        refine va_get (D := D) (ci := 9) (v := .int (zI (at9 + 1))) (C := RX9) (T := TX9) (N := 31) hx hb hts (fun _ h9 => List.mem_cons_of_mem _ (List.mem_append_right _ h9)) hown hK hP 0 rfl rfl 15 (by decide) (hts (.fieldLink RX9 77 "FontRunsModel" "at" "I") mw_X9_readFont_0) (fun _ h9 => h9) rfl dX9_readFont_73 ?_
        refine kz_iald hx hb hK hP 1 0 rfl rfl (by omega) dX9_readFont_76 (fun z_7 rz_7 ez_7 => ?_)
        refine lv_bipush (v := zI 49) hx hb dX9_readFont_77 (by decide) ?_
        refine lv_bipush (v := zI 57) hx hb dX9_readFont_79 (by decide) ?_
        refine k_callR (va_runS (As := [.int (zI z_7), .int (zI 49), .int (zI 57)]) (rest := []) ⟨hx, hb, hml, hown, hts⟩ (c_X9_within l D H.size (v := z_7) (a := 49) (b := 57) (by omega) (by omega) (by omega)) (va_cwS 3 hts gX9_readFont_X9_within rfl rfl rfl (by decide +kernel) ⟨Nat.le_of_ble_eq_true rfl, Nat.le_of_ble_eq_true rfl⟩) (kPreS hP (kD0 hD) hK hN [] [] ax_X9_readFont_1 rfl (by decide +kernel)) rfl rfl hl.1 rfl (lv_room (Nat.le_of_ble_eq_true rfl)) dX9_readFont_81 ⟨Nat.le_of_ble_eq_true rfl, Nat.le_of_ble_eq_true rfl⟩) ?_
        refine lv_if_ne (tgt := 89) hx hb dX9_readFont_84 (by decide) (fun c_8 => ?_) (fun c_8 => ?_)
        · have c_8 : 49 ≤ z_7 ∧ z_7 ≤ 57 := b01t c_8
          refine lv_aload_n hx hb dX9_readFont_89 rfl (lv_at hl 0 rfl) ?_
          refine va_get (D := D) (ci := 9) (v := .ref rw) (C := RX9) (T := TX9) (N := 31) hx hb hts (fun _ h9 => List.mem_cons_of_mem _ (List.mem_append_right _ h9)) hown hK hP 0 rfl rfl 18 (by decide) (hts (.fieldLink RX9 40 "FontRunsModel" "readWidth" "[I") mw_X9_readFont_4) (fun _ h9 => h9) rfl dX9_readFont_90 ?_
          refine lv_aload_n hx hb dX9_readFont_93 rfl (lv_at hl 0 rfl) ?_
          refine va_get (D := D) (ci := 9) (v := .int (zI rfn)) (C := RX9) (T := TX9) (N := 31) hx hb hts (fun _ h9 => List.mem_cons_of_mem _ (List.mem_append_right _ h9)) hown hK hP 0 rfl rfl 16 (by decide) (hts (.fieldLink RX9 98 "FontRunsModel" "readFonts" "I") mw_X9_readFont_3) (fun _ h9 => h9) rfl dX9_readFont_94 ?_
          refine lv_aload_n hx hb dX9_readFont_97 rfl (lv_at hl 0 rfl) ?_
          refine va_get (D := D) (ci := 9) (v := .ref ce) (C := RX9) (T := TX9) (N := 31) hx hb hts (fun _ h9 => List.mem_cons_of_mem _ (List.mem_append_right _ h9)) hown hK hP 0 rfl rfl 4 (by decide) (hts (.fieldLink RX9 16 "FontRunsModel" "cells" "[I") mw_X9_readFont_1) (fun _ h9 => h9) rfl dX9_readFont_98 ?_
          refine lv_aload_n hx hb dX9_readFont_101 rfl (lv_at hl 0 rfl) ?_
          refine va_get (D := D) (ci := 9) (v := .int (zI (at9 + 1))) (C := RX9) (T := TX9) (N := 31) hx hb hts (fun _ h9 => List.mem_cons_of_mem _ (List.mem_append_right _ h9)) hown hK hP 0 rfl rfl 15 (by decide) (hts (.fieldLink RX9 77 "FontRunsModel" "at" "I") mw_X9_readFont_0) (fun _ h9 => h9) rfl dX9_readFont_102 ?_
          refine kz_iald hx hb hK hP 1 0 rfl rfl (by omega) dX9_readFont_105 (fun z_9 rz_9 ez_9 => ?_)
          have q9 : z_7 = z_9 := (zI_eq rz_7 rz_9).mp (ez_7.symm.trans ez_9)
          subst q9
          refine lv_bipush (v := zI 48) hx hb dX9_readFont_106 (by decide) ?_
          refine kz_isub hx hb dX9_readFont_108 ?_
          refine kz_iast hx hb hK hP hD hS 3 2 rfl rfl (by omega) dX9_readFont_109 (fun H locs hP hD hS => ?_)
          have hP : va_P D vwCl [(h0, .inr (9, [.int (zI fa), .int (zI tc), .ref so, .ref sl, .ref ce, .int (zI fn), .ref kd, .ref wd, .ref hs, .ref pf, .ref lt, .int (zI mn), .ref wg, .int (zI ta), .long ck, .int (zI (at9 + 1)), .int (zI rfn), .ref rk, .ref rw, .ref rh, .int (zI cl), .ref sa, .ref fi, .int (zI bo), .ref ch, .ref cn, .int (zI ad), .int (zI ru), .ref kp, .int (zI dn), .ref rfa])), (ce, .inl (c_ce, 240, .inl f_ce)), (rk, .inl (c_rk, 4, .inl f_5)), (rw, .inl (c_rw, 4, .inl (upd f_rw (rfn).toNat (zI (z_7 - 48))))), (rh, .inl (c_rh, 4, .inl f_rh))] H := hP
          have hD : va_D A [(h0, .inr (9, [.int (zI fa), .int (zI tc), .ref so, .ref sl, .ref ce, .int (zI fn), .ref kd, .ref wd, .ref hs, .ref pf, .ref lt, .int (zI mn), .ref wg, .int (zI ta), .long ck, .int (zI (at9 + 1)), .int (zI rfn), .ref rk, .ref rw, .ref rh, .int (zI cl), .ref sa, .ref fi, .int (zI bo), .ref ch, .ref cn, .int (zI ad), .int (zI ru), .ref kp, .int (zI dn), .ref rfa])), (ce, .inl (c_ce, 240, .inl f_ce)), (rk, .inl (c_rk, 4, .inl f_5)), (rw, .inl (c_rw, 4, .inl (upd f_rw (rfn).toNat (zI (z_7 - 48))))), (rh, .inl (c_rh, 4, .inl f_rh))] := hD
          generalize ef_10 : upd f_rw (rfn).toNat (zI (z_7 - 48)) = f_10 at hP hD
          refine lv_aload_n hx hb dX9_readFont_110 rfl (lv_at hl 0 rfl) ?_
          refine lv_dup hx hb dX9_readFont_111 rfl ?_
          refine va_get (D := D) (ci := 9) (v := .int (zI (at9 + 1))) (C := RX9) (T := TX9) (N := 31) hx hb hts (fun _ h9 => List.mem_cons_of_mem _ (List.mem_append_right _ h9)) hown hK hP 0 rfl rfl 15 (by decide) (hts (.fieldLink RX9 77 "FontRunsModel" "at" "I") mw_X9_readFont_0) (fun _ h9 => h9) rfl dX9_readFont_112 ?_
          refine lv_iconst (v := zI 1) hx hb dX9_readFont_115 rfl ?_
          refine kz_iadd hx hb dX9_readFont_116 ?_
          refine va_put (D := D) (ci := 9) (v := .int (zI ((at9 + 1) + 1))) (ty := .int) (C := RX9) (T := TX9) (N := 31) hx hb hts (fun _ h9 => List.mem_cons_of_mem _ (List.mem_append_right _ h9)) tyX9 tyX9_ok nmX9 hown hK hP hD hS 0 rfl rfl 15 (by decide) (hts (.fieldLink RX9 77 "FontRunsModel" "at" "I") mw_X9_readFont_0) (fun _ h9 => h9) rfl (by decide +kernel) rfl rfl (Nat.le_of_ble_eq_true rfl) dX9_readFont_117 (fun H locs hP hD hS => ?_)
          have hP : va_P D vwCl [(h0, .inr (9, [.int (zI fa), .int (zI tc), .ref so, .ref sl, .ref ce, .int (zI fn), .ref kd, .ref wd, .ref hs, .ref pf, .ref lt, .int (zI mn), .ref wg, .int (zI ta), .long ck, .int (zI ((at9 + 1) + 1)), .int (zI rfn), .ref rk, .ref rw, .ref rh, .int (zI cl), .ref sa, .ref fi, .int (zI bo), .ref ch, .ref cn, .int (zI ad), .int (zI ru), .ref kp, .int (zI dn), .ref rfa])), (ce, .inl (c_ce, 240, .inl f_ce)), (rk, .inl (c_rk, 4, .inl f_5)), (rw, .inl (c_rw, 4, .inl f_10)), (rh, .inl (c_rh, 4, .inl f_rh))] H := hP
          have hD : va_D A [(h0, .inr (9, [.int (zI fa), .int (zI tc), .ref so, .ref sl, .ref ce, .int (zI fn), .ref kd, .ref wd, .ref hs, .ref pf, .ref lt, .int (zI mn), .ref wg, .int (zI ta), .long ck, .int (zI ((at9 + 1) + 1)), .int (zI rfn), .ref rk, .ref rw, .ref rh, .int (zI cl), .ref sa, .ref fi, .int (zI bo), .ref ch, .ref cn, .int (zI ad), .int (zI ru), .ref kp, .int (zI dn), .ref rfa])), (ce, .inl (c_ce, 240, .inl f_ce)), (rk, .inl (c_rk, 4, .inl f_5)), (rw, .inl (c_rw, 4, .inl f_10)), (rh, .inl (c_rh, 4, .inl f_rh))] := hD
          have G2 := kGo_w G1 (by omega) (by omega) ez_7 rz_7 (by omega) ef_10
          refine lv_iconst (v := zI 0) hx hb dX9_readFont_120 rfl ?_
          refine lv_istore_n (lv' := [(2, .int (zI 0)), (0, .ref h0), (1, .int (zI en))]) hx hb dX9_readFont_121 rfl hl (by decide) rfl (fun ls hl => ?_)
          refine lv_iconst (v := zI 1) hx hb dX9_readFont_122 rfl ?_
          refine lv_istore_n (lv' := [(3, .int (zI 1)), (2, .int (zI 0)), (0, .ref h0), (1, .int (zI en))]) hx hb dX9_readFont_123 rfl hl (by decide) rfl (fun ls hl => ?_)
          refine k_loopM (I := fun n9 H locs ls => ∃ (js : Int) (jm : Int) (ja : Int), n9 = (2 * (241 - ja) + jm).toNat ∧ (rg js) ∧ (jm = 0 ∨ jm = 1) ∧ (0 ≤ ja ∧ ja ≤ 240) ∧ (o ≤ ja ∧ ja ≤ en) ∧ (kRl (kCd f_ce o) A0 B0 C0 (kNa (ja - o)) rfn f_5 f_10 f_rh js jm) ∧ va_P D vwCl [(h0, .inr (9, [.int (zI fa), .int (zI tc), .ref so, .ref sl, .ref ce, .int (zI fn), .ref kd, .ref wd, .ref hs, .ref pf, .ref lt, .int (zI mn), .ref wg, .int (zI ta), .long ck, .int (zI ja), .int (zI rfn), .ref rk, .ref rw, .ref rh, .int (zI cl), .ref sa, .ref fi, .int (zI bo), .ref ch, .ref cn, .int (zI ad), .int (zI ru), .ref kp, .int (zI dn), .ref rfa])), (ce, .inl (c_ce, 240, .inl f_ce)), (rk, .inl (c_rk, 4, .inl f_5)), (rw, .inl (c_rw, 4, .inl f_10)), (rh, .inl (c_rh, 4, .inl f_rh))] H ∧ va_D A [(h0, .inr (9, [.int (zI fa), .int (zI tc), .ref so, .ref sl, .ref ce, .int (zI fn), .ref kd, .ref wd, .ref hs, .ref pf, .ref lt, .int (zI mn), .ref wg, .int (zI ta), .long ck, .int (zI ja), .int (zI rfn), .ref rk, .ref rw, .ref rh, .int (zI cl), .ref sa, .ref fi, .int (zI bo), .ref ch, .ref cn, .int (zI ad), .int (zI ru), .ref kp, .int (zI dn), .ref rfa])), (ce, .inl (c_ce, 240, .inl f_ce)), (rk, .inl (c_rk, 4, .inl f_5)), (rw, .inl (c_rw, 4, .inl f_10)), (rh, .inl (c_rh, 4, .inl f_rh))] ∧ va_S A s.heap H locs ∧ lv_has ls 5 [(3, .int (zI jm)), (2, .int (zI js)), (0, .ref h0), (1, .int (zI en))]) ?_ _ ⟨0, 1, ((at9 + 1) + 1), rfl, (by omega), (by omega), (by omega), (by omega), (kRl_0 G2 (by omega)), hP, hD, hS, hl⟩
          intro n124 ih124 H locs ls hI
          obtain ⟨js, jm, ja, en124, v_1240, v_1241, v_1242, v_1243, v_1244, hP, hD, hS, hl⟩ := hI
          refine lv_iload_n hx hb dX9_readFont_124 rfl (lv_at hl 0 rfl) ?_
          refine kz_if_eq (tgt := 209) hx hb dX9_readFont_125 (by decide) (by omega) (fun c_11 => ?_) (fun c_11 => ?_)
          · refine lv_aload_n hx hb dX9_readFont_209 rfl (lv_at hl 2 rfl) ?_
            refine va_get (D := D) (ci := 9) (v := .ref rh) (C := RX9) (T := TX9) (N := 31) hx hb hts (fun _ h9 => List.mem_cons_of_mem _ (List.mem_append_right _ h9)) hown hK hP 0 rfl rfl 19 (by decide) (hts (.fieldLink RX9 43 "FontRunsModel" "readHas" "[I") mw_X9_readFont_5) (fun _ h9 => h9) rfl dX9_readFont_210 ?_
            refine lv_aload_n hx hb dX9_readFont_213 rfl (lv_at hl 2 rfl) ?_
            refine va_get (D := D) (ci := 9) (v := .int (zI rfn)) (C := RX9) (T := TX9) (N := 31) hx hb hts (fun _ h9 => List.mem_cons_of_mem _ (List.mem_append_right _ h9)) hown hK hP 0 rfl rfl 16 (by decide) (hts (.fieldLink RX9 98 "FontRunsModel" "readFonts" "I") mw_X9_readFont_3) (fun _ h9 => h9) rfl dX9_readFont_214 ?_
            refine lv_iload_n hx hb dX9_readFont_217 rfl (lv_at hl 1 rfl) ?_
            refine kz_iast hx hb hK hP hD hS 4 3 rfl rfl (by omega) dX9_readFont_218 (fun H locs hP hD hS => ?_)
            have hP : va_P D vwCl [(h0, .inr (9, [.int (zI fa), .int (zI tc), .ref so, .ref sl, .ref ce, .int (zI fn), .ref kd, .ref wd, .ref hs, .ref pf, .ref lt, .int (zI mn), .ref wg, .int (zI ta), .long ck, .int (zI ja), .int (zI rfn), .ref rk, .ref rw, .ref rh, .int (zI cl), .ref sa, .ref fi, .int (zI bo), .ref ch, .ref cn, .int (zI ad), .int (zI ru), .ref kp, .int (zI dn), .ref rfa])), (ce, .inl (c_ce, 240, .inl f_ce)), (rk, .inl (c_rk, 4, .inl f_5)), (rw, .inl (c_rw, 4, .inl f_10)), (rh, .inl (c_rh, 4, .inl (upd f_rh (rfn).toNat (zI js))))] H := hP
            have hD : va_D A [(h0, .inr (9, [.int (zI fa), .int (zI tc), .ref so, .ref sl, .ref ce, .int (zI fn), .ref kd, .ref wd, .ref hs, .ref pf, .ref lt, .int (zI mn), .ref wg, .int (zI ta), .long ck, .int (zI ja), .int (zI rfn), .ref rk, .ref rw, .ref rh, .int (zI cl), .ref sa, .ref fi, .int (zI bo), .ref ch, .ref cn, .int (zI ad), .int (zI ru), .ref kp, .int (zI dn), .ref rfa])), (ce, .inl (c_ce, 240, .inl f_ce)), (rk, .inl (c_rk, 4, .inl f_5)), (rw, .inl (c_rw, 4, .inl f_10)), (rh, .inl (c_rh, 4, .inl (upd f_rh (rfn).toNat (zI js))))] := hD
            generalize ef_12 : upd f_rh (rfn).toNat (zI js) = f_12 at hP hD
            refine lv_aload_n hx hb dX9_readFont_219 rfl (lv_at hl 2 rfl) ?_
            refine lv_dup hx hb dX9_readFont_220 rfl ?_
            refine va_get (D := D) (ci := 9) (v := .int (zI rfn)) (C := RX9) (T := TX9) (N := 31) hx hb hts (fun _ h9 => List.mem_cons_of_mem _ (List.mem_append_right _ h9)) hown hK hP 0 rfl rfl 16 (by decide) (hts (.fieldLink RX9 98 "FontRunsModel" "readFonts" "I") mw_X9_readFont_3) (fun _ h9 => h9) rfl dX9_readFont_221 ?_
            refine lv_iconst (v := zI 1) hx hb dX9_readFont_224 rfl ?_
            refine kz_iadd hx hb dX9_readFont_225 ?_
            refine va_put (D := D) (ci := 9) (v := .int (zI (rfn + 1))) (ty := .int) (C := RX9) (T := TX9) (N := 31) hx hb hts (fun _ h9 => List.mem_cons_of_mem _ (List.mem_append_right _ h9)) tyX9 tyX9_ok nmX9 hown hK hP hD hS 0 rfl rfl 16 (by decide) (hts (.fieldLink RX9 98 "FontRunsModel" "readFonts" "I") mw_X9_readFont_3) (fun _ h9 => h9) rfl (by decide +kernel) rfl rfl (Nat.le_of_ble_eq_true rfl) dX9_readFont_226 (fun H locs hP hD hS => ?_)
            have hP : va_P D vwCl [(h0, .inr (9, [.int (zI fa), .int (zI tc), .ref so, .ref sl, .ref ce, .int (zI fn), .ref kd, .ref wd, .ref hs, .ref pf, .ref lt, .int (zI mn), .ref wg, .int (zI ta), .long ck, .int (zI ja), .int (zI (rfn + 1)), .ref rk, .ref rw, .ref rh, .int (zI cl), .ref sa, .ref fi, .int (zI bo), .ref ch, .ref cn, .int (zI ad), .int (zI ru), .ref kp, .int (zI dn), .ref rfa])), (ce, .inl (c_ce, 240, .inl f_ce)), (rk, .inl (c_rk, 4, .inl f_5)), (rw, .inl (c_rw, 4, .inl f_10)), (rh, .inl (c_rh, 4, .inl f_12))] H := hP
            have hD : va_D A [(h0, .inr (9, [.int (zI fa), .int (zI tc), .ref so, .ref sl, .ref ce, .int (zI fn), .ref kd, .ref wd, .ref hs, .ref pf, .ref lt, .int (zI mn), .ref wg, .int (zI ta), .long ck, .int (zI ja), .int (zI (rfn + 1)), .ref rk, .ref rw, .ref rh, .int (zI cl), .ref sa, .ref fi, .int (zI bo), .ref ch, .ref cn, .int (zI ad), .int (zI ru), .ref kp, .int (zI dn), .ref rfa])), (ce, .inl (c_ce, 240, .inl f_ce)), (rk, .inl (c_rk, 4, .inl f_5)), (rw, .inl (c_rw, 4, .inl f_10)), (rh, .inl (c_rh, 4, .inl f_12))] := hD
            refine lv_iload_n hx hb dX9_readFont_229 rfl (lv_at hl 1 rfl) ?_
            refine kz_if_eq (tgt := 237) hx hb dX9_readFont_230 (by decide) (by omega) (fun c_13 => ?_) (fun c_13 => ?_)
            · refine lv_iconst (v := zI 0) hx hb dX9_readFont_237 rfl ?_
              have hP9 := hP.sub (ws' := [(h0, .inr (9, [.int (zI fa), .int (zI tc), .ref so, .ref sl, .ref ce, .int (zI fn), .ref kd, .ref wd, .ref hs, .ref pf, .ref lt, .int (zI mn), .ref wg, .int (zI ta), .long ck, .int (zI ja), .int (zI (rfn + 1)), .ref rk, .ref rw, .ref rh, .int (zI cl), .ref sa, .ref fi, .int (zI bo), .ref ch, .ref cn, .int (zI ad), .int (zI ru), .ref kp, .int (zI dn), .ref rfa])), (ce, .inl (c_ce, 240, .inl f_ce)), (rk, .inl (c_rk, 4, .inl f_5)), (rw, .inl (c_rw, 4, .inl f_10)), (rh, .inl (c_rh, 4, .inl f_12))]) [0, 1, 2, 3, 4] rfl
              have hD9 := hD.sub (ws' := [(h0, .inr (9, [.int (zI fa), .int (zI tc), .ref so, .ref sl, .ref ce, .int (zI fn), .ref kd, .ref wd, .ref hs, .ref pf, .ref lt, .int (zI mn), .ref wg, .int (zI ta), .long ck, .int (zI ja), .int (zI (rfn + 1)), .ref rk, .ref rw, .ref rh, .int (zI cl), .ref sa, .ref fi, .int (zI bo), .ref ch, .ref cn, .int (zI ad), .int (zI ru), .ref kp, .int (zI dn), .ref rfa])), (ce, .inl (c_ce, 240, .inl f_ce)), (rk, .inl (c_rk, 4, .inl f_5)), (rw, .inl (c_rw, 4, .inl f_10)), (rh, .inl (c_rh, 4, .inl f_12))]) [0, 1, 2, 3, 4] (by decide +kernel) rfl
              exact W.zret (v := (zI 0)) hx hb hr rfl (fun t ht hW => kQS_of (by omega) ⟨ja, (rfn + 1), f_5, f_10, f_12, v_1242, (kRl_e0 v_1244 (by omega) (Or.inl (by omega)) (by omega) rfl), v_1243, (by omega), (by omega), by rw [ht]; exact hP9, hD9⟩ (hS.F ht)) hS.2.2 dX9_readFont_238
            · refine lv_iconst (v := zI 1) hx hb dX9_readFont_233 rfl ?_
              refine lv_goto (tgt := 238) hx hb dX9_readFont_234 (by decide) ?_
              have hP9 := hP.sub (ws' := [(h0, .inr (9, [.int (zI fa), .int (zI tc), .ref so, .ref sl, .ref ce, .int (zI fn), .ref kd, .ref wd, .ref hs, .ref pf, .ref lt, .int (zI mn), .ref wg, .int (zI ta), .long ck, .int (zI ja), .int (zI (rfn + 1)), .ref rk, .ref rw, .ref rh, .int (zI cl), .ref sa, .ref fi, .int (zI bo), .ref ch, .ref cn, .int (zI ad), .int (zI ru), .ref kp, .int (zI dn), .ref rfa])), (ce, .inl (c_ce, 240, .inl f_ce)), (rk, .inl (c_rk, 4, .inl f_5)), (rw, .inl (c_rw, 4, .inl f_10)), (rh, .inl (c_rh, 4, .inl f_12))]) [0, 1, 2, 3, 4] rfl
              have hD9 := hD.sub (ws' := [(h0, .inr (9, [.int (zI fa), .int (zI tc), .ref so, .ref sl, .ref ce, .int (zI fn), .ref kd, .ref wd, .ref hs, .ref pf, .ref lt, .int (zI mn), .ref wg, .int (zI ta), .long ck, .int (zI ja), .int (zI (rfn + 1)), .ref rk, .ref rw, .ref rh, .int (zI cl), .ref sa, .ref fi, .int (zI bo), .ref ch, .ref cn, .int (zI ad), .int (zI ru), .ref kp, .int (zI dn), .ref rfa])), (ce, .inl (c_ce, 240, .inl f_ce)), (rk, .inl (c_rk, 4, .inl f_5)), (rw, .inl (c_rw, 4, .inl f_10)), (rh, .inl (c_rh, 4, .inl f_12))]) [0, 1, 2, 3, 4] (by decide +kernel) rfl
              exact W.zret (v := (zI 1)) hx hb hr rfl (fun t ht hW => kQS_of (by omega) ⟨ja, (rfn + 1), f_5, f_10, f_12, v_1242, (kRl_e1 v_1244 (by omega) (Or.inl (by omega)) (by omega) rfl rfl ef_12), v_1243, (by omega), (by omega), by rw [ht]; exact hP9, hD9⟩ (hS.F ht)) hS.2.2 dX9_readFont_238
          · refine lv_iload_n hx hb dX9_readFont_128 rfl (lv_at hl 1 rfl) ?_
            refine k_callP (va_runS (As := [.int (zI js)]) (rest := []) ⟨hx, hb, hml, hown, hts⟩ (c_X9_size_w l D H.size (x := js) v_1240) (va_cwS 1 hts gX9_readFont_X9_size rfl rfl rfl (by decide +kernel) ⟨Nat.le_of_ble_eq_true rfl, Nat.le_of_ble_eq_true rfl⟩) (kPreS hP (kD0 hD) hK hN [] [] ax_X9_readFont_1 rfl (by decide +kernel)) rfl rfl hl.1 rfl (lv_room (Nat.le_of_ble_eq_true rfl)) dX9_readFont_129 ⟨Nat.le_of_ble_eq_true rfl, Nat.le_of_ble_eq_true rfl⟩) (fun z_14 rz_14 h_15 => ?_)
            refine lv_bipush (v := zI 8) hx hb dX9_readFont_132 (by decide) ?_
            refine kz_icmp_ge (tgt := 209) hx hb dX9_readFont_134 (by decide) (by omega) (by omega) (fun c_16 => ?_) (fun c_16 => ?_)
            · refine lv_aload_n hx hb dX9_readFont_209 rfl (lv_at hl 2 rfl) ?_
              refine va_get (D := D) (ci := 9) (v := .ref rh) (C := RX9) (T := TX9) (N := 31) hx hb hts (fun _ h9 => List.mem_cons_of_mem _ (List.mem_append_right _ h9)) hown hK hP 0 rfl rfl 19 (by decide) (hts (.fieldLink RX9 43 "FontRunsModel" "readHas" "[I") mw_X9_readFont_5) (fun _ h9 => h9) rfl dX9_readFont_210 ?_
              refine lv_aload_n hx hb dX9_readFont_213 rfl (lv_at hl 2 rfl) ?_
              refine va_get (D := D) (ci := 9) (v := .int (zI rfn)) (C := RX9) (T := TX9) (N := 31) hx hb hts (fun _ h9 => List.mem_cons_of_mem _ (List.mem_append_right _ h9)) hown hK hP 0 rfl rfl 16 (by decide) (hts (.fieldLink RX9 98 "FontRunsModel" "readFonts" "I") mw_X9_readFont_3) (fun _ h9 => h9) rfl dX9_readFont_214 ?_
              refine lv_iload_n hx hb dX9_readFont_217 rfl (lv_at hl 1 rfl) ?_
              refine kz_iast hx hb hK hP hD hS 4 3 rfl rfl (by omega) dX9_readFont_218 (fun H locs hP hD hS => ?_)
              have hP : va_P D vwCl [(h0, .inr (9, [.int (zI fa), .int (zI tc), .ref so, .ref sl, .ref ce, .int (zI fn), .ref kd, .ref wd, .ref hs, .ref pf, .ref lt, .int (zI mn), .ref wg, .int (zI ta), .long ck, .int (zI ja), .int (zI rfn), .ref rk, .ref rw, .ref rh, .int (zI cl), .ref sa, .ref fi, .int (zI bo), .ref ch, .ref cn, .int (zI ad), .int (zI ru), .ref kp, .int (zI dn), .ref rfa])), (ce, .inl (c_ce, 240, .inl f_ce)), (rk, .inl (c_rk, 4, .inl f_5)), (rw, .inl (c_rw, 4, .inl f_10)), (rh, .inl (c_rh, 4, .inl (upd f_rh (rfn).toNat (zI js))))] H := hP
              have hD : va_D A [(h0, .inr (9, [.int (zI fa), .int (zI tc), .ref so, .ref sl, .ref ce, .int (zI fn), .ref kd, .ref wd, .ref hs, .ref pf, .ref lt, .int (zI mn), .ref wg, .int (zI ta), .long ck, .int (zI ja), .int (zI rfn), .ref rk, .ref rw, .ref rh, .int (zI cl), .ref sa, .ref fi, .int (zI bo), .ref ch, .ref cn, .int (zI ad), .int (zI ru), .ref kp, .int (zI dn), .ref rfa])), (ce, .inl (c_ce, 240, .inl f_ce)), (rk, .inl (c_rk, 4, .inl f_5)), (rw, .inl (c_rw, 4, .inl f_10)), (rh, .inl (c_rh, 4, .inl (upd f_rh (rfn).toNat (zI js))))] := hD
              generalize ef_17 : upd f_rh (rfn).toNat (zI js) = f_17 at hP hD
              refine lv_aload_n hx hb dX9_readFont_219 rfl (lv_at hl 2 rfl) ?_
              refine lv_dup hx hb dX9_readFont_220 rfl ?_
              refine va_get (D := D) (ci := 9) (v := .int (zI rfn)) (C := RX9) (T := TX9) (N := 31) hx hb hts (fun _ h9 => List.mem_cons_of_mem _ (List.mem_append_right _ h9)) hown hK hP 0 rfl rfl 16 (by decide) (hts (.fieldLink RX9 98 "FontRunsModel" "readFonts" "I") mw_X9_readFont_3) (fun _ h9 => h9) rfl dX9_readFont_221 ?_
              refine lv_iconst (v := zI 1) hx hb dX9_readFont_224 rfl ?_
              refine kz_iadd hx hb dX9_readFont_225 ?_
              refine va_put (D := D) (ci := 9) (v := .int (zI (rfn + 1))) (ty := .int) (C := RX9) (T := TX9) (N := 31) hx hb hts (fun _ h9 => List.mem_cons_of_mem _ (List.mem_append_right _ h9)) tyX9 tyX9_ok nmX9 hown hK hP hD hS 0 rfl rfl 16 (by decide) (hts (.fieldLink RX9 98 "FontRunsModel" "readFonts" "I") mw_X9_readFont_3) (fun _ h9 => h9) rfl (by decide +kernel) rfl rfl (Nat.le_of_ble_eq_true rfl) dX9_readFont_226 (fun H locs hP hD hS => ?_)
              have hP : va_P D vwCl [(h0, .inr (9, [.int (zI fa), .int (zI tc), .ref so, .ref sl, .ref ce, .int (zI fn), .ref kd, .ref wd, .ref hs, .ref pf, .ref lt, .int (zI mn), .ref wg, .int (zI ta), .long ck, .int (zI ja), .int (zI (rfn + 1)), .ref rk, .ref rw, .ref rh, .int (zI cl), .ref sa, .ref fi, .int (zI bo), .ref ch, .ref cn, .int (zI ad), .int (zI ru), .ref kp, .int (zI dn), .ref rfa])), (ce, .inl (c_ce, 240, .inl f_ce)), (rk, .inl (c_rk, 4, .inl f_5)), (rw, .inl (c_rw, 4, .inl f_10)), (rh, .inl (c_rh, 4, .inl f_17))] H := hP
              have hD : va_D A [(h0, .inr (9, [.int (zI fa), .int (zI tc), .ref so, .ref sl, .ref ce, .int (zI fn), .ref kd, .ref wd, .ref hs, .ref pf, .ref lt, .int (zI mn), .ref wg, .int (zI ta), .long ck, .int (zI ja), .int (zI (rfn + 1)), .ref rk, .ref rw, .ref rh, .int (zI cl), .ref sa, .ref fi, .int (zI bo), .ref ch, .ref cn, .int (zI ad), .int (zI ru), .ref kp, .int (zI dn), .ref rfa])), (ce, .inl (c_ce, 240, .inl f_ce)), (rk, .inl (c_rk, 4, .inl f_5)), (rw, .inl (c_rw, 4, .inl f_10)), (rh, .inl (c_rh, 4, .inl f_17))] := hD
              refine lv_iload_n hx hb dX9_readFont_229 rfl (lv_at hl 1 rfl) ?_
              refine kz_if_eq (tgt := 237) hx hb dX9_readFont_230 (by decide) (by omega) (fun c_18 => ?_) (fun c_18 => ?_)
              · refine lv_iconst (v := zI 0) hx hb dX9_readFont_237 rfl ?_
                have hP9 := hP.sub (ws' := [(h0, .inr (9, [.int (zI fa), .int (zI tc), .ref so, .ref sl, .ref ce, .int (zI fn), .ref kd, .ref wd, .ref hs, .ref pf, .ref lt, .int (zI mn), .ref wg, .int (zI ta), .long ck, .int (zI ja), .int (zI (rfn + 1)), .ref rk, .ref rw, .ref rh, .int (zI cl), .ref sa, .ref fi, .int (zI bo), .ref ch, .ref cn, .int (zI ad), .int (zI ru), .ref kp, .int (zI dn), .ref rfa])), (ce, .inl (c_ce, 240, .inl f_ce)), (rk, .inl (c_rk, 4, .inl f_5)), (rw, .inl (c_rw, 4, .inl f_10)), (rh, .inl (c_rh, 4, .inl f_17))]) [0, 1, 2, 3, 4] rfl
                have hD9 := hD.sub (ws' := [(h0, .inr (9, [.int (zI fa), .int (zI tc), .ref so, .ref sl, .ref ce, .int (zI fn), .ref kd, .ref wd, .ref hs, .ref pf, .ref lt, .int (zI mn), .ref wg, .int (zI ta), .long ck, .int (zI ja), .int (zI (rfn + 1)), .ref rk, .ref rw, .ref rh, .int (zI cl), .ref sa, .ref fi, .int (zI bo), .ref ch, .ref cn, .int (zI ad), .int (zI ru), .ref kp, .int (zI dn), .ref rfa])), (ce, .inl (c_ce, 240, .inl f_ce)), (rk, .inl (c_rk, 4, .inl f_5)), (rw, .inl (c_rw, 4, .inl f_10)), (rh, .inl (c_rh, 4, .inl f_17))]) [0, 1, 2, 3, 4] (by decide +kernel) rfl
                exact W.zret (v := (zI 0)) hx hb hr rfl (fun t ht hW => kQS_of (by omega) ⟨ja, (rfn + 1), f_5, f_10, f_17, v_1242, (kRl_e0 v_1244 (by omega) (kRx_8 v_1244 h_15 (by omega)) (by omega) rfl), v_1243, (by omega), (by omega), by rw [ht]; exact hP9, hD9⟩ (hS.F ht)) hS.2.2 dX9_readFont_238
              · refine lv_iconst (v := zI 1) hx hb dX9_readFont_233 rfl ?_
                refine lv_goto (tgt := 238) hx hb dX9_readFont_234 (by decide) ?_
                have hP9 := hP.sub (ws' := [(h0, .inr (9, [.int (zI fa), .int (zI tc), .ref so, .ref sl, .ref ce, .int (zI fn), .ref kd, .ref wd, .ref hs, .ref pf, .ref lt, .int (zI mn), .ref wg, .int (zI ta), .long ck, .int (zI ja), .int (zI (rfn + 1)), .ref rk, .ref rw, .ref rh, .int (zI cl), .ref sa, .ref fi, .int (zI bo), .ref ch, .ref cn, .int (zI ad), .int (zI ru), .ref kp, .int (zI dn), .ref rfa])), (ce, .inl (c_ce, 240, .inl f_ce)), (rk, .inl (c_rk, 4, .inl f_5)), (rw, .inl (c_rw, 4, .inl f_10)), (rh, .inl (c_rh, 4, .inl f_17))]) [0, 1, 2, 3, 4] rfl
                have hD9 := hD.sub (ws' := [(h0, .inr (9, [.int (zI fa), .int (zI tc), .ref so, .ref sl, .ref ce, .int (zI fn), .ref kd, .ref wd, .ref hs, .ref pf, .ref lt, .int (zI mn), .ref wg, .int (zI ta), .long ck, .int (zI ja), .int (zI (rfn + 1)), .ref rk, .ref rw, .ref rh, .int (zI cl), .ref sa, .ref fi, .int (zI bo), .ref ch, .ref cn, .int (zI ad), .int (zI ru), .ref kp, .int (zI dn), .ref rfa])), (ce, .inl (c_ce, 240, .inl f_ce)), (rk, .inl (c_rk, 4, .inl f_5)), (rw, .inl (c_rw, 4, .inl f_10)), (rh, .inl (c_rh, 4, .inl f_17))]) [0, 1, 2, 3, 4] (by decide +kernel) rfl
                exact W.zret (v := (zI 1)) hx hb hr rfl (fun t ht hW => kQS_of (by omega) ⟨ja, (rfn + 1), f_5, f_10, f_17, v_1242, (kRl_e1 v_1244 (by omega) (kRx_8 v_1244 h_15 (by omega)) (by omega) rfl rfl ef_17), v_1243, (by omega), (by omega), by rw [ht]; exact hP9, hD9⟩ (hS.F ht)) hS.2.2 dX9_readFont_238
            · refine lv_aload_n hx hb dX9_readFont_137 rfl (lv_at hl 2 rfl) ?_
              refine va_get (D := D) (ci := 9) (v := .int (zI ja)) (C := RX9) (T := TX9) (N := 31) hx hb hts (fun _ h9 => List.mem_cons_of_mem _ (List.mem_append_right _ h9)) hown hK hP 0 rfl rfl 15 (by decide) (hts (.fieldLink RX9 77 "FontRunsModel" "at" "I") mw_X9_readFont_0) (fun _ h9 => h9) rfl dX9_readFont_138 ?_
              refine lv_iload_n hx hb dX9_readFont_141 rfl (lv_at hl 3 rfl) ?_
              refine kz_icmp_ge (tgt := 209) hx hb dX9_readFont_142 (by decide) (by omega) (by omega) (fun c_19 => ?_) (fun c_19 => ?_)
              · refine lv_aload_n hx hb dX9_readFont_209 rfl (lv_at hl 2 rfl) ?_
                refine va_get (D := D) (ci := 9) (v := .ref rh) (C := RX9) (T := TX9) (N := 31) hx hb hts (fun _ h9 => List.mem_cons_of_mem _ (List.mem_append_right _ h9)) hown hK hP 0 rfl rfl 19 (by decide) (hts (.fieldLink RX9 43 "FontRunsModel" "readHas" "[I") mw_X9_readFont_5) (fun _ h9 => h9) rfl dX9_readFont_210 ?_
                refine lv_aload_n hx hb dX9_readFont_213 rfl (lv_at hl 2 rfl) ?_
                refine va_get (D := D) (ci := 9) (v := .int (zI rfn)) (C := RX9) (T := TX9) (N := 31) hx hb hts (fun _ h9 => List.mem_cons_of_mem _ (List.mem_append_right _ h9)) hown hK hP 0 rfl rfl 16 (by decide) (hts (.fieldLink RX9 98 "FontRunsModel" "readFonts" "I") mw_X9_readFont_3) (fun _ h9 => h9) rfl dX9_readFont_214 ?_
                refine lv_iload_n hx hb dX9_readFont_217 rfl (lv_at hl 1 rfl) ?_
                refine kz_iast hx hb hK hP hD hS 4 3 rfl rfl (by omega) dX9_readFont_218 (fun H locs hP hD hS => ?_)
                have hP : va_P D vwCl [(h0, .inr (9, [.int (zI fa), .int (zI tc), .ref so, .ref sl, .ref ce, .int (zI fn), .ref kd, .ref wd, .ref hs, .ref pf, .ref lt, .int (zI mn), .ref wg, .int (zI ta), .long ck, .int (zI ja), .int (zI rfn), .ref rk, .ref rw, .ref rh, .int (zI cl), .ref sa, .ref fi, .int (zI bo), .ref ch, .ref cn, .int (zI ad), .int (zI ru), .ref kp, .int (zI dn), .ref rfa])), (ce, .inl (c_ce, 240, .inl f_ce)), (rk, .inl (c_rk, 4, .inl f_5)), (rw, .inl (c_rw, 4, .inl f_10)), (rh, .inl (c_rh, 4, .inl (upd f_rh (rfn).toNat (zI js))))] H := hP
                have hD : va_D A [(h0, .inr (9, [.int (zI fa), .int (zI tc), .ref so, .ref sl, .ref ce, .int (zI fn), .ref kd, .ref wd, .ref hs, .ref pf, .ref lt, .int (zI mn), .ref wg, .int (zI ta), .long ck, .int (zI ja), .int (zI rfn), .ref rk, .ref rw, .ref rh, .int (zI cl), .ref sa, .ref fi, .int (zI bo), .ref ch, .ref cn, .int (zI ad), .int (zI ru), .ref kp, .int (zI dn), .ref rfa])), (ce, .inl (c_ce, 240, .inl f_ce)), (rk, .inl (c_rk, 4, .inl f_5)), (rw, .inl (c_rw, 4, .inl f_10)), (rh, .inl (c_rh, 4, .inl (upd f_rh (rfn).toNat (zI js))))] := hD
                generalize ef_20 : upd f_rh (rfn).toNat (zI js) = f_20 at hP hD
                refine lv_aload_n hx hb dX9_readFont_219 rfl (lv_at hl 2 rfl) ?_
                refine lv_dup hx hb dX9_readFont_220 rfl ?_
                refine va_get (D := D) (ci := 9) (v := .int (zI rfn)) (C := RX9) (T := TX9) (N := 31) hx hb hts (fun _ h9 => List.mem_cons_of_mem _ (List.mem_append_right _ h9)) hown hK hP 0 rfl rfl 16 (by decide) (hts (.fieldLink RX9 98 "FontRunsModel" "readFonts" "I") mw_X9_readFont_3) (fun _ h9 => h9) rfl dX9_readFont_221 ?_
                refine lv_iconst (v := zI 1) hx hb dX9_readFont_224 rfl ?_
                refine kz_iadd hx hb dX9_readFont_225 ?_
                refine va_put (D := D) (ci := 9) (v := .int (zI (rfn + 1))) (ty := .int) (C := RX9) (T := TX9) (N := 31) hx hb hts (fun _ h9 => List.mem_cons_of_mem _ (List.mem_append_right _ h9)) tyX9 tyX9_ok nmX9 hown hK hP hD hS 0 rfl rfl 16 (by decide) (hts (.fieldLink RX9 98 "FontRunsModel" "readFonts" "I") mw_X9_readFont_3) (fun _ h9 => h9) rfl (by decide +kernel) rfl rfl (Nat.le_of_ble_eq_true rfl) dX9_readFont_226 (fun H locs hP hD hS => ?_)
                have hP : va_P D vwCl [(h0, .inr (9, [.int (zI fa), .int (zI tc), .ref so, .ref sl, .ref ce, .int (zI fn), .ref kd, .ref wd, .ref hs, .ref pf, .ref lt, .int (zI mn), .ref wg, .int (zI ta), .long ck, .int (zI ja), .int (zI (rfn + 1)), .ref rk, .ref rw, .ref rh, .int (zI cl), .ref sa, .ref fi, .int (zI bo), .ref ch, .ref cn, .int (zI ad), .int (zI ru), .ref kp, .int (zI dn), .ref rfa])), (ce, .inl (c_ce, 240, .inl f_ce)), (rk, .inl (c_rk, 4, .inl f_5)), (rw, .inl (c_rw, 4, .inl f_10)), (rh, .inl (c_rh, 4, .inl f_20))] H := hP
                have hD : va_D A [(h0, .inr (9, [.int (zI fa), .int (zI tc), .ref so, .ref sl, .ref ce, .int (zI fn), .ref kd, .ref wd, .ref hs, .ref pf, .ref lt, .int (zI mn), .ref wg, .int (zI ta), .long ck, .int (zI ja), .int (zI (rfn + 1)), .ref rk, .ref rw, .ref rh, .int (zI cl), .ref sa, .ref fi, .int (zI bo), .ref ch, .ref cn, .int (zI ad), .int (zI ru), .ref kp, .int (zI dn), .ref rfa])), (ce, .inl (c_ce, 240, .inl f_ce)), (rk, .inl (c_rk, 4, .inl f_5)), (rw, .inl (c_rw, 4, .inl f_10)), (rh, .inl (c_rh, 4, .inl f_20))] := hD
                refine lv_iload_n hx hb dX9_readFont_229 rfl (lv_at hl 1 rfl) ?_
                refine kz_if_eq (tgt := 237) hx hb dX9_readFont_230 (by decide) (by omega) (fun c_21 => ?_) (fun c_21 => ?_)
                · refine lv_iconst (v := zI 0) hx hb dX9_readFont_237 rfl ?_
                  have hP9 := hP.sub (ws' := [(h0, .inr (9, [.int (zI fa), .int (zI tc), .ref so, .ref sl, .ref ce, .int (zI fn), .ref kd, .ref wd, .ref hs, .ref pf, .ref lt, .int (zI mn), .ref wg, .int (zI ta), .long ck, .int (zI ja), .int (zI (rfn + 1)), .ref rk, .ref rw, .ref rh, .int (zI cl), .ref sa, .ref fi, .int (zI bo), .ref ch, .ref cn, .int (zI ad), .int (zI ru), .ref kp, .int (zI dn), .ref rfa])), (ce, .inl (c_ce, 240, .inl f_ce)), (rk, .inl (c_rk, 4, .inl f_5)), (rw, .inl (c_rw, 4, .inl f_10)), (rh, .inl (c_rh, 4, .inl f_20))]) [0, 1, 2, 3, 4] rfl
                  have hD9 := hD.sub (ws' := [(h0, .inr (9, [.int (zI fa), .int (zI tc), .ref so, .ref sl, .ref ce, .int (zI fn), .ref kd, .ref wd, .ref hs, .ref pf, .ref lt, .int (zI mn), .ref wg, .int (zI ta), .long ck, .int (zI ja), .int (zI (rfn + 1)), .ref rk, .ref rw, .ref rh, .int (zI cl), .ref sa, .ref fi, .int (zI bo), .ref ch, .ref cn, .int (zI ad), .int (zI ru), .ref kp, .int (zI dn), .ref rfa])), (ce, .inl (c_ce, 240, .inl f_ce)), (rk, .inl (c_rk, 4, .inl f_5)), (rw, .inl (c_rw, 4, .inl f_10)), (rh, .inl (c_rh, 4, .inl f_20))]) [0, 1, 2, 3, 4] (by decide +kernel) rfl
                  exact W.zret (v := (zI 0)) hx hb hr rfl (fun t ht hW => kQS_of (by omega) ⟨ja, (rfn + 1), f_5, f_10, f_20, v_1242, (kRl_e0 v_1244 (by omega) (Or.inr (Or.inr (by omega))) (by omega) rfl), v_1243, (by omega), (by omega), by rw [ht]; exact hP9, hD9⟩ (hS.F ht)) hS.2.2 dX9_readFont_238
                · refine lv_iconst (v := zI 1) hx hb dX9_readFont_233 rfl ?_
                  refine lv_goto (tgt := 238) hx hb dX9_readFont_234 (by decide) ?_
                  have hP9 := hP.sub (ws' := [(h0, .inr (9, [.int (zI fa), .int (zI tc), .ref so, .ref sl, .ref ce, .int (zI fn), .ref kd, .ref wd, .ref hs, .ref pf, .ref lt, .int (zI mn), .ref wg, .int (zI ta), .long ck, .int (zI ja), .int (zI (rfn + 1)), .ref rk, .ref rw, .ref rh, .int (zI cl), .ref sa, .ref fi, .int (zI bo), .ref ch, .ref cn, .int (zI ad), .int (zI ru), .ref kp, .int (zI dn), .ref rfa])), (ce, .inl (c_ce, 240, .inl f_ce)), (rk, .inl (c_rk, 4, .inl f_5)), (rw, .inl (c_rw, 4, .inl f_10)), (rh, .inl (c_rh, 4, .inl f_20))]) [0, 1, 2, 3, 4] rfl
                  have hD9 := hD.sub (ws' := [(h0, .inr (9, [.int (zI fa), .int (zI tc), .ref so, .ref sl, .ref ce, .int (zI fn), .ref kd, .ref wd, .ref hs, .ref pf, .ref lt, .int (zI mn), .ref wg, .int (zI ta), .long ck, .int (zI ja), .int (zI (rfn + 1)), .ref rk, .ref rw, .ref rh, .int (zI cl), .ref sa, .ref fi, .int (zI bo), .ref ch, .ref cn, .int (zI ad), .int (zI ru), .ref kp, .int (zI dn), .ref rfa])), (ce, .inl (c_ce, 240, .inl f_ce)), (rk, .inl (c_rk, 4, .inl f_5)), (rw, .inl (c_rw, 4, .inl f_10)), (rh, .inl (c_rh, 4, .inl f_20))]) [0, 1, 2, 3, 4] (by decide +kernel) rfl
                  exact W.zret (v := (zI 1)) hx hb hr rfl (fun t ht hW => kQS_of (by omega) ⟨ja, (rfn + 1), f_5, f_10, f_20, v_1242, (kRl_e1 v_1244 (by omega) (Or.inr (Or.inr (by omega))) (by omega) rfl rfl ef_20), v_1243, (by omega), (by omega), by rw [ht]; exact hP9, hD9⟩ (hS.F ht)) hS.2.2 dX9_readFont_238
              · refine lv_aload_n hx hb dX9_readFont_145 rfl (lv_at hl 2 rfl) ?_
                refine va_get (D := D) (ci := 9) (v := .ref ce) (C := RX9) (T := TX9) (N := 31) hx hb hts (fun _ h9 => List.mem_cons_of_mem _ (List.mem_append_right _ h9)) hown hK hP 0 rfl rfl 4 (by decide) (hts (.fieldLink RX9 16 "FontRunsModel" "cells" "[I") mw_X9_readFont_1) (fun _ h9 => h9) rfl dX9_readFont_146 ?_
                refine lv_aload_n hx hb dX9_readFont_149 rfl (lv_at hl 2 rfl) ?_
                refine va_get (D := D) (ci := 9) (v := .int (zI ja)) (C := RX9) (T := TX9) (N := 31) hx hb hts (fun _ h9 => List.mem_cons_of_mem _ (List.mem_append_right _ h9)) hown hK hP 0 rfl rfl 15 (by decide) (hts (.fieldLink RX9 77 "FontRunsModel" "at" "I") mw_X9_readFont_0) (fun _ h9 => h9) rfl dX9_readFont_150 ?_
                refine kz_iald hx hb hK hP 1 0 rfl rfl (by omega) dX9_readFont_153 (fun z_22 rz_22 ez_22 => ?_)
                refine lv_bipush (v := zI 97) hx hb dX9_readFont_154 (by decide) ?_
                refine kz_isub hx hb dX9_readFont_156 ?_
                refine kz_any (fun z_23 rz_23 ez_23 => ?_)
                refine lv_istore (lv' := [(4, .int (zI z_23)), (3, .int (zI jm)), (2, .int (zI js)), (0, .ref h0), (1, .int (zI en))]) hx hb dX9_readFont_157 hl (by decide) rfl (fun ls hl => ?_)
                have w9 := kw97 rz_22 rz_23 ez_23
                refine lv_iload hx hb dX9_readFont_159 (lv_at hl 0 rfl) ?_
                refine lv_iconst (v := zI 0) hx hb dX9_readFont_161 rfl ?_
                refine lv_bipush (v := zI 15) hx hb dX9_readFont_162 (by decide) ?_
                refine k_callR (va_runS (As := [.int (zI z_23), .int (zI 0), .int (zI 15)]) (rest := []) ⟨hx, hb, hml, hown, hts⟩ (c_X9_within l D H.size (v := z_23) (a := 0) (b := 15) (by omega) (by omega) (by omega)) (va_cwS 3 hts gX9_readFont_X9_within rfl rfl rfl (by decide +kernel) ⟨Nat.le_of_ble_eq_true rfl, Nat.le_of_ble_eq_true rfl⟩) (kPreS hP (kD0 hD) hK hN [] [] ax_X9_readFont_1 rfl (by decide +kernel)) rfl rfl hl.1 rfl (lv_room (Nat.le_of_ble_eq_true rfl)) dX9_readFont_164 ⟨Nat.le_of_ble_eq_true rfl, Nat.le_of_ble_eq_true rfl⟩) ?_
                refine lv_if_eq (tgt := 183) hx hb dX9_readFont_167 (by decide) (fun c_24 => ?_) (fun c_24 => ?_)
                · have c_24 : ¬ (0 ≤ z_23 ∧ z_23 ≤ 15) := b01f c_24
                  refine lv_iconst (v := zI 0) hx hb dX9_readFont_183 rfl ?_
                  refine lv_istore_n (lv' := [(3, .int (zI 0)), (4, .int (zI z_23)), (2, .int (zI js)), (0, .ref h0), (1, .int (zI en))]) hx hb dX9_readFont_184 rfl hl (by decide) rfl (fun ls hl => ?_)
                  refine lv_iload_n hx hb dX9_readFont_185 rfl (lv_at hl 0 rfl) ?_
                  refine kz_if_eq (tgt := 206) hx hb dX9_readFont_186 (by decide) (by omega) (fun c9 => ?_) (fun c9 => by omega)
                  refine lv_goto (tgt := 124) hx hb dX9_readFont_206 (by decide) ?_
                  exact ih124 _ (by omega) _ _ _ ⟨js, 0, ja, rfl, v_1240, (by omega), v_1242, v_1243, (kRl_n (l := z_23) v_1244 (by omega) ez_22 rz_22 (Or.inl (by omega))), hP, hD, hS, lv_sub hl [0, 2, 3, 4] rfl⟩
                · have c_24 : 0 ≤ z_23 ∧ z_23 ≤ 15 := b01t c_24
                  refine lv_iload_n hx hb dX9_readFont_170 rfl (lv_at hl 2 rfl) ?_
                  refine lv_iload hx hb dX9_readFont_171 (lv_at hl 0 rfl) ?_
                  refine k_callR (va_runS (As := [.int (zI js), .int (zI z_23)]) (rest := []) ⟨hx, hb, hml, hown, hts⟩ (c_X9_isOf_b l D H.size (x := js) (k := z_23) v_1240 (by omega)) (va_cwS 2 hts gX9_readFont_X9_isOf rfl rfl rfl (by decide +kernel) ⟨Nat.le_of_ble_eq_true rfl, Nat.le_of_ble_eq_true rfl⟩) (kPreS hP (kD0 hD) hK hN [] [] ax_X9_readFont_1 rfl (by decide +kernel)) rfl rfl hl.1 rfl (lv_room (Nat.le_of_ble_eq_true rfl)) dX9_readFont_173 ⟨Nat.le_of_ble_eq_true rfl, Nat.le_of_ble_eq_true rfl⟩) ?_
                  refine lv_if_ne (tgt := 183) hx hb dX9_readFont_176 (by decide) (fun c_25 => ?_) (fun c_25 => ?_)
                  · have c_25 : (zI js >>> (zI z_23 &&& 31)) &&& 1 = 1 := b01t c_25
                    refine lv_iconst (v := zI 0) hx hb dX9_readFont_183 rfl ?_
                    refine lv_istore_n (lv' := [(3, .int (zI 0)), (4, .int (zI z_23)), (2, .int (zI js)), (0, .ref h0), (1, .int (zI en))]) hx hb dX9_readFont_184 rfl hl (by decide) rfl (fun ls hl => ?_)
                    refine lv_iload_n hx hb dX9_readFont_185 rfl (lv_at hl 0 rfl) ?_
                    refine kz_if_eq (tgt := 206) hx hb dX9_readFont_186 (by decide) (by omega) (fun c9 => ?_) (fun c9 => by omega)
                    refine lv_goto (tgt := 124) hx hb dX9_readFont_206 (by decide) ?_
                    exact ih124 _ (by omega) _ _ _ ⟨js, 0, ja, rfl, v_1240, (by omega), v_1242, v_1243, (kRl_n (l := z_23) v_1244 (by omega) ez_22 rz_22 (Or.inr ⟨by omega, by omega, c_25⟩)), hP, hD, hS, lv_sub hl [0, 2, 3, 4] rfl⟩
                  · have c_25 : ¬ ((zI js >>> (zI z_23 &&& 31)) &&& 1 = 1) := b01f c_25
                    refine lv_iconst (v := zI 1) hx hb dX9_readFont_179 rfl ?_
                    refine lv_goto (tgt := 184) hx hb dX9_readFont_180 (by decide) ?_
                    refine lv_istore_n (lv' := [(3, .int (zI 1)), (4, .int (zI z_23)), (2, .int (zI js)), (0, .ref h0), (1, .int (zI en))]) hx hb dX9_readFont_184 rfl hl (by decide) rfl (fun ls hl => ?_)
                    refine lv_iload_n hx hb dX9_readFont_185 rfl (lv_at hl 0 rfl) ?_
                    refine kz_if_eq (tgt := 206) hx hb dX9_readFont_186 (by decide) (by omega) (fun c9 => by omega) (fun c9 => ?_)
                    refine lv_iload_n hx hb dX9_readFont_189 rfl (lv_at hl 2 rfl) ?_
                    refine lv_iconst (v := zI 1) hx hb dX9_readFont_190 rfl ?_
                    refine lv_iload hx hb dX9_readFont_191 (lv_at hl 1 rfl) ?_
                    refine lv_ishl hx hb dX9_readFont_193 ?_
                    refine kz_any (fun z_26 rz_26 ez_26 => ?_)
                    refine lv_ior hx hb dX9_readFont_194 ?_
                    refine kz_any (fun z_27 rz_27 ez_27 => ?_)
                    refine lv_istore_n (lv' := [(2, .int (zI z_27)), (3, .int (zI 1)), (4, .int (zI z_23)), (0, .ref h0), (1, .int (zI en))]) hx hb dX9_readFont_195 rfl hl (by decide) rfl (fun ls hl => ?_)
                    refine lv_aload_n hx hb dX9_readFont_196 rfl (lv_at hl 3 rfl) ?_
                    refine lv_dup hx hb dX9_readFont_197 rfl ?_
                    refine va_get (D := D) (ci := 9) (v := .int (zI ja)) (C := RX9) (T := TX9) (N := 31) hx hb hts (fun _ h9 => List.mem_cons_of_mem _ (List.mem_append_right _ h9)) hown hK hP 0 rfl rfl 15 (by decide) (hts (.fieldLink RX9 77 "FontRunsModel" "at" "I") mw_X9_readFont_0) (fun _ h9 => h9) rfl dX9_readFont_198 ?_
                    refine lv_iconst (v := zI 1) hx hb dX9_readFont_201 rfl ?_
                    refine kz_iadd hx hb dX9_readFont_202 ?_
                    refine va_put (D := D) (ci := 9) (v := .int (zI (ja + 1))) (ty := .int) (C := RX9) (T := TX9) (N := 31) hx hb hts (fun _ h9 => List.mem_cons_of_mem _ (List.mem_append_right _ h9)) tyX9 tyX9_ok nmX9 hown hK hP hD hS 0 rfl rfl 15 (by decide) (hts (.fieldLink RX9 77 "FontRunsModel" "at" "I") mw_X9_readFont_0) (fun _ h9 => h9) rfl (by decide +kernel) rfl rfl (Nat.le_of_ble_eq_true rfl) dX9_readFont_203 (fun H locs hP hD hS => ?_)
                    have hP : va_P D vwCl [(h0, .inr (9, [.int (zI fa), .int (zI tc), .ref so, .ref sl, .ref ce, .int (zI fn), .ref kd, .ref wd, .ref hs, .ref pf, .ref lt, .int (zI mn), .ref wg, .int (zI ta), .long ck, .int (zI (ja + 1)), .int (zI rfn), .ref rk, .ref rw, .ref rh, .int (zI cl), .ref sa, .ref fi, .int (zI bo), .ref ch, .ref cn, .int (zI ad), .int (zI ru), .ref kp, .int (zI dn), .ref rfa])), (ce, .inl (c_ce, 240, .inl f_ce)), (rk, .inl (c_rk, 4, .inl f_5)), (rw, .inl (c_rw, 4, .inl f_10)), (rh, .inl (c_rh, 4, .inl f_rh))] H := hP
                    have hD : va_D A [(h0, .inr (9, [.int (zI fa), .int (zI tc), .ref so, .ref sl, .ref ce, .int (zI fn), .ref kd, .ref wd, .ref hs, .ref pf, .ref lt, .int (zI mn), .ref wg, .int (zI ta), .long ck, .int (zI (ja + 1)), .int (zI rfn), .ref rk, .ref rw, .ref rh, .int (zI cl), .ref sa, .ref fi, .int (zI bo), .ref ch, .ref cn, .int (zI ad), .int (zI ru), .ref kp, .int (zI dn), .ref rfa])), (ce, .inl (c_ce, 240, .inl f_ce)), (rk, .inl (c_rk, 4, .inl f_5)), (rw, .inl (c_rw, 4, .inl f_10)), (rh, .inl (c_rh, 4, .inl f_rh))] := hD
                    refine lv_goto (tgt := 124) hx hb dX9_readFont_206 (by decide) ?_
                    exact ih124 _ (by omega) _ _ _ ⟨z_27, 1, (ja + 1), rfl, (by omega), (by omega), (by omega), (by omega), (kRl_s v_1244 (by omega) ez_22 rz_22 (l := z_23) (by omega) (by omega) c_25 h_15 (by omega) ez_26 rz_27 ez_27), hP, hD, hS, lv_sub hl [1, 0, 3, 4] rfl⟩
        · have c_8 : ¬ (49 ≤ z_7 ∧ z_7 ≤ 57) := b01f c_8
          refine lv_iconst (v := zI 0) hx hb dX9_readFont_87 rfl ?_
          have hP9 := hP.sub (ws' := [(h0, .inr (9, [.int (zI fa), .int (zI tc), .ref so, .ref sl, .ref ce, .int (zI fn), .ref kd, .ref wd, .ref hs, .ref pf, .ref lt, .int (zI mn), .ref wg, .int (zI ta), .long ck, .int (zI (at9 + 1)), .int (zI rfn), .ref rk, .ref rw, .ref rh, .int (zI cl), .ref sa, .ref fi, .int (zI bo), .ref ch, .ref cn, .int (zI ad), .int (zI ru), .ref kp, .int (zI dn), .ref rfa])), (ce, .inl (c_ce, 240, .inl f_ce)), (rk, .inl (c_rk, 4, .inl f_5)), (rw, .inl (c_rw, 4, .inl f_rw)), (rh, .inl (c_rh, 4, .inl f_rh))]) [0, 1, 2, 3, 4] rfl
          have hD9 := hD.sub (ws' := [(h0, .inr (9, [.int (zI fa), .int (zI tc), .ref so, .ref sl, .ref ce, .int (zI fn), .ref kd, .ref wd, .ref hs, .ref pf, .ref lt, .int (zI mn), .ref wg, .int (zI ta), .long ck, .int (zI (at9 + 1)), .int (zI rfn), .ref rk, .ref rw, .ref rh, .int (zI cl), .ref sa, .ref fi, .int (zI bo), .ref ch, .ref cn, .int (zI ad), .int (zI ru), .ref kp, .int (zI dn), .ref rfa])), (ce, .inl (c_ce, 240, .inl f_ce)), (rk, .inl (c_rk, 4, .inl f_5)), (rw, .inl (c_rw, 4, .inl f_rw)), (rh, .inl (c_rh, 4, .inl f_rh))]) [0, 1, 2, 3, 4] (by decide +kernel) rfl
          exact W.zret (v := (zI 0)) hx hb hr rfl (fun t ht hW => kQS_of (by omega) ⟨(at9 + 1), rfn, f_5, f_rw, f_rh, (by omega), (kRf_0 rfl (kBadS G1 (by omega) (by omega) ez_7 rz_7 (kBrd_x (by omega)))), (by omega), (by omega), (by omega), by rw [ht]; exact hP9, hD9⟩ (hS.F ht)) hS.2.2 dX9_readFont_88
    · have c_3 : ¬ (65 ≤ z_2 ∧ z_2 ≤ 67) := b01f c_3
      refine lv_iconst (v := zI 0) hx hb dX9_readFont_27 rfl ?_
      have hP9 := hP.sub (ws' := [(h0, .inr (9, [.int (zI fa), .int (zI tc), .ref so, .ref sl, .ref ce, .int (zI fn), .ref kd, .ref wd, .ref hs, .ref pf, .ref lt, .int (zI mn), .ref wg, .int (zI ta), .long ck, .int (zI at9), .int (zI rfn), .ref rk, .ref rw, .ref rh, .int (zI cl), .ref sa, .ref fi, .int (zI bo), .ref ch, .ref cn, .int (zI ad), .int (zI ru), .ref kp, .int (zI dn), .ref rfa])), (ce, .inl (c_ce, 240, .inl f_ce)), (rk, .inl (c_rk, 4, .inl f_rk)), (rw, .inl (c_rw, 4, .inl f_rw)), (rh, .inl (c_rh, 4, .inl f_rh))]) [0, 1, 2, 3, 4] rfl
      have hD9 := hD.sub (ws' := [(h0, .inr (9, [.int (zI fa), .int (zI tc), .ref so, .ref sl, .ref ce, .int (zI fn), .ref kd, .ref wd, .ref hs, .ref pf, .ref lt, .int (zI mn), .ref wg, .int (zI ta), .long ck, .int (zI at9), .int (zI rfn), .ref rk, .ref rw, .ref rh, .int (zI cl), .ref sa, .ref fi, .int (zI bo), .ref ch, .ref cn, .int (zI ad), .int (zI ru), .ref kp, .int (zI dn), .ref rfa])), (ce, .inl (c_ce, 240, .inl f_ce)), (rk, .inl (c_rk, 4, .inl f_rk)), (rw, .inl (c_rw, 4, .inl f_rw)), (rh, .inl (c_rh, 4, .inl f_rh))]) [0, 1, 2, 3, 4] (by decide +kernel) rfl
      exact W.zret (v := (zI 0)) hx hb hr rfl (fun t ht hW => kQS_of (by omega) ⟨at9, rfn, f_rk, f_rw, f_rh, q4, (kRf_0 rfl (kBadS q3 (by omega) (by omega) ez_2 rz_2 (kKnd_x (by omega)))), q2, (by omega), (by omega), by rw [ht]; exact hP9, hD9⟩ (hS.F ht)) hS.2.2 dX9_readFont_28
theorem dX9_readAll_0 : decode cX9_readAll 0 = .ok (.aload_n 0, 1) := kqo_2a kbl_X9_readAll (pc := 0) rfl
theorem dX9_readAll_1 : decode cX9_readAll 1 = .ok (.iconst 0, 1) := kqo_03 kbl_X9_readAll (pc := 1) rfl
theorem dX9_readAll_2 : decode cX9_readAll 2 = .ok (.putfield 98, 3) := kqo_b5 (x1 := 0) (x2 := 98) kbl_X9_readAll (pc := 2) rfl rfl
theorem dX9_readAll_5 : decode cX9_readAll 5 = .ok (.aload_n 0, 1) := kqo_2a kbl_X9_readAll (pc := 5) rfl
theorem dX9_readAll_6 : decode cX9_readAll 6 = .ok (.iload_n 1, 1) := kqo_1b kbl_X9_readAll (pc := 6) rfl
theorem dX9_readAll_7 : decode cX9_readAll 7 = .ok (.bipush 102, 2) := kqo_10 (x1 := 102) kbl_X9_readAll (pc := 7) rfl rfl
theorem dX9_readAll_9 : decode cX9_readAll 9 = .ok (.invokevirtual 107, 3) := kqo_b6 (x1 := 0) (x2 := 107) kbl_X9_readAll (pc := 9) rfl rfl
theorem dX9_readAll_12 : decode cX9_readAll 12 = .ok (.ifCond .ne 5, 3) := kqo_9a (x1 := 0) (x2 := 5) kbl_X9_readAll (pc := 12) rfl rfl
theorem dX9_readAll_15 : decode cX9_readAll 15 = .ok (.iconst 0, 1) := kqo_03 kbl_X9_readAll (pc := 15) rfl
theorem dX9_readAll_16 : decode cX9_readAll 16 = .ok (.ireturn, 1) := kqo_ac kbl_X9_readAll (pc := 16) rfl
theorem dX9_readAll_17 : decode cX9_readAll 17 = .ok (.aload_n 0, 1) := kqo_2a kbl_X9_readAll (pc := 17) rfl
theorem dX9_readAll_18 : decode cX9_readAll 18 = .ok (.getfield 98, 3) := kqo_b4 (x1 := 0) (x2 := 98) kbl_X9_readAll (pc := 18) rfl rfl
theorem dX9_readAll_21 : decode cX9_readAll 21 = .ok (.ifCond .eq 19, 3) := kqo_99 (x1 := 0) (x2 := 19) kbl_X9_readAll (pc := 21) rfl rfl
theorem dX9_readAll_24 : decode cX9_readAll 24 = .ok (.aload_n 0, 1) := kqo_2a kbl_X9_readAll (pc := 24) rfl
theorem dX9_readAll_25 : decode cX9_readAll 25 = .ok (.getfield 98, 3) := kqo_b4 (x1 := 0) (x2 := 98) kbl_X9_readAll (pc := 25) rfl rfl
theorem dX9_readAll_28 : decode cX9_readAll 28 = .ok (.iconst 4, 1) := kqo_07 kbl_X9_readAll (pc := 28) rfl
theorem dX9_readAll_29 : decode cX9_readAll 29 = .ok (.if_icmp .ge 31, 3) := kqo_a2 (x1 := 0) (x2 := 31) kbl_X9_readAll (pc := 29) rfl rfl
theorem dX9_readAll_32 : decode cX9_readAll 32 = .ok (.aload_n 0, 1) := kqo_2a kbl_X9_readAll (pc := 32) rfl
theorem dX9_readAll_33 : decode cX9_readAll 33 = .ok (.getfield 77, 3) := kqo_b4 (x1 := 0) (x2 := 77) kbl_X9_readAll (pc := 33) rfl rfl
theorem dX9_readAll_36 : decode cX9_readAll 36 = .ok (.iload_n 1, 1) := kqo_1b kbl_X9_readAll (pc := 36) rfl
theorem dX9_readAll_37 : decode cX9_readAll 37 = .ok (.if_icmp .ge 23, 3) := kqo_a2 (x1 := 0) (x2 := 23) kbl_X9_readAll (pc := 37) rfl rfl
theorem dX9_readAll_40 : decode cX9_readAll 40 = .ok (.aload_n 0, 1) := kqo_2a kbl_X9_readAll (pc := 40) rfl
theorem dX9_readAll_41 : decode cX9_readAll 41 = .ok (.iload_n 1, 1) := kqo_1b kbl_X9_readAll (pc := 41) rfl
theorem dX9_readAll_42 : decode cX9_readAll 42 = .ok (.bipush 59, 2) := kqo_10 (x1 := 59) kbl_X9_readAll (pc := 42) rfl rfl
theorem dX9_readAll_44 : decode cX9_readAll 44 = .ok (.invokevirtual 107, 3) := kqo_b6 (x1 := 0) (x2 := 107) kbl_X9_readAll (pc := 44) rfl rfl
theorem dX9_readAll_47 : decode cX9_readAll 47 = .ok (.ifCond .eq 11, 3) := kqo_99 (x1 := 0) (x2 := 11) kbl_X9_readAll (pc := 47) rfl rfl
theorem dX9_readAll_50 : decode cX9_readAll 50 = .ok (.aload_n 0, 1) := kqo_2a kbl_X9_readAll (pc := 50) rfl
theorem dX9_readAll_51 : decode cX9_readAll 51 = .ok (.iload_n 1, 1) := kqo_1b kbl_X9_readAll (pc := 51) rfl
theorem dX9_readAll_52 : decode cX9_readAll 52 = .ok (.invokevirtual 111, 3) := kqo_b6 (x1 := 0) (x2 := 111) kbl_X9_readAll (pc := 52) rfl rfl
theorem dX9_readAll_55 : decode cX9_readAll 55 = .ok (.ifCond .ne (-38), 3) := kqo_9a (x1 := 255) (x2 := 218) kbl_X9_readAll (pc := 55) rfl rfl
theorem dX9_readAll_58 : decode cX9_readAll 58 = .ok (.iconst 0, 1) := kqo_03 kbl_X9_readAll (pc := 58) rfl
theorem dX9_readAll_59 : decode cX9_readAll 59 = .ok (.ireturn, 1) := kqo_ac kbl_X9_readAll (pc := 59) rfl
theorem dX9_readAll_60 : decode cX9_readAll 60 = .ok (.aload_n 0, 1) := kqo_2a kbl_X9_readAll (pc := 60) rfl
theorem dX9_readAll_61 : decode cX9_readAll 61 = .ok (.getfield 77, 3) := kqo_b4 (x1 := 0) (x2 := 77) kbl_X9_readAll (pc := 61) rfl rfl
theorem dX9_readAll_64 : decode cX9_readAll 64 = .ok (.iload_n 1, 1) := kqo_1b kbl_X9_readAll (pc := 64) rfl
theorem dX9_readAll_65 : decode cX9_readAll 65 = .ok (.if_icmp .ne 7, 3) := kqo_a0 (x1 := 0) (x2 := 7) kbl_X9_readAll (pc := 65) rfl rfl
theorem dX9_readAll_68 : decode cX9_readAll 68 = .ok (.iconst 1, 1) := kqo_04 kbl_X9_readAll (pc := 68) rfl
theorem dX9_readAll_69 : decode cX9_readAll 69 = .ok (.goto 4, 3) := kqo_a7 (x1 := 0) (x2 := 4) kbl_X9_readAll (pc := 69) rfl rfl
theorem dX9_readAll_72 : decode cX9_readAll 72 = .ok (.iconst 0, 1) := kqo_03 kbl_X9_readAll (pc := 72) rfl
theorem dX9_readAll_73 : decode cX9_readAll 73 = .ok (.ireturn, 1) := kqo_ac kbl_X9_readAll (pc := 73) rfl
set_option maxRecDepth 20000 in
theorem ggX9_readAll_X9_isSign : GoodIn wsX9_readAll wsX9_isSign := goodIn_4 _ (List.forall_mem_cons.mpr ⟨List.mem_cons_of_mem _ (List.mem_append_left _ (List.mem_of_getElem? (i := 6) rfl)), List.forall_mem_append.mpr ⟨List.forall_mem_cons.mpr ⟨List.mem_cons_of_mem _ (List.mem_append_left _ (List.mem_of_getElem? (i := 1) rfl)), List.forall_mem_cons.mpr ⟨List.mem_cons_of_mem _ (List.mem_append_left _ (List.mem_of_getElem? (i := 7) rfl)), fun _ h9 => absurd h9 List.not_mem_nil⟩⟩, fun w h9 => List.mem_cons_of_mem _ (List.mem_append_right _ (h9))⟩⟩) (by decide +kernel)
set_option maxRecDepth 20000 in
theorem gX9_readAll_X9_isSign : GoodIn wsX9_readAll (wsV RX9 107 RX9 yX9_isSign wsX9_isSign) := goodIn_app (goodIn_4 _ (List.forall_mem_cons.mpr ⟨List.mem_cons_of_mem _ (List.mem_append_left _ (List.mem_of_getElem? (i := 2) rfl)), List.forall_mem_cons.mpr ⟨List.mem_cons_of_mem _ (List.mem_append_left _ (List.mem_of_getElem? (i := 3) rfl)), List.forall_mem_cons.mpr ⟨List.mem_cons_of_mem _ (List.mem_append_left _ (List.mem_of_getElem? (i := 4) rfl)), List.forall_mem_cons.mpr ⟨List.mem_cons_of_mem _ (List.mem_append_left _ (List.mem_of_getElem? (i := 5) rfl)), fun _ h9 => absurd h9 List.not_mem_nil⟩⟩⟩⟩) (by decide +kernel)) ggX9_readAll_X9_isSign
set_option maxRecDepth 20000 in
theorem ggX9_readAll_X9_readFont : GoodIn wsX9_readAll wsX9_readFont := goodIn_4 _ (List.forall_mem_cons.mpr ⟨List.mem_cons_of_mem _ (List.mem_append_left _ (List.mem_of_getElem? (i := 11) rfl)), List.forall_mem_append.mpr ⟨List.forall_mem_cons.mpr ⟨List.mem_cons_of_mem _ (List.mem_append_left _ (List.mem_of_getElem? (i := 1) rfl)), List.forall_mem_cons.mpr ⟨List.mem_cons_of_mem _ (List.mem_append_left _ (List.mem_of_getElem? (i := 7) rfl)), List.forall_mem_cons.mpr ⟨List.mem_cons_of_mem _ (List.mem_append_left _ (List.mem_of_getElem? (i := 12) rfl)), List.forall_mem_cons.mpr ⟨List.mem_cons_of_mem _ (List.mem_append_left _ (List.mem_of_getElem? (i := 0) rfl)), List.forall_mem_cons.mpr ⟨List.mem_cons_of_mem _ (List.mem_append_left _ (List.mem_of_getElem? (i := 13) rfl)), List.forall_mem_cons.mpr ⟨List.mem_cons_of_mem _ (List.mem_append_left _ (List.mem_of_getElem? (i := 14) rfl)), List.forall_mem_cons.mpr ⟨List.mem_cons_of_mem _ (List.mem_append_left _ (List.mem_of_getElem? (i := 15) rfl)), List.forall_mem_cons.mpr ⟨List.mem_cons_of_mem _ (List.mem_append_left _ (List.mem_of_getElem? (i := 16) rfl)), List.forall_mem_cons.mpr ⟨List.mem_cons_of_mem _ (List.mem_append_left _ (List.mem_of_getElem? (i := 5) rfl)), List.forall_mem_cons.mpr ⟨List.mem_cons_of_mem _ (List.mem_append_left _ (List.mem_of_getElem? (i := 17) rfl)), List.forall_mem_cons.mpr ⟨List.mem_cons_of_mem _ (List.mem_append_left _ (List.mem_of_getElem? (i := 18) rfl)), List.forall_mem_cons.mpr ⟨List.mem_cons_of_mem _ (List.mem_append_left _ (List.mem_of_getElem? (i := 19) rfl)), List.forall_mem_cons.mpr ⟨List.mem_cons_of_mem _ (List.mem_append_left _ (List.mem_of_getElem? (i := 20) rfl)), List.forall_mem_cons.mpr ⟨List.mem_cons_of_mem _ (List.mem_append_left _ (List.mem_of_getElem? (i := 21) rfl)), List.forall_mem_cons.mpr ⟨List.mem_cons_of_mem _ (List.mem_append_left _ (List.mem_of_getElem? (i := 22) rfl)), List.forall_mem_cons.mpr ⟨List.mem_cons_of_mem _ (List.mem_append_left _ (List.mem_of_getElem? (i := 23) rfl)), fun _ h9 => absurd h9 List.not_mem_nil⟩⟩⟩⟩⟩⟩⟩⟩⟩⟩⟩⟩⟩⟩⟩⟩, fun w h9 => List.mem_cons_of_mem _ (List.mem_append_right _ (h9))⟩⟩) (by decide +kernel)
set_option maxRecDepth 20000 in
theorem gX9_readAll_X9_readFont : GoodIn wsX9_readAll (wsV RX9 111 RX9 yX9_readFont wsX9_readFont) := goodIn_app (goodIn_4 _ (List.forall_mem_cons.mpr ⟨List.mem_cons_of_mem _ (List.mem_append_left _ (List.mem_of_getElem? (i := 8) rfl)), List.forall_mem_cons.mpr ⟨List.mem_cons_of_mem _ (List.mem_append_left _ (List.mem_of_getElem? (i := 9) rfl)), List.forall_mem_cons.mpr ⟨List.mem_cons_of_mem _ (List.mem_append_left _ (List.mem_of_getElem? (i := 10) rfl)), List.forall_mem_cons.mpr ⟨List.mem_cons_of_mem _ (List.mem_append_left _ (List.mem_of_getElem? (i := 5) rfl)), fun _ h9 => absurd h9 List.not_mem_nil⟩⟩⟩⟩) (by decide +kernel)) ggX9_readAll_X9_readFont
set_option maxRecDepth 20000 in
theorem mw_X9_readAll_0 : (.fieldLink RX9 98 "FontRunsModel" "readFonts" "I" : Cond) ∈ wsX9_readAll := List.mem_cons_of_mem _ (List.mem_append_left _ (List.mem_of_getElem? (i := 0) rfl))
set_option maxRecDepth 20000 in
theorem mw_X9_readAll_1 : (.fieldLink RX9 77 "FontRunsModel" "at" "I" : Cond) ∈ wsX9_readAll := List.mem_cons_of_mem _ (List.mem_append_left _ (List.mem_of_getElem? (i := 1) rfl))
theorem ax_X9_readAll_0 {e0 e1 e2 e3 e4 : Nat × va_E} : ([0, 1] : List Nat).map (fun i => ([e0, e1, e2, e3, e4] : va_W)[i]?) = ([e0, e1] : va_W).map some := rfl
theorem ax_X9_readAll_1 {e0 e1 e2 e3 e4 : Nat × va_E} : ([2, 3, 4] : List Nat).map (fun i => ([e0, e1, e2, e3, e4] : va_W)[i]?) = ([e2, e3, e4] : va_W).map some := rfl
theorem ax_X9_readAll_2 {D : va_G} {cl : List vw_C} {H : Heap} {e0 e1 e2 f0 f1 : Nat × va_E} (h : va_P D cl ((([e0, e1, e2] : va_W) ++ ([f0, f1] : va_W))) H) : va_P D cl (([e0, e1, e2, f0, f1] : va_W)) H := h
theorem ax_X9_readAll_3 {A : Nat → Prop} {e0 e1 e2 f0 f1 : Nat × va_E} (h : va_D A ((([e0, e1, e2] : va_W) ++ ([f0, f1] : va_W)))) : va_D A (([e0, e1, e2, f0, f1] : va_W)) := h
theorem ax_X9_readAll_4 {e0 e1 e2 e3 e4 : Nat × va_E} : ([3, 4] : List Nat).map (fun i => ([e0, e1, e2, e3, e4] : va_W)[i]?) = ([e3, e4] : va_W).map some := rfl
theorem ax_X9_readAll_5 {e0 e1 e2 e3 e4 : Nat × va_E} : ([0, 1, 2] : List Nat).map (fun i => ([e0, e1, e2, e3, e4] : va_W)[i]?) = ([e0, e1, e2] : va_W).map some := rfl
theorem ax_X9_readAll_6 {e0 e1 e2 e3 e4 : Nat × va_E} : ([3, 4, 0, 1, 2] : List Nat).map (fun i => ([e0, e1, e2, e3, e4] : va_W)[i]?) = ([e3, e4, e0, e1, e2] : va_W).map some := rfl
theorem ax_X9_readAll_7 {e0 e1 e2 e3 e4 : Nat × va_E} : ([] : List Nat).map (fun i => ([e0, e1, e2, e3, e4] : va_W)[i]?) = ([] : va_W).map some := rfl
theorem ax_X9_readAll_8 {D : va_G} {cl : List vw_C} {H : Heap} {f0 f1 f2 f3 f4 : Nat × va_E} (h : va_P D cl ((([] : va_W) ++ ([f0, f1, f2, f3, f4] : va_W))) H) : va_P D cl (([f0, f1, f2, f3, f4] : va_W)) H := h
theorem ax_X9_readAll_9 {A : Nat → Prop} {f0 f1 f2 f3 f4 : Nat × va_E} (h : va_D A ((([] : va_W) ++ ([f0, f1, f2, f3, f4] : va_W)))) : va_D A (([f0, f1, f2, f3, f4] : va_W)) := h
theorem ax_X9_readAll_10 {e0 e1 e2 e3 e4 : Nat × va_E} : ([0, 1, 2, 3, 4] : List Nat).map (fun i => ([e0, e1, e2, e3, e4] : va_W)[i]?) = ([e0, e1, e2, e3, e4] : va_W).map some := rfl
set_option maxHeartbeats 4000000 in
set_option maxRecDepth 100000 in
theorem c_X9_readAll (l : Launch) (D : va_G) (sz : Nat) (en : Int) (h0 : Nat) (fa : Int) (tc : Int) (so : Nat) (sl : Nat) (ce : Nat) (fn : Int) (kd : Nat) (wd : Nat) (hs : Nat) (pf : Nat) (lt : Nat) (mn : Int) (wg : Nat) (ta : Int) (ck : Int64) (at9 : Int) (rfn : Int) (rk : Nat) (rw : Nat) (rh : Nat) (cl : Int) (sa : Nat) (fi : Nat) (bo : Int) (ch : Nat) (cn : Nat) (ad : Int) (ru : Int) (kp : Nat) (dn : Int) (rfa : Nat) (c_ce : ClassId) (f_ce : Nat → Int32) (c_rk : ClassId) (f_rk : Nat → Int32) (c_rw : ClassId) (f_rw : Nat → Int32) (c_rh : ClassId) (f_rh : Nat → Int32) (q0 : en ≤ 240 ∧ 0 ≤ en) (q1 : at9 ≤ en) (q2 : 0 ≤ at9 ∧ at9 ≤ 240) : Met l yX9_readAll wsX9_readAll ({ frames := 2, cells := 0, slots := 0, locals := 46 }) (kPre [.ref h0, .int (zI en)] D [(h0, .inr (9, [.int (zI fa), .int (zI tc), .ref so, .ref sl, .ref ce, .int (zI fn), .ref kd, .ref wd, .ref hs, .ref pf, .ref lt, .int (zI mn), .ref wg, .int (zI ta), .long ck, .int (zI at9), .int (zI rfn), .ref rk, .ref rw, .ref rh, .int (zI cl), .ref sa, .ref fi, .int (zI bo), .ref ch, .ref cn, .int (zI ad), .int (zI ru), .ref kp, .int (zI dn), .ref rfa])), (ce, .inl (c_ce, 240, .inl f_ce)), (rk, .inl (c_rk, 4, .inl f_rk)), (rw, .inl (c_rw, 4, .inl f_rw)), (rh, .inl (c_rh, 4, .inl f_rh))] [(c_ce, .int), (c_rk, .int), (c_rw, .int), (c_rh, .int)] sz) (kQS (fun rz t => ∃ (u_at9 : Int) (u_rfn : Int) (u_f_rk : Nat → Int32) (u_f_rw : Nat → Int32) (u_f_rh : Nat → Int32), (0 ≤ u_at9 ∧ u_at9 ≤ 240) ∧ (kRd9 f_ce f_rk f_rw f_rh at9 en u_at9 u_rfn u_f_rk u_f_rw u_f_rh rz) ∧ (at9 ≤ u_at9 ∧ u_at9 ≤ en) ∧ (0 ≤ u_rfn ∧ u_rfn ≤ 4) ∧ (rz = 0 ∨ rz = 1) ∧ va_P D vwCl [(h0, .inr (9, [.int (zI fa), .int (zI tc), .ref so, .ref sl, .ref ce, .int (zI fn), .ref kd, .ref wd, .ref hs, .ref pf, .ref lt, .int (zI mn), .ref wg, .int (zI ta), .long ck, .int (zI u_at9), .int (zI u_rfn), .ref rk, .ref rw, .ref rh, .int (zI cl), .ref sa, .ref fi, .int (zI bo), .ref ch, .ref cn, .int (zI ad), .int (zI ru), .ref kp, .int (zI dn), .ref rfa])), (ce, .inl (c_ce, 240, .inl f_ce)), (rk, .inl (c_rk, 4, .inl u_f_rk)), (rw, .inl (c_rw, 4, .inl u_f_rw)), (rh, .inl (c_rh, 4, .inl u_f_rh))] t.heap ∧ va_D (va_A [(h0, .inr (9, [.int (zI fa), .int (zI tc), .ref so, .ref sl, .ref ce, .int (zI fn), .ref kd, .ref wd, .ref hs, .ref pf, .ref lt, .int (zI mn), .ref wg, .int (zI ta), .long ck, .int (zI at9), .int (zI rfn), .ref rk, .ref rw, .ref rh, .int (zI cl), .ref sa, .ref fi, .int (zI bo), .ref ch, .ref cn, .int (zI ad), .int (zI ru), .ref kp, .int (zI dn), .ref rfa])), (ce, .inl (c_ce, 240, .inl f_ce)), (rk, .inl (c_rk, 4, .inl f_rk)), (rw, .inl (c_rw, 4, .inl f_rw)), (rh, .inl (c_rh, 4, .inl f_rh))] sz) [(h0, .inr (9, [.int (zI fa), .int (zI tc), .ref so, .ref sl, .ref ce, .int (zI fn), .ref kd, .ref wd, .ref hs, .ref pf, .ref lt, .int (zI mn), .ref wg, .int (zI ta), .long ck, .int (zI u_at9), .int (zI u_rfn), .ref rk, .ref rw, .ref rh, .int (zI cl), .ref sa, .ref fi, .int (zI bo), .ref ch, .ref cn, .int (zI ad), .int (zI ru), .ref kp, .int (zI dn), .ref rfa])), (ce, .inl (c_ce, 240, .inl f_ce)), (rk, .inl (c_rk, 4, .inl u_f_rk)), (rw, .inl (c_rw, 4, .inl u_f_rw)), (rh, .inl (c_rh, 4, .inl u_f_rh))]) (va_A [(h0, .inr (9, [.int (zI fa), .int (zI tc), .ref so, .ref sl, .ref ce, .int (zI fn), .ref kd, .ref wd, .ref hs, .ref pf, .ref lt, .int (zI mn), .ref wg, .int (zI ta), .long ck, .int (zI at9), .int (zI rfn), .ref rk, .ref rw, .ref rh, .int (zI cl), .ref sa, .ref fi, .int (zI bo), .ref ch, .ref cn, .int (zI ad), .int (zI ru), .ref kp, .int (zI dn), .ref rfa])), (ce, .inl (c_ce, 240, .inl f_ce)), (rk, .inl (c_rk, 4, .inl f_rk)), (rw, .inl (c_rw, 4, .inl f_rw)), (rh, .inl (c_rh, 4, .inl f_rh))] sz)) 0 0 (va_A [(h0, .inr (9, [.int (zI fa), .int (zI tc), .ref so, .ref sl, .ref ce, .int (zI fn), .ref kd, .ref wd, .ref hs, .ref pf, .ref lt, .int (zI mn), .ref wg, .int (zI ta), .long ck, .int (zI at9), .int (zI rfn), .ref rk, .ref rw, .ref rh, .int (zI cl), .ref sa, .ref fi, .int (zI bo), .ref ch, .ref cn, .int (zI ad), .int (zI ru), .ref kp, .int (zI dn), .ref rfa])), (ce, .inl (c_ce, 240, .inl f_ce)), (rk, .inl (c_rk, 4, .inl f_rk)), (rw, .inl (c_rw, 4, .inl f_rw)), (rh, .inl (c_rh, 4, .inl f_rh))] sz) := by
  refine Met.ofW (cc := cX9_readAll) (maxL := 2) (ret := (some .boolean)) (by decide) rfl ?_
  intro p e s m args below meth c s₁ B hml hv
  obtain ⟨rfl, hsz, hP, hK, hD0, hN⟩ := hv
  have hx := B.exec
  have hb := B.bytes
  have hr := B.returns
  have hts := atoms_spec (ws := wsX9_readAll) B.pre
  have hown : s.vm.findClass RX9 = some m.cls := findClass_of_methodNamed B.named
  have hlocks := B.notSynchronized
  subst hsz
  have hD := hD0.self (sz := s.heap.size)
  generalize hAe : va_A [(h0, .inr (9, [.int (zI fa), .int (zI tc), .ref so, .ref sl, .ref ce, .int (zI fn), .ref kd, .ref wd, .ref hs, .ref pf, .ref lt, .int (zI mn), .ref wg, .int (zI ta), .long ck, .int (zI at9), .int (zI rfn), .ref rk, .ref rw, .ref rh, .int (zI cl), .ref sa, .ref fi, .int (zI bo), .ref ch, .ref cn, .int (zI ad), .int (zI ru), .ref kp, .int (zI dn), .ref rfa])), (ce, .inl (c_ce, 240, .inl f_ce)), (rk, .inl (c_rk, 4, .inl f_rk)), (rw, .inl (c_rw, 4, .inl f_rw)), (rh, .inl (c_rh, 4, .inl f_rh))] s.heap.size = A at hD ⊢
  have hA : ∀ q : Nat, s.heap.size ≤ q → A q := fun q h => by rw [← hAe]; exact Or.inr h
  have hS : va_S A s.heap s.heap [] := va_S.rf
  have hP : va_P D vwCl [(h0, .inr (9, [.int (zI fa), .int (zI tc), .ref so, .ref sl, .ref ce, .int (zI fn), .ref kd, .ref wd, .ref hs, .ref pf, .ref lt, .int (zI mn), .ref wg, .int (zI ta), .long ck, .int (zI at9), .int (zI rfn), .ref rk, .ref rw, .ref rh, .int (zI cl), .ref sa, .ref fi, .int (zI bo), .ref ch, .ref cn, .int (zI ad), .int (zI ru), .ref kp, .int (zI dn), .ref rfa])), (ce, .inl (c_ce, 240, .inl f_ce)), (rk, .inl (c_rk, 4, .inl f_rk)), (rw, .inl (c_rw, 4, .inl f_rw)), (rh, .inl (c_rh, 4, .inl f_rh))] s.heap := hP
  have hl := lv_entry ([.ref h0, .int (zI en)]) (n := 2) (Nat.le_of_ble_eq_true rfl)
  rw [lg_entry_eq]
  generalize (lg_sl ([.ref h0, .int (zI en)]) ++ List.replicate (2 - (lg_sl ([.ref h0, .int (zI en)])).length) Slot.unset).toArray = ls at hl ⊢
  have hl : lv_has ls 2 [(0, .ref h0), (1, .int (zI en))] := hl
  refine lv_aload_n hx hb dX9_readAll_0 rfl (lv_at hl 0 rfl) ?_
  refine lv_iconst (v := zI 0) hx hb dX9_readAll_1 rfl ?_
  refine va_put (D := D) (ci := 9) (v := .int (zI 0)) (ty := .int) (C := RX9) (T := TX9) (N := 31) hx hb hts (fun _ h9 => List.mem_cons_of_mem _ (List.mem_append_right _ h9)) tyX9 tyX9_ok nmX9 hown hK hP hD hS 0 rfl rfl 16 (by decide) (hts (.fieldLink RX9 98 "FontRunsModel" "readFonts" "I") mw_X9_readAll_0) (fun _ h9 => h9) rfl (by decide +kernel) rfl rfl (Nat.le_of_ble_eq_true rfl) dX9_readAll_2 (fun H locs hP hD hS => ?_)
  have hP : va_P D vwCl [(h0, .inr (9, [.int (zI fa), .int (zI tc), .ref so, .ref sl, .ref ce, .int (zI fn), .ref kd, .ref wd, .ref hs, .ref pf, .ref lt, .int (zI mn), .ref wg, .int (zI ta), .long ck, .int (zI at9), .int (zI 0), .ref rk, .ref rw, .ref rh, .int (zI cl), .ref sa, .ref fi, .int (zI bo), .ref ch, .ref cn, .int (zI ad), .int (zI ru), .ref kp, .int (zI dn), .ref rfa])), (ce, .inl (c_ce, 240, .inl f_ce)), (rk, .inl (c_rk, 4, .inl f_rk)), (rw, .inl (c_rw, 4, .inl f_rw)), (rh, .inl (c_rh, 4, .inl f_rh))] H := hP
  have hD : va_D A [(h0, .inr (9, [.int (zI fa), .int (zI tc), .ref so, .ref sl, .ref ce, .int (zI fn), .ref kd, .ref wd, .ref hs, .ref pf, .ref lt, .int (zI mn), .ref wg, .int (zI ta), .long ck, .int (zI at9), .int (zI 0), .ref rk, .ref rw, .ref rh, .int (zI cl), .ref sa, .ref fi, .int (zI bo), .ref ch, .ref cn, .int (zI ad), .int (zI ru), .ref kp, .int (zI dn), .ref rfa])), (ce, .inl (c_ce, 240, .inl f_ce)), (rk, .inl (c_rk, 4, .inl f_rk)), (rw, .inl (c_rw, 4, .inl f_rw)), (rh, .inl (c_rh, 4, .inl f_rh))] := hD
  refine lv_aload_n hx hb dX9_readAll_5 rfl (lv_at hl 0 rfl) ?_
  refine lv_iload_n hx hb dX9_readAll_6 rfl (lv_at hl 1 rfl) ?_
  refine lv_bipush (v := zI 102) hx hb dX9_readAll_7 (by decide) ?_
  have hFc := va_free (wc := [(h0, .inr (9, [.int (zI fa), .int (zI tc), .ref so, .ref sl, .ref ce, .int (zI fn), .ref kd, .ref wd, .ref hs, .ref pf, .ref lt, .int (zI mn), .ref wg, .int (zI ta), .long ck, .int (zI at9), .int (zI 0), .ref rk, .ref rw, .ref rh, .int (zI cl), .ref sa, .ref fi, .int (zI bo), .ref ch, .ref cn, .int (zI ad), .int (zI ru), .ref kp, .int (zI dn), .ref rfa])), (ce, .inl (c_ce, 240, .inl f_ce))]) hD hS hA [0, 1] ax_X9_readAll_0
  refine va_calli (va_runV (As := [.int (zI en), .int (zI 102)]) (rest := []) ⟨hx, hb, hml, hown, hts⟩ (c_X9_isSign l D H.size (en := en) (x := 102) (h0 := h0) (fa := fa) (tc := tc) (so := so) (sl := sl) (ce := ce) (fn := fn) (kd := kd) (wd := wd) (hs := hs) (pf := pf) (lt := lt) (mn := mn) (wg := wg) (ta := ta) (ck := ck) (at9 := at9) (rfn := 0) (rk := rk) (rw := rw) (rh := rh) (cl := cl) (sa := sa) (fi := fi) (bo := bo) (ch := ch) (cn := cn) (ad := ad) (ru := ru) (kp := kp) (dn := dn) (rfa := rfa) (c_ce := c_ce) (f_ce := f_ce) (by omega) q0 q2) (cwV 2 hts gX9_readAll_X9_isSign rfl rfl rfl (by decide +kernel) ⟨Nat.le_of_ble_eq_true rfl, Nat.le_of_ble_eq_true rfl⟩) (kPreV hP (kD0 hD) hK hN [0, 1] [0] ax_X9_readAll_0 rfl (by decide +kernel) 0 9 rfl rfl) rfl rfl hl.1 rfl (lv_room (Nat.le_of_ble_eq_true rfl)) dX9_readAll_9 ⟨Nat.le_of_ble_eq_true rfl, Nat.le_of_ble_eq_true rfl⟩) hS (fun q _ h => hFc q h) hFc (fun r u t H1 locs ht hvm hw hB hz1 hk1 hS => ?_)
  obtain ⟨z_2, e9⟩ : ∃ z, z = u := ⟨_, rfl⟩
  subst e9
  obtain ⟨rfl, rz_2⟩ := hw
  refine Exists.elim hB (fun u_at9_1 hB1 => ?_)
  have h_3 := hB1.1
  have h_4 := hB1.2.1
  have h_5 := hB1.2.2.1
  have hP1 := hB1.2.2.2.1
  have hD1 := hB1.2.2.2.2
  clear hB hB1
  rw [ht] at hP1
  obtain ⟨hP, hD⟩ := va_join (wr := [(rk, .inl (c_rk, 4, .inl f_rk)), (rw, .inl (c_rw, 4, .inl f_rw)), (rh, .inl (c_rh, 4, .inl f_rh))]) (w1 := [(h0, .inr (9, [.int (zI fa), .int (zI tc), .ref so, .ref sl, .ref ce, .int (zI fn), .ref kd, .ref wd, .ref hs, .ref pf, .ref lt, .int (zI mn), .ref wg, .int (zI ta), .long ck, .int (zI u_at9_1), .int (zI 0), .ref rk, .ref rw, .ref rh, .int (zI cl), .ref sa, .ref fi, .int (zI bo), .ref ch, .ref cn, .int (zI ad), .int (zI ru), .ref kp, .int (zI dn), .ref rfa])), (ce, .inl (c_ce, 240, .inl f_ce))]) hP hD [0, 1] [2, 3, 4] ax_X9_readAll_0 ax_X9_readAll_1 (by decide +kernel) (by decide +kernel) hk1 hFc hP1 hD1
  have hP := ax_X9_readAll_2 hP
  have hD := ax_X9_readAll_3 hD
  generalize H1 = H at hP hS ⊢
  have hP : va_P D vwCl [(rk, .inl (c_rk, 4, .inl f_rk)), (rw, .inl (c_rw, 4, .inl f_rw)), (rh, .inl (c_rh, 4, .inl f_rh)), (h0, .inr (9, [.int (zI fa), .int (zI tc), .ref so, .ref sl, .ref ce, .int (zI fn), .ref kd, .ref wd, .ref hs, .ref pf, .ref lt, .int (zI mn), .ref wg, .int (zI ta), .long ck, .int (zI u_at9_1), .int (zI 0), .ref rk, .ref rw, .ref rh, .int (zI cl), .ref sa, .ref fi, .int (zI bo), .ref ch, .ref cn, .int (zI ad), .int (zI ru), .ref kp, .int (zI dn), .ref rfa])), (ce, .inl (c_ce, 240, .inl f_ce))] H := hP
  have hD : va_D A [(rk, .inl (c_rk, 4, .inl f_rk)), (rw, .inl (c_rw, 4, .inl f_rw)), (rh, .inl (c_rh, 4, .inl f_rh)), (h0, .inr (9, [.int (zI fa), .int (zI tc), .ref so, .ref sl, .ref ce, .int (zI fn), .ref kd, .ref wd, .ref hs, .ref pf, .ref lt, .int (zI mn), .ref wg, .int (zI ta), .long ck, .int (zI u_at9_1), .int (zI 0), .ref rk, .ref rw, .ref rh, .int (zI cl), .ref sa, .ref fi, .int (zI bo), .ref ch, .ref cn, .int (zI ad), .int (zI ru), .ref kp, .int (zI dn), .ref rfa])), (ce, .inl (c_ce, 240, .inl f_ce))] := hD
  refine kz_if_ne (tgt := 17) hx hb dX9_readAll_12 (by decide) (by omega) (fun c_6 => ?_) (fun c_6 => ?_)
  · refine k_loopM (I := fun n9 H locs ls => ∃ (ja : Int) (jr : Int) (a1 : Nat → Int32) (a2 : Nat → Int32) (a3 : Nat → Int32), n9 = (4 - jr).toNat ∧ (0 ≤ ja ∧ ja ≤ 240) ∧ (at9 ≤ ja ∧ ja ≤ en) ∧ (0 ≤ jr ∧ jr ≤ 4) ∧ (kRa f_ce f_rk f_rw f_rh at9 en ja jr a1 a2 a3) ∧ va_P D vwCl [(rk, .inl (c_rk, 4, .inl a1)), (rw, .inl (c_rw, 4, .inl a2)), (rh, .inl (c_rh, 4, .inl a3)), (h0, .inr (9, [.int (zI fa), .int (zI tc), .ref so, .ref sl, .ref ce, .int (zI fn), .ref kd, .ref wd, .ref hs, .ref pf, .ref lt, .int (zI mn), .ref wg, .int (zI ta), .long ck, .int (zI ja), .int (zI jr), .ref rk, .ref rw, .ref rh, .int (zI cl), .ref sa, .ref fi, .int (zI bo), .ref ch, .ref cn, .int (zI ad), .int (zI ru), .ref kp, .int (zI dn), .ref rfa])), (ce, .inl (c_ce, 240, .inl f_ce))] H ∧ va_D A [(rk, .inl (c_rk, 4, .inl a1)), (rw, .inl (c_rw, 4, .inl a2)), (rh, .inl (c_rh, 4, .inl a3)), (h0, .inr (9, [.int (zI fa), .int (zI tc), .ref so, .ref sl, .ref ce, .int (zI fn), .ref kd, .ref wd, .ref hs, .ref pf, .ref lt, .int (zI mn), .ref wg, .int (zI ta), .long ck, .int (zI ja), .int (zI jr), .ref rk, .ref rw, .ref rh, .int (zI cl), .ref sa, .ref fi, .int (zI bo), .ref ch, .ref cn, .int (zI ad), .int (zI ru), .ref kp, .int (zI dn), .ref rfa])), (ce, .inl (c_ce, 240, .inl f_ce))] ∧ va_S A s.heap H locs ∧ lv_has ls 2 [(0, .ref h0), (1, .int (zI en))]) ?_ _ ⟨u_at9_1, 0, f_rk, f_rw, f_rh, rfl, h_3, (by omega), (by omega), (kRa_0 h_4 (by omega)), hP, hD, hS, hl⟩
    intro n17 ih17 H locs ls hI
    obtain ⟨ja, jr, a1, a2, a3, en17, v_170, v_171, v_172, v_173, hP, hD, hS, hl⟩ := hI
    refine lv_aload_n hx hb dX9_readAll_17 rfl (lv_at hl 0 rfl) ?_
    refine va_get (D := D) (ci := 9) (v := .int (zI jr)) (C := RX9) (T := TX9) (N := 31) hx hb hts (fun _ h9 => List.mem_cons_of_mem _ (List.mem_append_right _ h9)) hown hK hP 3 rfl rfl 16 (by decide) (hts (.fieldLink RX9 98 "FontRunsModel" "readFonts" "I") mw_X9_readAll_0) (fun _ h9 => h9) rfl dX9_readAll_18 ?_
    refine kz_if_eq (tgt := 40) hx hb dX9_readAll_21 (by decide) (by omega) (fun c_7 => ?_) (fun c_7 => ?_)
    · refine lv_aload_n hx hb dX9_readAll_40 rfl (lv_at hl 0 rfl) ?_
      refine lv_iload_n hx hb dX9_readAll_41 rfl (lv_at hl 1 rfl) ?_
      refine lv_bipush (v := zI 59) hx hb dX9_readAll_42 (by decide) ?_
      have hFc := va_free (wc := [(h0, .inr (9, [.int (zI fa), .int (zI tc), .ref so, .ref sl, .ref ce, .int (zI fn), .ref kd, .ref wd, .ref hs, .ref pf, .ref lt, .int (zI mn), .ref wg, .int (zI ta), .long ck, .int (zI ja), .int (zI jr), .ref rk, .ref rw, .ref rh, .int (zI cl), .ref sa, .ref fi, .int (zI bo), .ref ch, .ref cn, .int (zI ad), .int (zI ru), .ref kp, .int (zI dn), .ref rfa])), (ce, .inl (c_ce, 240, .inl f_ce))]) hD hS hA [3, 4] ax_X9_readAll_4
      refine va_calli (va_runV (As := [.int (zI en), .int (zI 59)]) (rest := []) ⟨hx, hb, hml, hown, hts⟩ (c_X9_isSign l D H.size (en := en) (x := 59) (h0 := h0) (fa := fa) (tc := tc) (so := so) (sl := sl) (ce := ce) (fn := fn) (kd := kd) (wd := wd) (hs := hs) (pf := pf) (lt := lt) (mn := mn) (wg := wg) (ta := ta) (ck := ck) (at9 := ja) (rfn := jr) (rk := rk) (rw := rw) (rh := rh) (cl := cl) (sa := sa) (fi := fi) (bo := bo) (ch := ch) (cn := cn) (ad := ad) (ru := ru) (kp := kp) (dn := dn) (rfa := rfa) (c_ce := c_ce) (f_ce := f_ce) (by omega) q0 v_170) (cwV 2 hts gX9_readAll_X9_isSign rfl rfl rfl (by decide +kernel) ⟨Nat.le_of_ble_eq_true rfl, Nat.le_of_ble_eq_true rfl⟩) (kPreV hP (kD0 hD) hK hN [3, 4] [0] ax_X9_readAll_4 rfl (by decide +kernel) 3 9 rfl rfl) rfl rfl hl.1 rfl (lv_room (Nat.le_of_ble_eq_true rfl)) dX9_readAll_44 ⟨Nat.le_of_ble_eq_true rfl, Nat.le_of_ble_eq_true rfl⟩) hS (fun q _ h => hFc q h) hFc (fun r u t H1 locs ht hvm hw hB hz1 hk1 hS => ?_)
      obtain ⟨z_9, e9⟩ : ∃ z, z = u := ⟨_, rfl⟩
      subst e9
      obtain ⟨rfl, rz_9⟩ := hw
      refine Exists.elim hB (fun u_at9_8 hB1 => ?_)
      have h_10 := hB1.1
      have h_11 := hB1.2.1
      have h_12 := hB1.2.2.1
      have hP1 := hB1.2.2.2.1
      have hD1 := hB1.2.2.2.2
      clear hB hB1
      rw [ht] at hP1
      obtain ⟨hP, hD⟩ := va_join (wr := [(rk, .inl (c_rk, 4, .inl a1)), (rw, .inl (c_rw, 4, .inl a2)), (rh, .inl (c_rh, 4, .inl a3))]) (w1 := [(h0, .inr (9, [.int (zI fa), .int (zI tc), .ref so, .ref sl, .ref ce, .int (zI fn), .ref kd, .ref wd, .ref hs, .ref pf, .ref lt, .int (zI mn), .ref wg, .int (zI ta), .long ck, .int (zI u_at9_8), .int (zI jr), .ref rk, .ref rw, .ref rh, .int (zI cl), .ref sa, .ref fi, .int (zI bo), .ref ch, .ref cn, .int (zI ad), .int (zI ru), .ref kp, .int (zI dn), .ref rfa])), (ce, .inl (c_ce, 240, .inl f_ce))]) hP hD [3, 4] [0, 1, 2] ax_X9_readAll_4 ax_X9_readAll_5 (by decide +kernel) (by decide +kernel) hk1 hFc hP1 hD1
      have hP := ax_X9_readAll_2 hP
      have hD := ax_X9_readAll_3 hD
      generalize H1 = H at hP hS ⊢
      have hP : va_P D vwCl [(rk, .inl (c_rk, 4, .inl a1)), (rw, .inl (c_rw, 4, .inl a2)), (rh, .inl (c_rh, 4, .inl a3)), (h0, .inr (9, [.int (zI fa), .int (zI tc), .ref so, .ref sl, .ref ce, .int (zI fn), .ref kd, .ref wd, .ref hs, .ref pf, .ref lt, .int (zI mn), .ref wg, .int (zI ta), .long ck, .int (zI u_at9_8), .int (zI jr), .ref rk, .ref rw, .ref rh, .int (zI cl), .ref sa, .ref fi, .int (zI bo), .ref ch, .ref cn, .int (zI ad), .int (zI ru), .ref kp, .int (zI dn), .ref rfa])), (ce, .inl (c_ce, 240, .inl f_ce))] H := hP
      have hD : va_D A [(rk, .inl (c_rk, 4, .inl a1)), (rw, .inl (c_rw, 4, .inl a2)), (rh, .inl (c_rh, 4, .inl a3)), (h0, .inr (9, [.int (zI fa), .int (zI tc), .ref so, .ref sl, .ref ce, .int (zI fn), .ref kd, .ref wd, .ref hs, .ref pf, .ref lt, .int (zI mn), .ref wg, .int (zI ta), .long ck, .int (zI u_at9_8), .int (zI jr), .ref rk, .ref rw, .ref rh, .int (zI cl), .ref sa, .ref fi, .int (zI bo), .ref ch, .ref cn, .int (zI ad), .int (zI ru), .ref kp, .int (zI dn), .ref rfa])), (ce, .inl (c_ce, 240, .inl f_ce))] := hD
      refine kz_if_eq (tgt := 58) hx hb dX9_readAll_47 (by decide) (by omega) (fun c_13 => ?_) (fun c_13 => ?_)
      · refine lv_iconst (v := zI 0) hx hb dX9_readAll_58 rfl ?_
        have hP9 := hP.sub (ws' := [(h0, .inr (9, [.int (zI fa), .int (zI tc), .ref so, .ref sl, .ref ce, .int (zI fn), .ref kd, .ref wd, .ref hs, .ref pf, .ref lt, .int (zI mn), .ref wg, .int (zI ta), .long ck, .int (zI u_at9_8), .int (zI jr), .ref rk, .ref rw, .ref rh, .int (zI cl), .ref sa, .ref fi, .int (zI bo), .ref ch, .ref cn, .int (zI ad), .int (zI ru), .ref kp, .int (zI dn), .ref rfa])), (ce, .inl (c_ce, 240, .inl f_ce)), (rk, .inl (c_rk, 4, .inl a1)), (rw, .inl (c_rw, 4, .inl a2)), (rh, .inl (c_rh, 4, .inl a3))]) [3, 4, 0, 1, 2] rfl
        have hD9 := hD.sub (ws' := [(h0, .inr (9, [.int (zI fa), .int (zI tc), .ref so, .ref sl, .ref ce, .int (zI fn), .ref kd, .ref wd, .ref hs, .ref pf, .ref lt, .int (zI mn), .ref wg, .int (zI ta), .long ck, .int (zI u_at9_8), .int (zI jr), .ref rk, .ref rw, .ref rh, .int (zI cl), .ref sa, .ref fi, .int (zI bo), .ref ch, .ref cn, .int (zI ad), .int (zI ru), .ref kp, .int (zI dn), .ref rfa])), (ce, .inl (c_ce, 240, .inl f_ce)), (rk, .inl (c_rk, 4, .inl a1)), (rw, .inl (c_rw, 4, .inl a2)), (rh, .inl (c_rh, 4, .inl a3))]) [3, 4, 0, 1, 2] (by decide +kernel) rfl
        exact W.zret (v := (zI 0)) hx hb hr rfl (fun t ht hW => kQS_of (by omega) ⟨u_at9_8, jr, a1, a2, a3, h_10, (kRd_g v_173 (by omega) (by omega) h_11 (by omega) rfl), (by omega), v_172, (by omega), by rw [ht]; exact hP9, hD9⟩ (hS.F ht)) hS.2.2 dX9_readAll_59
      · refine lv_aload_n hx hb dX9_readAll_50 rfl (lv_at hl 0 rfl) ?_
        refine lv_iload_n hx hb dX9_readAll_51 rfl (lv_at hl 1 rfl) ?_
        have hFc := va_free (wc := [(h0, .inr (9, [.int (zI fa), .int (zI tc), .ref so, .ref sl, .ref ce, .int (zI fn), .ref kd, .ref wd, .ref hs, .ref pf, .ref lt, .int (zI mn), .ref wg, .int (zI ta), .long ck, .int (zI u_at9_8), .int (zI jr), .ref rk, .ref rw, .ref rh, .int (zI cl), .ref sa, .ref fi, .int (zI bo), .ref ch, .ref cn, .int (zI ad), .int (zI ru), .ref kp, .int (zI dn), .ref rfa])), (ce, .inl (c_ce, 240, .inl f_ce)), (rk, .inl (c_rk, 4, .inl a1)), (rw, .inl (c_rw, 4, .inl a2)), (rh, .inl (c_rh, 4, .inl a3))]) hD hS hA [3, 4, 0, 1, 2] ax_X9_readAll_6
        refine va_calli (va_runV (As := [.int (zI en)]) (rest := []) ⟨hx, hb, hml, hown, hts⟩ (c_X9_readFont l D H.size (en := en) (h0 := h0) (fa := fa) (tc := tc) (so := so) (sl := sl) (ce := ce) (fn := fn) (kd := kd) (wd := wd) (hs := hs) (pf := pf) (lt := lt) (mn := mn) (wg := wg) (ta := ta) (ck := ck) (at9 := u_at9_8) (rfn := jr) (rk := rk) (rw := rw) (rh := rh) (cl := cl) (sa := sa) (fi := fi) (bo := bo) (ch := ch) (cn := cn) (ad := ad) (ru := ru) (kp := kp) (dn := dn) (rfa := rfa) (c_ce := c_ce) (f_ce := f_ce) (c_rk := c_rk) (f_rk := a1) (c_rw := c_rw) (f_rw := a2) (c_rh := c_rh) (f_rh := a3) (o := at9) (A0 := f_rk) (B0 := f_rw) (C0 := f_rh) q0 (by omega) (by omega) (kRa_g v_173 (by omega) (by omega) h_11 (by omega)) h_10) (cwV 1 hts gX9_readAll_X9_readFont rfl rfl rfl (by decide +kernel) ⟨Nat.le_of_ble_eq_true rfl, Nat.le_of_ble_eq_true rfl⟩) (kPreV hP (kD0 hD) hK hN [3, 4, 0, 1, 2] [0, 1, 2, 3] ax_X9_readAll_6 rfl (by decide +kernel) 3 9 rfl rfl) rfl rfl hl.1 rfl (lv_room (Nat.le_of_ble_eq_true rfl)) dX9_readAll_52 ⟨Nat.le_of_ble_eq_true rfl, Nat.le_of_ble_eq_true rfl⟩) hS (fun q _ h => hFc q h) hFc (fun r u t H1 locs ht hvm hw hB hz1 hk1 hS => ?_)
        obtain ⟨z_19, e9⟩ : ∃ z, z = u := ⟨_, rfl⟩
        subst e9
        obtain ⟨rfl, rz_19⟩ := hw
        refine Exists.elim hB (fun u_at9_14 hB1 => Exists.elim hB1 (fun u_rfn_15 hB2 => Exists.elim hB2 (fun u_f_rk_16 hB3 => Exists.elim hB3 (fun u_f_rw_17 hB4 => Exists.elim hB4 (fun u_f_rh_18 hB5 => ?_)))))
        have h_20 := hB5.1
        have h_21 := hB5.2.1
        have h_22 := hB5.2.2.1
        have h_23 := hB5.2.2.2.1
        have h_24 := hB5.2.2.2.2.1
        have hP1 := hB5.2.2.2.2.2.1
        have hD1 := hB5.2.2.2.2.2.2
        clear hB hB1 hB2 hB3 hB4 hB5
        rw [ht] at hP1
        obtain ⟨hP, hD⟩ := va_join (wr := []) (w1 := [(h0, .inr (9, [.int (zI fa), .int (zI tc), .ref so, .ref sl, .ref ce, .int (zI fn), .ref kd, .ref wd, .ref hs, .ref pf, .ref lt, .int (zI mn), .ref wg, .int (zI ta), .long ck, .int (zI u_at9_14), .int (zI u_rfn_15), .ref rk, .ref rw, .ref rh, .int (zI cl), .ref sa, .ref fi, .int (zI bo), .ref ch, .ref cn, .int (zI ad), .int (zI ru), .ref kp, .int (zI dn), .ref rfa])), (ce, .inl (c_ce, 240, .inl f_ce)), (rk, .inl (c_rk, 4, .inl u_f_rk_16)), (rw, .inl (c_rw, 4, .inl u_f_rw_17)), (rh, .inl (c_rh, 4, .inl u_f_rh_18))]) hP hD [3, 4, 0, 1, 2] [] ax_X9_readAll_6 ax_X9_readAll_7 (by decide +kernel) (by decide +kernel) hk1 hFc hP1 hD1
        have hP := ax_X9_readAll_8 hP
        have hD := ax_X9_readAll_9 hD
        generalize H1 = H at hP hS ⊢
        have hP : va_P D vwCl [(h0, .inr (9, [.int (zI fa), .int (zI tc), .ref so, .ref sl, .ref ce, .int (zI fn), .ref kd, .ref wd, .ref hs, .ref pf, .ref lt, .int (zI mn), .ref wg, .int (zI ta), .long ck, .int (zI u_at9_14), .int (zI u_rfn_15), .ref rk, .ref rw, .ref rh, .int (zI cl), .ref sa, .ref fi, .int (zI bo), .ref ch, .ref cn, .int (zI ad), .int (zI ru), .ref kp, .int (zI dn), .ref rfa])), (ce, .inl (c_ce, 240, .inl f_ce)), (rk, .inl (c_rk, 4, .inl u_f_rk_16)), (rw, .inl (c_rw, 4, .inl u_f_rw_17)), (rh, .inl (c_rh, 4, .inl u_f_rh_18))] H := hP
        have hD : va_D A [(h0, .inr (9, [.int (zI fa), .int (zI tc), .ref so, .ref sl, .ref ce, .int (zI fn), .ref kd, .ref wd, .ref hs, .ref pf, .ref lt, .int (zI mn), .ref wg, .int (zI ta), .long ck, .int (zI u_at9_14), .int (zI u_rfn_15), .ref rk, .ref rw, .ref rh, .int (zI cl), .ref sa, .ref fi, .int (zI bo), .ref ch, .ref cn, .int (zI ad), .int (zI ru), .ref kp, .int (zI dn), .ref rfa])), (ce, .inl (c_ce, 240, .inl f_ce)), (rk, .inl (c_rk, 4, .inl u_f_rk_16)), (rw, .inl (c_rw, 4, .inl u_f_rw_17)), (rh, .inl (c_rh, 4, .inl u_f_rh_18))] := hD
        refine kz_if_ne (tgt := 17) hx hb dX9_readAll_55 (by decide) (by omega) (fun c_25 => ?_) (fun c_25 => ?_)
        · exact ih17 _ (by omega) _ _ _ ⟨u_at9_14, u_rfn_15, u_f_rk_16, u_f_rw_17, u_f_rh_18, rfl, h_20, h_22, (by omega), (kRa_s h_21 (by omega) (by omega)), (hP.sub [2, 3, 4, 0, 1] rfl), (hD.sub [2, 3, 4, 0, 1] (by decide) rfl), hS, lv_sub hl [0, 1] rfl⟩
        · refine lv_iconst (v := zI 0) hx hb dX9_readAll_58 rfl ?_
          have hP9 := hP.sub (ws' := [(h0, .inr (9, [.int (zI fa), .int (zI tc), .ref so, .ref sl, .ref ce, .int (zI fn), .ref kd, .ref wd, .ref hs, .ref pf, .ref lt, .int (zI mn), .ref wg, .int (zI ta), .long ck, .int (zI u_at9_14), .int (zI u_rfn_15), .ref rk, .ref rw, .ref rh, .int (zI cl), .ref sa, .ref fi, .int (zI bo), .ref ch, .ref cn, .int (zI ad), .int (zI ru), .ref kp, .int (zI dn), .ref rfa])), (ce, .inl (c_ce, 240, .inl f_ce)), (rk, .inl (c_rk, 4, .inl u_f_rk_16)), (rw, .inl (c_rw, 4, .inl u_f_rw_17)), (rh, .inl (c_rh, 4, .inl u_f_rh_18))]) [0, 1, 2, 3, 4] rfl
          have hD9 := hD.sub (ws' := [(h0, .inr (9, [.int (zI fa), .int (zI tc), .ref so, .ref sl, .ref ce, .int (zI fn), .ref kd, .ref wd, .ref hs, .ref pf, .ref lt, .int (zI mn), .ref wg, .int (zI ta), .long ck, .int (zI u_at9_14), .int (zI u_rfn_15), .ref rk, .ref rw, .ref rh, .int (zI cl), .ref sa, .ref fi, .int (zI bo), .ref ch, .ref cn, .int (zI ad), .int (zI ru), .ref kp, .int (zI dn), .ref rfa])), (ce, .inl (c_ce, 240, .inl f_ce)), (rk, .inl (c_rk, 4, .inl u_f_rk_16)), (rw, .inl (c_rw, 4, .inl u_f_rw_17)), (rh, .inl (c_rh, 4, .inl u_f_rh_18))]) [0, 1, 2, 3, 4] (by decide +kernel) rfl
          exact W.zret (v := (zI 0)) hx hb hr rfl (fun t ht hW => kQS_of (by omega) ⟨u_at9_14, u_rfn_15, u_f_rk_16, u_f_rw_17, u_f_rh_18, h_20, (kRd_f h_21 (by omega) rfl), h_22, (by omega), (by omega), by rw [ht]; exact hP9, hD9⟩ (hS.F ht)) hS.2.2 dX9_readAll_59
    · refine lv_aload_n hx hb dX9_readAll_24 rfl (lv_at hl 0 rfl) ?_
      refine va_get (D := D) (ci := 9) (v := .int (zI jr)) (C := RX9) (T := TX9) (N := 31) hx hb hts (fun _ h9 => List.mem_cons_of_mem _ (List.mem_append_right _ h9)) hown hK hP 3 rfl rfl 16 (by decide) (hts (.fieldLink RX9 98 "FontRunsModel" "readFonts" "I") mw_X9_readAll_0) (fun _ h9 => h9) rfl dX9_readAll_25 ?_
      refine lv_iconst (v := zI 4) hx hb dX9_readAll_28 rfl ?_
      refine kz_icmp_ge (tgt := 60) hx hb dX9_readAll_29 (by decide) (by omega) (by omega) (fun c_26 => ?_) (fun c_26 => ?_)
      · refine lv_aload_n hx hb dX9_readAll_60 rfl (lv_at hl 0 rfl) ?_
        refine va_get (D := D) (ci := 9) (v := .int (zI ja)) (C := RX9) (T := TX9) (N := 31) hx hb hts (fun _ h9 => List.mem_cons_of_mem _ (List.mem_append_right _ h9)) hown hK hP 3 rfl rfl 15 (by decide) (hts (.fieldLink RX9 77 "FontRunsModel" "at" "I") mw_X9_readAll_1) (fun _ h9 => h9) rfl dX9_readAll_61 ?_
        refine lv_iload_n hx hb dX9_readAll_64 rfl (lv_at hl 1 rfl) ?_
        refine kz_icmp_ne (tgt := 72) hx hb dX9_readAll_65 (by decide) (by omega) (by omega) (fun c_27 => ?_) (fun c_27 => ?_)
        · refine lv_iconst (v := zI 0) hx hb dX9_readAll_72 rfl ?_
          have hP9 := hP.sub (ws' := [(h0, .inr (9, [.int (zI fa), .int (zI tc), .ref so, .ref sl, .ref ce, .int (zI fn), .ref kd, .ref wd, .ref hs, .ref pf, .ref lt, .int (zI mn), .ref wg, .int (zI ta), .long ck, .int (zI ja), .int (zI jr), .ref rk, .ref rw, .ref rh, .int (zI cl), .ref sa, .ref fi, .int (zI bo), .ref ch, .ref cn, .int (zI ad), .int (zI ru), .ref kp, .int (zI dn), .ref rfa])), (ce, .inl (c_ce, 240, .inl f_ce)), (rk, .inl (c_rk, 4, .inl a1)), (rw, .inl (c_rw, 4, .inl a2)), (rh, .inl (c_rh, 4, .inl a3))]) [3, 4, 0, 1, 2] rfl
          have hD9 := hD.sub (ws' := [(h0, .inr (9, [.int (zI fa), .int (zI tc), .ref so, .ref sl, .ref ce, .int (zI fn), .ref kd, .ref wd, .ref hs, .ref pf, .ref lt, .int (zI mn), .ref wg, .int (zI ta), .long ck, .int (zI ja), .int (zI jr), .ref rk, .ref rw, .ref rh, .int (zI cl), .ref sa, .ref fi, .int (zI bo), .ref ch, .ref cn, .int (zI ad), .int (zI ru), .ref kp, .int (zI dn), .ref rfa])), (ce, .inl (c_ce, 240, .inl f_ce)), (rk, .inl (c_rk, 4, .inl a1)), (rw, .inl (c_rw, 4, .inl a2)), (rh, .inl (c_rh, 4, .inl a3))]) [3, 4, 0, 1, 2] (by decide +kernel) rfl
          exact W.zret (v := (zI 0)) hx hb hr rfl (fun t ht hW => kQS_of (by omega) ⟨ja, jr, a1, a2, a3, v_170, (kRd_2 v_173 (by omega) (by omega) (by omega) (by omega) rfl), v_171, v_172, (by omega), by rw [ht]; exact hP9, hD9⟩ (hS.F ht)) hS.2.2 dX9_readAll_73
        · refine lv_iconst (v := zI 1) hx hb dX9_readAll_68 rfl ?_
          refine lv_goto (tgt := 73) hx hb dX9_readAll_69 (by decide) ?_
          have hP9 := hP.sub (ws' := [(h0, .inr (9, [.int (zI fa), .int (zI tc), .ref so, .ref sl, .ref ce, .int (zI fn), .ref kd, .ref wd, .ref hs, .ref pf, .ref lt, .int (zI mn), .ref wg, .int (zI ta), .long ck, .int (zI ja), .int (zI jr), .ref rk, .ref rw, .ref rh, .int (zI cl), .ref sa, .ref fi, .int (zI bo), .ref ch, .ref cn, .int (zI ad), .int (zI ru), .ref kp, .int (zI dn), .ref rfa])), (ce, .inl (c_ce, 240, .inl f_ce)), (rk, .inl (c_rk, 4, .inl a1)), (rw, .inl (c_rw, 4, .inl a2)), (rh, .inl (c_rh, 4, .inl a3))]) [3, 4, 0, 1, 2] rfl
          have hD9 := hD.sub (ws' := [(h0, .inr (9, [.int (zI fa), .int (zI tc), .ref so, .ref sl, .ref ce, .int (zI fn), .ref kd, .ref wd, .ref hs, .ref pf, .ref lt, .int (zI mn), .ref wg, .int (zI ta), .long ck, .int (zI ja), .int (zI jr), .ref rk, .ref rw, .ref rh, .int (zI cl), .ref sa, .ref fi, .int (zI bo), .ref ch, .ref cn, .int (zI ad), .int (zI ru), .ref kp, .int (zI dn), .ref rfa])), (ce, .inl (c_ce, 240, .inl f_ce)), (rk, .inl (c_rk, 4, .inl a1)), (rw, .inl (c_rw, 4, .inl a2)), (rh, .inl (c_rh, 4, .inl a3))]) [3, 4, 0, 1, 2] (by decide +kernel) rfl
          exact W.zret (v := (zI 1)) hx hb hr rfl (fun t ht hW => kQS_of (by omega) ⟨ja, jr, a1, a2, a3, v_170, (kRd_1 v_173 (by omega) (by omega) rfl), v_171, v_172, (by omega), by rw [ht]; exact hP9, hD9⟩ (hS.F ht)) hS.2.2 dX9_readAll_73
      · refine lv_aload_n hx hb dX9_readAll_32 rfl (lv_at hl 0 rfl) ?_
        refine va_get (D := D) (ci := 9) (v := .int (zI ja)) (C := RX9) (T := TX9) (N := 31) hx hb hts (fun _ h9 => List.mem_cons_of_mem _ (List.mem_append_right _ h9)) hown hK hP 3 rfl rfl 15 (by decide) (hts (.fieldLink RX9 77 "FontRunsModel" "at" "I") mw_X9_readAll_1) (fun _ h9 => h9) rfl dX9_readAll_33 ?_
        refine lv_iload_n hx hb dX9_readAll_36 rfl (lv_at hl 1 rfl) ?_
        refine kz_icmp_ge (tgt := 60) hx hb dX9_readAll_37 (by decide) (by omega) (by omega) (fun c_28 => ?_) (fun c_28 => ?_)
        · refine lv_aload_n hx hb dX9_readAll_60 rfl (lv_at hl 0 rfl) ?_
          refine va_get (D := D) (ci := 9) (v := .int (zI ja)) (C := RX9) (T := TX9) (N := 31) hx hb hts (fun _ h9 => List.mem_cons_of_mem _ (List.mem_append_right _ h9)) hown hK hP 3 rfl rfl 15 (by decide) (hts (.fieldLink RX9 77 "FontRunsModel" "at" "I") mw_X9_readAll_1) (fun _ h9 => h9) rfl dX9_readAll_61 ?_
          refine lv_iload_n hx hb dX9_readAll_64 rfl (lv_at hl 1 rfl) ?_
          refine kz_icmp_ne (tgt := 72) hx hb dX9_readAll_65 (by decide) (by omega) (by omega) (fun c_29 => ?_) (fun c_29 => ?_)
          · refine lv_iconst (v := zI 0) hx hb dX9_readAll_72 rfl ?_
            have hP9 := hP.sub (ws' := [(h0, .inr (9, [.int (zI fa), .int (zI tc), .ref so, .ref sl, .ref ce, .int (zI fn), .ref kd, .ref wd, .ref hs, .ref pf, .ref lt, .int (zI mn), .ref wg, .int (zI ta), .long ck, .int (zI ja), .int (zI jr), .ref rk, .ref rw, .ref rh, .int (zI cl), .ref sa, .ref fi, .int (zI bo), .ref ch, .ref cn, .int (zI ad), .int (zI ru), .ref kp, .int (zI dn), .ref rfa])), (ce, .inl (c_ce, 240, .inl f_ce)), (rk, .inl (c_rk, 4, .inl a1)), (rw, .inl (c_rw, 4, .inl a2)), (rh, .inl (c_rh, 4, .inl a3))]) [3, 4, 0, 1, 2] rfl
            have hD9 := hD.sub (ws' := [(h0, .inr (9, [.int (zI fa), .int (zI tc), .ref so, .ref sl, .ref ce, .int (zI fn), .ref kd, .ref wd, .ref hs, .ref pf, .ref lt, .int (zI mn), .ref wg, .int (zI ta), .long ck, .int (zI ja), .int (zI jr), .ref rk, .ref rw, .ref rh, .int (zI cl), .ref sa, .ref fi, .int (zI bo), .ref ch, .ref cn, .int (zI ad), .int (zI ru), .ref kp, .int (zI dn), .ref rfa])), (ce, .inl (c_ce, 240, .inl f_ce)), (rk, .inl (c_rk, 4, .inl a1)), (rw, .inl (c_rw, 4, .inl a2)), (rh, .inl (c_rh, 4, .inl a3))]) [3, 4, 0, 1, 2] (by decide +kernel) rfl
            exact W.zret (v := (zI 0)) hx hb hr rfl (fun t ht hW => kQS_of (by omega) ⟨ja, jr, a1, a2, a3, v_170, (kRd_2 v_173 (by omega) (by omega) (by omega) (by omega) rfl), v_171, v_172, (by omega), by rw [ht]; exact hP9, hD9⟩ (hS.F ht)) hS.2.2 dX9_readAll_73
          · refine lv_iconst (v := zI 1) hx hb dX9_readAll_68 rfl ?_
            refine lv_goto (tgt := 73) hx hb dX9_readAll_69 (by decide) ?_
            have hP9 := hP.sub (ws' := [(h0, .inr (9, [.int (zI fa), .int (zI tc), .ref so, .ref sl, .ref ce, .int (zI fn), .ref kd, .ref wd, .ref hs, .ref pf, .ref lt, .int (zI mn), .ref wg, .int (zI ta), .long ck, .int (zI ja), .int (zI jr), .ref rk, .ref rw, .ref rh, .int (zI cl), .ref sa, .ref fi, .int (zI bo), .ref ch, .ref cn, .int (zI ad), .int (zI ru), .ref kp, .int (zI dn), .ref rfa])), (ce, .inl (c_ce, 240, .inl f_ce)), (rk, .inl (c_rk, 4, .inl a1)), (rw, .inl (c_rw, 4, .inl a2)), (rh, .inl (c_rh, 4, .inl a3))]) [3, 4, 0, 1, 2] rfl
            have hD9 := hD.sub (ws' := [(h0, .inr (9, [.int (zI fa), .int (zI tc), .ref so, .ref sl, .ref ce, .int (zI fn), .ref kd, .ref wd, .ref hs, .ref pf, .ref lt, .int (zI mn), .ref wg, .int (zI ta), .long ck, .int (zI ja), .int (zI jr), .ref rk, .ref rw, .ref rh, .int (zI cl), .ref sa, .ref fi, .int (zI bo), .ref ch, .ref cn, .int (zI ad), .int (zI ru), .ref kp, .int (zI dn), .ref rfa])), (ce, .inl (c_ce, 240, .inl f_ce)), (rk, .inl (c_rk, 4, .inl a1)), (rw, .inl (c_rw, 4, .inl a2)), (rh, .inl (c_rh, 4, .inl a3))]) [3, 4, 0, 1, 2] (by decide +kernel) rfl
            exact W.zret (v := (zI 1)) hx hb hr rfl (fun t ht hW => kQS_of (by omega) ⟨ja, jr, a1, a2, a3, v_170, (kRd_1 v_173 (by omega) (by omega) rfl), v_171, v_172, (by omega), by rw [ht]; exact hP9, hD9⟩ (hS.F ht)) hS.2.2 dX9_readAll_73
        · refine lv_aload_n hx hb dX9_readAll_40 rfl (lv_at hl 0 rfl) ?_
          refine lv_iload_n hx hb dX9_readAll_41 rfl (lv_at hl 1 rfl) ?_
          refine lv_bipush (v := zI 59) hx hb dX9_readAll_42 (by decide) ?_
          have hFc := va_free (wc := [(h0, .inr (9, [.int (zI fa), .int (zI tc), .ref so, .ref sl, .ref ce, .int (zI fn), .ref kd, .ref wd, .ref hs, .ref pf, .ref lt, .int (zI mn), .ref wg, .int (zI ta), .long ck, .int (zI ja), .int (zI jr), .ref rk, .ref rw, .ref rh, .int (zI cl), .ref sa, .ref fi, .int (zI bo), .ref ch, .ref cn, .int (zI ad), .int (zI ru), .ref kp, .int (zI dn), .ref rfa])), (ce, .inl (c_ce, 240, .inl f_ce))]) hD hS hA [3, 4] ax_X9_readAll_4
          refine va_calli (va_runV (As := [.int (zI en), .int (zI 59)]) (rest := []) ⟨hx, hb, hml, hown, hts⟩ (c_X9_isSign l D H.size (en := en) (x := 59) (h0 := h0) (fa := fa) (tc := tc) (so := so) (sl := sl) (ce := ce) (fn := fn) (kd := kd) (wd := wd) (hs := hs) (pf := pf) (lt := lt) (mn := mn) (wg := wg) (ta := ta) (ck := ck) (at9 := ja) (rfn := jr) (rk := rk) (rw := rw) (rh := rh) (cl := cl) (sa := sa) (fi := fi) (bo := bo) (ch := ch) (cn := cn) (ad := ad) (ru := ru) (kp := kp) (dn := dn) (rfa := rfa) (c_ce := c_ce) (f_ce := f_ce) (by omega) q0 v_170) (cwV 2 hts gX9_readAll_X9_isSign rfl rfl rfl (by decide +kernel) ⟨Nat.le_of_ble_eq_true rfl, Nat.le_of_ble_eq_true rfl⟩) (kPreV hP (kD0 hD) hK hN [3, 4] [0] ax_X9_readAll_4 rfl (by decide +kernel) 3 9 rfl rfl) rfl rfl hl.1 rfl (lv_room (Nat.le_of_ble_eq_true rfl)) dX9_readAll_44 ⟨Nat.le_of_ble_eq_true rfl, Nat.le_of_ble_eq_true rfl⟩) hS (fun q _ h => hFc q h) hFc (fun r u t H1 locs ht hvm hw hB hz1 hk1 hS => ?_)
          obtain ⟨z_31, e9⟩ : ∃ z, z = u := ⟨_, rfl⟩
          subst e9
          obtain ⟨rfl, rz_31⟩ := hw
          refine Exists.elim hB (fun u_at9_30 hB1 => ?_)
          have h_32 := hB1.1
          have h_33 := hB1.2.1
          have h_34 := hB1.2.2.1
          have hP1 := hB1.2.2.2.1
          have hD1 := hB1.2.2.2.2
          clear hB hB1
          rw [ht] at hP1
          obtain ⟨hP, hD⟩ := va_join (wr := [(rk, .inl (c_rk, 4, .inl a1)), (rw, .inl (c_rw, 4, .inl a2)), (rh, .inl (c_rh, 4, .inl a3))]) (w1 := [(h0, .inr (9, [.int (zI fa), .int (zI tc), .ref so, .ref sl, .ref ce, .int (zI fn), .ref kd, .ref wd, .ref hs, .ref pf, .ref lt, .int (zI mn), .ref wg, .int (zI ta), .long ck, .int (zI u_at9_30), .int (zI jr), .ref rk, .ref rw, .ref rh, .int (zI cl), .ref sa, .ref fi, .int (zI bo), .ref ch, .ref cn, .int (zI ad), .int (zI ru), .ref kp, .int (zI dn), .ref rfa])), (ce, .inl (c_ce, 240, .inl f_ce))]) hP hD [3, 4] [0, 1, 2] ax_X9_readAll_4 ax_X9_readAll_5 (by decide +kernel) (by decide +kernel) hk1 hFc hP1 hD1
          have hP := ax_X9_readAll_2 hP
          have hD := ax_X9_readAll_3 hD
          generalize H1 = H at hP hS ⊢
          have hP : va_P D vwCl [(rk, .inl (c_rk, 4, .inl a1)), (rw, .inl (c_rw, 4, .inl a2)), (rh, .inl (c_rh, 4, .inl a3)), (h0, .inr (9, [.int (zI fa), .int (zI tc), .ref so, .ref sl, .ref ce, .int (zI fn), .ref kd, .ref wd, .ref hs, .ref pf, .ref lt, .int (zI mn), .ref wg, .int (zI ta), .long ck, .int (zI u_at9_30), .int (zI jr), .ref rk, .ref rw, .ref rh, .int (zI cl), .ref sa, .ref fi, .int (zI bo), .ref ch, .ref cn, .int (zI ad), .int (zI ru), .ref kp, .int (zI dn), .ref rfa])), (ce, .inl (c_ce, 240, .inl f_ce))] H := hP
          have hD : va_D A [(rk, .inl (c_rk, 4, .inl a1)), (rw, .inl (c_rw, 4, .inl a2)), (rh, .inl (c_rh, 4, .inl a3)), (h0, .inr (9, [.int (zI fa), .int (zI tc), .ref so, .ref sl, .ref ce, .int (zI fn), .ref kd, .ref wd, .ref hs, .ref pf, .ref lt, .int (zI mn), .ref wg, .int (zI ta), .long ck, .int (zI u_at9_30), .int (zI jr), .ref rk, .ref rw, .ref rh, .int (zI cl), .ref sa, .ref fi, .int (zI bo), .ref ch, .ref cn, .int (zI ad), .int (zI ru), .ref kp, .int (zI dn), .ref rfa])), (ce, .inl (c_ce, 240, .inl f_ce))] := hD
          refine kz_if_eq (tgt := 58) hx hb dX9_readAll_47 (by decide) (by omega) (fun c_35 => ?_) (fun c_35 => ?_)
          · refine lv_iconst (v := zI 0) hx hb dX9_readAll_58 rfl ?_
            have hP9 := hP.sub (ws' := [(h0, .inr (9, [.int (zI fa), .int (zI tc), .ref so, .ref sl, .ref ce, .int (zI fn), .ref kd, .ref wd, .ref hs, .ref pf, .ref lt, .int (zI mn), .ref wg, .int (zI ta), .long ck, .int (zI u_at9_30), .int (zI jr), .ref rk, .ref rw, .ref rh, .int (zI cl), .ref sa, .ref fi, .int (zI bo), .ref ch, .ref cn, .int (zI ad), .int (zI ru), .ref kp, .int (zI dn), .ref rfa])), (ce, .inl (c_ce, 240, .inl f_ce)), (rk, .inl (c_rk, 4, .inl a1)), (rw, .inl (c_rw, 4, .inl a2)), (rh, .inl (c_rh, 4, .inl a3))]) [3, 4, 0, 1, 2] rfl
            have hD9 := hD.sub (ws' := [(h0, .inr (9, [.int (zI fa), .int (zI tc), .ref so, .ref sl, .ref ce, .int (zI fn), .ref kd, .ref wd, .ref hs, .ref pf, .ref lt, .int (zI mn), .ref wg, .int (zI ta), .long ck, .int (zI u_at9_30), .int (zI jr), .ref rk, .ref rw, .ref rh, .int (zI cl), .ref sa, .ref fi, .int (zI bo), .ref ch, .ref cn, .int (zI ad), .int (zI ru), .ref kp, .int (zI dn), .ref rfa])), (ce, .inl (c_ce, 240, .inl f_ce)), (rk, .inl (c_rk, 4, .inl a1)), (rw, .inl (c_rw, 4, .inl a2)), (rh, .inl (c_rh, 4, .inl a3))]) [3, 4, 0, 1, 2] (by decide +kernel) rfl
            exact W.zret (v := (zI 0)) hx hb hr rfl (fun t ht hW => kQS_of (by omega) ⟨u_at9_30, jr, a1, a2, a3, h_32, (kRd_g v_173 (by omega) (by omega) h_33 (by omega) rfl), (by omega), v_172, (by omega), by rw [ht]; exact hP9, hD9⟩ (hS.F ht)) hS.2.2 dX9_readAll_59
          · refine lv_aload_n hx hb dX9_readAll_50 rfl (lv_at hl 0 rfl) ?_
            refine lv_iload_n hx hb dX9_readAll_51 rfl (lv_at hl 1 rfl) ?_
            have hFc := va_free (wc := [(h0, .inr (9, [.int (zI fa), .int (zI tc), .ref so, .ref sl, .ref ce, .int (zI fn), .ref kd, .ref wd, .ref hs, .ref pf, .ref lt, .int (zI mn), .ref wg, .int (zI ta), .long ck, .int (zI u_at9_30), .int (zI jr), .ref rk, .ref rw, .ref rh, .int (zI cl), .ref sa, .ref fi, .int (zI bo), .ref ch, .ref cn, .int (zI ad), .int (zI ru), .ref kp, .int (zI dn), .ref rfa])), (ce, .inl (c_ce, 240, .inl f_ce)), (rk, .inl (c_rk, 4, .inl a1)), (rw, .inl (c_rw, 4, .inl a2)), (rh, .inl (c_rh, 4, .inl a3))]) hD hS hA [3, 4, 0, 1, 2] ax_X9_readAll_6
            refine va_calli (va_runV (As := [.int (zI en)]) (rest := []) ⟨hx, hb, hml, hown, hts⟩ (c_X9_readFont l D H.size (en := en) (h0 := h0) (fa := fa) (tc := tc) (so := so) (sl := sl) (ce := ce) (fn := fn) (kd := kd) (wd := wd) (hs := hs) (pf := pf) (lt := lt) (mn := mn) (wg := wg) (ta := ta) (ck := ck) (at9 := u_at9_30) (rfn := jr) (rk := rk) (rw := rw) (rh := rh) (cl := cl) (sa := sa) (fi := fi) (bo := bo) (ch := ch) (cn := cn) (ad := ad) (ru := ru) (kp := kp) (dn := dn) (rfa := rfa) (c_ce := c_ce) (f_ce := f_ce) (c_rk := c_rk) (f_rk := a1) (c_rw := c_rw) (f_rw := a2) (c_rh := c_rh) (f_rh := a3) (o := at9) (A0 := f_rk) (B0 := f_rw) (C0 := f_rh) q0 (by omega) (by omega) (kRa_g v_173 (by omega) (by omega) h_33 (by omega)) h_32) (cwV 1 hts gX9_readAll_X9_readFont rfl rfl rfl (by decide +kernel) ⟨Nat.le_of_ble_eq_true rfl, Nat.le_of_ble_eq_true rfl⟩) (kPreV hP (kD0 hD) hK hN [3, 4, 0, 1, 2] [0, 1, 2, 3] ax_X9_readAll_6 rfl (by decide +kernel) 3 9 rfl rfl) rfl rfl hl.1 rfl (lv_room (Nat.le_of_ble_eq_true rfl)) dX9_readAll_52 ⟨Nat.le_of_ble_eq_true rfl, Nat.le_of_ble_eq_true rfl⟩) hS (fun q _ h => hFc q h) hFc (fun r u t H1 locs ht hvm hw hB hz1 hk1 hS => ?_)
            obtain ⟨z_41, e9⟩ : ∃ z, z = u := ⟨_, rfl⟩
            subst e9
            obtain ⟨rfl, rz_41⟩ := hw
            refine Exists.elim hB (fun u_at9_36 hB1 => Exists.elim hB1 (fun u_rfn_37 hB2 => Exists.elim hB2 (fun u_f_rk_38 hB3 => Exists.elim hB3 (fun u_f_rw_39 hB4 => Exists.elim hB4 (fun u_f_rh_40 hB5 => ?_)))))
            have h_42 := hB5.1
            have h_43 := hB5.2.1
            have h_44 := hB5.2.2.1
            have h_45 := hB5.2.2.2.1
            have h_46 := hB5.2.2.2.2.1
            have hP1 := hB5.2.2.2.2.2.1
            have hD1 := hB5.2.2.2.2.2.2
            clear hB hB1 hB2 hB3 hB4 hB5
            rw [ht] at hP1
            obtain ⟨hP, hD⟩ := va_join (wr := []) (w1 := [(h0, .inr (9, [.int (zI fa), .int (zI tc), .ref so, .ref sl, .ref ce, .int (zI fn), .ref kd, .ref wd, .ref hs, .ref pf, .ref lt, .int (zI mn), .ref wg, .int (zI ta), .long ck, .int (zI u_at9_36), .int (zI u_rfn_37), .ref rk, .ref rw, .ref rh, .int (zI cl), .ref sa, .ref fi, .int (zI bo), .ref ch, .ref cn, .int (zI ad), .int (zI ru), .ref kp, .int (zI dn), .ref rfa])), (ce, .inl (c_ce, 240, .inl f_ce)), (rk, .inl (c_rk, 4, .inl u_f_rk_38)), (rw, .inl (c_rw, 4, .inl u_f_rw_39)), (rh, .inl (c_rh, 4, .inl u_f_rh_40))]) hP hD [3, 4, 0, 1, 2] [] ax_X9_readAll_6 ax_X9_readAll_7 (by decide +kernel) (by decide +kernel) hk1 hFc hP1 hD1
            have hP := ax_X9_readAll_8 hP
            have hD := ax_X9_readAll_9 hD
            generalize H1 = H at hP hS ⊢
            have hP : va_P D vwCl [(h0, .inr (9, [.int (zI fa), .int (zI tc), .ref so, .ref sl, .ref ce, .int (zI fn), .ref kd, .ref wd, .ref hs, .ref pf, .ref lt, .int (zI mn), .ref wg, .int (zI ta), .long ck, .int (zI u_at9_36), .int (zI u_rfn_37), .ref rk, .ref rw, .ref rh, .int (zI cl), .ref sa, .ref fi, .int (zI bo), .ref ch, .ref cn, .int (zI ad), .int (zI ru), .ref kp, .int (zI dn), .ref rfa])), (ce, .inl (c_ce, 240, .inl f_ce)), (rk, .inl (c_rk, 4, .inl u_f_rk_38)), (rw, .inl (c_rw, 4, .inl u_f_rw_39)), (rh, .inl (c_rh, 4, .inl u_f_rh_40))] H := hP
            have hD : va_D A [(h0, .inr (9, [.int (zI fa), .int (zI tc), .ref so, .ref sl, .ref ce, .int (zI fn), .ref kd, .ref wd, .ref hs, .ref pf, .ref lt, .int (zI mn), .ref wg, .int (zI ta), .long ck, .int (zI u_at9_36), .int (zI u_rfn_37), .ref rk, .ref rw, .ref rh, .int (zI cl), .ref sa, .ref fi, .int (zI bo), .ref ch, .ref cn, .int (zI ad), .int (zI ru), .ref kp, .int (zI dn), .ref rfa])), (ce, .inl (c_ce, 240, .inl f_ce)), (rk, .inl (c_rk, 4, .inl u_f_rk_38)), (rw, .inl (c_rw, 4, .inl u_f_rw_39)), (rh, .inl (c_rh, 4, .inl u_f_rh_40))] := hD
            refine kz_if_ne (tgt := 17) hx hb dX9_readAll_55 (by decide) (by omega) (fun c_47 => ?_) (fun c_47 => ?_)
            · exact ih17 _ (by omega) _ _ _ ⟨u_at9_36, u_rfn_37, u_f_rk_38, u_f_rw_39, u_f_rh_40, rfl, h_42, h_44, (by omega), (kRa_s h_43 (by omega) (by omega)), (hP.sub [2, 3, 4, 0, 1] rfl), (hD.sub [2, 3, 4, 0, 1] (by decide) rfl), hS, lv_sub hl [0, 1] rfl⟩
            · refine lv_iconst (v := zI 0) hx hb dX9_readAll_58 rfl ?_
              have hP9 := hP.sub (ws' := [(h0, .inr (9, [.int (zI fa), .int (zI tc), .ref so, .ref sl, .ref ce, .int (zI fn), .ref kd, .ref wd, .ref hs, .ref pf, .ref lt, .int (zI mn), .ref wg, .int (zI ta), .long ck, .int (zI u_at9_36), .int (zI u_rfn_37), .ref rk, .ref rw, .ref rh, .int (zI cl), .ref sa, .ref fi, .int (zI bo), .ref ch, .ref cn, .int (zI ad), .int (zI ru), .ref kp, .int (zI dn), .ref rfa])), (ce, .inl (c_ce, 240, .inl f_ce)), (rk, .inl (c_rk, 4, .inl u_f_rk_38)), (rw, .inl (c_rw, 4, .inl u_f_rw_39)), (rh, .inl (c_rh, 4, .inl u_f_rh_40))]) [0, 1, 2, 3, 4] rfl
              have hD9 := hD.sub (ws' := [(h0, .inr (9, [.int (zI fa), .int (zI tc), .ref so, .ref sl, .ref ce, .int (zI fn), .ref kd, .ref wd, .ref hs, .ref pf, .ref lt, .int (zI mn), .ref wg, .int (zI ta), .long ck, .int (zI u_at9_36), .int (zI u_rfn_37), .ref rk, .ref rw, .ref rh, .int (zI cl), .ref sa, .ref fi, .int (zI bo), .ref ch, .ref cn, .int (zI ad), .int (zI ru), .ref kp, .int (zI dn), .ref rfa])), (ce, .inl (c_ce, 240, .inl f_ce)), (rk, .inl (c_rk, 4, .inl u_f_rk_38)), (rw, .inl (c_rw, 4, .inl u_f_rw_39)), (rh, .inl (c_rh, 4, .inl u_f_rh_40))]) [0, 1, 2, 3, 4] (by decide +kernel) rfl
              exact W.zret (v := (zI 0)) hx hb hr rfl (fun t ht hW => kQS_of (by omega) ⟨u_at9_36, u_rfn_37, u_f_rk_38, u_f_rw_39, u_f_rh_40, h_42, (kRd_f h_43 (by omega) rfl), h_44, (by omega), (by omega), by rw [ht]; exact hP9, hD9⟩ (hS.F ht)) hS.2.2 dX9_readAll_59
  · refine lv_iconst (v := zI 0) hx hb dX9_readAll_15 rfl ?_
    have hP9 := hP.sub (ws' := [(h0, .inr (9, [.int (zI fa), .int (zI tc), .ref so, .ref sl, .ref ce, .int (zI fn), .ref kd, .ref wd, .ref hs, .ref pf, .ref lt, .int (zI mn), .ref wg, .int (zI ta), .long ck, .int (zI u_at9_1), .int (zI 0), .ref rk, .ref rw, .ref rh, .int (zI cl), .ref sa, .ref fi, .int (zI bo), .ref ch, .ref cn, .int (zI ad), .int (zI ru), .ref kp, .int (zI dn), .ref rfa])), (ce, .inl (c_ce, 240, .inl f_ce)), (rk, .inl (c_rk, 4, .inl f_rk)), (rw, .inl (c_rw, 4, .inl f_rw)), (rh, .inl (c_rh, 4, .inl f_rh))]) [3, 4, 0, 1, 2] rfl
    have hD9 := hD.sub (ws' := [(h0, .inr (9, [.int (zI fa), .int (zI tc), .ref so, .ref sl, .ref ce, .int (zI fn), .ref kd, .ref wd, .ref hs, .ref pf, .ref lt, .int (zI mn), .ref wg, .int (zI ta), .long ck, .int (zI u_at9_1), .int (zI 0), .ref rk, .ref rw, .ref rh, .int (zI cl), .ref sa, .ref fi, .int (zI bo), .ref ch, .ref cn, .int (zI ad), .int (zI ru), .ref kp, .int (zI dn), .ref rfa])), (ce, .inl (c_ce, 240, .inl f_ce)), (rk, .inl (c_rk, 4, .inl f_rk)), (rw, .inl (c_rw, 4, .inl f_rw)), (rh, .inl (c_rh, 4, .inl f_rh))]) [3, 4, 0, 1, 2] (by decide +kernel) rfl
    exact W.zret (v := (zI 0)) hx hb hr rfl (fun t ht hW => kQS_of (by omega) ⟨u_at9_1, 0, f_rk, f_rw, f_rh, h_3, (kRd_0 h_4 (by omega) (by omega) rfl), (by omega), (by omega), (by omega), by rw [ht]; exact hP9, hD9⟩ (hS.F ht)) hS.2.2 dX9_readAll_16
