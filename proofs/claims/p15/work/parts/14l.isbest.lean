theorem kIts_0 {cn : Nat → Int32} {c f : Int} (h : c ≤ 0) : kIts cn c f = 0 := if_neg (by omega)
theorem kIts_eq {cn : Nat → Int32} {c f z : Int} (hz : rg z) (e : cn (c - 1).toNat = zI z) (h : z = f) : kIts cn c f = 0 := if_neg (by rw [e, zI_toInt hz]; omega)
theorem kIts_ne {cn : Nat → Int32} {c f z : Int} (h0 : 0 < c) (hz : rg z) (e : cn (c - 1).toNat = zI z) (h : ¬ z = f) : kIts cn c f = 1 := if_pos (by rw [e, zI_toInt hz]; exact ⟨h0, h⟩)
theorem dX9_isBestFor_0 : decode cX9_isBestFor 0 = .ok (.iload_n 1, 1) := by decide +kernel
theorem dX9_isBestFor_1 : decode cX9_isBestFor 1 = .ok (.ifCond .le 19, 3) := by decide +kernel
theorem dX9_isBestFor_4 : decode cX9_isBestFor 4 = .ok (.aload_n 0, 1) := by decide +kernel
theorem dX9_isBestFor_5 : decode cX9_isBestFor 5 = .ok (.getfield 55, 3) := by decide +kernel
theorem dX9_isBestFor_8 : decode cX9_isBestFor 8 = .ok (.iload_n 1, 1) := by decide +kernel
theorem dX9_isBestFor_9 : decode cX9_isBestFor 9 = .ok (.iconst 1, 1) := by decide +kernel
theorem dX9_isBestFor_10 : decode cX9_isBestFor 10 = .ok (.isub, 1) := by decide +kernel
theorem dX9_isBestFor_11 : decode cX9_isBestFor 11 = .ok (.iaload, 1) := by decide +kernel
theorem dX9_isBestFor_12 : decode cX9_isBestFor 12 = .ok (.iload_n 2, 1) := by decide +kernel
theorem dX9_isBestFor_13 : decode cX9_isBestFor 13 = .ok (.if_icmp .eq 7, 3) := by decide +kernel
theorem dX9_isBestFor_16 : decode cX9_isBestFor 16 = .ok (.iconst 1, 1) := by decide +kernel
theorem dX9_isBestFor_17 : decode cX9_isBestFor 17 = .ok (.goto 4, 3) := by decide +kernel
theorem dX9_isBestFor_20 : decode cX9_isBestFor 20 = .ok (.iconst 0, 1) := by decide +kernel
theorem dX9_isBestFor_21 : decode cX9_isBestFor 21 = .ok (.istore 4, 2) := by decide +kernel
theorem dX9_isBestFor_23 : decode cX9_isBestFor 23 = .ok (.aload_n 0, 1) := by decide +kernel
theorem dX9_isBestFor_24 : decode cX9_isBestFor 24 = .ok (.iload_n 1, 1) := by decide +kernel
theorem dX9_isBestFor_25 : decode cX9_isBestFor 25 = .ok (.iload_n 2, 1) := by decide +kernel
theorem dX9_isBestFor_26 : decode cX9_isBestFor 26 = .ok (.bipush (-9), 2) := by decide +kernel
theorem dX9_isBestFor_28 : decode cX9_isBestFor 28 = .ok (.invokevirtual 144, 3) := by decide +kernel
theorem dX9_isBestFor_31 : decode cX9_isBestFor 31 = .ok (.ifCond .eq 24, 3) := by decide +kernel
theorem dX9_isBestFor_34 : decode cX9_isBestFor 34 = .ok (.aload_n 0, 1) := by decide +kernel
theorem dX9_isBestFor_35 : decode cX9_isBestFor 35 = .ok (.getfield 52, 3) := by decide +kernel
theorem dX9_isBestFor_38 : decode cX9_isBestFor 38 = .ok (.iconst 4, 1) := by decide +kernel
theorem dX9_isBestFor_39 : decode cX9_isBestFor 39 = .ok (.iload_n 1, 1) := by decide +kernel
theorem dX9_isBestFor_40 : decode cX9_isBestFor 40 = .ok (.imul, 1) := by decide +kernel
theorem dX9_isBestFor_41 : decode cX9_isBestFor 41 = .ok (.iload_n 2, 1) := by decide +kernel
theorem dX9_isBestFor_42 : decode cX9_isBestFor 42 = .ok (.iadd, 1) := by decide +kernel
theorem dX9_isBestFor_43 : decode cX9_isBestFor 43 = .ok (.iaload, 1) := by decide +kernel
theorem dX9_isBestFor_44 : decode cX9_isBestFor 44 = .ok (.iload 4, 2) := by decide +kernel
theorem dX9_isBestFor_46 : decode cX9_isBestFor 46 = .ok (.iadd, 1) := by decide +kernel
theorem dX9_isBestFor_47 : decode cX9_isBestFor 47 = .ok (.iload_n 3, 1) := by decide +kernel
theorem dX9_isBestFor_48 : decode cX9_isBestFor 48 = .ok (.if_icmp .ne 7, 3) := by decide +kernel
theorem dX9_isBestFor_51 : decode cX9_isBestFor 51 = .ok (.iconst 1, 1) := by decide +kernel
theorem dX9_isBestFor_52 : decode cX9_isBestFor 52 = .ok (.goto 4, 3) := by decide +kernel
theorem dX9_isBestFor_55 : decode cX9_isBestFor 55 = .ok (.iconst 0, 1) := by decide +kernel
theorem dX9_isBestFor_56 : decode cX9_isBestFor 56 = .ok (.ireturn, 1) := by decide +kernel
set_option maxRecDepth 20000 in
theorem ggX9_isBestFor_X9_canSet : GoodIn wsX9_isBestFor wsX9_canSet := goodIn_4 _ (List.forall_mem_cons.mpr ⟨List.mem_cons_of_mem _ (List.mem_append_left _ (List.mem_of_getElem? (i := 6) rfl)), List.forall_mem_append.mpr ⟨List.forall_mem_cons.mpr ⟨List.mem_cons_of_mem _ (List.mem_append_left _ (List.mem_of_getElem? (i := 7) rfl)), List.forall_mem_cons.mpr ⟨List.mem_cons_of_mem _ (List.mem_append_left _ (List.mem_of_getElem? (i := 8) rfl)), List.forall_mem_cons.mpr ⟨List.mem_cons_of_mem _ (List.mem_append_left _ (List.mem_of_getElem? (i := 9) rfl)), List.forall_mem_cons.mpr ⟨List.mem_cons_of_mem _ (List.mem_append_left _ (List.mem_of_getElem? (i := 5) rfl)), List.forall_mem_cons.mpr ⟨List.mem_cons_of_mem _ (List.mem_append_left _ (List.mem_of_getElem? (i := 10) rfl)), fun _ h9 => absurd h9 List.not_mem_nil⟩⟩⟩⟩⟩, fun w h9 => List.mem_cons_of_mem _ (List.mem_append_right _ (h9))⟩⟩) (by decide +kernel)
set_option maxRecDepth 20000 in
theorem gX9_isBestFor_X9_canSet : GoodIn wsX9_isBestFor (wsV RX9 144 RX9 yX9_canSet wsX9_canSet) := goodIn_app (goodIn_4 _ (List.forall_mem_cons.mpr ⟨List.mem_cons_of_mem _ (List.mem_append_left _ (List.mem_of_getElem? (i := 2) rfl)), List.forall_mem_cons.mpr ⟨List.mem_cons_of_mem _ (List.mem_append_left _ (List.mem_of_getElem? (i := 3) rfl)), List.forall_mem_cons.mpr ⟨List.mem_cons_of_mem _ (List.mem_append_left _ (List.mem_of_getElem? (i := 4) rfl)), List.forall_mem_cons.mpr ⟨List.mem_cons_of_mem _ (List.mem_append_left _ (List.mem_of_getElem? (i := 5) rfl)), fun _ h9 => absurd h9 List.not_mem_nil⟩⟩⟩⟩) (by decide +kernel)) ggX9_isBestFor_X9_canSet
set_option maxRecDepth 20000 in
theorem mw_X9_isBestFor_0 : (.fieldLink RX9 52 "FontRunsModel" "changes" "[I" : Cond) ∈ wsX9_isBestFor := List.mem_cons_of_mem _ (List.mem_append_left _ (List.mem_of_getElem? (i := 1) rfl))
set_option maxRecDepth 20000 in
theorem mw_X9_isBestFor_1 : (.fieldLink RX9 55 "FontRunsModel" "chosen" "[I" : Cond) ∈ wsX9_isBestFor := List.mem_cons_of_mem _ (List.mem_append_left _ (List.mem_of_getElem? (i := 0) rfl))
theorem ax_X9_isBestFor_0 {e0 e1 e2 e3 : Nat × va_E} : ([0, 1] : List Nat).map (fun i => ([e0, e1, e2, e3] : va_W)[i]?) = ([e0, e1] : va_W).map some := rfl
set_option maxHeartbeats 4000000 in
set_option maxRecDepth 100000 in
theorem c_X9_isBestFor (l : Launch) (D : va_G) (sz : Nat) (kc : Int) (f : Int) (lf : Int) (h0 : Nat) (fa : Int) (tc : Int) (so : Nat) (sl : Nat) (ce : Nat) (fn : Int) (kd : Nat) (wd : Nat) (hs : Nat) (pf : Nat) (lt : Nat) (mn : Int) (wg : Nat) (ta : Int) (ck : Int64) (at9 : Int) (rfn : Int) (rk : Nat) (rw : Nat) (rh : Nat) (cl : Int) (sa : Nat) (fi : Nat) (bo : Int) (ch : Nat) (cn : Nat) (ad : Int) (ru : Int) (kp : Nat) (dn : Int) (rfa : Nat) (c_fi : ClassId) (f_fi : Nat → Int32) (c_ch : ClassId) (f_ch : Nat → Int32) (c_cn : ClassId) (f_cn : Nat → Int32) (q0 : 0 ≤ kc ∧ kc < cl) (q1 : 0 ≤ f ∧ f < fn) (q2 : rg lf) (q3 : 0 ≤ cl ∧ cl ≤ 24) (q4 : 0 ≤ fn ∧ fn ≤ 4) (q5 : kDp f_ch f_fi fn cl (-9) 0) : Met l yX9_isBestFor wsX9_isBestFor ({ frames := 2, cells := 0, slots := 0, locals := 44 }) (kPre [.ref h0, .int (zI kc), .int (zI f), .int (zI lf)] D [(h0, .inr (9, [.int (zI fa), .int (zI tc), .ref so, .ref sl, .ref ce, .int (zI fn), .ref kd, .ref wd, .ref hs, .ref pf, .ref lt, .int (zI mn), .ref wg, .int (zI ta), .long ck, .int (zI at9), .int (zI rfn), .ref rk, .ref rw, .ref rh, .int (zI cl), .ref sa, .ref fi, .int (zI bo), .ref ch, .ref cn, .int (zI ad), .int (zI ru), .ref kp, .int (zI dn), .ref rfa])), (fi, .inl (c_fi, 24, .inl f_fi)), (ch, .inl (c_ch, 96, .inl f_ch)), (cn, .inl (c_cn, 24, .inl f_cn))] [(c_fi, .int), (c_ch, .int), (c_cn, .int)] sz) (QcRead (if kIsB f_ch f_fi f_cn kc f lf then 1 else 0)) 0 0 (fun _ => False) := by
  refine Met.ofW (cc := cX9_isBestFor) (maxL := 5) (ret := (some .boolean)) (by decide) rfl ?_
  intro p e s m args below meth c s₁ B hml hv
  obtain ⟨rfl, hsz, hP, hK, hD0, hN⟩ := hv
  have hx := B.exec
  have hb := B.bytes
  have hr := B.returns
  have hts := atoms_spec (ws := wsX9_isBestFor) B.pre
  have hown : s.vm.findClass RX9 = some m.cls := findClass_of_methodNamed B.named
  have hlocks := B.notSynchronized
  subst hsz
  have hD := hD0
  have hP : va_P D vwCl [(h0, .inr (9, [.int (zI fa), .int (zI tc), .ref so, .ref sl, .ref ce, .int (zI fn), .ref kd, .ref wd, .ref hs, .ref pf, .ref lt, .int (zI mn), .ref wg, .int (zI ta), .long ck, .int (zI at9), .int (zI rfn), .ref rk, .ref rw, .ref rh, .int (zI cl), .ref sa, .ref fi, .int (zI bo), .ref ch, .ref cn, .int (zI ad), .int (zI ru), .ref kp, .int (zI dn), .ref rfa])), (fi, .inl (c_fi, 24, .inl f_fi)), (ch, .inl (c_ch, 96, .inl f_ch)), (cn, .inl (c_cn, 24, .inl f_cn))] s.heap := hP
  have hl := lv_entry ([.ref h0, .int (zI kc), .int (zI f), .int (zI lf)]) (n := 5) (Nat.le_of_ble_eq_true rfl)
  rw [lg_entry_eq]
  generalize (lg_sl ([.ref h0, .int (zI kc), .int (zI f), .int (zI lf)]) ++ List.replicate (5 - (lg_sl ([.ref h0, .int (zI kc), .int (zI f), .int (zI lf)])).length) Slot.unset).toArray = ls at hl ⊢
  have hl : lv_has ls 5 [(0, .ref h0), (1, .int (zI kc)), (2, .int (zI f)), (3, .int (zI lf))] := hl
  refine lv_iload_n hx hb dX9_isBestFor_0 rfl (lv_at hl 1 rfl) ?_
  refine kz_if_le (tgt := 20) hx hb dX9_isBestFor_1 (by decide) (by omega) (fun c_1 => ?_) (fun c_1 => ?_)
  · refine lv_iconst (v := zI 0) hx hb dX9_isBestFor_20 rfl ?_
    refine lv_istore (lv' := [(4, .int (zI 0)), (0, .ref h0), (1, .int (zI kc)), (2, .int (zI f)), (3, .int (zI lf))]) hx hb dX9_isBestFor_21 hl (by decide) rfl (fun ls hl => ?_)
    refine lv_aload_n hx hb dX9_isBestFor_23 rfl (lv_at hl 1 rfl) ?_
    refine lv_iload_n hx hb dX9_isBestFor_24 rfl (lv_at hl 2 rfl) ?_
    refine lv_iload_n hx hb dX9_isBestFor_25 rfl (lv_at hl 3 rfl) ?_
    refine lv_bipush (v := zI (-9)) hx hb dX9_isBestFor_26 (by decide) ?_
    refine k_callR (va_runV (As := [.int (zI kc), .int (zI f), .int (zI (-9))]) (rest := []) ⟨hx, hb, hml, hown, hts⟩ (c_X9_canSet l D s.heap.size (kc := kc) (f := f) (wo := (-9)) (h0 := h0) (fa := fa) (tc := tc) (so := so) (sl := sl) (ce := ce) (fn := fn) (kd := kd) (wd := wd) (hs := hs) (pf := pf) (lt := lt) (mn := mn) (wg := wg) (ta := ta) (ck := ck) (at9 := at9) (rfn := rfn) (rk := rk) (rw := rw) (rh := rh) (cl := cl) (sa := sa) (fi := fi) (bo := bo) (ch := ch) (cn := cn) (ad := ad) (ru := ru) (kp := kp) (dn := dn) (rfa := rfa) (c_fi := c_fi) (f_fi := f_fi) (by omega) (by omega) (by omega)) (cwV 3 hts gX9_isBestFor_X9_canSet rfl rfl rfl (by decide +kernel) ⟨Nat.le_of_ble_eq_true rfl, Nat.le_of_ble_eq_true rfl⟩) (kPreV hP (kD0 hD) hK hN [0, 1] [0] ax_X9_isBestFor_0 rfl (by decide +kernel) 0 9 rfl rfl) rfl rfl hl.1 rfl (lv_room (Nat.le_of_ble_eq_true rfl)) dX9_isBestFor_28 ⟨Nat.le_of_ble_eq_true rfl, Nat.le_of_ble_eq_true rfl⟩) ?_
    refine lv_if_eq (tgt := 55) hx hb dX9_isBestFor_31 (by decide) (fun c_2 => ?_) (fun c_2 => ?_)
    · have c_2 : ¬ (kCan (f_fi kc.toNat) f (-9)) := b01f c_2
      refine lv_iconst (v := zI 0) hx hb dX9_isBestFor_55 rfl ?_
      exact W.zret (v := (zI 0)) hx hb hr rfl (fun t ht hW => kRd (kb0 (fun h9 => c_2 h9.1)) ht) (fun _ h9 => by cases h9) dX9_isBestFor_56
    · have c_2 : kCan (f_fi kc.toNat) f (-9) := b01t c_2
      refine lv_aload_n hx hb dX9_isBestFor_34 rfl (lv_at hl 1 rfl) ?_
      refine va_get (D := D) (ci := 9) (v := .ref ch) (C := RX9) (T := TX9) (N := 31) hx hb hts (fun _ h9 => List.mem_cons_of_mem _ (List.mem_append_right _ h9)) hown hK hP 0 rfl rfl 24 (by decide) (hts (.fieldLink RX9 52 "FontRunsModel" "changes" "[I") mw_X9_isBestFor_0) (fun _ h9 => h9) rfl dX9_isBestFor_35 ?_
      refine lv_iconst (v := zI 4) hx hb dX9_isBestFor_38 rfl ?_
      refine lv_iload_n hx hb dX9_isBestFor_39 rfl (lv_at hl 2 rfl) ?_
      refine kz_imul hx hb dX9_isBestFor_40 ?_
      refine lv_iload_n hx hb dX9_isBestFor_41 rfl (lv_at hl 3 rfl) ?_
      refine kz_iadd hx hb dX9_isBestFor_42 ?_
      refine kz_iald hx hb hK hP 2 1 rfl rfl (by omega) dX9_isBestFor_43 (fun z_3 rz_3 ez_3 => ?_)
      have gz_3 := q5 kc f (by omega) (by omega) (by omega) (by omega)
      have az_3 := kch_at (c := kc) (f := f) rz_3 ez_3
      have bz_3 : 0 ≤ z_3 ∧ z_3 ≤ 24 := by have u1 := gz_3.1; have u2 := gz_3.2.1; rw [az_3] at u1 u2; exact ⟨u1, u2⟩
      refine lv_iload hx hb dX9_isBestFor_44 (lv_at hl 0 rfl) ?_
      refine kz_iadd hx hb dX9_isBestFor_46 ?_
      refine lv_iload_n hx hb dX9_isBestFor_47 rfl (lv_at hl 4 rfl) ?_
      refine kz_icmp_ne (tgt := 55) hx hb dX9_isBestFor_48 (by decide) (by omega) (by omega) (fun c_4 => ?_) (fun c_4 => ?_)
      · refine lv_iconst (v := zI 0) hx hb dX9_isBestFor_55 rfl ?_
        exact W.zret (v := (zI 0)) hx hb hr rfl (fun t ht hW => kRd (kb0 (fun h9 => by have q9 := h9.2; rw [az_3, kIts_0 c_1] at q9; omega)) ht) (fun _ h9 => by cases h9) dX9_isBestFor_56
      · refine lv_iconst (v := zI 1) hx hb dX9_isBestFor_51 rfl ?_
        refine lv_goto (tgt := 56) hx hb dX9_isBestFor_52 (by decide) ?_
        exact W.zret (v := (zI 1)) hx hb hr rfl (fun t ht hW => kRd (kb1 (⟨c_2, by rw [az_3, kIts_0 c_1]; omega⟩)) ht) (fun _ h9 => by cases h9) dX9_isBestFor_56
  · refine lv_aload_n hx hb dX9_isBestFor_4 rfl (lv_at hl 0 rfl) ?_
    refine va_get (D := D) (ci := 9) (v := .ref cn) (C := RX9) (T := TX9) (N := 31) hx hb hts (fun _ h9 => List.mem_cons_of_mem _ (List.mem_append_right _ h9)) hown hK hP 0 rfl rfl 25 (by decide) (hts (.fieldLink RX9 55 "FontRunsModel" "chosen" "[I") mw_X9_isBestFor_1) (fun _ h9 => h9) rfl dX9_isBestFor_5 ?_
    refine lv_iload_n hx hb dX9_isBestFor_8 rfl (lv_at hl 1 rfl) ?_
    refine lv_iconst (v := zI 1) hx hb dX9_isBestFor_9 rfl ?_
    refine kz_isub hx hb dX9_isBestFor_10 ?_
    refine kz_iald hx hb hK hP 3 2 rfl rfl (by omega) dX9_isBestFor_11 (fun z_5 rz_5 ez_5 => ?_)
    refine lv_iload_n hx hb dX9_isBestFor_12 rfl (lv_at hl 2 rfl) ?_
    refine kz_icmp_eq (tgt := 20) hx hb dX9_isBestFor_13 (by decide) (by omega) (by omega) (fun c_6 => ?_) (fun c_6 => ?_)
    · refine lv_iconst (v := zI 0) hx hb dX9_isBestFor_20 rfl ?_
      refine lv_istore (lv' := [(4, .int (zI 0)), (0, .ref h0), (1, .int (zI kc)), (2, .int (zI f)), (3, .int (zI lf))]) hx hb dX9_isBestFor_21 hl (by decide) rfl (fun ls hl => ?_)
      refine lv_aload_n hx hb dX9_isBestFor_23 rfl (lv_at hl 1 rfl) ?_
      refine lv_iload_n hx hb dX9_isBestFor_24 rfl (lv_at hl 2 rfl) ?_
      refine lv_iload_n hx hb dX9_isBestFor_25 rfl (lv_at hl 3 rfl) ?_
      refine lv_bipush (v := zI (-9)) hx hb dX9_isBestFor_26 (by decide) ?_
      refine k_callR (va_runV (As := [.int (zI kc), .int (zI f), .int (zI (-9))]) (rest := []) ⟨hx, hb, hml, hown, hts⟩ (c_X9_canSet l D s.heap.size (kc := kc) (f := f) (wo := (-9)) (h0 := h0) (fa := fa) (tc := tc) (so := so) (sl := sl) (ce := ce) (fn := fn) (kd := kd) (wd := wd) (hs := hs) (pf := pf) (lt := lt) (mn := mn) (wg := wg) (ta := ta) (ck := ck) (at9 := at9) (rfn := rfn) (rk := rk) (rw := rw) (rh := rh) (cl := cl) (sa := sa) (fi := fi) (bo := bo) (ch := ch) (cn := cn) (ad := ad) (ru := ru) (kp := kp) (dn := dn) (rfa := rfa) (c_fi := c_fi) (f_fi := f_fi) (by omega) (by omega) (by omega)) (cwV 3 hts gX9_isBestFor_X9_canSet rfl rfl rfl (by decide +kernel) ⟨Nat.le_of_ble_eq_true rfl, Nat.le_of_ble_eq_true rfl⟩) (kPreV hP (kD0 hD) hK hN [0, 1] [0] ax_X9_isBestFor_0 rfl (by decide +kernel) 0 9 rfl rfl) rfl rfl hl.1 rfl (lv_room (Nat.le_of_ble_eq_true rfl)) dX9_isBestFor_28 ⟨Nat.le_of_ble_eq_true rfl, Nat.le_of_ble_eq_true rfl⟩) ?_
      refine lv_if_eq (tgt := 55) hx hb dX9_isBestFor_31 (by decide) (fun c_7 => ?_) (fun c_7 => ?_)
      · have c_7 : ¬ (kCan (f_fi kc.toNat) f (-9)) := b01f c_7
        refine lv_iconst (v := zI 0) hx hb dX9_isBestFor_55 rfl ?_
        exact W.zret (v := (zI 0)) hx hb hr rfl (fun t ht hW => kRd (kb0 (fun h9 => c_7 h9.1)) ht) (fun _ h9 => by cases h9) dX9_isBestFor_56
      · have c_7 : kCan (f_fi kc.toNat) f (-9) := b01t c_7
        refine lv_aload_n hx hb dX9_isBestFor_34 rfl (lv_at hl 1 rfl) ?_
        refine va_get (D := D) (ci := 9) (v := .ref ch) (C := RX9) (T := TX9) (N := 31) hx hb hts (fun _ h9 => List.mem_cons_of_mem _ (List.mem_append_right _ h9)) hown hK hP 0 rfl rfl 24 (by decide) (hts (.fieldLink RX9 52 "FontRunsModel" "changes" "[I") mw_X9_isBestFor_0) (fun _ h9 => h9) rfl dX9_isBestFor_35 ?_
        refine lv_iconst (v := zI 4) hx hb dX9_isBestFor_38 rfl ?_
        refine lv_iload_n hx hb dX9_isBestFor_39 rfl (lv_at hl 2 rfl) ?_
        refine kz_imul hx hb dX9_isBestFor_40 ?_
        refine lv_iload_n hx hb dX9_isBestFor_41 rfl (lv_at hl 3 rfl) ?_
        refine kz_iadd hx hb dX9_isBestFor_42 ?_
        refine kz_iald hx hb hK hP 2 1 rfl rfl (by omega) dX9_isBestFor_43 (fun z_8 rz_8 ez_8 => ?_)
        have gz_8 := q5 kc f (by omega) (by omega) (by omega) (by omega)
        have az_8 := kch_at (c := kc) (f := f) rz_8 ez_8
        have bz_8 : 0 ≤ z_8 ∧ z_8 ≤ 24 := by have u1 := gz_8.1; have u2 := gz_8.2.1; rw [az_8] at u1 u2; exact ⟨u1, u2⟩
        refine lv_iload hx hb dX9_isBestFor_44 (lv_at hl 0 rfl) ?_
        refine kz_iadd hx hb dX9_isBestFor_46 ?_
        refine lv_iload_n hx hb dX9_isBestFor_47 rfl (lv_at hl 4 rfl) ?_
        refine kz_icmp_ne (tgt := 55) hx hb dX9_isBestFor_48 (by decide) (by omega) (by omega) (fun c_9 => ?_) (fun c_9 => ?_)
        · refine lv_iconst (v := zI 0) hx hb dX9_isBestFor_55 rfl ?_
          exact W.zret (v := (zI 0)) hx hb hr rfl (fun t ht hW => kRd (kb0 (fun h9 => by have q9 := h9.2; rw [az_8, kIts_eq rz_5 ez_5 c_6] at q9; omega)) ht) (fun _ h9 => by cases h9) dX9_isBestFor_56
        · refine lv_iconst (v := zI 1) hx hb dX9_isBestFor_51 rfl ?_
          refine lv_goto (tgt := 56) hx hb dX9_isBestFor_52 (by decide) ?_
          exact W.zret (v := (zI 1)) hx hb hr rfl (fun t ht hW => kRd (kb1 (⟨c_7, by rw [az_8, kIts_eq rz_5 ez_5 c_6]; omega⟩)) ht) (fun _ h9 => by cases h9) dX9_isBestFor_56
    · refine lv_iconst (v := zI 1) hx hb dX9_isBestFor_16 rfl ?_
      refine lv_goto (tgt := 21) hx hb dX9_isBestFor_17 (by decide) ?_
      refine lv_istore (lv' := [(4, .int (zI 1)), (0, .ref h0), (1, .int (zI kc)), (2, .int (zI f)), (3, .int (zI lf))]) hx hb dX9_isBestFor_21 hl (by decide) rfl (fun ls hl => ?_)
      refine lv_aload_n hx hb dX9_isBestFor_23 rfl (lv_at hl 1 rfl) ?_
      refine lv_iload_n hx hb dX9_isBestFor_24 rfl (lv_at hl 2 rfl) ?_
      refine lv_iload_n hx hb dX9_isBestFor_25 rfl (lv_at hl 3 rfl) ?_
      refine lv_bipush (v := zI (-9)) hx hb dX9_isBestFor_26 (by decide) ?_
      refine k_callR (va_runV (As := [.int (zI kc), .int (zI f), .int (zI (-9))]) (rest := []) ⟨hx, hb, hml, hown, hts⟩ (c_X9_canSet l D s.heap.size (kc := kc) (f := f) (wo := (-9)) (h0 := h0) (fa := fa) (tc := tc) (so := so) (sl := sl) (ce := ce) (fn := fn) (kd := kd) (wd := wd) (hs := hs) (pf := pf) (lt := lt) (mn := mn) (wg := wg) (ta := ta) (ck := ck) (at9 := at9) (rfn := rfn) (rk := rk) (rw := rw) (rh := rh) (cl := cl) (sa := sa) (fi := fi) (bo := bo) (ch := ch) (cn := cn) (ad := ad) (ru := ru) (kp := kp) (dn := dn) (rfa := rfa) (c_fi := c_fi) (f_fi := f_fi) (by omega) (by omega) (by omega)) (cwV 3 hts gX9_isBestFor_X9_canSet rfl rfl rfl (by decide +kernel) ⟨Nat.le_of_ble_eq_true rfl, Nat.le_of_ble_eq_true rfl⟩) (kPreV hP (kD0 hD) hK hN [0, 1] [0] ax_X9_isBestFor_0 rfl (by decide +kernel) 0 9 rfl rfl) rfl rfl hl.1 rfl (lv_room (Nat.le_of_ble_eq_true rfl)) dX9_isBestFor_28 ⟨Nat.le_of_ble_eq_true rfl, Nat.le_of_ble_eq_true rfl⟩) ?_
      refine lv_if_eq (tgt := 55) hx hb dX9_isBestFor_31 (by decide) (fun c_10 => ?_) (fun c_10 => ?_)
      · have c_10 : ¬ (kCan (f_fi kc.toNat) f (-9)) := b01f c_10
        refine lv_iconst (v := zI 0) hx hb dX9_isBestFor_55 rfl ?_
        exact W.zret (v := (zI 0)) hx hb hr rfl (fun t ht hW => kRd (kb0 (fun h9 => c_10 h9.1)) ht) (fun _ h9 => by cases h9) dX9_isBestFor_56
      · have c_10 : kCan (f_fi kc.toNat) f (-9) := b01t c_10
        refine lv_aload_n hx hb dX9_isBestFor_34 rfl (lv_at hl 1 rfl) ?_
        refine va_get (D := D) (ci := 9) (v := .ref ch) (C := RX9) (T := TX9) (N := 31) hx hb hts (fun _ h9 => List.mem_cons_of_mem _ (List.mem_append_right _ h9)) hown hK hP 0 rfl rfl 24 (by decide) (hts (.fieldLink RX9 52 "FontRunsModel" "changes" "[I") mw_X9_isBestFor_0) (fun _ h9 => h9) rfl dX9_isBestFor_35 ?_
        refine lv_iconst (v := zI 4) hx hb dX9_isBestFor_38 rfl ?_
        refine lv_iload_n hx hb dX9_isBestFor_39 rfl (lv_at hl 2 rfl) ?_
        refine kz_imul hx hb dX9_isBestFor_40 ?_
        refine lv_iload_n hx hb dX9_isBestFor_41 rfl (lv_at hl 3 rfl) ?_
        refine kz_iadd hx hb dX9_isBestFor_42 ?_
        refine kz_iald hx hb hK hP 2 1 rfl rfl (by omega) dX9_isBestFor_43 (fun z_11 rz_11 ez_11 => ?_)
        have gz_11 := q5 kc f (by omega) (by omega) (by omega) (by omega)
        have az_11 := kch_at (c := kc) (f := f) rz_11 ez_11
        have bz_11 : 0 ≤ z_11 ∧ z_11 ≤ 24 := by have u1 := gz_11.1; have u2 := gz_11.2.1; rw [az_11] at u1 u2; exact ⟨u1, u2⟩
        refine lv_iload hx hb dX9_isBestFor_44 (lv_at hl 0 rfl) ?_
        refine kz_iadd hx hb dX9_isBestFor_46 ?_
        refine lv_iload_n hx hb dX9_isBestFor_47 rfl (lv_at hl 4 rfl) ?_
        refine kz_icmp_ne (tgt := 55) hx hb dX9_isBestFor_48 (by decide) (by omega) (by omega) (fun c_12 => ?_) (fun c_12 => ?_)
        · refine lv_iconst (v := zI 0) hx hb dX9_isBestFor_55 rfl ?_
          exact W.zret (v := (zI 0)) hx hb hr rfl (fun t ht hW => kRd (kb0 (fun h9 => by have q9 := h9.2; rw [az_11, kIts_ne (by omega) rz_5 ez_5 c_6] at q9; omega)) ht) (fun _ h9 => by cases h9) dX9_isBestFor_56
        · refine lv_iconst (v := zI 1) hx hb dX9_isBestFor_51 rfl ?_
          refine lv_goto (tgt := 56) hx hb dX9_isBestFor_52 (by decide) ?_
          exact W.zret (v := (zI 1)) hx hb hr rfl (fun t ht hW => kRd (kb1 (⟨c_10, by rw [az_11, kIts_ne (by omega) rz_5 ez_5 c_6]; omega⟩)) ht) (fun _ h9 => by cases h9) dX9_isBestFor_56
