theorem dX9_ofFont_0 : decode cX9_ofFont 0 = .ok (.aload_n 0, 1) := kqo_2a kbl_X9_ofFont (pc := 0) rfl
theorem dX9_ofFont_1 : decode cX9_ofFont 1 = .ok (.iload_n 1, 1) := kqo_1b kbl_X9_ofFont (pc := 1) rfl
theorem dX9_ofFont_2 : decode cX9_ofFont 2 = .ok (.invokevirtual 120, 3) := kqo_b6 (x1 := 0) (x2 := 120) kbl_X9_ofFont (pc := 2) rfl rfl
theorem dX9_ofFont_5 : decode cX9_ofFont 5 = .ok (.ifCond .ne 5, 3) := kqo_9a (x1 := 0) (x2 := 5) kbl_X9_ofFont (pc := 5) rfl rfl
theorem dX9_ofFont_8 : decode cX9_ofFont 8 = .ok (.iconst (-1), 1) := kqo_02 kbl_X9_ofFont (pc := 8) rfl
theorem dX9_ofFont_9 : decode cX9_ofFont 9 = .ok (.ireturn, 1) := kqo_ac kbl_X9_ofFont (pc := 9) rfl
theorem dX9_ofFont_10 : decode cX9_ofFont 10 = .ok (.iload_n 2, 1) := kqo_1c kbl_X9_ofFont (pc := 10) rfl
theorem dX9_ofFont_11 : decode cX9_ofFont 11 = .ok (.tableswitch 66 0 4 #[33, 40, 47, 53, 60], 33) := by decide +kernel
theorem dX9_ofFont_44 : decode cX9_ofFont 44 = .ok (.aload_n 0, 1) := kqo_2a kbl_X9_ofFont (pc := 44) rfl
theorem dX9_ofFont_45 : decode cX9_ofFont 45 = .ok (.getfield 19, 3) := kqo_b4 (x1 := 0) (x2 := 19) kbl_X9_ofFont (pc := 45) rfl rfl
theorem dX9_ofFont_48 : decode cX9_ofFont 48 = .ok (.iload_n 1, 1) := kqo_1b kbl_X9_ofFont (pc := 48) rfl
theorem dX9_ofFont_49 : decode cX9_ofFont 49 = .ok (.iaload, 1) := kqo_2e kbl_X9_ofFont (pc := 49) rfl
theorem dX9_ofFont_50 : decode cX9_ofFont 50 = .ok (.ireturn, 1) := kqo_ac kbl_X9_ofFont (pc := 50) rfl
theorem dX9_ofFont_51 : decode cX9_ofFont 51 = .ok (.aload_n 0, 1) := kqo_2a kbl_X9_ofFont (pc := 51) rfl
theorem dX9_ofFont_52 : decode cX9_ofFont 52 = .ok (.getfield 22, 3) := kqo_b4 (x1 := 0) (x2 := 22) kbl_X9_ofFont (pc := 52) rfl rfl
theorem dX9_ofFont_55 : decode cX9_ofFont 55 = .ok (.iload_n 1, 1) := kqo_1b kbl_X9_ofFont (pc := 55) rfl
theorem dX9_ofFont_56 : decode cX9_ofFont 56 = .ok (.iaload, 1) := kqo_2e kbl_X9_ofFont (pc := 56) rfl
theorem dX9_ofFont_57 : decode cX9_ofFont 57 = .ok (.ireturn, 1) := kqo_ac kbl_X9_ofFont (pc := 57) rfl
theorem dX9_ofFont_58 : decode cX9_ofFont 58 = .ok (.aload_n 0, 1) := kqo_2a kbl_X9_ofFont (pc := 58) rfl
theorem dX9_ofFont_59 : decode cX9_ofFont 59 = .ok (.iload_n 1, 1) := kqo_1b kbl_X9_ofFont (pc := 59) rfl
theorem dX9_ofFont_60 : decode cX9_ofFont 60 = .ok (.invokevirtual 123, 3) := kqo_b6 (x1 := 0) (x2 := 123) kbl_X9_ofFont (pc := 60) rfl rfl
theorem dX9_ofFont_63 : decode cX9_ofFont 63 = .ok (.ireturn, 1) := kqo_ac kbl_X9_ofFont (pc := 63) rfl
theorem dX9_ofFont_64 : decode cX9_ofFont 64 = .ok (.aload_n 0, 1) := kqo_2a kbl_X9_ofFont (pc := 64) rfl
theorem dX9_ofFont_65 : decode cX9_ofFont 65 = .ok (.getfield 25, 3) := kqo_b4 (x1 := 0) (x2 := 25) kbl_X9_ofFont (pc := 65) rfl rfl
theorem dX9_ofFont_68 : decode cX9_ofFont 68 = .ok (.iload_n 1, 1) := kqo_1b kbl_X9_ofFont (pc := 68) rfl
theorem dX9_ofFont_69 : decode cX9_ofFont 69 = .ok (.iaload, 1) := kqo_2e kbl_X9_ofFont (pc := 69) rfl
theorem dX9_ofFont_70 : decode cX9_ofFont 70 = .ok (.ireturn, 1) := kqo_ac kbl_X9_ofFont (pc := 70) rfl
theorem dX9_ofFont_71 : decode cX9_ofFont 71 = .ok (.aload_n 0, 1) := kqo_2a kbl_X9_ofFont (pc := 71) rfl
theorem dX9_ofFont_72 : decode cX9_ofFont 72 = .ok (.iload_n 1, 1) := kqo_1b kbl_X9_ofFont (pc := 72) rfl
theorem dX9_ofFont_73 : decode cX9_ofFont 73 = .ok (.invokevirtual 126, 3) := kqo_b6 (x1 := 0) (x2 := 126) kbl_X9_ofFont (pc := 73) rfl rfl
theorem dX9_ofFont_76 : decode cX9_ofFont 76 = .ok (.ireturn, 1) := kqo_ac kbl_X9_ofFont (pc := 76) rfl
theorem dX9_ofFont_77 : decode cX9_ofFont 77 = .ok (.bipush (-2), 2) := kqo_10 (x1 := 254) kbl_X9_ofFont (pc := 77) rfl rfl
theorem dX9_ofFont_79 : decode cX9_ofFont 79 = .ok (.ireturn, 1) := kqo_ac kbl_X9_ofFont (pc := 79) rfl
set_option maxRecDepth 20000 in
theorem ggX9_ofFont_X9_isFont : GoodIn wsX9_ofFont wsX9_isFont := goodIn_4 _ (List.forall_mem_cons.mpr ⟨List.mem_cons_of_mem _ (List.mem_append_left _ (List.mem_of_getElem? (i := 7) rfl)), List.forall_mem_append.mpr ⟨List.forall_mem_cons.mpr ⟨List.mem_cons_of_mem _ (List.mem_append_left _ (List.mem_of_getElem? (i := 8) rfl)), fun _ h9 => absurd h9 List.not_mem_nil⟩, fun w h9 => List.mem_cons_of_mem _ (List.mem_append_right _ (h9))⟩⟩) (by decide +kernel)
set_option maxRecDepth 20000 in
theorem gX9_ofFont_X9_isFont : GoodIn wsX9_ofFont (wsV RX9 120 RX9 yX9_isFont wsX9_isFont) := goodIn_app (goodIn_4 _ (List.forall_mem_cons.mpr ⟨List.mem_cons_of_mem _ (List.mem_append_left _ (List.mem_of_getElem? (i := 3) rfl)), List.forall_mem_cons.mpr ⟨List.mem_cons_of_mem _ (List.mem_append_left _ (List.mem_of_getElem? (i := 4) rfl)), List.forall_mem_cons.mpr ⟨List.mem_cons_of_mem _ (List.mem_append_left _ (List.mem_of_getElem? (i := 5) rfl)), List.forall_mem_cons.mpr ⟨List.mem_cons_of_mem _ (List.mem_append_left _ (List.mem_of_getElem? (i := 6) rfl)), fun _ h9 => absurd h9 List.not_mem_nil⟩⟩⟩⟩) (by decide +kernel)) ggX9_ofFont_X9_isFont
set_option maxRecDepth 20000 in
theorem ggX9_ofFont_X9_placeOf : GoodIn wsX9_ofFont wsX9_placeOf := goodIn_4 _ (List.forall_mem_cons.mpr ⟨List.mem_cons_of_mem _ (List.mem_append_left _ (List.mem_of_getElem? (i := 16) rfl)), List.forall_mem_append.mpr ⟨List.forall_mem_cons.mpr ⟨List.mem_cons_of_mem _ (List.mem_append_left _ (List.mem_of_getElem? (i := 17) rfl)), fun _ h9 => absurd h9 List.not_mem_nil⟩, fun w h9 => List.mem_cons_of_mem _ (List.mem_append_right _ (h9))⟩⟩) (by decide +kernel)
set_option maxRecDepth 20000 in
theorem gX9_ofFont_X9_placeOf : GoodIn wsX9_ofFont (wsV RX9 126 RX9 yX9_placeOf wsX9_placeOf) := goodIn_app (goodIn_4 _ (List.forall_mem_cons.mpr ⟨List.mem_cons_of_mem _ (List.mem_append_left _ (List.mem_of_getElem? (i := 13) rfl)), List.forall_mem_cons.mpr ⟨List.mem_cons_of_mem _ (List.mem_append_left _ (List.mem_of_getElem? (i := 14) rfl)), List.forall_mem_cons.mpr ⟨List.mem_cons_of_mem _ (List.mem_append_left _ (List.mem_of_getElem? (i := 15) rfl)), List.forall_mem_cons.mpr ⟨List.mem_cons_of_mem _ (List.mem_append_left _ (List.mem_of_getElem? (i := 6) rfl)), fun _ h9 => absurd h9 List.not_mem_nil⟩⟩⟩⟩) (by decide +kernel)) ggX9_ofFont_X9_placeOf
set_option maxRecDepth 20000 in
theorem ggX9_ofFont_X9_stepOf : GoodIn wsX9_ofFont wsX9_stepOf := goodIn_4 _ (List.forall_mem_cons.mpr ⟨List.mem_cons_of_mem _ (List.mem_append_left _ (List.mem_of_getElem? (i := 12) rfl)), List.forall_mem_append.mpr ⟨List.forall_mem_cons.mpr ⟨List.mem_cons_of_mem _ (List.mem_append_left _ (List.mem_of_getElem? (i := 0) rfl)), List.forall_mem_cons.mpr ⟨List.mem_cons_of_mem _ (List.mem_append_left _ (List.mem_of_getElem? (i := 1) rfl)), fun _ h9 => absurd h9 List.not_mem_nil⟩⟩, fun w h9 => List.mem_cons_of_mem _ (List.mem_append_right _ (h9))⟩⟩) (by decide +kernel)
set_option maxRecDepth 20000 in
theorem gX9_ofFont_X9_stepOf : GoodIn wsX9_ofFont (wsV RX9 123 RX9 yX9_stepOf wsX9_stepOf) := goodIn_app (goodIn_4 _ (List.forall_mem_cons.mpr ⟨List.mem_cons_of_mem _ (List.mem_append_left _ (List.mem_of_getElem? (i := 9) rfl)), List.forall_mem_cons.mpr ⟨List.mem_cons_of_mem _ (List.mem_append_left _ (List.mem_of_getElem? (i := 10) rfl)), List.forall_mem_cons.mpr ⟨List.mem_cons_of_mem _ (List.mem_append_left _ (List.mem_of_getElem? (i := 11) rfl)), List.forall_mem_cons.mpr ⟨List.mem_cons_of_mem _ (List.mem_append_left _ (List.mem_of_getElem? (i := 6) rfl)), fun _ h9 => absurd h9 List.not_mem_nil⟩⟩⟩⟩) (by decide +kernel)) ggX9_ofFont_X9_stepOf
set_option maxRecDepth 20000 in
theorem mw_X9_ofFont_0 : (.fieldLink RX9 19 "FontRunsModel" "kind" "[I" : Cond) ∈ wsX9_ofFont := List.mem_cons_of_mem _ (List.mem_append_left _ (List.mem_of_getElem? (i := 0) rfl))
set_option maxRecDepth 20000 in
theorem mw_X9_ofFont_1 : (.fieldLink RX9 22 "FontRunsModel" "width" "[I" : Cond) ∈ wsX9_ofFont := List.mem_cons_of_mem _ (List.mem_append_left _ (List.mem_of_getElem? (i := 1) rfl))
set_option maxRecDepth 20000 in
theorem mw_X9_ofFont_2 : (.fieldLink RX9 25 "FontRunsModel" "has" "[I" : Cond) ∈ wsX9_ofFont := List.mem_cons_of_mem _ (List.mem_append_left _ (List.mem_of_getElem? (i := 2) rfl))
theorem ax_X9_ofFont_0 {e0 e1 e2 e3 e4 : Nat × va_E} : ([0] : List Nat).map (fun i => ([e0, e1, e2, e3, e4] : va_W)[i]?) = ([e0] : va_W).map some := rfl
theorem ax_X9_ofFont_1 {e0 e1 e2 e3 e4 : Nat × va_E} : ([0, 1, 2] : List Nat).map (fun i => ([e0, e1, e2, e3, e4] : va_W)[i]?) = ([e0, e1, e2] : va_W).map some := rfl
theorem ax_X9_ofFont_2 {e0 e1 e2 e3 e4 : Nat × va_E} : ([0, 4] : List Nat).map (fun i => ([e0, e1, e2, e3, e4] : va_W)[i]?) = ([e0, e4] : va_W).map some := rfl
set_option maxHeartbeats 4000000 in
set_option maxRecDepth 100000 in
theorem c_X9_ofFont (l : Launch) (D : va_G) (sz : Nat) (f : Int) (w : Int) (h0 : Nat) (fa : Int) (tc : Int) (so : Nat) (sl : Nat) (ce : Nat) (fn : Int) (kd : Nat) (wd : Nat) (hs : Nat) (pf : Nat) (lt : Nat) (mn : Int) (wg : Nat) (ta : Int) (ck : Int64) (at9 : Int) (rfn : Int) (rk : Nat) (rw : Nat) (rh : Nat) (cl : Int) (sa : Nat) (fi : Nat) (bo : Int) (ch : Nat) (cn : Nat) (ad : Int) (ru : Int) (kp : Nat) (dn : Int) (rfa : Nat) (c_kd : ClassId) (f_kd : Nat → Int32) (c_wd : ClassId) (f_wd : Nat → Int32) (c_hs : ClassId) (f_hs : Nat → Int32) (c_pf : ClassId) (f_pf : Nat → Int32) (q0 : rg f) (q1 : rg w) (q2 : 0 ≤ fn ∧ fn ≤ 4) (q3 : kPm f_pf fn) : Met l yX9_ofFont wsX9_ofFont ({ frames := 1, cells := 0, slots := 0, locals := 22 }) (kPre [.ref h0, .int (zI f), .int (zI w)] D [(h0, .inr (9, [.int (zI fa), .int (zI tc), .ref so, .ref sl, .ref ce, .int (zI fn), .ref kd, .ref wd, .ref hs, .ref pf, .ref lt, .int (zI mn), .ref wg, .int (zI ta), .long ck, .int (zI at9), .int (zI rfn), .ref rk, .ref rw, .ref rh, .int (zI cl), .ref sa, .ref fi, .int (zI bo), .ref ch, .ref cn, .int (zI ad), .int (zI ru), .ref kp, .int (zI dn), .ref rfa])), (kd, .inl (c_kd, 4, .inl f_kd)), (wd, .inl (c_wd, 4, .inl f_wd)), (hs, .inl (c_hs, 4, .inl f_hs)), (pf, .inl (c_pf, 4, .inl f_pf))] [(c_kd, .int), (c_wd, .int), (c_hs, .int), (c_pf, .int)] sz) (QcP (fun rz => kOf f w fn f_kd f_wd f_hs (kStM (f_kd f.toNat) (f_wd f.toNat)) (fun r => (0 ≤ r ∧ r < fn) ∧ f_pf r.toNat = zI f ∧ kNo f_pf f r) rz)) 0 0 (fun _ => False) := by
  refine Met.ofW (cc := cX9_ofFont) (maxL := 3) (ret := (some .int)) (by decide) rfl ?_
  intro p e s m args below meth c s₁ B hml hv
  obtain ⟨rfl, hsz, hP, hK, hD0, hN⟩ := hv
  have hx := B.exec
  have hb := B.bytes
  have hr := B.returns
  have hts := atoms_spec (ws := wsX9_ofFont) B.pre
  have hown : s.vm.findClass RX9 = some m.cls := findClass_of_methodNamed B.named
  have hlocks := B.notSynchronized
  subst hsz
  have hD := hD0
  have hP : va_P D vwCl [(h0, .inr (9, [.int (zI fa), .int (zI tc), .ref so, .ref sl, .ref ce, .int (zI fn), .ref kd, .ref wd, .ref hs, .ref pf, .ref lt, .int (zI mn), .ref wg, .int (zI ta), .long ck, .int (zI at9), .int (zI rfn), .ref rk, .ref rw, .ref rh, .int (zI cl), .ref sa, .ref fi, .int (zI bo), .ref ch, .ref cn, .int (zI ad), .int (zI ru), .ref kp, .int (zI dn), .ref rfa])), (kd, .inl (c_kd, 4, .inl f_kd)), (wd, .inl (c_wd, 4, .inl f_wd)), (hs, .inl (c_hs, 4, .inl f_hs)), (pf, .inl (c_pf, 4, .inl f_pf))] s.heap := hP
  have hl := lv_entry ([.ref h0, .int (zI f), .int (zI w)]) (n := 3) (Nat.le_of_ble_eq_true rfl)
  rw [lg_entry_eq]
  generalize (lg_sl ([.ref h0, .int (zI f), .int (zI w)]) ++ List.replicate (3 - (lg_sl ([.ref h0, .int (zI f), .int (zI w)])).length) Slot.unset).toArray = ls at hl ⊢
  have hl : lv_has ls 3 [(0, .ref h0), (1, .int (zI f)), (2, .int (zI w))] := hl
  refine lv_aload_n hx hb dX9_ofFont_0 rfl (lv_at hl 0 rfl) ?_
  refine lv_iload_n hx hb dX9_ofFont_1 rfl (lv_at hl 1 rfl) ?_
  refine k_callR (va_runV (As := [.int (zI f)]) (rest := []) ⟨hx, hb, hml, hown, hts⟩ (c_X9_isFont l D s.heap.size (f := f) (h0 := h0) (fa := fa) (tc := tc) (so := so) (sl := sl) (ce := ce) (fn := fn) (kd := kd) (wd := wd) (hs := hs) (pf := pf) (lt := lt) (mn := mn) (wg := wg) (ta := ta) (ck := ck) (at9 := at9) (rfn := rfn) (rk := rk) (rw := rw) (rh := rh) (cl := cl) (sa := sa) (fi := fi) (bo := bo) (ch := ch) (cn := cn) (ad := ad) (ru := ru) (kp := kp) (dn := dn) (rfa := rfa) q0 q2) (cwV 1 hts gX9_ofFont_X9_isFont rfl rfl rfl (by decide +kernel) ⟨Nat.le_of_ble_eq_true rfl, Nat.le_of_ble_eq_true rfl⟩) (kPreV hP (kD0 hD) hK hN [0] [] ax_X9_ofFont_0 rfl (by decide +kernel) 0 9 rfl rfl) rfl rfl hl.1 rfl (lv_room (Nat.le_of_ble_eq_true rfl)) dX9_ofFont_2 ⟨Nat.le_of_ble_eq_true rfl, Nat.le_of_ble_eq_true rfl⟩) ?_
  refine lv_if_ne (tgt := 10) hx hb dX9_ofFont_5 (by decide) (fun c_1 => ?_) (fun c_1 => ?_)
  · have c_1 : 0 ≤ f ∧ f < fn := b01t c_1
    refine lv_iload_n hx hb dX9_ofFont_10 rfl (lv_at hl 2 rfl) ?_
    rcases (show w = 0 ∨ w = 1 ∨ w = 2 ∨ w = 3 ∨ w = 4 ∨ (¬ w = 0 ∧ ¬ w = 1 ∧ ¬ w = 2 ∧ ¬ w = 3 ∧ ¬ w = 4) from by omega) with c_2 | c_2 | c_2 | c_2 | c_2 | c_2
    · refine kz_tabIn (tgt := 44) (off := 33) hx hb dX9_ofFont_11 0 (by omega) (by decide) (by decide) (by decide) (by decide) (by decide) ?_
      refine lv_aload_n hx hb dX9_ofFont_44 rfl (lv_at hl 0 rfl) ?_
      refine va_get (D := D) (ci := 9) (v := .ref kd) (C := RX9) (T := TX9) (N := 31) hx hb hts (fun _ h9 => List.mem_cons_of_mem _ (List.mem_append_right _ h9)) hown hK hP 0 rfl rfl 6 (by decide) (hts (.fieldLink RX9 19 "FontRunsModel" "kind" "[I") mw_X9_ofFont_0) (fun _ h9 => h9) rfl dX9_ofFont_45 ?_
      refine lv_iload_n hx hb dX9_ofFont_48 rfl (lv_at hl 1 rfl) ?_
      refine kz_iald hx hb hK hP 1 0 rfl rfl (by omega) dX9_ofFont_49 (fun z_3 rz_3 ez_3 => ?_)
      exact W.iret (v := (zI z_3)) hx hb hr (fun t ht hW => QcP_of (by omega) (Or.inr ⟨by omega, Or.inl ⟨by omega, ez_3.symm⟩⟩) ht) (fun _ h9 => by cases h9) dX9_ofFont_50
    · refine kz_tabIn (tgt := 51) (off := 40) hx hb dX9_ofFont_11 1 (by omega) (by decide) (by decide) (by decide) (by decide) (by decide) ?_
      refine lv_aload_n hx hb dX9_ofFont_51 rfl (lv_at hl 0 rfl) ?_
      refine va_get (D := D) (ci := 9) (v := .ref wd) (C := RX9) (T := TX9) (N := 31) hx hb hts (fun _ h9 => List.mem_cons_of_mem _ (List.mem_append_right _ h9)) hown hK hP 0 rfl rfl 7 (by decide) (hts (.fieldLink RX9 22 "FontRunsModel" "width" "[I") mw_X9_ofFont_1) (fun _ h9 => h9) rfl dX9_ofFont_52 ?_
      refine lv_iload_n hx hb dX9_ofFont_55 rfl (lv_at hl 1 rfl) ?_
      refine kz_iald hx hb hK hP 2 1 rfl rfl (by omega) dX9_ofFont_56 (fun z_4 rz_4 ez_4 => ?_)
      exact W.iret (v := (zI z_4)) hx hb hr (fun t ht hW => QcP_of (by omega) (Or.inr ⟨by omega, Or.inr (Or.inl ⟨by omega, ez_4.symm⟩)⟩) ht) (fun _ h9 => by cases h9) dX9_ofFont_57
    · refine kz_tabIn (tgt := 58) (off := 47) hx hb dX9_ofFont_11 2 (by omega) (by decide) (by decide) (by decide) (by decide) (by decide) ?_
      refine lv_aload_n hx hb dX9_ofFont_58 rfl (lv_at hl 0 rfl) ?_
      refine lv_iload_n hx hb dX9_ofFont_59 rfl (lv_at hl 1 rfl) ?_
      refine k_callP (va_runV (As := [.int (zI f)]) (rest := []) ⟨hx, hb, hml, hown, hts⟩ (c_X9_stepOf_w l D s.heap.size (f := f) (h0 := h0) (fa := fa) (tc := tc) (so := so) (sl := sl) (ce := ce) (fn := fn) (kd := kd) (wd := wd) (hs := hs) (pf := pf) (lt := lt) (mn := mn) (wg := wg) (ta := ta) (ck := ck) (at9 := at9) (rfn := rfn) (rk := rk) (rw := rw) (rh := rh) (cl := cl) (sa := sa) (fi := fi) (bo := bo) (ch := ch) (cn := cn) (ad := ad) (ru := ru) (kp := kp) (dn := dn) (rfa := rfa) (c_kd := c_kd) (f_kd := f_kd) (c_wd := c_wd) (f_wd := f_wd) (by omega)) (cwV 1 hts gX9_ofFont_X9_stepOf rfl rfl rfl (by decide +kernel) ⟨Nat.le_of_ble_eq_true rfl, Nat.le_of_ble_eq_true rfl⟩) (kPreV hP (kD0 hD) hK hN [0, 1, 2] [0, 1] ax_X9_ofFont_1 rfl (by decide +kernel) 0 9 rfl rfl) rfl rfl hl.1 rfl (lv_room (Nat.le_of_ble_eq_true rfl)) dX9_ofFont_60 ⟨Nat.le_of_ble_eq_true rfl, Nat.le_of_ble_eq_true rfl⟩) (fun z_5 rz_5 h_6 => ?_)
      exact W.iret (v := (zI z_5)) hx hb hr (fun t ht hW => QcP_of (by omega) (Or.inr ⟨by omega, Or.inr (Or.inr (Or.inl ⟨by omega, h_6⟩))⟩) ht) (fun _ h9 => by cases h9) dX9_ofFont_63
    · refine kz_tabIn (tgt := 64) (off := 53) hx hb dX9_ofFont_11 3 (by omega) (by decide) (by decide) (by decide) (by decide) (by decide) ?_
      refine lv_aload_n hx hb dX9_ofFont_64 rfl (lv_at hl 0 rfl) ?_
      refine va_get (D := D) (ci := 9) (v := .ref hs) (C := RX9) (T := TX9) (N := 31) hx hb hts (fun _ h9 => List.mem_cons_of_mem _ (List.mem_append_right _ h9)) hown hK hP 0 rfl rfl 8 (by decide) (hts (.fieldLink RX9 25 "FontRunsModel" "has" "[I") mw_X9_ofFont_2) (fun _ h9 => h9) rfl dX9_ofFont_65 ?_
      refine lv_iload_n hx hb dX9_ofFont_68 rfl (lv_at hl 1 rfl) ?_
      refine kz_iald hx hb hK hP 3 2 rfl rfl (by omega) dX9_ofFont_69 (fun z_7 rz_7 ez_7 => ?_)
      exact W.iret (v := (zI z_7)) hx hb hr (fun t ht hW => QcP_of (by omega) (Or.inr ⟨by omega, Or.inr (Or.inr (Or.inr (Or.inl ⟨by omega, ez_7.symm⟩)))⟩) ht) (fun _ h9 => by cases h9) dX9_ofFont_70
    · refine kz_tabIn (tgt := 71) (off := 60) hx hb dX9_ofFont_11 4 (by omega) (by decide) (by decide) (by decide) (by decide) (by decide) ?_
      refine lv_aload_n hx hb dX9_ofFont_71 rfl (lv_at hl 0 rfl) ?_
      refine lv_iload_n hx hb dX9_ofFont_72 rfl (lv_at hl 1 rfl) ?_
      refine k_callP (va_runV (As := [.int (zI f)]) (rest := []) ⟨hx, hb, hml, hown, hts⟩ (c_X9_placeOf_w l D s.heap.size (f := f) (h0 := h0) (fa := fa) (tc := tc) (so := so) (sl := sl) (ce := ce) (fn := fn) (kd := kd) (wd := wd) (hs := hs) (pf := pf) (lt := lt) (mn := mn) (wg := wg) (ta := ta) (ck := ck) (at9 := at9) (rfn := rfn) (rk := rk) (rw := rw) (rh := rh) (cl := cl) (sa := sa) (fi := fi) (bo := bo) (ch := ch) (cn := cn) (ad := ad) (ru := ru) (kp := kp) (dn := dn) (rfa := rfa) (c_pf := c_pf) (f_pf := f_pf) (by omega) q2 q3) (cwV 1 hts gX9_ofFont_X9_placeOf rfl rfl rfl (by decide +kernel) ⟨Nat.le_of_ble_eq_true rfl, Nat.le_of_ble_eq_true rfl⟩) (kPreV hP (kD0 hD) hK hN [0, 4] [3] ax_X9_ofFont_2 rfl (by decide +kernel) 0 9 rfl rfl) rfl rfl hl.1 rfl (lv_room (Nat.le_of_ble_eq_true rfl)) dX9_ofFont_73 ⟨Nat.le_of_ble_eq_true rfl, Nat.le_of_ble_eq_true rfl⟩) (fun z_8 rz_8 h_9 => ?_)
      exact W.iret (v := (zI z_8)) hx hb hr (fun t ht hW => QcP_of (by omega) (Or.inr ⟨by omega, Or.inr (Or.inr (Or.inr (Or.inr (Or.inl ⟨by omega, h_9⟩))))⟩) ht) (fun _ h9 => by cases h9) dX9_ofFont_76
    · refine kz_tabOut (tgt := 77) hx hb dX9_ofFont_11 (by omega) (by omega) (by decide) ?_
      refine lv_bipush (v := zI (-2)) hx hb dX9_ofFont_77 (by decide) ?_
      exact W.iret (v := (zI (-2))) hx hb hr (fun t ht hW => QcP_of (by omega) (Or.inr ⟨by omega, Or.inr (Or.inr (Or.inr (Or.inr (Or.inr (⟨by omega, by omega⟩)))))⟩) ht) (fun _ h9 => by cases h9) dX9_ofFont_79
  · have c_1 : ¬ (0 ≤ f ∧ f < fn) := b01f c_1
    refine lv_iconst (v := zI (-1)) hx hb dX9_ofFont_8 rfl ?_
    exact W.iret (v := (zI (-1))) hx hb hr (fun t ht hW => QcP_of (by omega) (Or.inl ⟨by omega, by omega⟩) ht) (fun _ h9 => by cases h9) dX9_ofFont_9
theorem dX9_width_0 : decode cX9_width 0 = .ok (.aload_n 0, 1) := kqo_2a kbl_X9_width (pc := 0) rfl
theorem dX9_width_1 : decode cX9_width 1 = .ok (.iload_n 1, 1) := kqo_1b kbl_X9_width (pc := 1) rfl
theorem dX9_width_2 : decode cX9_width 2 = .ok (.invokevirtual 120, 3) := kqo_b6 (x1 := 0) (x2 := 120) kbl_X9_width (pc := 2) rfl rfl
theorem dX9_width_5 : decode cX9_width 5 = .ok (.ifCond .ne 5, 3) := kqo_9a (x1 := 0) (x2 := 5) kbl_X9_width (pc := 5) rfl rfl
theorem dX9_width_8 : decode cX9_width 8 = .ok (.iconst (-1), 1) := kqo_02 kbl_X9_width (pc := 8) rfl
theorem dX9_width_9 : decode cX9_width 9 = .ok (.ireturn, 1) := kqo_ac kbl_X9_width (pc := 9) rfl
theorem dX9_width_10 : decode cX9_width 10 = .ok (.iload_n 2, 1) := kqo_1c kbl_X9_width (pc := 10) rfl
theorem dX9_width_11 : decode cX9_width 11 = .ok (.iconst 1, 1) := kqo_04 kbl_X9_width (pc := 11) rfl
theorem dX9_width_12 : decode cX9_width 12 = .ok (.bipush 9, 2) := kqo_10 (x1 := 9) kbl_X9_width (pc := 12) rfl rfl
theorem dX9_width_14 : decode cX9_width 14 = .ok (.invokestatic 70, 3) := kqo_b8 (x1 := 0) (x2 := 70) kbl_X9_width (pc := 14) rfl rfl
theorem dX9_width_17 : decode cX9_width 17 = .ok (.ifCond .ne 6, 3) := kqo_9a (x1 := 0) (x2 := 6) kbl_X9_width (pc := 17) rfl rfl
theorem dX9_width_20 : decode cX9_width 20 = .ok (.bipush (-2), 2) := kqo_10 (x1 := 254) kbl_X9_width (pc := 20) rfl rfl
theorem dX9_width_22 : decode cX9_width 22 = .ok (.ireturn, 1) := kqo_ac kbl_X9_width (pc := 22) rfl
theorem dX9_width_23 : decode cX9_width 23 = .ok (.aload_n 0, 1) := kqo_2a kbl_X9_width (pc := 23) rfl
theorem dX9_width_24 : decode cX9_width 24 = .ok (.getfield 22, 3) := kqo_b4 (x1 := 0) (x2 := 22) kbl_X9_width (pc := 24) rfl rfl
theorem dX9_width_27 : decode cX9_width 27 = .ok (.iload_n 1, 1) := kqo_1b kbl_X9_width (pc := 27) rfl
theorem dX9_width_28 : decode cX9_width 28 = .ok (.iaload, 1) := kqo_2e kbl_X9_width (pc := 28) rfl
theorem dX9_width_29 : decode cX9_width 29 = .ok (.istore_n 3, 1) := kqo_3e kbl_X9_width (pc := 29) rfl
theorem dX9_width_30 : decode cX9_width 30 = .ok (.aload_n 0, 1) := kqo_2a kbl_X9_width (pc := 30) rfl
theorem dX9_width_31 : decode cX9_width 31 = .ok (.getfield 22, 3) := kqo_b4 (x1 := 0) (x2 := 22) kbl_X9_width (pc := 31) rfl rfl
theorem dX9_width_34 : decode cX9_width 34 = .ok (.iload_n 1, 1) := kqo_1b kbl_X9_width (pc := 34) rfl
theorem dX9_width_35 : decode cX9_width 35 = .ok (.iload_n 2, 1) := kqo_1c kbl_X9_width (pc := 35) rfl
theorem dX9_width_36 : decode cX9_width 36 = .ok (.iastore, 1) := kqo_4f kbl_X9_width (pc := 36) rfl
theorem dX9_width_37 : decode cX9_width 37 = .ok (.iload_n 3, 1) := kqo_1d kbl_X9_width (pc := 37) rfl
theorem dX9_width_38 : decode cX9_width 38 = .ok (.ireturn, 1) := kqo_ac kbl_X9_width (pc := 38) rfl
set_option maxRecDepth 20000 in
theorem ggX9_width_X9_isFont : GoodIn wsX9_width wsX9_isFont := goodIn_4 _ (List.forall_mem_cons.mpr ⟨List.mem_cons_of_mem _ (List.mem_append_left _ (List.mem_of_getElem? (i := 5) rfl)), List.forall_mem_append.mpr ⟨List.forall_mem_cons.mpr ⟨List.mem_cons_of_mem _ (List.mem_append_left _ (List.mem_of_getElem? (i := 6) rfl)), fun _ h9 => absurd h9 List.not_mem_nil⟩, fun w h9 => List.mem_cons_of_mem _ (List.mem_append_right _ (h9))⟩⟩) (by decide +kernel)
set_option maxRecDepth 20000 in
theorem gX9_width_X9_isFont : GoodIn wsX9_width (wsV RX9 120 RX9 yX9_isFont wsX9_isFont) := goodIn_app (goodIn_4 _ (List.forall_mem_cons.mpr ⟨List.mem_cons_of_mem _ (List.mem_append_left _ (List.mem_of_getElem? (i := 1) rfl)), List.forall_mem_cons.mpr ⟨List.mem_cons_of_mem _ (List.mem_append_left _ (List.mem_of_getElem? (i := 2) rfl)), List.forall_mem_cons.mpr ⟨List.mem_cons_of_mem _ (List.mem_append_left _ (List.mem_of_getElem? (i := 3) rfl)), List.forall_mem_cons.mpr ⟨List.mem_cons_of_mem _ (List.mem_append_left _ (List.mem_of_getElem? (i := 4) rfl)), fun _ h9 => absurd h9 List.not_mem_nil⟩⟩⟩⟩) (by decide +kernel)) ggX9_width_X9_isFont
set_option maxRecDepth 20000 in
theorem ggX9_width_X9_within : GoodIn wsX9_width wsX9_within := goodIn_4 _ (List.forall_mem_cons.mpr ⟨List.mem_cons_of_mem _ (List.mem_append_left _ (List.mem_of_getElem? (i := 9) rfl)), fun _ h9 => absurd h9 List.not_mem_nil⟩) (by decide +kernel)
set_option maxRecDepth 20000 in
theorem gX9_width_X9_within : GoodIn wsX9_width (va_wsS RX9 70 yX9_within wsX9_within) := goodIn_app (goodIn_4 _ (List.forall_mem_cons.mpr ⟨List.mem_cons_of_mem _ (List.mem_append_left _ (List.mem_of_getElem? (i := 7) rfl)), List.forall_mem_cons.mpr ⟨List.mem_cons_of_mem _ (List.mem_append_left _ (List.mem_of_getElem? (i := 8) rfl)), List.forall_mem_cons.mpr ⟨List.mem_cons_of_mem _ (List.mem_append_left _ (List.mem_of_getElem? (i := 4) rfl)), fun _ h9 => absurd h9 List.not_mem_nil⟩⟩⟩) (by decide +kernel)) ggX9_width_X9_within
set_option maxRecDepth 20000 in
theorem mw_X9_width_0 : (.fieldLink RX9 22 "FontRunsModel" "width" "[I" : Cond) ∈ wsX9_width := List.mem_cons_of_mem _ (List.mem_append_left _ (List.mem_of_getElem? (i := 0) rfl))
theorem ax_X9_width_0 {e0 e1 : Nat × va_E} : ([0] : List Nat).map (fun i => ([e0, e1] : va_W)[i]?) = ([e0] : va_W).map some := rfl
theorem ax_X9_width_1 {e0 e1 : Nat × va_E} : ([] : List Nat).map (fun i => ([e0, e1] : va_W)[i]?) = ([] : va_W).map some := rfl
theorem ax_X9_width_2 {e0 e1 : Nat × va_E} : ([0, 1] : List Nat).map (fun i => ([e0, e1] : va_W)[i]?) = ([e0, e1] : va_W).map some := rfl
set_option maxHeartbeats 4000000 in
set_option maxRecDepth 100000 in
theorem c_X9_width (l : Launch) (D : va_G) (sz : Nat) (f : Int) (x : Int) (h0 : Nat) (fa : Int) (tc : Int) (so : Nat) (sl : Nat) (ce : Nat) (fn : Int) (kd : Nat) (wd : Nat) (hs : Nat) (pf : Nat) (lt : Nat) (mn : Int) (wg : Nat) (ta : Int) (ck : Int64) (at9 : Int) (rfn : Int) (rk : Nat) (rw : Nat) (rh : Nat) (cl : Int) (sa : Nat) (fi : Nat) (bo : Int) (ch : Nat) (cn : Nat) (ad : Int) (ru : Int) (kp : Nat) (dn : Int) (rfa : Nat) (c_wd : ClassId) (f_wd : Nat → Int32) (q0 : rg f) (q1 : rg x) (q2 : 0 ≤ fn ∧ fn ≤ 4) : Met l yX9_width wsX9_width ({ frames := 1, cells := 0, slots := 0, locals := 22 }) (kPre [.ref h0, .int (zI f), .int (zI x)] D [(h0, .inr (9, [.int (zI fa), .int (zI tc), .ref so, .ref sl, .ref ce, .int (zI fn), .ref kd, .ref wd, .ref hs, .ref pf, .ref lt, .int (zI mn), .ref wg, .int (zI ta), .long ck, .int (zI at9), .int (zI rfn), .ref rk, .ref rw, .ref rh, .int (zI cl), .ref sa, .ref fi, .int (zI bo), .ref ch, .ref cn, .int (zI ad), .int (zI ru), .ref kp, .int (zI dn), .ref rfa])), (wd, .inl (c_wd, 4, .inl f_wd))] [(c_wd, .int)] sz) (kQS (fun rz t => ∃ (u_f_wd : Nat → Int32), (kWi f fn x f_wd u_f_wd rz) ∧ va_P D vwCl [(h0, .inr (9, [.int (zI fa), .int (zI tc), .ref so, .ref sl, .ref ce, .int (zI fn), .ref kd, .ref wd, .ref hs, .ref pf, .ref lt, .int (zI mn), .ref wg, .int (zI ta), .long ck, .int (zI at9), .int (zI rfn), .ref rk, .ref rw, .ref rh, .int (zI cl), .ref sa, .ref fi, .int (zI bo), .ref ch, .ref cn, .int (zI ad), .int (zI ru), .ref kp, .int (zI dn), .ref rfa])), (wd, .inl (c_wd, 4, .inl u_f_wd))] t.heap ∧ va_D (va_A [(h0, .inr (9, [.int (zI fa), .int (zI tc), .ref so, .ref sl, .ref ce, .int (zI fn), .ref kd, .ref wd, .ref hs, .ref pf, .ref lt, .int (zI mn), .ref wg, .int (zI ta), .long ck, .int (zI at9), .int (zI rfn), .ref rk, .ref rw, .ref rh, .int (zI cl), .ref sa, .ref fi, .int (zI bo), .ref ch, .ref cn, .int (zI ad), .int (zI ru), .ref kp, .int (zI dn), .ref rfa])), (wd, .inl (c_wd, 4, .inl f_wd))] sz) [(h0, .inr (9, [.int (zI fa), .int (zI tc), .ref so, .ref sl, .ref ce, .int (zI fn), .ref kd, .ref wd, .ref hs, .ref pf, .ref lt, .int (zI mn), .ref wg, .int (zI ta), .long ck, .int (zI at9), .int (zI rfn), .ref rk, .ref rw, .ref rh, .int (zI cl), .ref sa, .ref fi, .int (zI bo), .ref ch, .ref cn, .int (zI ad), .int (zI ru), .ref kp, .int (zI dn), .ref rfa])), (wd, .inl (c_wd, 4, .inl u_f_wd))]) (va_A [(h0, .inr (9, [.int (zI fa), .int (zI tc), .ref so, .ref sl, .ref ce, .int (zI fn), .ref kd, .ref wd, .ref hs, .ref pf, .ref lt, .int (zI mn), .ref wg, .int (zI ta), .long ck, .int (zI at9), .int (zI rfn), .ref rk, .ref rw, .ref rh, .int (zI cl), .ref sa, .ref fi, .int (zI bo), .ref ch, .ref cn, .int (zI ad), .int (zI ru), .ref kp, .int (zI dn), .ref rfa])), (wd, .inl (c_wd, 4, .inl f_wd))] sz)) 0 0 (va_A [(h0, .inr (9, [.int (zI fa), .int (zI tc), .ref so, .ref sl, .ref ce, .int (zI fn), .ref kd, .ref wd, .ref hs, .ref pf, .ref lt, .int (zI mn), .ref wg, .int (zI ta), .long ck, .int (zI at9), .int (zI rfn), .ref rk, .ref rw, .ref rh, .int (zI cl), .ref sa, .ref fi, .int (zI bo), .ref ch, .ref cn, .int (zI ad), .int (zI ru), .ref kp, .int (zI dn), .ref rfa])), (wd, .inl (c_wd, 4, .inl f_wd))] sz) := by
  refine Met.ofW (cc := cX9_width) (maxL := 4) (ret := (some .int)) (by decide) rfl ?_
  intro p e s m args below meth c s₁ B hml hv
  obtain ⟨rfl, hsz, hP, hK, hD0, hN⟩ := hv
  have hx := B.exec
  have hb := B.bytes
  have hr := B.returns
  have hts := atoms_spec (ws := wsX9_width) B.pre
  have hown : s.vm.findClass RX9 = some m.cls := findClass_of_methodNamed B.named
  have hlocks := B.notSynchronized
  subst hsz
  have hD := hD0.self (sz := s.heap.size)
  generalize hAe : va_A [(h0, .inr (9, [.int (zI fa), .int (zI tc), .ref so, .ref sl, .ref ce, .int (zI fn), .ref kd, .ref wd, .ref hs, .ref pf, .ref lt, .int (zI mn), .ref wg, .int (zI ta), .long ck, .int (zI at9), .int (zI rfn), .ref rk, .ref rw, .ref rh, .int (zI cl), .ref sa, .ref fi, .int (zI bo), .ref ch, .ref cn, .int (zI ad), .int (zI ru), .ref kp, .int (zI dn), .ref rfa])), (wd, .inl (c_wd, 4, .inl f_wd))] s.heap.size = A at hD ⊢
  have hA : ∀ q : Nat, s.heap.size ≤ q → A q := fun q h => by rw [← hAe]; exact Or.inr h
  have hS : va_S A s.heap s.heap [] := va_S.rf
  have hP : va_P D vwCl [(h0, .inr (9, [.int (zI fa), .int (zI tc), .ref so, .ref sl, .ref ce, .int (zI fn), .ref kd, .ref wd, .ref hs, .ref pf, .ref lt, .int (zI mn), .ref wg, .int (zI ta), .long ck, .int (zI at9), .int (zI rfn), .ref rk, .ref rw, .ref rh, .int (zI cl), .ref sa, .ref fi, .int (zI bo), .ref ch, .ref cn, .int (zI ad), .int (zI ru), .ref kp, .int (zI dn), .ref rfa])), (wd, .inl (c_wd, 4, .inl f_wd))] s.heap := hP
  have hl := lv_entry ([.ref h0, .int (zI f), .int (zI x)]) (n := 4) (Nat.le_of_ble_eq_true rfl)
  rw [lg_entry_eq]
  generalize (lg_sl ([.ref h0, .int (zI f), .int (zI x)]) ++ List.replicate (4 - (lg_sl ([.ref h0, .int (zI f), .int (zI x)])).length) Slot.unset).toArray = ls at hl ⊢
  have hl : lv_has ls 4 [(0, .ref h0), (1, .int (zI f)), (2, .int (zI x))] := hl
  refine lv_aload_n hx hb dX9_width_0 rfl (lv_at hl 0 rfl) ?_
  refine lv_iload_n hx hb dX9_width_1 rfl (lv_at hl 1 rfl) ?_
  refine k_callR (va_runV (As := [.int (zI f)]) (rest := []) ⟨hx, hb, hml, hown, hts⟩ (c_X9_isFont l D s.heap.size (f := f) (h0 := h0) (fa := fa) (tc := tc) (so := so) (sl := sl) (ce := ce) (fn := fn) (kd := kd) (wd := wd) (hs := hs) (pf := pf) (lt := lt) (mn := mn) (wg := wg) (ta := ta) (ck := ck) (at9 := at9) (rfn := rfn) (rk := rk) (rw := rw) (rh := rh) (cl := cl) (sa := sa) (fi := fi) (bo := bo) (ch := ch) (cn := cn) (ad := ad) (ru := ru) (kp := kp) (dn := dn) (rfa := rfa) q0 q2) (cwV 1 hts gX9_width_X9_isFont rfl rfl rfl (by decide +kernel) ⟨Nat.le_of_ble_eq_true rfl, Nat.le_of_ble_eq_true rfl⟩) (kPreV hP (kD0 hD) hK hN [0] [] ax_X9_width_0 rfl (by decide +kernel) 0 9 rfl rfl) rfl rfl hl.1 rfl (lv_room (Nat.le_of_ble_eq_true rfl)) dX9_width_2 ⟨Nat.le_of_ble_eq_true rfl, Nat.le_of_ble_eq_true rfl⟩) ?_
  refine lv_if_ne (tgt := 10) hx hb dX9_width_5 (by decide) (fun c_1 => ?_) (fun c_1 => ?_)
  · have c_1 : 0 ≤ f ∧ f < fn := b01t c_1
    refine lv_iload_n hx hb dX9_width_10 rfl (lv_at hl 2 rfl) ?_
    refine lv_iconst (v := zI 1) hx hb dX9_width_11 rfl ?_
    refine lv_bipush (v := zI 9) hx hb dX9_width_12 (by decide) ?_
    refine k_callR (va_runS (As := [.int (zI x), .int (zI 1), .int (zI 9)]) (rest := []) ⟨hx, hb, hml, hown, hts⟩ (c_X9_within l D s.heap.size (v := x) (a := 1) (b := 9) q1 (by omega) (by omega)) (va_cwS 3 hts gX9_width_X9_within rfl rfl rfl (by decide +kernel) ⟨Nat.le_of_ble_eq_true rfl, Nat.le_of_ble_eq_true rfl⟩) (kPreS hP (kD0 hD) hK hN [] [] ax_X9_width_1 rfl (by decide +kernel)) rfl rfl hl.1 rfl (lv_room (Nat.le_of_ble_eq_true rfl)) dX9_width_14 ⟨Nat.le_of_ble_eq_true rfl, Nat.le_of_ble_eq_true rfl⟩) ?_
    refine lv_if_ne (tgt := 23) hx hb dX9_width_17 (by decide) (fun c_2 => ?_) (fun c_2 => ?_)
    · have c_2 : 1 ≤ x ∧ x ≤ 9 := b01t c_2
      refine lv_aload_n hx hb dX9_width_23 rfl (lv_at hl 0 rfl) ?_
      refine va_get (D := D) (ci := 9) (v := .ref wd) (C := RX9) (T := TX9) (N := 31) hx hb hts (fun _ h9 => List.mem_cons_of_mem _ (List.mem_append_right _ h9)) hown hK hP 0 rfl rfl 7 (by decide) (hts (.fieldLink RX9 22 "FontRunsModel" "width" "[I") mw_X9_width_0) (fun _ h9 => h9) rfl dX9_width_24 ?_
      refine lv_iload_n hx hb dX9_width_27 rfl (lv_at hl 1 rfl) ?_
      refine kz_iald hx hb hK hP 1 0 rfl rfl (by omega) dX9_width_28 (fun z_3 rz_3 ez_3 => ?_)
      refine lv_istore_n (lv' := [(3, .int (zI z_3)), (0, .ref h0), (1, .int (zI f)), (2, .int (zI x))]) hx hb dX9_width_29 rfl hl (by decide) rfl (fun ls hl => ?_)
      refine lv_aload_n hx hb dX9_width_30 rfl (lv_at hl 1 rfl) ?_
      refine va_get (D := D) (ci := 9) (v := .ref wd) (C := RX9) (T := TX9) (N := 31) hx hb hts (fun _ h9 => List.mem_cons_of_mem _ (List.mem_append_right _ h9)) hown hK hP 0 rfl rfl 7 (by decide) (hts (.fieldLink RX9 22 "FontRunsModel" "width" "[I") mw_X9_width_0) (fun _ h9 => h9) rfl dX9_width_31 ?_
      refine lv_iload_n hx hb dX9_width_34 rfl (lv_at hl 2 rfl) ?_
      refine lv_iload_n hx hb dX9_width_35 rfl (lv_at hl 3 rfl) ?_
      refine kz_iast hx hb hK hP hD hS 1 0 rfl rfl (by omega) dX9_width_36 (fun H locs hP hD hS => ?_)
      have hP : va_P D vwCl [(h0, .inr (9, [.int (zI fa), .int (zI tc), .ref so, .ref sl, .ref ce, .int (zI fn), .ref kd, .ref wd, .ref hs, .ref pf, .ref lt, .int (zI mn), .ref wg, .int (zI ta), .long ck, .int (zI at9), .int (zI rfn), .ref rk, .ref rw, .ref rh, .int (zI cl), .ref sa, .ref fi, .int (zI bo), .ref ch, .ref cn, .int (zI ad), .int (zI ru), .ref kp, .int (zI dn), .ref rfa])), (wd, .inl (c_wd, 4, .inl (upd f_wd (f).toNat (zI x))))] H := hP
      have hD : va_D A [(h0, .inr (9, [.int (zI fa), .int (zI tc), .ref so, .ref sl, .ref ce, .int (zI fn), .ref kd, .ref wd, .ref hs, .ref pf, .ref lt, .int (zI mn), .ref wg, .int (zI ta), .long ck, .int (zI at9), .int (zI rfn), .ref rk, .ref rw, .ref rh, .int (zI cl), .ref sa, .ref fi, .int (zI bo), .ref ch, .ref cn, .int (zI ad), .int (zI ru), .ref kp, .int (zI dn), .ref rfa])), (wd, .inl (c_wd, 4, .inl (upd f_wd (f).toNat (zI x))))] := hD
      generalize ef_4 : upd f_wd (f).toNat (zI x) = f_4 at hP hD
      refine lv_iload_n hx hb dX9_width_37 rfl (lv_at hl 0 rfl) ?_
      have hP9 := hP.sub (ws' := [(h0, .inr (9, [.int (zI fa), .int (zI tc), .ref so, .ref sl, .ref ce, .int (zI fn), .ref kd, .ref wd, .ref hs, .ref pf, .ref lt, .int (zI mn), .ref wg, .int (zI ta), .long ck, .int (zI at9), .int (zI rfn), .ref rk, .ref rw, .ref rh, .int (zI cl), .ref sa, .ref fi, .int (zI bo), .ref ch, .ref cn, .int (zI ad), .int (zI ru), .ref kp, .int (zI dn), .ref rfa])), (wd, .inl (c_wd, 4, .inl f_4))]) [0, 1] rfl
      have hD9 := hD.sub (ws' := [(h0, .inr (9, [.int (zI fa), .int (zI tc), .ref so, .ref sl, .ref ce, .int (zI fn), .ref kd, .ref wd, .ref hs, .ref pf, .ref lt, .int (zI mn), .ref wg, .int (zI ta), .long ck, .int (zI at9), .int (zI rfn), .ref rk, .ref rw, .ref rh, .int (zI cl), .ref sa, .ref fi, .int (zI bo), .ref ch, .ref cn, .int (zI ad), .int (zI ru), .ref kp, .int (zI dn), .ref rfa])), (wd, .inl (c_wd, 4, .inl f_4))]) [0, 1] (by decide +kernel) rfl
      exact W.iret (v := (zI z_3)) hx hb hr (fun t ht hW => kQS_of (by omega) ⟨f_4, (Or.inr (Or.inr ⟨by omega, by omega, ez_3.symm, ef_4.symm⟩)), by rw [ht]; exact hP9, hD9⟩ (hS.F ht)) hS.2.2 dX9_width_38
    · have c_2 : ¬ (1 ≤ x ∧ x ≤ 9) := b01f c_2
      refine lv_bipush (v := zI (-2)) hx hb dX9_width_20 (by decide) ?_
      have hP9 := hP.sub (ws' := [(h0, .inr (9, [.int (zI fa), .int (zI tc), .ref so, .ref sl, .ref ce, .int (zI fn), .ref kd, .ref wd, .ref hs, .ref pf, .ref lt, .int (zI mn), .ref wg, .int (zI ta), .long ck, .int (zI at9), .int (zI rfn), .ref rk, .ref rw, .ref rh, .int (zI cl), .ref sa, .ref fi, .int (zI bo), .ref ch, .ref cn, .int (zI ad), .int (zI ru), .ref kp, .int (zI dn), .ref rfa])), (wd, .inl (c_wd, 4, .inl f_wd))]) [0, 1] rfl
      have hD9 := hD.sub (ws' := [(h0, .inr (9, [.int (zI fa), .int (zI tc), .ref so, .ref sl, .ref ce, .int (zI fn), .ref kd, .ref wd, .ref hs, .ref pf, .ref lt, .int (zI mn), .ref wg, .int (zI ta), .long ck, .int (zI at9), .int (zI rfn), .ref rk, .ref rw, .ref rh, .int (zI cl), .ref sa, .ref fi, .int (zI bo), .ref ch, .ref cn, .int (zI ad), .int (zI ru), .ref kp, .int (zI dn), .ref rfa])), (wd, .inl (c_wd, 4, .inl f_wd))]) [0, 1] (by decide +kernel) rfl
      exact W.iret (v := (zI (-2))) hx hb hr (fun t ht hW => kQS_of (by omega) ⟨f_wd, (Or.inr (Or.inl ⟨by omega, by omega, by omega, rfl⟩)), by rw [ht]; exact hP9, hD9⟩ (hS.F ht)) hS.2.2 dX9_width_22
  · have c_1 : ¬ (0 ≤ f ∧ f < fn) := b01f c_1
    refine lv_iconst (v := zI (-1)) hx hb dX9_width_8 rfl ?_
    have hP9 := hP.sub (ws' := [(h0, .inr (9, [.int (zI fa), .int (zI tc), .ref so, .ref sl, .ref ce, .int (zI fn), .ref kd, .ref wd, .ref hs, .ref pf, .ref lt, .int (zI mn), .ref wg, .int (zI ta), .long ck, .int (zI at9), .int (zI rfn), .ref rk, .ref rw, .ref rh, .int (zI cl), .ref sa, .ref fi, .int (zI bo), .ref ch, .ref cn, .int (zI ad), .int (zI ru), .ref kp, .int (zI dn), .ref rfa])), (wd, .inl (c_wd, 4, .inl f_wd))]) [0, 1] rfl
    have hD9 := hD.sub (ws' := [(h0, .inr (9, [.int (zI fa), .int (zI tc), .ref so, .ref sl, .ref ce, .int (zI fn), .ref kd, .ref wd, .ref hs, .ref pf, .ref lt, .int (zI mn), .ref wg, .int (zI ta), .long ck, .int (zI at9), .int (zI rfn), .ref rk, .ref rw, .ref rh, .int (zI cl), .ref sa, .ref fi, .int (zI bo), .ref ch, .ref cn, .int (zI ad), .int (zI ru), .ref kp, .int (zI dn), .ref rfa])), (wd, .inl (c_wd, 4, .inl f_wd))]) [0, 1] (by decide +kernel) rfl
    exact W.iret (v := (zI (-1))) hx hb hr (fun t ht hW => kQS_of (by omega) ⟨f_wd, (Or.inl ⟨by omega, by omega, rfl⟩), by rw [ht]; exact hP9, hD9⟩ (hS.F ht)) hS.2.2 dX9_width_9
theorem dX9_erase_0 : decode cX9_erase 0 = .ok (.iload_n 1, 1) := kqo_1b kbl_X9_erase (pc := 0) rfl
theorem dX9_erase_1 : decode cX9_erase 1 = .ok (.iconst 0, 1) := kqo_03 kbl_X9_erase (pc := 1) rfl
theorem dX9_erase_2 : decode cX9_erase 2 = .ok (.aload_n 0, 1) := kqo_2a kbl_X9_erase (pc := 2) rfl
theorem dX9_erase_3 : decode cX9_erase 3 = .ok (.getfield 101, 3) := kqo_b4 (x1 := 0) (x2 := 101) kbl_X9_erase (pc := 3) rfl rfl
theorem dX9_erase_6 : decode cX9_erase 6 = .ok (.invokestatic 70, 3) := kqo_b8 (x1 := 0) (x2 := 70) kbl_X9_erase (pc := 6) rfl rfl
theorem dX9_erase_9 : decode cX9_erase 9 = .ok (.ifCond .ne 6, 3) := kqo_9a (x1 := 0) (x2 := 6) kbl_X9_erase (pc := 9) rfl rfl
theorem dX9_erase_12 : decode cX9_erase 12 = .ok (.bipush (-2), 2) := kqo_10 (x1 := 254) kbl_X9_erase (pc := 12) rfl rfl
theorem dX9_erase_14 : decode cX9_erase 14 = .ok (.ireturn, 1) := kqo_ac kbl_X9_erase (pc := 14) rfl
theorem dX9_erase_15 : decode cX9_erase 15 = .ok (.aload_n 0, 1) := kqo_2a kbl_X9_erase (pc := 15) rfl
theorem dX9_erase_16 : decode cX9_erase 16 = .ok (.dup, 1) := kqo_59 kbl_X9_erase (pc := 16) rfl
theorem dX9_erase_17 : decode cX9_erase 17 = .ok (.getfield 101, 3) := kqo_b4 (x1 := 0) (x2 := 101) kbl_X9_erase (pc := 17) rfl rfl
theorem dX9_erase_20 : decode cX9_erase 20 = .ok (.iload_n 1, 1) := kqo_1b kbl_X9_erase (pc := 20) rfl
theorem dX9_erase_21 : decode cX9_erase 21 = .ok (.isub, 1) := kqo_64 kbl_X9_erase (pc := 21) rfl
theorem dX9_erase_22 : decode cX9_erase 22 = .ok (.putfield 101, 3) := kqo_b5 (x1 := 0) (x2 := 101) kbl_X9_erase (pc := 22) rfl rfl
theorem dX9_erase_25 : decode cX9_erase 25 = .ok (.aload_n 0, 1) := kqo_2a kbl_X9_erase (pc := 25) rfl
theorem dX9_erase_26 : decode cX9_erase 26 = .ok (.getfield 101, 3) := kqo_b4 (x1 := 0) (x2 := 101) kbl_X9_erase (pc := 26) rfl rfl
theorem dX9_erase_29 : decode cX9_erase 29 = .ok (.ireturn, 1) := kqo_ac kbl_X9_erase (pc := 29) rfl
set_option maxRecDepth 20000 in
theorem ggX9_erase_X9_within : GoodIn wsX9_erase wsX9_within := goodIn_4 _ (List.forall_mem_cons.mpr ⟨List.mem_cons_of_mem _ (List.mem_append_left _ (List.mem_of_getElem? (i := 4) rfl)), fun _ h9 => absurd h9 List.not_mem_nil⟩) (by decide +kernel)
set_option maxRecDepth 20000 in
theorem gX9_erase_X9_within : GoodIn wsX9_erase (va_wsS RX9 70 yX9_within wsX9_within) := goodIn_app (goodIn_4 _ (List.forall_mem_cons.mpr ⟨List.mem_cons_of_mem _ (List.mem_append_left _ (List.mem_of_getElem? (i := 1) rfl)), List.forall_mem_cons.mpr ⟨List.mem_cons_of_mem _ (List.mem_append_left _ (List.mem_of_getElem? (i := 2) rfl)), List.forall_mem_cons.mpr ⟨List.mem_cons_of_mem _ (List.mem_append_left _ (List.mem_of_getElem? (i := 3) rfl)), fun _ h9 => absurd h9 List.not_mem_nil⟩⟩⟩) (by decide +kernel)) ggX9_erase_X9_within
set_option maxRecDepth 20000 in
theorem mw_X9_erase_0 : (.fieldLink RX9 101 "FontRunsModel" "many" "I" : Cond) ∈ wsX9_erase := List.mem_cons_of_mem _ (List.mem_append_left _ (List.mem_of_getElem? (i := 0) rfl))
theorem ax_X9_erase_0 {e0 : Nat × va_E} : ([] : List Nat).map (fun i => ([e0] : va_W)[i]?) = ([] : va_W).map some := rfl
theorem ax_X9_erase_1 {e0 : Nat × va_E} : ([0] : List Nat).map (fun i => ([e0] : va_W)[i]?) = ([e0] : va_W).map some := rfl
set_option maxHeartbeats 4000000 in
set_option maxRecDepth 100000 in
theorem c_X9_erase (l : Launch) (D : va_G) (sz : Nat) (x : Int) (h0 : Nat) (fa : Int) (tc : Int) (so : Nat) (sl : Nat) (ce : Nat) (fn : Int) (kd : Nat) (wd : Nat) (hs : Nat) (pf : Nat) (lt : Nat) (mn : Int) (wg : Nat) (ta : Int) (ck : Int64) (at9 : Int) (rfn : Int) (rk : Nat) (rw : Nat) (rh : Nat) (cl : Int) (sa : Nat) (fi : Nat) (bo : Int) (ch : Nat) (cn : Nat) (ad : Int) (ru : Int) (kp : Nat) (dn : Int) (rfa : Nat) (q0 : rg x) (q1 : 0 ≤ mn ∧ mn ≤ 24) (q2 : ¬ (fn = 0 ∧ 1 ≤ mn)) : Met l yX9_erase wsX9_erase ({ frames := 1, cells := 0, slots := 0, locals := 22 }) (kPre [.ref h0, .int (zI x)] D [(h0, .inr (9, [.int (zI fa), .int (zI tc), .ref so, .ref sl, .ref ce, .int (zI fn), .ref kd, .ref wd, .ref hs, .ref pf, .ref lt, .int (zI mn), .ref wg, .int (zI ta), .long ck, .int (zI at9), .int (zI rfn), .ref rk, .ref rw, .ref rh, .int (zI cl), .ref sa, .ref fi, .int (zI bo), .ref ch, .ref cn, .int (zI ad), .int (zI ru), .ref kp, .int (zI dn), .ref rfa]))] [] sz) (kQS (fun rz t => ∃ (u_mn : Int), (0 ≤ u_mn ∧ u_mn ≤ 24) ∧ (¬ (fn = 0 ∧ 1 ≤ u_mn)) ∧ (((0 ≤ x ∧ x ≤ mn) ∧ rz = mn - x ∧ u_mn = mn - x) ∨ (¬ (0 ≤ x ∧ x ≤ mn) ∧ rz = -2 ∧ u_mn = mn)) ∧ va_P D vwCl [(h0, .inr (9, [.int (zI fa), .int (zI tc), .ref so, .ref sl, .ref ce, .int (zI fn), .ref kd, .ref wd, .ref hs, .ref pf, .ref lt, .int (zI u_mn), .ref wg, .int (zI ta), .long ck, .int (zI at9), .int (zI rfn), .ref rk, .ref rw, .ref rh, .int (zI cl), .ref sa, .ref fi, .int (zI bo), .ref ch, .ref cn, .int (zI ad), .int (zI ru), .ref kp, .int (zI dn), .ref rfa]))] t.heap ∧ va_D (va_A [(h0, .inr (9, [.int (zI fa), .int (zI tc), .ref so, .ref sl, .ref ce, .int (zI fn), .ref kd, .ref wd, .ref hs, .ref pf, .ref lt, .int (zI mn), .ref wg, .int (zI ta), .long ck, .int (zI at9), .int (zI rfn), .ref rk, .ref rw, .ref rh, .int (zI cl), .ref sa, .ref fi, .int (zI bo), .ref ch, .ref cn, .int (zI ad), .int (zI ru), .ref kp, .int (zI dn), .ref rfa]))] sz) [(h0, .inr (9, [.int (zI fa), .int (zI tc), .ref so, .ref sl, .ref ce, .int (zI fn), .ref kd, .ref wd, .ref hs, .ref pf, .ref lt, .int (zI u_mn), .ref wg, .int (zI ta), .long ck, .int (zI at9), .int (zI rfn), .ref rk, .ref rw, .ref rh, .int (zI cl), .ref sa, .ref fi, .int (zI bo), .ref ch, .ref cn, .int (zI ad), .int (zI ru), .ref kp, .int (zI dn), .ref rfa]))]) (va_A [(h0, .inr (9, [.int (zI fa), .int (zI tc), .ref so, .ref sl, .ref ce, .int (zI fn), .ref kd, .ref wd, .ref hs, .ref pf, .ref lt, .int (zI mn), .ref wg, .int (zI ta), .long ck, .int (zI at9), .int (zI rfn), .ref rk, .ref rw, .ref rh, .int (zI cl), .ref sa, .ref fi, .int (zI bo), .ref ch, .ref cn, .int (zI ad), .int (zI ru), .ref kp, .int (zI dn), .ref rfa]))] sz)) 0 0 (va_A [(h0, .inr (9, [.int (zI fa), .int (zI tc), .ref so, .ref sl, .ref ce, .int (zI fn), .ref kd, .ref wd, .ref hs, .ref pf, .ref lt, .int (zI mn), .ref wg, .int (zI ta), .long ck, .int (zI at9), .int (zI rfn), .ref rk, .ref rw, .ref rh, .int (zI cl), .ref sa, .ref fi, .int (zI bo), .ref ch, .ref cn, .int (zI ad), .int (zI ru), .ref kp, .int (zI dn), .ref rfa]))] sz) := by
  refine Met.ofW (cc := cX9_erase) (maxL := 2) (ret := (some .int)) (by decide) rfl ?_
  intro p e s m args below meth c s₁ B hml hv
  obtain ⟨rfl, hsz, hP, hK, hD0, hN⟩ := hv
  have hx := B.exec
  have hb := B.bytes
  have hr := B.returns
  have hts := atoms_spec (ws := wsX9_erase) B.pre
  have hown : s.vm.findClass RX9 = some m.cls := findClass_of_methodNamed B.named
  have hlocks := B.notSynchronized
  subst hsz
  have hD := hD0.self (sz := s.heap.size)
  generalize hAe : va_A [(h0, .inr (9, [.int (zI fa), .int (zI tc), .ref so, .ref sl, .ref ce, .int (zI fn), .ref kd, .ref wd, .ref hs, .ref pf, .ref lt, .int (zI mn), .ref wg, .int (zI ta), .long ck, .int (zI at9), .int (zI rfn), .ref rk, .ref rw, .ref rh, .int (zI cl), .ref sa, .ref fi, .int (zI bo), .ref ch, .ref cn, .int (zI ad), .int (zI ru), .ref kp, .int (zI dn), .ref rfa]))] s.heap.size = A at hD ⊢
  have hA : ∀ q : Nat, s.heap.size ≤ q → A q := fun q h => by rw [← hAe]; exact Or.inr h
  have hS : va_S A s.heap s.heap [] := va_S.rf
  have hP : va_P D vwCl [(h0, .inr (9, [.int (zI fa), .int (zI tc), .ref so, .ref sl, .ref ce, .int (zI fn), .ref kd, .ref wd, .ref hs, .ref pf, .ref lt, .int (zI mn), .ref wg, .int (zI ta), .long ck, .int (zI at9), .int (zI rfn), .ref rk, .ref rw, .ref rh, .int (zI cl), .ref sa, .ref fi, .int (zI bo), .ref ch, .ref cn, .int (zI ad), .int (zI ru), .ref kp, .int (zI dn), .ref rfa]))] s.heap := hP
  have hl := lv_entry ([.ref h0, .int (zI x)]) (n := 2) (Nat.le_of_ble_eq_true rfl)
  rw [lg_entry_eq]
  generalize (lg_sl ([.ref h0, .int (zI x)]) ++ List.replicate (2 - (lg_sl ([.ref h0, .int (zI x)])).length) Slot.unset).toArray = ls at hl ⊢
  have hl : lv_has ls 2 [(0, .ref h0), (1, .int (zI x))] := hl
  refine lv_iload_n hx hb dX9_erase_0 rfl (lv_at hl 1 rfl) ?_
  refine lv_iconst (v := zI 0) hx hb dX9_erase_1 rfl ?_
  refine lv_aload_n hx hb dX9_erase_2 rfl (lv_at hl 0 rfl) ?_
  refine va_get (D := D) (ci := 9) (v := .int (zI mn)) (C := RX9) (T := TX9) (N := 31) hx hb hts (fun _ h9 => List.mem_cons_of_mem _ (List.mem_append_right _ h9)) hown hK hP 0 rfl rfl 11 (by decide) (hts (.fieldLink RX9 101 "FontRunsModel" "many" "I") mw_X9_erase_0) (fun _ h9 => h9) rfl dX9_erase_3 ?_
  refine k_callR (va_runS (As := [.int (zI x), .int (zI 0), .int (zI mn)]) (rest := []) ⟨hx, hb, hml, hown, hts⟩ (c_X9_within l D s.heap.size (v := x) (a := 0) (b := mn) q0 (by omega) (by omega)) (va_cwS 3 hts gX9_erase_X9_within rfl rfl rfl (by decide +kernel) ⟨Nat.le_of_ble_eq_true rfl, Nat.le_of_ble_eq_true rfl⟩) (kPreS hP (kD0 hD) hK hN [] [] ax_X9_erase_0 rfl (by decide +kernel)) rfl rfl hl.1 rfl (lv_room (Nat.le_of_ble_eq_true rfl)) dX9_erase_6 ⟨Nat.le_of_ble_eq_true rfl, Nat.le_of_ble_eq_true rfl⟩) ?_
  refine lv_if_ne (tgt := 15) hx hb dX9_erase_9 (by decide) (fun c_1 => ?_) (fun c_1 => ?_)
  · have c_1 : 0 ≤ x ∧ x ≤ mn := b01t c_1
    refine lv_aload_n hx hb dX9_erase_15 rfl (lv_at hl 0 rfl) ?_
    refine lv_dup hx hb dX9_erase_16 rfl ?_
    refine va_get (D := D) (ci := 9) (v := .int (zI mn)) (C := RX9) (T := TX9) (N := 31) hx hb hts (fun _ h9 => List.mem_cons_of_mem _ (List.mem_append_right _ h9)) hown hK hP 0 rfl rfl 11 (by decide) (hts (.fieldLink RX9 101 "FontRunsModel" "many" "I") mw_X9_erase_0) (fun _ h9 => h9) rfl dX9_erase_17 ?_
    refine lv_iload_n hx hb dX9_erase_20 rfl (lv_at hl 1 rfl) ?_
    refine kz_isub hx hb dX9_erase_21 ?_
    refine va_put (D := D) (ci := 9) (v := .int (zI (mn - x))) (ty := .int) (C := RX9) (T := TX9) (N := 31) hx hb hts (fun _ h9 => List.mem_cons_of_mem _ (List.mem_append_right _ h9)) tyX9 tyX9_ok nmX9 hown hK hP hD hS 0 rfl rfl 11 (by decide) (hts (.fieldLink RX9 101 "FontRunsModel" "many" "I") mw_X9_erase_0) (fun _ h9 => h9) rfl (by decide +kernel) rfl rfl (Nat.le_of_ble_eq_true rfl) dX9_erase_22 (fun H locs hP hD hS => ?_)
    have hP : va_P D vwCl [(h0, .inr (9, [.int (zI fa), .int (zI tc), .ref so, .ref sl, .ref ce, .int (zI fn), .ref kd, .ref wd, .ref hs, .ref pf, .ref lt, .int (zI (mn - x)), .ref wg, .int (zI ta), .long ck, .int (zI at9), .int (zI rfn), .ref rk, .ref rw, .ref rh, .int (zI cl), .ref sa, .ref fi, .int (zI bo), .ref ch, .ref cn, .int (zI ad), .int (zI ru), .ref kp, .int (zI dn), .ref rfa]))] H := hP
    have hD : va_D A [(h0, .inr (9, [.int (zI fa), .int (zI tc), .ref so, .ref sl, .ref ce, .int (zI fn), .ref kd, .ref wd, .ref hs, .ref pf, .ref lt, .int (zI (mn - x)), .ref wg, .int (zI ta), .long ck, .int (zI at9), .int (zI rfn), .ref rk, .ref rw, .ref rh, .int (zI cl), .ref sa, .ref fi, .int (zI bo), .ref ch, .ref cn, .int (zI ad), .int (zI ru), .ref kp, .int (zI dn), .ref rfa]))] := hD
    refine lv_aload_n hx hb dX9_erase_25 rfl (lv_at hl 0 rfl) ?_
    refine va_get (D := D) (ci := 9) (v := .int (zI (mn - x))) (C := RX9) (T := TX9) (N := 31) hx hb hts (fun _ h9 => List.mem_cons_of_mem _ (List.mem_append_right _ h9)) hown hK hP 0 rfl rfl 11 (by decide) (hts (.fieldLink RX9 101 "FontRunsModel" "many" "I") mw_X9_erase_0) (fun _ h9 => h9) rfl dX9_erase_26 ?_
    have hP9 := hP.sub (ws' := [(h0, .inr (9, [.int (zI fa), .int (zI tc), .ref so, .ref sl, .ref ce, .int (zI fn), .ref kd, .ref wd, .ref hs, .ref pf, .ref lt, .int (zI (mn - x)), .ref wg, .int (zI ta), .long ck, .int (zI at9), .int (zI rfn), .ref rk, .ref rw, .ref rh, .int (zI cl), .ref sa, .ref fi, .int (zI bo), .ref ch, .ref cn, .int (zI ad), .int (zI ru), .ref kp, .int (zI dn), .ref rfa]))]) [0] rfl
    have hD9 := hD.sub (ws' := [(h0, .inr (9, [.int (zI fa), .int (zI tc), .ref so, .ref sl, .ref ce, .int (zI fn), .ref kd, .ref wd, .ref hs, .ref pf, .ref lt, .int (zI (mn - x)), .ref wg, .int (zI ta), .long ck, .int (zI at9), .int (zI rfn), .ref rk, .ref rw, .ref rh, .int (zI cl), .ref sa, .ref fi, .int (zI bo), .ref ch, .ref cn, .int (zI ad), .int (zI ru), .ref kp, .int (zI dn), .ref rfa]))]) [0] (by decide +kernel) rfl
    exact W.iret (v := (zI (mn - x))) hx hb hr (fun t ht hW => kQS_of (by omega) ⟨(mn - x), (by omega), (by omega), (by omega), by rw [ht]; exact hP9, hD9⟩ (hS.F ht)) hS.2.2 dX9_erase_29
  · have c_1 : ¬ (0 ≤ x ∧ x ≤ mn) := b01f c_1
    refine lv_bipush (v := zI (-2)) hx hb dX9_erase_12 (by decide) ?_
    have hP9 := hP.sub (ws' := [(h0, .inr (9, [.int (zI fa), .int (zI tc), .ref so, .ref sl, .ref ce, .int (zI fn), .ref kd, .ref wd, .ref hs, .ref pf, .ref lt, .int (zI mn), .ref wg, .int (zI ta), .long ck, .int (zI at9), .int (zI rfn), .ref rk, .ref rw, .ref rh, .int (zI cl), .ref sa, .ref fi, .int (zI bo), .ref ch, .ref cn, .int (zI ad), .int (zI ru), .ref kp, .int (zI dn), .ref rfa]))]) [0] rfl
    have hD9 := hD.sub (ws' := [(h0, .inr (9, [.int (zI fa), .int (zI tc), .ref so, .ref sl, .ref ce, .int (zI fn), .ref kd, .ref wd, .ref hs, .ref pf, .ref lt, .int (zI mn), .ref wg, .int (zI ta), .long ck, .int (zI at9), .int (zI rfn), .ref rk, .ref rw, .ref rh, .int (zI cl), .ref sa, .ref fi, .int (zI bo), .ref ch, .ref cn, .int (zI ad), .int (zI ru), .ref kp, .int (zI dn), .ref rfa]))]) [0] (by decide +kernel) rfl
    exact W.iret (v := (zI (-2))) hx hb hr (fun t ht hW => kQS_of (by omega) ⟨mn, q1, q2, (by omega), by rw [ht]; exact hP9, hD9⟩ (hS.F ht)) hS.2.2 dX9_erase_14
theorem dX9_letter_0 : decode cX9_letter 0 = .ok (.iload_n 1, 1) := kqo_1b kbl_X9_letter (pc := 0) rfl
theorem dX9_letter_1 : decode cX9_letter 1 = .ok (.iconst 0, 1) := kqo_03 kbl_X9_letter (pc := 1) rfl
theorem dX9_letter_2 : decode cX9_letter 2 = .ok (.aload_n 0, 1) := kqo_2a kbl_X9_letter (pc := 2) rfl
theorem dX9_letter_3 : decode cX9_letter 3 = .ok (.getfield 101, 3) := kqo_b4 (x1 := 0) (x2 := 101) kbl_X9_letter (pc := 3) rfl rfl
theorem dX9_letter_6 : decode cX9_letter 6 = .ok (.iconst 1, 1) := kqo_04 kbl_X9_letter (pc := 6) rfl
theorem dX9_letter_7 : decode cX9_letter 7 = .ok (.isub, 1) := kqo_64 kbl_X9_letter (pc := 7) rfl
theorem dX9_letter_8 : decode cX9_letter 8 = .ok (.invokestatic 70, 3) := kqo_b8 (x1 := 0) (x2 := 70) kbl_X9_letter (pc := 8) rfl rfl
theorem dX9_letter_11 : decode cX9_letter 11 = .ok (.ifCond .eq 12, 3) := kqo_99 (x1 := 0) (x2 := 12) kbl_X9_letter (pc := 11) rfl rfl
theorem dX9_letter_14 : decode cX9_letter 14 = .ok (.aload_n 0, 1) := kqo_2a kbl_X9_letter (pc := 14) rfl
theorem dX9_letter_15 : decode cX9_letter 15 = .ok (.getfield 34, 3) := kqo_b4 (x1 := 0) (x2 := 34) kbl_X9_letter (pc := 15) rfl rfl
theorem dX9_letter_18 : decode cX9_letter 18 = .ok (.iload_n 1, 1) := kqo_1b kbl_X9_letter (pc := 18) rfl
theorem dX9_letter_19 : decode cX9_letter 19 = .ok (.iaload, 1) := kqo_2e kbl_X9_letter (pc := 19) rfl
theorem dX9_letter_20 : decode cX9_letter 20 = .ok (.goto 4, 3) := kqo_a7 (x1 := 0) (x2 := 4) kbl_X9_letter (pc := 20) rfl rfl
theorem dX9_letter_23 : decode cX9_letter 23 = .ok (.iconst (-1), 1) := kqo_02 kbl_X9_letter (pc := 23) rfl
theorem dX9_letter_24 : decode cX9_letter 24 = .ok (.ireturn, 1) := kqo_ac kbl_X9_letter (pc := 24) rfl
set_option maxRecDepth 20000 in
theorem ggX9_letter_X9_within : GoodIn wsX9_letter wsX9_within := goodIn_4 _ (List.forall_mem_cons.mpr ⟨List.mem_cons_of_mem _ (List.mem_append_left _ (List.mem_of_getElem? (i := 5) rfl)), fun _ h9 => absurd h9 List.not_mem_nil⟩) (by decide +kernel)
set_option maxRecDepth 20000 in
theorem gX9_letter_X9_within : GoodIn wsX9_letter (va_wsS RX9 70 yX9_within wsX9_within) := goodIn_app (goodIn_4 _ (List.forall_mem_cons.mpr ⟨List.mem_cons_of_mem _ (List.mem_append_left _ (List.mem_of_getElem? (i := 2) rfl)), List.forall_mem_cons.mpr ⟨List.mem_cons_of_mem _ (List.mem_append_left _ (List.mem_of_getElem? (i := 3) rfl)), List.forall_mem_cons.mpr ⟨List.mem_cons_of_mem _ (List.mem_append_left _ (List.mem_of_getElem? (i := 4) rfl)), fun _ h9 => absurd h9 List.not_mem_nil⟩⟩⟩) (by decide +kernel)) ggX9_letter_X9_within
set_option maxRecDepth 20000 in
theorem mw_X9_letter_0 : (.fieldLink RX9 101 "FontRunsModel" "many" "I" : Cond) ∈ wsX9_letter := List.mem_cons_of_mem _ (List.mem_append_left _ (List.mem_of_getElem? (i := 0) rfl))
set_option maxRecDepth 20000 in
theorem mw_X9_letter_1 : (.fieldLink RX9 34 "FontRunsModel" "writing" "[I" : Cond) ∈ wsX9_letter := List.mem_cons_of_mem _ (List.mem_append_left _ (List.mem_of_getElem? (i := 1) rfl))
theorem ax_X9_letter_0 {e0 e1 : Nat × va_E} : ([] : List Nat).map (fun i => ([e0, e1] : va_W)[i]?) = ([] : va_W).map some := rfl
set_option maxHeartbeats 4000000 in
set_option maxRecDepth 100000 in
theorem c_X9_letter (l : Launch) (D : va_G) (sz : Nat) (k : Int) (h0 : Nat) (fa : Int) (tc : Int) (so : Nat) (sl : Nat) (ce : Nat) (fn : Int) (kd : Nat) (wd : Nat) (hs : Nat) (pf : Nat) (lt : Nat) (mn : Int) (wg : Nat) (ta : Int) (ck : Int64) (at9 : Int) (rfn : Int) (rk : Nat) (rw : Nat) (rh : Nat) (cl : Int) (sa : Nat) (fi : Nat) (bo : Int) (ch : Nat) (cn : Nat) (ad : Int) (ru : Int) (kp : Nat) (dn : Int) (rfa : Nat) (c_wg : ClassId) (f_wg : Nat → Int32) (q0 : rg k) (q1 : 0 ≤ mn ∧ mn ≤ 24) : Met l yX9_letter wsX9_letter ({ frames := 1, cells := 0, slots := 0, locals := 22 }) (kPre [.ref h0, .int (zI k)] D [(h0, .inr (9, [.int (zI fa), .int (zI tc), .ref so, .ref sl, .ref ce, .int (zI fn), .ref kd, .ref wd, .ref hs, .ref pf, .ref lt, .int (zI mn), .ref wg, .int (zI ta), .long ck, .int (zI at9), .int (zI rfn), .ref rk, .ref rw, .ref rh, .int (zI cl), .ref sa, .ref fi, .int (zI bo), .ref ch, .ref cn, .int (zI ad), .int (zI ru), .ref kp, .int (zI dn), .ref rfa])), (wg, .inl (c_wg, 24, .inl f_wg))] [(c_wg, .int)] sz) (QcP (fun rz => kLe k mn f_wg rz)) 0 0 (fun _ => False) := by
  refine Met.ofW (cc := cX9_letter) (maxL := 2) (ret := (some .int)) (by decide) rfl ?_
  intro p e s m args below meth c s₁ B hml hv
  obtain ⟨rfl, hsz, hP, hK, hD0, hN⟩ := hv
  have hx := B.exec
  have hb := B.bytes
  have hr := B.returns
  have hts := atoms_spec (ws := wsX9_letter) B.pre
  have hown : s.vm.findClass RX9 = some m.cls := findClass_of_methodNamed B.named
  have hlocks := B.notSynchronized
  subst hsz
  have hD := hD0
  have hP : va_P D vwCl [(h0, .inr (9, [.int (zI fa), .int (zI tc), .ref so, .ref sl, .ref ce, .int (zI fn), .ref kd, .ref wd, .ref hs, .ref pf, .ref lt, .int (zI mn), .ref wg, .int (zI ta), .long ck, .int (zI at9), .int (zI rfn), .ref rk, .ref rw, .ref rh, .int (zI cl), .ref sa, .ref fi, .int (zI bo), .ref ch, .ref cn, .int (zI ad), .int (zI ru), .ref kp, .int (zI dn), .ref rfa])), (wg, .inl (c_wg, 24, .inl f_wg))] s.heap := hP
  have hl := lv_entry ([.ref h0, .int (zI k)]) (n := 2) (Nat.le_of_ble_eq_true rfl)
  rw [lg_entry_eq]
  generalize (lg_sl ([.ref h0, .int (zI k)]) ++ List.replicate (2 - (lg_sl ([.ref h0, .int (zI k)])).length) Slot.unset).toArray = ls at hl ⊢
  have hl : lv_has ls 2 [(0, .ref h0), (1, .int (zI k))] := hl
  refine lv_iload_n hx hb dX9_letter_0 rfl (lv_at hl 1 rfl) ?_
  refine lv_iconst (v := zI 0) hx hb dX9_letter_1 rfl ?_
  refine lv_aload_n hx hb dX9_letter_2 rfl (lv_at hl 0 rfl) ?_
  refine va_get (D := D) (ci := 9) (v := .int (zI mn)) (C := RX9) (T := TX9) (N := 31) hx hb hts (fun _ h9 => List.mem_cons_of_mem _ (List.mem_append_right _ h9)) hown hK hP 0 rfl rfl 11 (by decide) (hts (.fieldLink RX9 101 "FontRunsModel" "many" "I") mw_X9_letter_0) (fun _ h9 => h9) rfl dX9_letter_3 ?_
  refine lv_iconst (v := zI 1) hx hb dX9_letter_6 rfl ?_
  refine kz_isub hx hb dX9_letter_7 ?_
  refine k_callR (va_runS (As := [.int (zI k), .int (zI 0), .int (zI (mn - 1))]) (rest := []) ⟨hx, hb, hml, hown, hts⟩ (c_X9_within l D s.heap.size (v := k) (a := 0) (b := (mn - 1)) q0 (by omega) (by omega)) (va_cwS 3 hts gX9_letter_X9_within rfl rfl rfl (by decide +kernel) ⟨Nat.le_of_ble_eq_true rfl, Nat.le_of_ble_eq_true rfl⟩) (kPreS hP (kD0 hD) hK hN [] [] ax_X9_letter_0 rfl (by decide +kernel)) rfl rfl hl.1 rfl (lv_room (Nat.le_of_ble_eq_true rfl)) dX9_letter_8 ⟨Nat.le_of_ble_eq_true rfl, Nat.le_of_ble_eq_true rfl⟩) ?_
  refine lv_if_eq (tgt := 23) hx hb dX9_letter_11 (by decide) (fun c_1 => ?_) (fun c_1 => ?_)
  · have c_1 : ¬ (0 ≤ k ∧ k ≤ (mn - 1)) := b01f c_1
    refine lv_iconst (v := zI (-1)) hx hb dX9_letter_23 rfl ?_
    exact W.iret (v := (zI (-1))) hx hb hr (fun t ht hW => QcP_of (by omega) (Or.inl ⟨by omega, by omega⟩) ht) (fun _ h9 => by cases h9) dX9_letter_24
  · have c_1 : 0 ≤ k ∧ k ≤ (mn - 1) := b01t c_1
    refine lv_aload_n hx hb dX9_letter_14 rfl (lv_at hl 0 rfl) ?_
    refine va_get (D := D) (ci := 9) (v := .ref wg) (C := RX9) (T := TX9) (N := 31) hx hb hts (fun _ h9 => List.mem_cons_of_mem _ (List.mem_append_right _ h9)) hown hK hP 0 rfl rfl 12 (by decide) (hts (.fieldLink RX9 34 "FontRunsModel" "writing" "[I") mw_X9_letter_1) (fun _ h9 => h9) rfl dX9_letter_15 ?_
    refine lv_iload_n hx hb dX9_letter_18 rfl (lv_at hl 1 rfl) ?_
    refine kz_iald hx hb hK hP 1 0 rfl rfl (by omega) dX9_letter_19 (fun z_2 rz_2 ez_2 => ?_)
    refine lv_goto (tgt := 24) hx hb dX9_letter_20 (by decide) ?_
    exact W.iret (v := (zI z_2)) hx hb hr (fun t ht hW => QcP_of (by omega) (Or.inr ⟨by omega, ez_2.symm⟩) ht) (fun _ h9 => by cases h9) dX9_letter_24
theorem dX9_latest_0 : decode cX9_latest 0 = .ok (.iload_n 1, 1) := kqo_1b kbl_X9_latest (pc := 0) rfl
theorem dX9_latest_1 : decode cX9_latest 1 = .ok (.iconst 0, 1) := kqo_03 kbl_X9_latest (pc := 1) rfl
theorem dX9_latest_2 : decode cX9_latest 2 = .ok (.iconst 4, 1) := kqo_07 kbl_X9_latest (pc := 2) rfl
theorem dX9_latest_3 : decode cX9_latest 3 = .ok (.invokestatic 70, 3) := kqo_b8 (x1 := 0) (x2 := 70) kbl_X9_latest (pc := 3) rfl rfl
theorem dX9_latest_6 : decode cX9_latest 6 = .ok (.ifCond .ne 6, 3) := kqo_9a (x1 := 0) (x2 := 6) kbl_X9_latest (pc := 6) rfl rfl
theorem dX9_latest_9 : decode cX9_latest 9 = .ok (.bipush (-2), 2) := kqo_10 (x1 := 254) kbl_X9_latest (pc := 9) rfl rfl
theorem dX9_latest_11 : decode cX9_latest 11 = .ok (.ireturn, 1) := kqo_ac kbl_X9_latest (pc := 11) rfl
theorem dX9_latest_12 : decode cX9_latest 12 = .ok (.aload_n 0, 1) := kqo_2a kbl_X9_latest (pc := 12) rfl
theorem dX9_latest_13 : decode cX9_latest 13 = .ok (.getfield 74, 3) := kqo_b4 (x1 := 0) (x2 := 74) kbl_X9_latest (pc := 13) rfl rfl
theorem dX9_latest_16 : decode cX9_latest 16 = .ok (.ifCond .ne 8, 3) := kqo_9a (x1 := 0) (x2 := 8) kbl_X9_latest (pc := 16) rfl rfl
theorem dX9_latest_19 : decode cX9_latest 19 = .ok (.bipush (-9), 2) := kqo_10 (x1 := 247) kbl_X9_latest (pc := 19) rfl rfl
theorem dX9_latest_21 : decode cX9_latest 21 = .ok (.goto 9, 3) := kqo_a7 (x1 := 0) (x2 := 9) kbl_X9_latest (pc := 21) rfl rfl
theorem dX9_latest_24 : decode cX9_latest 24 = .ok (.aload_n 0, 1) := kqo_2a kbl_X9_latest (pc := 24) rfl
theorem dX9_latest_25 : decode cX9_latest 25 = .ok (.getfield 31, 3) := kqo_b4 (x1 := 0) (x2 := 31) kbl_X9_latest (pc := 25) rfl rfl
theorem dX9_latest_28 : decode cX9_latest 28 = .ok (.iload_n 1, 1) := kqo_1b kbl_X9_latest (pc := 28) rfl
theorem dX9_latest_29 : decode cX9_latest 29 = .ok (.iaload, 1) := kqo_2e kbl_X9_latest (pc := 29) rfl
theorem dX9_latest_30 : decode cX9_latest 30 = .ok (.ireturn, 1) := kqo_ac kbl_X9_latest (pc := 30) rfl
set_option maxRecDepth 20000 in
theorem ggX9_latest_X9_within : GoodIn wsX9_latest wsX9_within := goodIn_4 _ (List.forall_mem_cons.mpr ⟨List.mem_cons_of_mem _ (List.mem_append_left _ (List.mem_of_getElem? (i := 5) rfl)), fun _ h9 => absurd h9 List.not_mem_nil⟩) (by decide +kernel)
set_option maxRecDepth 20000 in
theorem gX9_latest_X9_within : GoodIn wsX9_latest (va_wsS RX9 70 yX9_within wsX9_within) := goodIn_app (goodIn_4 _ (List.forall_mem_cons.mpr ⟨List.mem_cons_of_mem _ (List.mem_append_left _ (List.mem_of_getElem? (i := 2) rfl)), List.forall_mem_cons.mpr ⟨List.mem_cons_of_mem _ (List.mem_append_left _ (List.mem_of_getElem? (i := 3) rfl)), List.forall_mem_cons.mpr ⟨List.mem_cons_of_mem _ (List.mem_append_left _ (List.mem_of_getElem? (i := 4) rfl)), fun _ h9 => absurd h9 List.not_mem_nil⟩⟩⟩) (by decide +kernel)) ggX9_latest_X9_within
set_option maxRecDepth 20000 in
theorem mw_X9_latest_0 : (.fieldLink RX9 74 "FontRunsModel" "fonts" "I" : Cond) ∈ wsX9_latest := List.mem_cons_of_mem _ (List.mem_append_left _ (List.mem_of_getElem? (i := 0) rfl))
set_option maxRecDepth 20000 in
theorem mw_X9_latest_1 : (.fieldLink RX9 31 "FontRunsModel" "latest" "[I" : Cond) ∈ wsX9_latest := List.mem_cons_of_mem _ (List.mem_append_left _ (List.mem_of_getElem? (i := 1) rfl))
theorem ax_X9_latest_0 {e0 e1 : Nat × va_E} : ([] : List Nat).map (fun i => ([e0, e1] : va_W)[i]?) = ([] : va_W).map some := rfl
set_option maxHeartbeats 4000000 in
set_option maxRecDepth 100000 in
theorem c_X9_latest (l : Launch) (D : va_G) (sz : Nat) (k : Int) (h0 : Nat) (fa : Int) (tc : Int) (so : Nat) (sl : Nat) (ce : Nat) (fn : Int) (kd : Nat) (wd : Nat) (hs : Nat) (pf : Nat) (lt : Nat) (mn : Int) (wg : Nat) (ta : Int) (ck : Int64) (at9 : Int) (rfn : Int) (rk : Nat) (rw : Nat) (rh : Nat) (cl : Int) (sa : Nat) (fi : Nat) (bo : Int) (ch : Nat) (cn : Nat) (ad : Int) (ru : Int) (kp : Nat) (dn : Int) (rfa : Nat) (c_lt : ClassId) (f_lt : Nat → Int32) (q0 : rg k) (q1 : 0 ≤ fn ∧ fn ≤ 4) : Met l yX9_latest wsX9_latest ({ frames := 1, cells := 0, slots := 0, locals := 22 }) (kPre [.ref h0, .int (zI k)] D [(h0, .inr (9, [.int (zI fa), .int (zI tc), .ref so, .ref sl, .ref ce, .int (zI fn), .ref kd, .ref wd, .ref hs, .ref pf, .ref lt, .int (zI mn), .ref wg, .int (zI ta), .long ck, .int (zI at9), .int (zI rfn), .ref rk, .ref rw, .ref rh, .int (zI cl), .ref sa, .ref fi, .int (zI bo), .ref ch, .ref cn, .int (zI ad), .int (zI ru), .ref kp, .int (zI dn), .ref rfa])), (lt, .inl (c_lt, 5, .inl f_lt))] [(c_lt, .int)] sz) (QcP (fun rz => kLaM k fn f_lt rz)) 0 0 (fun _ => False) := by
  refine Met.ofW (cc := cX9_latest) (maxL := 2) (ret := (some .int)) (by decide) rfl ?_
  intro p e s m args below meth c s₁ B hml hv
  obtain ⟨rfl, hsz, hP, hK, hD0, hN⟩ := hv
  have hx := B.exec
  have hb := B.bytes
  have hr := B.returns
  have hts := atoms_spec (ws := wsX9_latest) B.pre
  have hown : s.vm.findClass RX9 = some m.cls := findClass_of_methodNamed B.named
  have hlocks := B.notSynchronized
  subst hsz
  have hD := hD0
  have hP : va_P D vwCl [(h0, .inr (9, [.int (zI fa), .int (zI tc), .ref so, .ref sl, .ref ce, .int (zI fn), .ref kd, .ref wd, .ref hs, .ref pf, .ref lt, .int (zI mn), .ref wg, .int (zI ta), .long ck, .int (zI at9), .int (zI rfn), .ref rk, .ref rw, .ref rh, .int (zI cl), .ref sa, .ref fi, .int (zI bo), .ref ch, .ref cn, .int (zI ad), .int (zI ru), .ref kp, .int (zI dn), .ref rfa])), (lt, .inl (c_lt, 5, .inl f_lt))] s.heap := hP
  have hl := lv_entry ([.ref h0, .int (zI k)]) (n := 2) (Nat.le_of_ble_eq_true rfl)
  rw [lg_entry_eq]
  generalize (lg_sl ([.ref h0, .int (zI k)]) ++ List.replicate (2 - (lg_sl ([.ref h0, .int (zI k)])).length) Slot.unset).toArray = ls at hl ⊢
  have hl : lv_has ls 2 [(0, .ref h0), (1, .int (zI k))] := hl
  refine lv_iload_n hx hb dX9_latest_0 rfl (lv_at hl 1 rfl) ?_
  refine lv_iconst (v := zI 0) hx hb dX9_latest_1 rfl ?_
  refine lv_iconst (v := zI 4) hx hb dX9_latest_2 rfl ?_
  refine k_callR (va_runS (As := [.int (zI k), .int (zI 0), .int (zI 4)]) (rest := []) ⟨hx, hb, hml, hown, hts⟩ (c_X9_within l D s.heap.size (v := k) (a := 0) (b := 4) q0 (by omega) (by omega)) (va_cwS 3 hts gX9_latest_X9_within rfl rfl rfl (by decide +kernel) ⟨Nat.le_of_ble_eq_true rfl, Nat.le_of_ble_eq_true rfl⟩) (kPreS hP (kD0 hD) hK hN [] [] ax_X9_latest_0 rfl (by decide +kernel)) rfl rfl hl.1 rfl (lv_room (Nat.le_of_ble_eq_true rfl)) dX9_latest_3 ⟨Nat.le_of_ble_eq_true rfl, Nat.le_of_ble_eq_true rfl⟩) ?_
  refine lv_if_ne (tgt := 12) hx hb dX9_latest_6 (by decide) (fun c_1 => ?_) (fun c_1 => ?_)
  · have c_1 : 0 ≤ k ∧ k ≤ 4 := b01t c_1
    refine lv_aload_n hx hb dX9_latest_12 rfl (lv_at hl 0 rfl) ?_
    refine va_get (D := D) (ci := 9) (v := .int (zI fn)) (C := RX9) (T := TX9) (N := 31) hx hb hts (fun _ h9 => List.mem_cons_of_mem _ (List.mem_append_right _ h9)) hown hK hP 0 rfl rfl 5 (by decide) (hts (.fieldLink RX9 74 "FontRunsModel" "fonts" "I") mw_X9_latest_0) (fun _ h9 => h9) rfl dX9_latest_13 ?_
    refine kz_if_ne (tgt := 24) hx hb dX9_latest_16 (by decide) (by omega) (fun c_2 => ?_) (fun c_2 => ?_)
    · refine lv_aload_n hx hb dX9_latest_24 rfl (lv_at hl 0 rfl) ?_
      refine va_get (D := D) (ci := 9) (v := .ref lt) (C := RX9) (T := TX9) (N := 31) hx hb hts (fun _ h9 => List.mem_cons_of_mem _ (List.mem_append_right _ h9)) hown hK hP 0 rfl rfl 10 (by decide) (hts (.fieldLink RX9 31 "FontRunsModel" "latest" "[I") mw_X9_latest_1) (fun _ h9 => h9) rfl dX9_latest_25 ?_
      refine lv_iload_n hx hb dX9_latest_28 rfl (lv_at hl 1 rfl) ?_
      refine kz_iald hx hb hK hP 1 0 rfl rfl (by omega) dX9_latest_29 (fun z_3 rz_3 ez_3 => ?_)
      exact W.iret (v := (zI z_3)) hx hb hr (fun t ht hW => QcP_of (by omega) (Or.inr ⟨by omega, Or.inr ⟨by omega, ez_3.symm⟩⟩) ht) (fun _ h9 => by cases h9) dX9_latest_30
    · refine lv_bipush (v := zI (-9)) hx hb dX9_latest_19 (by decide) ?_
      refine lv_goto (tgt := 30) hx hb dX9_latest_21 (by decide) ?_
      exact W.iret (v := (zI (-9))) hx hb hr (fun t ht hW => QcP_of (by omega) (Or.inr ⟨by omega, Or.inl ⟨by omega, by omega⟩⟩) ht) (fun _ h9 => by cases h9) dX9_latest_30
  · have c_1 : ¬ (0 ≤ k ∧ k ≤ 4) := b01f c_1
    refine lv_bipush (v := zI (-2)) hx hb dX9_latest_9 (by decide) ?_
    exact W.iret (v := (zI (-2))) hx hb hr (fun t ht hW => QcP_of (by omega) (Or.inl ⟨by omega, by omega⟩) ht) (fun _ h9 => by cases h9) dX9_latest_11
theorem dX9_reading_0 : decode cX9_reading 0 = .ok (.aload_n 0, 1) := kqo_2a kbl_X9_reading (pc := 0) rfl
theorem dX9_reading_1 : decode cX9_reading 1 = .ok (.getfield 74, 3) := kqo_b4 (x1 := 0) (x2 := 74) kbl_X9_reading (pc := 1) rfl rfl
theorem dX9_reading_4 : decode cX9_reading 4 = .ok (.ifCond .ne 6, 3) := kqo_9a (x1 := 0) (x2 := 6) kbl_X9_reading (pc := 4) rfl rfl
theorem dX9_reading_7 : decode cX9_reading 7 = .ok (.bipush (-3), 2) := kqo_10 (x1 := 253) kbl_X9_reading (pc := 7) rfl rfl
theorem dX9_reading_9 : decode cX9_reading 9 = .ok (.ireturn, 1) := kqo_ac kbl_X9_reading (pc := 9) rfl
theorem dX9_reading_10 : decode cX9_reading 10 = .ok (.iload_n 1, 1) := kqo_1b kbl_X9_reading (pc := 10) rfl
theorem dX9_reading_11 : decode cX9_reading 11 = .ok (.iconst 0, 1) := kqo_03 kbl_X9_reading (pc := 11) rfl
theorem dX9_reading_12 : decode cX9_reading 12 = .ok (.sipush 500, 3) := kqo_11 (x1 := 1) (x2 := 244) kbl_X9_reading (pc := 12) rfl rfl
theorem dX9_reading_15 : decode cX9_reading 15 = .ok (.invokestatic 70, 3) := kqo_b8 (x1 := 0) (x2 := 70) kbl_X9_reading (pc := 15) rfl rfl
theorem dX9_reading_18 : decode cX9_reading 18 = .ok (.ifCond .ne 6, 3) := kqo_9a (x1 := 0) (x2 := 6) kbl_X9_reading (pc := 18) rfl rfl
theorem dX9_reading_21 : decode cX9_reading 21 = .ok (.bipush (-2), 2) := kqo_10 (x1 := 254) kbl_X9_reading (pc := 21) rfl rfl
theorem dX9_reading_23 : decode cX9_reading 23 = .ok (.ireturn, 1) := kqo_ac kbl_X9_reading (pc := 23) rfl
theorem dX9_reading_24 : decode cX9_reading 24 = .ok (.aload_n 0, 1) := kqo_2a kbl_X9_reading (pc := 24) rfl
theorem dX9_reading_25 : decode cX9_reading 25 = .ok (.getfield 104, 3) := kqo_b4 (x1 := 0) (x2 := 104) kbl_X9_reading (pc := 25) rfl rfl
theorem dX9_reading_28 : decode cX9_reading 28 = .ok (.bipush 8, 2) := kqo_10 (x1 := 8) kbl_X9_reading (pc := 28) rfl rfl
theorem dX9_reading_30 : decode cX9_reading 30 = .ok (.if_icmp .ne 6, 3) := kqo_a0 (x1 := 0) (x2 := 6) kbl_X9_reading (pc := 30) rfl rfl
theorem dX9_reading_33 : decode cX9_reading 33 = .ok (.bipush (-4), 2) := kqo_10 (x1 := 252) kbl_X9_reading (pc := 33) rfl rfl
theorem dX9_reading_35 : decode cX9_reading 35 = .ok (.ireturn, 1) := kqo_ac kbl_X9_reading (pc := 35) rfl
theorem dX9_reading_36 : decode cX9_reading 36 = .ok (.aload_n 0, 1) := kqo_2a kbl_X9_reading (pc := 36) rfl
theorem dX9_reading_37 : decode cX9_reading 37 = .ok (.getfield 61, 3) := kqo_b4 (x1 := 0) (x2 := 61) kbl_X9_reading (pc := 37) rfl rfl
theorem dX9_reading_40 : decode cX9_reading 40 = .ok (.aload_n 0, 1) := kqo_2a kbl_X9_reading (pc := 40) rfl
theorem dX9_reading_41 : decode cX9_reading 41 = .ok (.getfield 104, 3) := kqo_b4 (x1 := 0) (x2 := 104) kbl_X9_reading (pc := 41) rfl rfl
theorem dX9_reading_44 : decode cX9_reading 44 = .ok (.iload_n 1, 1) := kqo_1b kbl_X9_reading (pc := 44) rfl
theorem dX9_reading_45 : decode cX9_reading 45 = .ok (.iastore, 1) := kqo_4f kbl_X9_reading (pc := 45) rfl
theorem dX9_reading_46 : decode cX9_reading 46 = .ok (.aload_n 0, 1) := kqo_2a kbl_X9_reading (pc := 46) rfl
theorem dX9_reading_47 : decode cX9_reading 47 = .ok (.dup, 1) := kqo_59 kbl_X9_reading (pc := 47) rfl
theorem dX9_reading_48 : decode cX9_reading 48 = .ok (.getfield 104, 3) := kqo_b4 (x1 := 0) (x2 := 104) kbl_X9_reading (pc := 48) rfl rfl
theorem dX9_reading_51 : decode cX9_reading 51 = .ok (.iconst 1, 1) := kqo_04 kbl_X9_reading (pc := 51) rfl
theorem dX9_reading_52 : decode cX9_reading 52 = .ok (.iadd, 1) := kqo_60 kbl_X9_reading (pc := 52) rfl
theorem dX9_reading_53 : decode cX9_reading 53 = .ok (.putfield 104, 3) := kqo_b5 (x1 := 0) (x2 := 104) kbl_X9_reading (pc := 53) rfl rfl
theorem dX9_reading_56 : decode cX9_reading 56 = .ok (.aload_n 0, 1) := kqo_2a kbl_X9_reading (pc := 56) rfl
theorem dX9_reading_57 : decode cX9_reading 57 = .ok (.getfield 104, 3) := kqo_b4 (x1 := 0) (x2 := 104) kbl_X9_reading (pc := 57) rfl rfl
theorem dX9_reading_60 : decode cX9_reading 60 = .ok (.iconst 1, 1) := kqo_04 kbl_X9_reading (pc := 60) rfl
theorem dX9_reading_61 : decode cX9_reading 61 = .ok (.isub, 1) := kqo_64 kbl_X9_reading (pc := 61) rfl
theorem dX9_reading_62 : decode cX9_reading 62 = .ok (.ireturn, 1) := kqo_ac kbl_X9_reading (pc := 62) rfl
set_option maxRecDepth 20000 in
theorem ggX9_reading_X9_within : GoodIn wsX9_reading wsX9_within := goodIn_4 _ (List.forall_mem_cons.mpr ⟨List.mem_cons_of_mem _ (List.mem_append_left _ (List.mem_of_getElem? (i := 6) rfl)), fun _ h9 => absurd h9 List.not_mem_nil⟩) (by decide +kernel)
set_option maxRecDepth 20000 in
theorem gX9_reading_X9_within : GoodIn wsX9_reading (va_wsS RX9 70 yX9_within wsX9_within) := goodIn_app (goodIn_4 _ (List.forall_mem_cons.mpr ⟨List.mem_cons_of_mem _ (List.mem_append_left _ (List.mem_of_getElem? (i := 3) rfl)), List.forall_mem_cons.mpr ⟨List.mem_cons_of_mem _ (List.mem_append_left _ (List.mem_of_getElem? (i := 4) rfl)), List.forall_mem_cons.mpr ⟨List.mem_cons_of_mem _ (List.mem_append_left _ (List.mem_of_getElem? (i := 5) rfl)), fun _ h9 => absurd h9 List.not_mem_nil⟩⟩⟩) (by decide +kernel)) ggX9_reading_X9_within
set_option maxRecDepth 20000 in
theorem mw_X9_reading_0 : (.fieldLink RX9 74 "FontRunsModel" "fonts" "I" : Cond) ∈ wsX9_reading := List.mem_cons_of_mem _ (List.mem_append_left _ (List.mem_of_getElem? (i := 0) rfl))
set_option maxRecDepth 20000 in
theorem mw_X9_reading_1 : (.fieldLink RX9 104 "FontRunsModel" "readings" "I" : Cond) ∈ wsX9_reading := List.mem_cons_of_mem _ (List.mem_append_left _ (List.mem_of_getElem? (i := 1) rfl))
set_option maxRecDepth 20000 in
theorem mw_X9_reading_2 : (.fieldLink RX9 61 "FontRunsModel" "readFar" "[I" : Cond) ∈ wsX9_reading := List.mem_cons_of_mem _ (List.mem_append_left _ (List.mem_of_getElem? (i := 2) rfl))
theorem ax_X9_reading_0 {e0 e1 : Nat × va_E} : ([] : List Nat).map (fun i => ([e0, e1] : va_W)[i]?) = ([] : va_W).map some := rfl
theorem ax_X9_reading_1 {e0 e1 : Nat × va_E} : ([0, 1] : List Nat).map (fun i => ([e0, e1] : va_W)[i]?) = ([e0, e1] : va_W).map some := rfl
set_option maxHeartbeats 4000000 in
set_option maxRecDepth 100000 in
theorem c_X9_reading (l : Launch) (D : va_G) (sz : Nat) (x : Int) (h0 : Nat) (fa : Int) (tc : Int) (so : Nat) (sl : Nat) (ce : Nat) (fn : Int) (kd : Nat) (wd : Nat) (hs : Nat) (pf : Nat) (lt : Nat) (mn : Int) (wg : Nat) (ta : Int) (ck : Int64) (at9 : Int) (rfn : Int) (rk : Nat) (rw : Nat) (rh : Nat) (cl : Int) (sa : Nat) (fi : Nat) (bo : Int) (ch : Nat) (cn : Nat) (ad : Int) (ru : Int) (kp : Nat) (dn : Int) (rfa : Nat) (c_rfa : ClassId) (f_rfa : Nat → Int32) (q0 : rg x) (q1 : 0 ≤ fn ∧ fn ≤ 4) (q2 : 0 ≤ dn ∧ dn ≤ 8) : Met l yX9_reading wsX9_reading ({ frames := 1, cells := 0, slots := 0, locals := 22 }) (kPre [.ref h0, .int (zI x)] D [(h0, .inr (9, [.int (zI fa), .int (zI tc), .ref so, .ref sl, .ref ce, .int (zI fn), .ref kd, .ref wd, .ref hs, .ref pf, .ref lt, .int (zI mn), .ref wg, .int (zI ta), .long ck, .int (zI at9), .int (zI rfn), .ref rk, .ref rw, .ref rh, .int (zI cl), .ref sa, .ref fi, .int (zI bo), .ref ch, .ref cn, .int (zI ad), .int (zI ru), .ref kp, .int (zI dn), .ref rfa])), (rfa, .inl (c_rfa, 8, .inl f_rfa))] [(c_rfa, .int)] sz) (kQS (fun rz t => ∃ (u_dn : Int) (u_f_rfa : Nat → Int32), (0 ≤ u_dn ∧ u_dn ≤ 8) ∧ ((fn = 0 ∧ rz = -3 ∧ u_dn = dn) ∨ (¬ fn = 0 ∧ ¬ (0 ≤ x ∧ x ≤ 500) ∧ rz = -2 ∧ u_dn = dn) ∨ (¬ fn = 0 ∧ (0 ≤ x ∧ x ≤ 500) ∧ dn = 8 ∧ rz = -4 ∧ u_dn = dn) ∨ (¬ fn = 0 ∧ (0 ≤ x ∧ x ≤ 500) ∧ dn ≤ 7 ∧ rz = dn ∧ u_dn = dn + 1)) ∧ va_P D vwCl [(h0, .inr (9, [.int (zI fa), .int (zI tc), .ref so, .ref sl, .ref ce, .int (zI fn), .ref kd, .ref wd, .ref hs, .ref pf, .ref lt, .int (zI mn), .ref wg, .int (zI ta), .long ck, .int (zI at9), .int (zI rfn), .ref rk, .ref rw, .ref rh, .int (zI cl), .ref sa, .ref fi, .int (zI bo), .ref ch, .ref cn, .int (zI ad), .int (zI ru), .ref kp, .int (zI u_dn), .ref rfa])), (rfa, .inl (c_rfa, 8, .inl u_f_rfa))] t.heap ∧ va_D (va_A [(h0, .inr (9, [.int (zI fa), .int (zI tc), .ref so, .ref sl, .ref ce, .int (zI fn), .ref kd, .ref wd, .ref hs, .ref pf, .ref lt, .int (zI mn), .ref wg, .int (zI ta), .long ck, .int (zI at9), .int (zI rfn), .ref rk, .ref rw, .ref rh, .int (zI cl), .ref sa, .ref fi, .int (zI bo), .ref ch, .ref cn, .int (zI ad), .int (zI ru), .ref kp, .int (zI dn), .ref rfa])), (rfa, .inl (c_rfa, 8, .inl f_rfa))] sz) [(h0, .inr (9, [.int (zI fa), .int (zI tc), .ref so, .ref sl, .ref ce, .int (zI fn), .ref kd, .ref wd, .ref hs, .ref pf, .ref lt, .int (zI mn), .ref wg, .int (zI ta), .long ck, .int (zI at9), .int (zI rfn), .ref rk, .ref rw, .ref rh, .int (zI cl), .ref sa, .ref fi, .int (zI bo), .ref ch, .ref cn, .int (zI ad), .int (zI ru), .ref kp, .int (zI u_dn), .ref rfa])), (rfa, .inl (c_rfa, 8, .inl u_f_rfa))]) (va_A [(h0, .inr (9, [.int (zI fa), .int (zI tc), .ref so, .ref sl, .ref ce, .int (zI fn), .ref kd, .ref wd, .ref hs, .ref pf, .ref lt, .int (zI mn), .ref wg, .int (zI ta), .long ck, .int (zI at9), .int (zI rfn), .ref rk, .ref rw, .ref rh, .int (zI cl), .ref sa, .ref fi, .int (zI bo), .ref ch, .ref cn, .int (zI ad), .int (zI ru), .ref kp, .int (zI dn), .ref rfa])), (rfa, .inl (c_rfa, 8, .inl f_rfa))] sz)) 0 0 (va_A [(h0, .inr (9, [.int (zI fa), .int (zI tc), .ref so, .ref sl, .ref ce, .int (zI fn), .ref kd, .ref wd, .ref hs, .ref pf, .ref lt, .int (zI mn), .ref wg, .int (zI ta), .long ck, .int (zI at9), .int (zI rfn), .ref rk, .ref rw, .ref rh, .int (zI cl), .ref sa, .ref fi, .int (zI bo), .ref ch, .ref cn, .int (zI ad), .int (zI ru), .ref kp, .int (zI dn), .ref rfa])), (rfa, .inl (c_rfa, 8, .inl f_rfa))] sz) := by
  refine Met.ofW (cc := cX9_reading) (maxL := 2) (ret := (some .int)) (by decide) rfl ?_
  intro p e s m args below meth c s₁ B hml hv
  obtain ⟨rfl, hsz, hP, hK, hD0, hN⟩ := hv
  have hx := B.exec
  have hb := B.bytes
  have hr := B.returns
  have hts := atoms_spec (ws := wsX9_reading) B.pre
  have hown : s.vm.findClass RX9 = some m.cls := findClass_of_methodNamed B.named
  have hlocks := B.notSynchronized
  subst hsz
  have hD := hD0.self (sz := s.heap.size)
  generalize hAe : va_A [(h0, .inr (9, [.int (zI fa), .int (zI tc), .ref so, .ref sl, .ref ce, .int (zI fn), .ref kd, .ref wd, .ref hs, .ref pf, .ref lt, .int (zI mn), .ref wg, .int (zI ta), .long ck, .int (zI at9), .int (zI rfn), .ref rk, .ref rw, .ref rh, .int (zI cl), .ref sa, .ref fi, .int (zI bo), .ref ch, .ref cn, .int (zI ad), .int (zI ru), .ref kp, .int (zI dn), .ref rfa])), (rfa, .inl (c_rfa, 8, .inl f_rfa))] s.heap.size = A at hD ⊢
  have hA : ∀ q : Nat, s.heap.size ≤ q → A q := fun q h => by rw [← hAe]; exact Or.inr h
  have hS : va_S A s.heap s.heap [] := va_S.rf
  have hP : va_P D vwCl [(h0, .inr (9, [.int (zI fa), .int (zI tc), .ref so, .ref sl, .ref ce, .int (zI fn), .ref kd, .ref wd, .ref hs, .ref pf, .ref lt, .int (zI mn), .ref wg, .int (zI ta), .long ck, .int (zI at9), .int (zI rfn), .ref rk, .ref rw, .ref rh, .int (zI cl), .ref sa, .ref fi, .int (zI bo), .ref ch, .ref cn, .int (zI ad), .int (zI ru), .ref kp, .int (zI dn), .ref rfa])), (rfa, .inl (c_rfa, 8, .inl f_rfa))] s.heap := hP
  have hl := lv_entry ([.ref h0, .int (zI x)]) (n := 2) (Nat.le_of_ble_eq_true rfl)
  rw [lg_entry_eq]
  generalize (lg_sl ([.ref h0, .int (zI x)]) ++ List.replicate (2 - (lg_sl ([.ref h0, .int (zI x)])).length) Slot.unset).toArray = ls at hl ⊢
  have hl : lv_has ls 2 [(0, .ref h0), (1, .int (zI x))] := hl
  refine lv_aload_n hx hb dX9_reading_0 rfl (lv_at hl 0 rfl) ?_
  refine va_get (D := D) (ci := 9) (v := .int (zI fn)) (C := RX9) (T := TX9) (N := 31) hx hb hts (fun _ h9 => List.mem_cons_of_mem _ (List.mem_append_right _ h9)) hown hK hP 0 rfl rfl 5 (by decide) (hts (.fieldLink RX9 74 "FontRunsModel" "fonts" "I") mw_X9_reading_0) (fun _ h9 => h9) rfl dX9_reading_1 ?_
  refine kz_if_ne (tgt := 10) hx hb dX9_reading_4 (by decide) (by omega) (fun c_1 => ?_) (fun c_1 => ?_)
  · refine lv_iload_n hx hb dX9_reading_10 rfl (lv_at hl 1 rfl) ?_
    refine lv_iconst (v := zI 0) hx hb dX9_reading_11 rfl ?_
    refine lv_sipush (v := zI 500) hx hb dX9_reading_12 (by decide) ?_
    refine k_callR (va_runS (As := [.int (zI x), .int (zI 0), .int (zI 500)]) (rest := []) ⟨hx, hb, hml, hown, hts⟩ (c_X9_within l D s.heap.size (v := x) (a := 0) (b := 500) q0 (by omega) (by omega)) (va_cwS 3 hts gX9_reading_X9_within rfl rfl rfl (by decide +kernel) ⟨Nat.le_of_ble_eq_true rfl, Nat.le_of_ble_eq_true rfl⟩) (kPreS hP (kD0 hD) hK hN [] [] ax_X9_reading_0 rfl (by decide +kernel)) rfl rfl hl.1 rfl (lv_room (Nat.le_of_ble_eq_true rfl)) dX9_reading_15 ⟨Nat.le_of_ble_eq_true rfl, Nat.le_of_ble_eq_true rfl⟩) ?_
    refine lv_if_ne (tgt := 24) hx hb dX9_reading_18 (by decide) (fun c_2 => ?_) (fun c_2 => ?_)
    · have c_2 : 0 ≤ x ∧ x ≤ 500 := b01t c_2
      refine lv_aload_n hx hb dX9_reading_24 rfl (lv_at hl 0 rfl) ?_
      refine va_get (D := D) (ci := 9) (v := .int (zI dn)) (C := RX9) (T := TX9) (N := 31) hx hb hts (fun _ h9 => List.mem_cons_of_mem _ (List.mem_append_right _ h9)) hown hK hP 0 rfl rfl 29 (by decide) (hts (.fieldLink RX9 104 "FontRunsModel" "readings" "I") mw_X9_reading_1) (fun _ h9 => h9) rfl dX9_reading_25 ?_
      refine lv_bipush (v := zI 8) hx hb dX9_reading_28 (by decide) ?_
      refine kz_icmp_ne (tgt := 36) hx hb dX9_reading_30 (by decide) (by omega) (by omega) (fun c_3 => ?_) (fun c_3 => ?_)
      · refine lv_aload_n hx hb dX9_reading_36 rfl (lv_at hl 0 rfl) ?_
        refine va_get (D := D) (ci := 9) (v := .ref rfa) (C := RX9) (T := TX9) (N := 31) hx hb hts (fun _ h9 => List.mem_cons_of_mem _ (List.mem_append_right _ h9)) hown hK hP 0 rfl rfl 30 (by decide) (hts (.fieldLink RX9 61 "FontRunsModel" "readFar" "[I") mw_X9_reading_2) (fun _ h9 => h9) rfl dX9_reading_37 ?_
        refine lv_aload_n hx hb dX9_reading_40 rfl (lv_at hl 0 rfl) ?_
        refine va_get (D := D) (ci := 9) (v := .int (zI dn)) (C := RX9) (T := TX9) (N := 31) hx hb hts (fun _ h9 => List.mem_cons_of_mem _ (List.mem_append_right _ h9)) hown hK hP 0 rfl rfl 29 (by decide) (hts (.fieldLink RX9 104 "FontRunsModel" "readings" "I") mw_X9_reading_1) (fun _ h9 => h9) rfl dX9_reading_41 ?_
        refine lv_iload_n hx hb dX9_reading_44 rfl (lv_at hl 1 rfl) ?_
        refine kz_iast hx hb hK hP hD hS 1 0 rfl rfl (by omega) dX9_reading_45 (fun H locs hP hD hS => ?_)
        have hP : va_P D vwCl [(h0, .inr (9, [.int (zI fa), .int (zI tc), .ref so, .ref sl, .ref ce, .int (zI fn), .ref kd, .ref wd, .ref hs, .ref pf, .ref lt, .int (zI mn), .ref wg, .int (zI ta), .long ck, .int (zI at9), .int (zI rfn), .ref rk, .ref rw, .ref rh, .int (zI cl), .ref sa, .ref fi, .int (zI bo), .ref ch, .ref cn, .int (zI ad), .int (zI ru), .ref kp, .int (zI dn), .ref rfa])), (rfa, .inl (c_rfa, 8, .inl (upd f_rfa (dn).toNat (zI x))))] H := hP
        have hD : va_D A [(h0, .inr (9, [.int (zI fa), .int (zI tc), .ref so, .ref sl, .ref ce, .int (zI fn), .ref kd, .ref wd, .ref hs, .ref pf, .ref lt, .int (zI mn), .ref wg, .int (zI ta), .long ck, .int (zI at9), .int (zI rfn), .ref rk, .ref rw, .ref rh, .int (zI cl), .ref sa, .ref fi, .int (zI bo), .ref ch, .ref cn, .int (zI ad), .int (zI ru), .ref kp, .int (zI dn), .ref rfa])), (rfa, .inl (c_rfa, 8, .inl (upd f_rfa (dn).toNat (zI x))))] := hD
        generalize ef_4 : upd f_rfa (dn).toNat (zI x) = f_4 at hP hD
        refine lv_aload_n hx hb dX9_reading_46 rfl (lv_at hl 0 rfl) ?_
        refine lv_dup hx hb dX9_reading_47 rfl ?_
        refine va_get (D := D) (ci := 9) (v := .int (zI dn)) (C := RX9) (T := TX9) (N := 31) hx hb hts (fun _ h9 => List.mem_cons_of_mem _ (List.mem_append_right _ h9)) hown hK hP 0 rfl rfl 29 (by decide) (hts (.fieldLink RX9 104 "FontRunsModel" "readings" "I") mw_X9_reading_1) (fun _ h9 => h9) rfl dX9_reading_48 ?_
        refine lv_iconst (v := zI 1) hx hb dX9_reading_51 rfl ?_
        refine kz_iadd hx hb dX9_reading_52 ?_
        refine va_put (D := D) (ci := 9) (v := .int (zI (dn + 1))) (ty := .int) (C := RX9) (T := TX9) (N := 31) hx hb hts (fun _ h9 => List.mem_cons_of_mem _ (List.mem_append_right _ h9)) tyX9 tyX9_ok nmX9 hown hK hP hD hS 0 rfl rfl 29 (by decide) (hts (.fieldLink RX9 104 "FontRunsModel" "readings" "I") mw_X9_reading_1) (fun _ h9 => h9) rfl (by decide +kernel) rfl rfl (Nat.le_of_ble_eq_true rfl) dX9_reading_53 (fun H locs hP hD hS => ?_)
        have hP : va_P D vwCl [(h0, .inr (9, [.int (zI fa), .int (zI tc), .ref so, .ref sl, .ref ce, .int (zI fn), .ref kd, .ref wd, .ref hs, .ref pf, .ref lt, .int (zI mn), .ref wg, .int (zI ta), .long ck, .int (zI at9), .int (zI rfn), .ref rk, .ref rw, .ref rh, .int (zI cl), .ref sa, .ref fi, .int (zI bo), .ref ch, .ref cn, .int (zI ad), .int (zI ru), .ref kp, .int (zI (dn + 1)), .ref rfa])), (rfa, .inl (c_rfa, 8, .inl f_4))] H := hP
        have hD : va_D A [(h0, .inr (9, [.int (zI fa), .int (zI tc), .ref so, .ref sl, .ref ce, .int (zI fn), .ref kd, .ref wd, .ref hs, .ref pf, .ref lt, .int (zI mn), .ref wg, .int (zI ta), .long ck, .int (zI at9), .int (zI rfn), .ref rk, .ref rw, .ref rh, .int (zI cl), .ref sa, .ref fi, .int (zI bo), .ref ch, .ref cn, .int (zI ad), .int (zI ru), .ref kp, .int (zI (dn + 1)), .ref rfa])), (rfa, .inl (c_rfa, 8, .inl f_4))] := hD
        refine lv_aload_n hx hb dX9_reading_56 rfl (lv_at hl 0 rfl) ?_
        refine va_get (D := D) (ci := 9) (v := .int (zI (dn + 1))) (C := RX9) (T := TX9) (N := 31) hx hb hts (fun _ h9 => List.mem_cons_of_mem _ (List.mem_append_right _ h9)) hown hK hP 0 rfl rfl 29 (by decide) (hts (.fieldLink RX9 104 "FontRunsModel" "readings" "I") mw_X9_reading_1) (fun _ h9 => h9) rfl dX9_reading_57 ?_
        refine lv_iconst (v := zI 1) hx hb dX9_reading_60 rfl ?_
        refine kz_isub hx hb dX9_reading_61 ?_
        have hP9 := hP.sub (ws' := [(h0, .inr (9, [.int (zI fa), .int (zI tc), .ref so, .ref sl, .ref ce, .int (zI fn), .ref kd, .ref wd, .ref hs, .ref pf, .ref lt, .int (zI mn), .ref wg, .int (zI ta), .long ck, .int (zI at9), .int (zI rfn), .ref rk, .ref rw, .ref rh, .int (zI cl), .ref sa, .ref fi, .int (zI bo), .ref ch, .ref cn, .int (zI ad), .int (zI ru), .ref kp, .int (zI (dn + 1)), .ref rfa])), (rfa, .inl (c_rfa, 8, .inl f_4))]) [0, 1] rfl
        have hD9 := hD.sub (ws' := [(h0, .inr (9, [.int (zI fa), .int (zI tc), .ref so, .ref sl, .ref ce, .int (zI fn), .ref kd, .ref wd, .ref hs, .ref pf, .ref lt, .int (zI mn), .ref wg, .int (zI ta), .long ck, .int (zI at9), .int (zI rfn), .ref rk, .ref rw, .ref rh, .int (zI cl), .ref sa, .ref fi, .int (zI bo), .ref ch, .ref cn, .int (zI ad), .int (zI ru), .ref kp, .int (zI (dn + 1)), .ref rfa])), (rfa, .inl (c_rfa, 8, .inl f_4))]) [0, 1] (by decide +kernel) rfl
        exact W.iret (v := (zI ((dn + 1) - 1))) hx hb hr (fun t ht hW => kQS_of (by omega) ⟨(dn + 1), f_4, (by omega), (by omega), by rw [ht]; exact hP9, hD9⟩ (hS.F ht)) hS.2.2 dX9_reading_62
      · refine lv_bipush (v := zI (-4)) hx hb dX9_reading_33 (by decide) ?_
        have hP9 := hP.sub (ws' := [(h0, .inr (9, [.int (zI fa), .int (zI tc), .ref so, .ref sl, .ref ce, .int (zI fn), .ref kd, .ref wd, .ref hs, .ref pf, .ref lt, .int (zI mn), .ref wg, .int (zI ta), .long ck, .int (zI at9), .int (zI rfn), .ref rk, .ref rw, .ref rh, .int (zI cl), .ref sa, .ref fi, .int (zI bo), .ref ch, .ref cn, .int (zI ad), .int (zI ru), .ref kp, .int (zI dn), .ref rfa])), (rfa, .inl (c_rfa, 8, .inl f_rfa))]) [0, 1] rfl
        have hD9 := hD.sub (ws' := [(h0, .inr (9, [.int (zI fa), .int (zI tc), .ref so, .ref sl, .ref ce, .int (zI fn), .ref kd, .ref wd, .ref hs, .ref pf, .ref lt, .int (zI mn), .ref wg, .int (zI ta), .long ck, .int (zI at9), .int (zI rfn), .ref rk, .ref rw, .ref rh, .int (zI cl), .ref sa, .ref fi, .int (zI bo), .ref ch, .ref cn, .int (zI ad), .int (zI ru), .ref kp, .int (zI dn), .ref rfa])), (rfa, .inl (c_rfa, 8, .inl f_rfa))]) [0, 1] (by decide +kernel) rfl
        exact W.iret (v := (zI (-4))) hx hb hr (fun t ht hW => kQS_of (by omega) ⟨dn, f_rfa, q2, (by omega), by rw [ht]; exact hP9, hD9⟩ (hS.F ht)) hS.2.2 dX9_reading_35
    · have c_2 : ¬ (0 ≤ x ∧ x ≤ 500) := b01f c_2
      refine lv_bipush (v := zI (-2)) hx hb dX9_reading_21 (by decide) ?_
      have hP9 := hP.sub (ws' := [(h0, .inr (9, [.int (zI fa), .int (zI tc), .ref so, .ref sl, .ref ce, .int (zI fn), .ref kd, .ref wd, .ref hs, .ref pf, .ref lt, .int (zI mn), .ref wg, .int (zI ta), .long ck, .int (zI at9), .int (zI rfn), .ref rk, .ref rw, .ref rh, .int (zI cl), .ref sa, .ref fi, .int (zI bo), .ref ch, .ref cn, .int (zI ad), .int (zI ru), .ref kp, .int (zI dn), .ref rfa])), (rfa, .inl (c_rfa, 8, .inl f_rfa))]) [0, 1] rfl
      have hD9 := hD.sub (ws' := [(h0, .inr (9, [.int (zI fa), .int (zI tc), .ref so, .ref sl, .ref ce, .int (zI fn), .ref kd, .ref wd, .ref hs, .ref pf, .ref lt, .int (zI mn), .ref wg, .int (zI ta), .long ck, .int (zI at9), .int (zI rfn), .ref rk, .ref rw, .ref rh, .int (zI cl), .ref sa, .ref fi, .int (zI bo), .ref ch, .ref cn, .int (zI ad), .int (zI ru), .ref kp, .int (zI dn), .ref rfa])), (rfa, .inl (c_rfa, 8, .inl f_rfa))]) [0, 1] (by decide +kernel) rfl
      exact W.iret (v := (zI (-2))) hx hb hr (fun t ht hW => kQS_of (by omega) ⟨dn, f_rfa, q2, (by omega), by rw [ht]; exact hP9, hD9⟩ (hS.F ht)) hS.2.2 dX9_reading_23
  · refine lv_bipush (v := zI (-3)) hx hb dX9_reading_7 (by decide) ?_
    have hP9 := hP.sub (ws' := [(h0, .inr (9, [.int (zI fa), .int (zI tc), .ref so, .ref sl, .ref ce, .int (zI fn), .ref kd, .ref wd, .ref hs, .ref pf, .ref lt, .int (zI mn), .ref wg, .int (zI ta), .long ck, .int (zI at9), .int (zI rfn), .ref rk, .ref rw, .ref rh, .int (zI cl), .ref sa, .ref fi, .int (zI bo), .ref ch, .ref cn, .int (zI ad), .int (zI ru), .ref kp, .int (zI dn), .ref rfa])), (rfa, .inl (c_rfa, 8, .inl f_rfa))]) [0, 1] rfl
    have hD9 := hD.sub (ws' := [(h0, .inr (9, [.int (zI fa), .int (zI tc), .ref so, .ref sl, .ref ce, .int (zI fn), .ref kd, .ref wd, .ref hs, .ref pf, .ref lt, .int (zI mn), .ref wg, .int (zI ta), .long ck, .int (zI at9), .int (zI rfn), .ref rk, .ref rw, .ref rh, .int (zI cl), .ref sa, .ref fi, .int (zI bo), .ref ch, .ref cn, .int (zI ad), .int (zI ru), .ref kp, .int (zI dn), .ref rfa])), (rfa, .inl (c_rfa, 8, .inl f_rfa))]) [0, 1] (by decide +kernel) rfl
    exact W.iret (v := (zI (-3))) hx hb hr (fun t ht hW => kQS_of (by omega) ⟨dn, f_rfa, q2, (by omega), by rw [ht]; exact hP9, hD9⟩ (hS.F ht)) hS.2.2 dX9_reading_9
theorem dX9_back_0 : decode cX9_back 0 = .ok (.iload_n 1, 1) := kqo_1b kbl_X9_back (pc := 0) rfl
theorem dX9_back_1 : decode cX9_back 1 = .ok (.iconst 0, 1) := kqo_03 kbl_X9_back (pc := 1) rfl
theorem dX9_back_2 : decode cX9_back 2 = .ok (.aload_n 0, 1) := kqo_2a kbl_X9_back (pc := 2) rfl
theorem dX9_back_3 : decode cX9_back 3 = .ok (.getfield 104, 3) := kqo_b4 (x1 := 0) (x2 := 104) kbl_X9_back (pc := 3) rfl rfl
theorem dX9_back_6 : decode cX9_back 6 = .ok (.invokestatic 70, 3) := kqo_b8 (x1 := 0) (x2 := 70) kbl_X9_back (pc := 6) rfl rfl
theorem dX9_back_9 : decode cX9_back 9 = .ok (.ifCond .ne 6, 3) := kqo_9a (x1 := 0) (x2 := 6) kbl_X9_back (pc := 9) rfl rfl
theorem dX9_back_12 : decode cX9_back 12 = .ok (.bipush (-2), 2) := kqo_10 (x1 := 254) kbl_X9_back (pc := 12) rfl rfl
theorem dX9_back_14 : decode cX9_back 14 = .ok (.ireturn, 1) := kqo_ac kbl_X9_back (pc := 14) rfl
theorem dX9_back_15 : decode cX9_back 15 = .ok (.aload_n 0, 1) := kqo_2a kbl_X9_back (pc := 15) rfl
theorem dX9_back_16 : decode cX9_back 16 = .ok (.dup, 1) := kqo_59 kbl_X9_back (pc := 16) rfl
theorem dX9_back_17 : decode cX9_back 17 = .ok (.getfield 104, 3) := kqo_b4 (x1 := 0) (x2 := 104) kbl_X9_back (pc := 17) rfl rfl
theorem dX9_back_20 : decode cX9_back 20 = .ok (.iload_n 1, 1) := kqo_1b kbl_X9_back (pc := 20) rfl
theorem dX9_back_21 : decode cX9_back 21 = .ok (.isub, 1) := kqo_64 kbl_X9_back (pc := 21) rfl
theorem dX9_back_22 : decode cX9_back 22 = .ok (.putfield 104, 3) := kqo_b5 (x1 := 0) (x2 := 104) kbl_X9_back (pc := 22) rfl rfl
theorem dX9_back_25 : decode cX9_back 25 = .ok (.aload_n 0, 1) := kqo_2a kbl_X9_back (pc := 25) rfl
theorem dX9_back_26 : decode cX9_back 26 = .ok (.getfield 104, 3) := kqo_b4 (x1 := 0) (x2 := 104) kbl_X9_back (pc := 26) rfl rfl
theorem dX9_back_29 : decode cX9_back 29 = .ok (.ireturn, 1) := kqo_ac kbl_X9_back (pc := 29) rfl
set_option maxRecDepth 20000 in
theorem ggX9_back_X9_within : GoodIn wsX9_back wsX9_within := goodIn_4 _ (List.forall_mem_cons.mpr ⟨List.mem_cons_of_mem _ (List.mem_append_left _ (List.mem_of_getElem? (i := 4) rfl)), fun _ h9 => absurd h9 List.not_mem_nil⟩) (by decide +kernel)
set_option maxRecDepth 20000 in
theorem gX9_back_X9_within : GoodIn wsX9_back (va_wsS RX9 70 yX9_within wsX9_within) := goodIn_app (goodIn_4 _ (List.forall_mem_cons.mpr ⟨List.mem_cons_of_mem _ (List.mem_append_left _ (List.mem_of_getElem? (i := 1) rfl)), List.forall_mem_cons.mpr ⟨List.mem_cons_of_mem _ (List.mem_append_left _ (List.mem_of_getElem? (i := 2) rfl)), List.forall_mem_cons.mpr ⟨List.mem_cons_of_mem _ (List.mem_append_left _ (List.mem_of_getElem? (i := 3) rfl)), fun _ h9 => absurd h9 List.not_mem_nil⟩⟩⟩) (by decide +kernel)) ggX9_back_X9_within
set_option maxRecDepth 20000 in
theorem mw_X9_back_0 : (.fieldLink RX9 104 "FontRunsModel" "readings" "I" : Cond) ∈ wsX9_back := List.mem_cons_of_mem _ (List.mem_append_left _ (List.mem_of_getElem? (i := 0) rfl))
theorem ax_X9_back_0 {e0 : Nat × va_E} : ([] : List Nat).map (fun i => ([e0] : va_W)[i]?) = ([] : va_W).map some := rfl
theorem ax_X9_back_1 {e0 : Nat × va_E} : ([0] : List Nat).map (fun i => ([e0] : va_W)[i]?) = ([e0] : va_W).map some := rfl
set_option maxHeartbeats 4000000 in
set_option maxRecDepth 100000 in
theorem c_X9_back (l : Launch) (D : va_G) (sz : Nat) (x : Int) (h0 : Nat) (fa : Int) (tc : Int) (so : Nat) (sl : Nat) (ce : Nat) (fn : Int) (kd : Nat) (wd : Nat) (hs : Nat) (pf : Nat) (lt : Nat) (mn : Int) (wg : Nat) (ta : Int) (ck : Int64) (at9 : Int) (rfn : Int) (rk : Nat) (rw : Nat) (rh : Nat) (cl : Int) (sa : Nat) (fi : Nat) (bo : Int) (ch : Nat) (cn : Nat) (ad : Int) (ru : Int) (kp : Nat) (dn : Int) (rfa : Nat) (q0 : rg x) (q1 : 0 ≤ dn ∧ dn ≤ 8) : Met l yX9_back wsX9_back ({ frames := 1, cells := 0, slots := 0, locals := 22 }) (kPre [.ref h0, .int (zI x)] D [(h0, .inr (9, [.int (zI fa), .int (zI tc), .ref so, .ref sl, .ref ce, .int (zI fn), .ref kd, .ref wd, .ref hs, .ref pf, .ref lt, .int (zI mn), .ref wg, .int (zI ta), .long ck, .int (zI at9), .int (zI rfn), .ref rk, .ref rw, .ref rh, .int (zI cl), .ref sa, .ref fi, .int (zI bo), .ref ch, .ref cn, .int (zI ad), .int (zI ru), .ref kp, .int (zI dn), .ref rfa]))] [] sz) (kQS (fun rz t => ∃ (u_dn : Int), (0 ≤ u_dn ∧ u_dn ≤ 8) ∧ (((0 ≤ x ∧ x ≤ dn) ∧ rz = dn - x ∧ u_dn = dn - x) ∨ (¬ (0 ≤ x ∧ x ≤ dn) ∧ rz = -2 ∧ u_dn = dn)) ∧ va_P D vwCl [(h0, .inr (9, [.int (zI fa), .int (zI tc), .ref so, .ref sl, .ref ce, .int (zI fn), .ref kd, .ref wd, .ref hs, .ref pf, .ref lt, .int (zI mn), .ref wg, .int (zI ta), .long ck, .int (zI at9), .int (zI rfn), .ref rk, .ref rw, .ref rh, .int (zI cl), .ref sa, .ref fi, .int (zI bo), .ref ch, .ref cn, .int (zI ad), .int (zI ru), .ref kp, .int (zI u_dn), .ref rfa]))] t.heap ∧ va_D (va_A [(h0, .inr (9, [.int (zI fa), .int (zI tc), .ref so, .ref sl, .ref ce, .int (zI fn), .ref kd, .ref wd, .ref hs, .ref pf, .ref lt, .int (zI mn), .ref wg, .int (zI ta), .long ck, .int (zI at9), .int (zI rfn), .ref rk, .ref rw, .ref rh, .int (zI cl), .ref sa, .ref fi, .int (zI bo), .ref ch, .ref cn, .int (zI ad), .int (zI ru), .ref kp, .int (zI dn), .ref rfa]))] sz) [(h0, .inr (9, [.int (zI fa), .int (zI tc), .ref so, .ref sl, .ref ce, .int (zI fn), .ref kd, .ref wd, .ref hs, .ref pf, .ref lt, .int (zI mn), .ref wg, .int (zI ta), .long ck, .int (zI at9), .int (zI rfn), .ref rk, .ref rw, .ref rh, .int (zI cl), .ref sa, .ref fi, .int (zI bo), .ref ch, .ref cn, .int (zI ad), .int (zI ru), .ref kp, .int (zI u_dn), .ref rfa]))]) (va_A [(h0, .inr (9, [.int (zI fa), .int (zI tc), .ref so, .ref sl, .ref ce, .int (zI fn), .ref kd, .ref wd, .ref hs, .ref pf, .ref lt, .int (zI mn), .ref wg, .int (zI ta), .long ck, .int (zI at9), .int (zI rfn), .ref rk, .ref rw, .ref rh, .int (zI cl), .ref sa, .ref fi, .int (zI bo), .ref ch, .ref cn, .int (zI ad), .int (zI ru), .ref kp, .int (zI dn), .ref rfa]))] sz)) 0 0 (va_A [(h0, .inr (9, [.int (zI fa), .int (zI tc), .ref so, .ref sl, .ref ce, .int (zI fn), .ref kd, .ref wd, .ref hs, .ref pf, .ref lt, .int (zI mn), .ref wg, .int (zI ta), .long ck, .int (zI at9), .int (zI rfn), .ref rk, .ref rw, .ref rh, .int (zI cl), .ref sa, .ref fi, .int (zI bo), .ref ch, .ref cn, .int (zI ad), .int (zI ru), .ref kp, .int (zI dn), .ref rfa]))] sz) := by
  refine Met.ofW (cc := cX9_back) (maxL := 2) (ret := (some .int)) (by decide) rfl ?_
  intro p e s m args below meth c s₁ B hml hv
  obtain ⟨rfl, hsz, hP, hK, hD0, hN⟩ := hv
  have hx := B.exec
  have hb := B.bytes
  have hr := B.returns
  have hts := atoms_spec (ws := wsX9_back) B.pre
  have hown : s.vm.findClass RX9 = some m.cls := findClass_of_methodNamed B.named
  have hlocks := B.notSynchronized
  subst hsz
  have hD := hD0.self (sz := s.heap.size)
  generalize hAe : va_A [(h0, .inr (9, [.int (zI fa), .int (zI tc), .ref so, .ref sl, .ref ce, .int (zI fn), .ref kd, .ref wd, .ref hs, .ref pf, .ref lt, .int (zI mn), .ref wg, .int (zI ta), .long ck, .int (zI at9), .int (zI rfn), .ref rk, .ref rw, .ref rh, .int (zI cl), .ref sa, .ref fi, .int (zI bo), .ref ch, .ref cn, .int (zI ad), .int (zI ru), .ref kp, .int (zI dn), .ref rfa]))] s.heap.size = A at hD ⊢
  have hA : ∀ q : Nat, s.heap.size ≤ q → A q := fun q h => by rw [← hAe]; exact Or.inr h
  have hS : va_S A s.heap s.heap [] := va_S.rf
  have hP : va_P D vwCl [(h0, .inr (9, [.int (zI fa), .int (zI tc), .ref so, .ref sl, .ref ce, .int (zI fn), .ref kd, .ref wd, .ref hs, .ref pf, .ref lt, .int (zI mn), .ref wg, .int (zI ta), .long ck, .int (zI at9), .int (zI rfn), .ref rk, .ref rw, .ref rh, .int (zI cl), .ref sa, .ref fi, .int (zI bo), .ref ch, .ref cn, .int (zI ad), .int (zI ru), .ref kp, .int (zI dn), .ref rfa]))] s.heap := hP
  have hl := lv_entry ([.ref h0, .int (zI x)]) (n := 2) (Nat.le_of_ble_eq_true rfl)
  rw [lg_entry_eq]
  generalize (lg_sl ([.ref h0, .int (zI x)]) ++ List.replicate (2 - (lg_sl ([.ref h0, .int (zI x)])).length) Slot.unset).toArray = ls at hl ⊢
  have hl : lv_has ls 2 [(0, .ref h0), (1, .int (zI x))] := hl
  refine lv_iload_n hx hb dX9_back_0 rfl (lv_at hl 1 rfl) ?_
  refine lv_iconst (v := zI 0) hx hb dX9_back_1 rfl ?_
  refine lv_aload_n hx hb dX9_back_2 rfl (lv_at hl 0 rfl) ?_
  refine va_get (D := D) (ci := 9) (v := .int (zI dn)) (C := RX9) (T := TX9) (N := 31) hx hb hts (fun _ h9 => List.mem_cons_of_mem _ (List.mem_append_right _ h9)) hown hK hP 0 rfl rfl 29 (by decide) (hts (.fieldLink RX9 104 "FontRunsModel" "readings" "I") mw_X9_back_0) (fun _ h9 => h9) rfl dX9_back_3 ?_
  refine k_callR (va_runS (As := [.int (zI x), .int (zI 0), .int (zI dn)]) (rest := []) ⟨hx, hb, hml, hown, hts⟩ (c_X9_within l D s.heap.size (v := x) (a := 0) (b := dn) q0 (by omega) (by omega)) (va_cwS 3 hts gX9_back_X9_within rfl rfl rfl (by decide +kernel) ⟨Nat.le_of_ble_eq_true rfl, Nat.le_of_ble_eq_true rfl⟩) (kPreS hP (kD0 hD) hK hN [] [] ax_X9_back_0 rfl (by decide +kernel)) rfl rfl hl.1 rfl (lv_room (Nat.le_of_ble_eq_true rfl)) dX9_back_6 ⟨Nat.le_of_ble_eq_true rfl, Nat.le_of_ble_eq_true rfl⟩) ?_
  refine lv_if_ne (tgt := 15) hx hb dX9_back_9 (by decide) (fun c_1 => ?_) (fun c_1 => ?_)
  · have c_1 : 0 ≤ x ∧ x ≤ dn := b01t c_1
    refine lv_aload_n hx hb dX9_back_15 rfl (lv_at hl 0 rfl) ?_
    refine lv_dup hx hb dX9_back_16 rfl ?_
    refine va_get (D := D) (ci := 9) (v := .int (zI dn)) (C := RX9) (T := TX9) (N := 31) hx hb hts (fun _ h9 => List.mem_cons_of_mem _ (List.mem_append_right _ h9)) hown hK hP 0 rfl rfl 29 (by decide) (hts (.fieldLink RX9 104 "FontRunsModel" "readings" "I") mw_X9_back_0) (fun _ h9 => h9) rfl dX9_back_17 ?_
    refine lv_iload_n hx hb dX9_back_20 rfl (lv_at hl 1 rfl) ?_
    refine kz_isub hx hb dX9_back_21 ?_
    refine va_put (D := D) (ci := 9) (v := .int (zI (dn - x))) (ty := .int) (C := RX9) (T := TX9) (N := 31) hx hb hts (fun _ h9 => List.mem_cons_of_mem _ (List.mem_append_right _ h9)) tyX9 tyX9_ok nmX9 hown hK hP hD hS 0 rfl rfl 29 (by decide) (hts (.fieldLink RX9 104 "FontRunsModel" "readings" "I") mw_X9_back_0) (fun _ h9 => h9) rfl (by decide +kernel) rfl rfl (Nat.le_of_ble_eq_true rfl) dX9_back_22 (fun H locs hP hD hS => ?_)
    have hP : va_P D vwCl [(h0, .inr (9, [.int (zI fa), .int (zI tc), .ref so, .ref sl, .ref ce, .int (zI fn), .ref kd, .ref wd, .ref hs, .ref pf, .ref lt, .int (zI mn), .ref wg, .int (zI ta), .long ck, .int (zI at9), .int (zI rfn), .ref rk, .ref rw, .ref rh, .int (zI cl), .ref sa, .ref fi, .int (zI bo), .ref ch, .ref cn, .int (zI ad), .int (zI ru), .ref kp, .int (zI (dn - x)), .ref rfa]))] H := hP
    have hD : va_D A [(h0, .inr (9, [.int (zI fa), .int (zI tc), .ref so, .ref sl, .ref ce, .int (zI fn), .ref kd, .ref wd, .ref hs, .ref pf, .ref lt, .int (zI mn), .ref wg, .int (zI ta), .long ck, .int (zI at9), .int (zI rfn), .ref rk, .ref rw, .ref rh, .int (zI cl), .ref sa, .ref fi, .int (zI bo), .ref ch, .ref cn, .int (zI ad), .int (zI ru), .ref kp, .int (zI (dn - x)), .ref rfa]))] := hD
    refine lv_aload_n hx hb dX9_back_25 rfl (lv_at hl 0 rfl) ?_
    refine va_get (D := D) (ci := 9) (v := .int (zI (dn - x))) (C := RX9) (T := TX9) (N := 31) hx hb hts (fun _ h9 => List.mem_cons_of_mem _ (List.mem_append_right _ h9)) hown hK hP 0 rfl rfl 29 (by decide) (hts (.fieldLink RX9 104 "FontRunsModel" "readings" "I") mw_X9_back_0) (fun _ h9 => h9) rfl dX9_back_26 ?_
    have hP9 := hP.sub (ws' := [(h0, .inr (9, [.int (zI fa), .int (zI tc), .ref so, .ref sl, .ref ce, .int (zI fn), .ref kd, .ref wd, .ref hs, .ref pf, .ref lt, .int (zI mn), .ref wg, .int (zI ta), .long ck, .int (zI at9), .int (zI rfn), .ref rk, .ref rw, .ref rh, .int (zI cl), .ref sa, .ref fi, .int (zI bo), .ref ch, .ref cn, .int (zI ad), .int (zI ru), .ref kp, .int (zI (dn - x)), .ref rfa]))]) [0] rfl
    have hD9 := hD.sub (ws' := [(h0, .inr (9, [.int (zI fa), .int (zI tc), .ref so, .ref sl, .ref ce, .int (zI fn), .ref kd, .ref wd, .ref hs, .ref pf, .ref lt, .int (zI mn), .ref wg, .int (zI ta), .long ck, .int (zI at9), .int (zI rfn), .ref rk, .ref rw, .ref rh, .int (zI cl), .ref sa, .ref fi, .int (zI bo), .ref ch, .ref cn, .int (zI ad), .int (zI ru), .ref kp, .int (zI (dn - x)), .ref rfa]))]) [0] (by decide +kernel) rfl
    exact W.iret (v := (zI (dn - x))) hx hb hr (fun t ht hW => kQS_of (by omega) ⟨(dn - x), (by omega), (by omega), by rw [ht]; exact hP9, hD9⟩ (hS.F ht)) hS.2.2 dX9_back_29
  · have c_1 : ¬ (0 ≤ x ∧ x ≤ dn) := b01f c_1
    refine lv_bipush (v := zI (-2)) hx hb dX9_back_12 (by decide) ?_
    have hP9 := hP.sub (ws' := [(h0, .inr (9, [.int (zI fa), .int (zI tc), .ref so, .ref sl, .ref ce, .int (zI fn), .ref kd, .ref wd, .ref hs, .ref pf, .ref lt, .int (zI mn), .ref wg, .int (zI ta), .long ck, .int (zI at9), .int (zI rfn), .ref rk, .ref rw, .ref rh, .int (zI cl), .ref sa, .ref fi, .int (zI bo), .ref ch, .ref cn, .int (zI ad), .int (zI ru), .ref kp, .int (zI dn), .ref rfa]))]) [0] rfl
    have hD9 := hD.sub (ws' := [(h0, .inr (9, [.int (zI fa), .int (zI tc), .ref so, .ref sl, .ref ce, .int (zI fn), .ref kd, .ref wd, .ref hs, .ref pf, .ref lt, .int (zI mn), .ref wg, .int (zI ta), .long ck, .int (zI at9), .int (zI rfn), .ref rk, .ref rw, .ref rh, .int (zI cl), .ref sa, .ref fi, .int (zI bo), .ref ch, .ref cn, .int (zI ad), .int (zI ru), .ref kp, .int (zI dn), .ref rfa]))]) [0] (by decide +kernel) rfl
    exact W.iret (v := (zI (-2))) hx hb hr (fun t ht hW => kQS_of (by omega) ⟨dn, q1, (by omega), by rw [ht]; exact hP9, hD9⟩ (hS.F ht)) hS.2.2 dX9_back_14
theorem dX9_begins_0 : decode cX9_begins 0 = .ok (.aload_n 0, 1) := kqo_2a kbl_X9_begins (pc := 0) rfl
theorem dX9_begins_1 : decode cX9_begins 1 = .ok (.bipush 31, 2) := kqo_10 (x1 := 31) kbl_X9_begins (pc := 1) rfl rfl
theorem dX9_begins_3 : decode cX9_begins 3 = .ok (.aload_n 0, 1) := kqo_2a kbl_X9_begins (pc := 3) rfl
theorem dX9_begins_4 : decode cX9_begins 4 = .ok (.getfield 210, 3) := kqo_b4 (x1 := 0) (x2 := 210) kbl_X9_begins (pc := 4) rfl rfl
theorem dX9_begins_7 : decode cX9_begins 7 = .ok (.imul, 1) := kqo_68 kbl_X9_begins (pc := 7) rfl
theorem dX9_begins_8 : decode cX9_begins 8 = .ok (.iload_n 1, 1) := kqo_1b kbl_X9_begins (pc := 8) rfl
theorem dX9_begins_9 : decode cX9_begins 9 = .ok (.iadd, 1) := kqo_60 kbl_X9_begins (pc := 9) rfl
theorem dX9_begins_10 : decode cX9_begins 10 = .ok (.putfield 210, 3) := kqo_b5 (x1 := 0) (x2 := 210) kbl_X9_begins (pc := 10) rfl rfl
theorem dX9_begins_13 : decode cX9_begins 13 = .ok (.return_, 1) := kqo_b1 kbl_X9_begins (pc := 13) rfl
set_option maxRecDepth 20000 in
theorem mw_X9_begins_0 : (.fieldLink RX9 210 "FontRunsModel" "trace" "I" : Cond) ∈ wsX9_begins := List.mem_cons_of_mem _ (List.mem_append_left _ (List.mem_of_getElem? (i := 0) rfl))
theorem ax_X9_begins_0 {e0 : Nat × va_E} : ([0] : List Nat).map (fun i => ([e0] : va_W)[i]?) = ([e0] : va_W).map some := rfl
set_option maxHeartbeats 4000000 in
set_option maxRecDepth 100000 in
theorem c_X9_begins (l : Launch) (D : va_G) (sz : Nat) (x : Int) (h0 : Nat) (fa : Int) (tc : Int) (so : Nat) (sl : Nat) (ce : Nat) (fn : Int) (kd : Nat) (wd : Nat) (hs : Nat) (pf : Nat) (lt : Nat) (mn : Int) (wg : Nat) (ta : Int) (ck : Int64) (at9 : Int) (rfn : Int) (rk : Nat) (rw : Nat) (rh : Nat) (cl : Int) (sa : Nat) (fi : Nat) (bo : Int) (ch : Nat) (cn : Nat) (ad : Int) (ru : Int) (kp : Nat) (dn : Int) (rfa : Nat) (q0 : 0 ≤ x ∧ x ≤ 5) (q1 : rg tc) : Met l yX9_begins wsX9_begins ({ frames := 0, cells := 0, slots := 0, locals := 0 }) (kPre [.ref h0, .int (zI x)] D [(h0, .inr (9, [.int (zI fa), .int (zI tc), .ref so, .ref sl, .ref ce, .int (zI fn), .ref kd, .ref wd, .ref hs, .ref pf, .ref lt, .int (zI mn), .ref wg, .int (zI ta), .long ck, .int (zI at9), .int (zI rfn), .ref rk, .ref rw, .ref rh, .int (zI cl), .ref sa, .ref fi, .int (zI bo), .ref ch, .ref cn, .int (zI ad), .int (zI ru), .ref kp, .int (zI dn), .ref rfa]))] [] sz) (kQV (fun t => ∃ (u_tc : Int), (rg u_tc) ∧ (zI u_tc = kLv (zI tc) (zI x)) ∧ va_P D vwCl [(h0, .inr (9, [.int (zI fa), .int (zI u_tc), .ref so, .ref sl, .ref ce, .int (zI fn), .ref kd, .ref wd, .ref hs, .ref pf, .ref lt, .int (zI mn), .ref wg, .int (zI ta), .long ck, .int (zI at9), .int (zI rfn), .ref rk, .ref rw, .ref rh, .int (zI cl), .ref sa, .ref fi, .int (zI bo), .ref ch, .ref cn, .int (zI ad), .int (zI ru), .ref kp, .int (zI dn), .ref rfa]))] t.heap ∧ va_D (va_A [(h0, .inr (9, [.int (zI fa), .int (zI tc), .ref so, .ref sl, .ref ce, .int (zI fn), .ref kd, .ref wd, .ref hs, .ref pf, .ref lt, .int (zI mn), .ref wg, .int (zI ta), .long ck, .int (zI at9), .int (zI rfn), .ref rk, .ref rw, .ref rh, .int (zI cl), .ref sa, .ref fi, .int (zI bo), .ref ch, .ref cn, .int (zI ad), .int (zI ru), .ref kp, .int (zI dn), .ref rfa]))] sz) [(h0, .inr (9, [.int (zI fa), .int (zI u_tc), .ref so, .ref sl, .ref ce, .int (zI fn), .ref kd, .ref wd, .ref hs, .ref pf, .ref lt, .int (zI mn), .ref wg, .int (zI ta), .long ck, .int (zI at9), .int (zI rfn), .ref rk, .ref rw, .ref rh, .int (zI cl), .ref sa, .ref fi, .int (zI bo), .ref ch, .ref cn, .int (zI ad), .int (zI ru), .ref kp, .int (zI dn), .ref rfa]))]) (va_A [(h0, .inr (9, [.int (zI fa), .int (zI tc), .ref so, .ref sl, .ref ce, .int (zI fn), .ref kd, .ref wd, .ref hs, .ref pf, .ref lt, .int (zI mn), .ref wg, .int (zI ta), .long ck, .int (zI at9), .int (zI rfn), .ref rk, .ref rw, .ref rh, .int (zI cl), .ref sa, .ref fi, .int (zI bo), .ref ch, .ref cn, .int (zI ad), .int (zI ru), .ref kp, .int (zI dn), .ref rfa]))] sz)) 0 0 (va_A [(h0, .inr (9, [.int (zI fa), .int (zI tc), .ref so, .ref sl, .ref ce, .int (zI fn), .ref kd, .ref wd, .ref hs, .ref pf, .ref lt, .int (zI mn), .ref wg, .int (zI ta), .long ck, .int (zI at9), .int (zI rfn), .ref rk, .ref rw, .ref rh, .int (zI cl), .ref sa, .ref fi, .int (zI bo), .ref ch, .ref cn, .int (zI ad), .int (zI ru), .ref kp, .int (zI dn), .ref rfa]))] sz) := by
  refine Met.ofW (cc := cX9_begins) (maxL := 2) (ret := none) (by decide) rfl ?_
  intro p e s m args below meth c s₁ B hml hv
  obtain ⟨rfl, hsz, hP, hK, hD0, hN⟩ := hv
  have hx := B.exec
  have hb := B.bytes
  have hr := B.returns
  have hts := atoms_spec (ws := wsX9_begins) B.pre
  have hown : s.vm.findClass RX9 = some m.cls := findClass_of_methodNamed B.named
  have hlocks := B.notSynchronized
  subst hsz
  have hD := hD0.self (sz := s.heap.size)
  generalize hAe : va_A [(h0, .inr (9, [.int (zI fa), .int (zI tc), .ref so, .ref sl, .ref ce, .int (zI fn), .ref kd, .ref wd, .ref hs, .ref pf, .ref lt, .int (zI mn), .ref wg, .int (zI ta), .long ck, .int (zI at9), .int (zI rfn), .ref rk, .ref rw, .ref rh, .int (zI cl), .ref sa, .ref fi, .int (zI bo), .ref ch, .ref cn, .int (zI ad), .int (zI ru), .ref kp, .int (zI dn), .ref rfa]))] s.heap.size = A at hD ⊢
  have hA : ∀ q : Nat, s.heap.size ≤ q → A q := fun q h => by rw [← hAe]; exact Or.inr h
  have hS : va_S A s.heap s.heap [] := va_S.rf
  have hP : va_P D vwCl [(h0, .inr (9, [.int (zI fa), .int (zI tc), .ref so, .ref sl, .ref ce, .int (zI fn), .ref kd, .ref wd, .ref hs, .ref pf, .ref lt, .int (zI mn), .ref wg, .int (zI ta), .long ck, .int (zI at9), .int (zI rfn), .ref rk, .ref rw, .ref rh, .int (zI cl), .ref sa, .ref fi, .int (zI bo), .ref ch, .ref cn, .int (zI ad), .int (zI ru), .ref kp, .int (zI dn), .ref rfa]))] s.heap := hP
  have hl := lv_entry ([.ref h0, .int (zI x)]) (n := 2) (Nat.le_of_ble_eq_true rfl)
  rw [lg_entry_eq]
  generalize (lg_sl ([.ref h0, .int (zI x)]) ++ List.replicate (2 - (lg_sl ([.ref h0, .int (zI x)])).length) Slot.unset).toArray = ls at hl ⊢
  have hl : lv_has ls 2 [(0, .ref h0), (1, .int (zI x))] := hl
  refine lv_aload_n hx hb dX9_begins_0 rfl (lv_at hl 0 rfl) ?_
  refine lv_bipush (v := zI 31) hx hb dX9_begins_1 (by decide) ?_
  refine lv_aload_n hx hb dX9_begins_3 rfl (lv_at hl 0 rfl) ?_
  refine va_get (D := D) (ci := 9) (v := .int (zI tc)) (C := RX9) (T := TX9) (N := 31) hx hb hts (fun _ h9 => List.mem_cons_of_mem _ (List.mem_append_right _ h9)) hown hK hP 0 rfl rfl 1 (by decide) (hts (.fieldLink RX9 210 "FontRunsModel" "trace" "I") mw_X9_begins_0) (fun _ h9 => h9) rfl dX9_begins_4 ?_
  refine kz_imul hx hb dX9_begins_7 ?_
  refine lv_iload_n hx hb dX9_begins_8 rfl (lv_at hl 1 rfl) ?_
  refine kz_iadd hx hb dX9_begins_9 ?_
  refine kz_any (fun z_1 rz_1 ez_1 => ?_)
  refine va_put (D := D) (ci := 9) (v := .int (zI z_1)) (ty := .int) (C := RX9) (T := TX9) (N := 31) hx hb hts (fun _ h9 => List.mem_cons_of_mem _ (List.mem_append_right _ h9)) tyX9 tyX9_ok nmX9 hown hK hP hD hS 0 rfl rfl 1 (by decide) (hts (.fieldLink RX9 210 "FontRunsModel" "trace" "I") mw_X9_begins_0) (fun _ h9 => h9) rfl (by decide +kernel) rfl rfl (Nat.le_of_ble_eq_true rfl) dX9_begins_10 (fun H locs hP hD hS => ?_)
  have hP : va_P D vwCl [(h0, .inr (9, [.int (zI fa), .int (zI z_1), .ref so, .ref sl, .ref ce, .int (zI fn), .ref kd, .ref wd, .ref hs, .ref pf, .ref lt, .int (zI mn), .ref wg, .int (zI ta), .long ck, .int (zI at9), .int (zI rfn), .ref rk, .ref rw, .ref rh, .int (zI cl), .ref sa, .ref fi, .int (zI bo), .ref ch, .ref cn, .int (zI ad), .int (zI ru), .ref kp, .int (zI dn), .ref rfa]))] H := hP
  have hD : va_D A [(h0, .inr (9, [.int (zI fa), .int (zI z_1), .ref so, .ref sl, .ref ce, .int (zI fn), .ref kd, .ref wd, .ref hs, .ref pf, .ref lt, .int (zI mn), .ref wg, .int (zI ta), .long ck, .int (zI at9), .int (zI rfn), .ref rk, .ref rw, .ref rh, .int (zI cl), .ref sa, .ref fi, .int (zI bo), .ref ch, .ref cn, .int (zI ad), .int (zI ru), .ref kp, .int (zI dn), .ref rfa]))] := hD
  have hP9 := hP.sub (ws' := [(h0, .inr (9, [.int (zI fa), .int (zI z_1), .ref so, .ref sl, .ref ce, .int (zI fn), .ref kd, .ref wd, .ref hs, .ref pf, .ref lt, .int (zI mn), .ref wg, .int (zI ta), .long ck, .int (zI at9), .int (zI rfn), .ref rk, .ref rw, .ref rh, .int (zI cl), .ref sa, .ref fi, .int (zI bo), .ref ch, .ref cn, .int (zI ad), .int (zI ru), .ref kp, .int (zI dn), .ref rfa]))]) [0] rfl
  have hD9 := hD.sub (ws' := [(h0, .inr (9, [.int (zI fa), .int (zI z_1), .ref so, .ref sl, .ref ce, .int (zI fn), .ref kd, .ref wd, .ref hs, .ref pf, .ref lt, .int (zI mn), .ref wg, .int (zI ta), .long ck, .int (zI at9), .int (zI rfn), .ref rk, .ref rw, .ref rh, .int (zI cl), .ref sa, .ref fi, .int (zI bo), .ref ch, .ref cn, .int (zI ad), .int (zI ru), .ref kp, .int (zI dn), .ref rfa]))]) [0] (by decide +kernel) rfl
  exact W.vret hx hb hr (fun t ht hW => kQV_of ⟨z_1, (by omega), (kLv_of ez_1), by rw [ht]; exact hP9, hD9⟩ (hS.F ht)) hS.2.2 dX9_begins_13
theorem dX9_tell_0 : decode cX9_tell 0 = .ok (.aload_n 0, 1) := kqo_2a kbl_X9_tell (pc := 0) rfl
theorem dX9_tell_1 : decode cX9_tell 1 = .ok (.iload_n 1, 1) := kqo_1b kbl_X9_tell (pc := 1) rfl
theorem dX9_tell_2 : decode cX9_tell 2 = .ok (.invokevirtual 120, 3) := kqo_b6 (x1 := 0) (x2 := 120) kbl_X9_tell (pc := 2) rfl rfl
theorem dX9_tell_5 : decode cX9_tell 5 = .ok (.ifCond .ne 5, 3) := kqo_9a (x1 := 0) (x2 := 5) kbl_X9_tell (pc := 5) rfl rfl
theorem dX9_tell_8 : decode cX9_tell 8 = .ok (.iconst (-1), 1) := kqo_02 kbl_X9_tell (pc := 8) rfl
theorem dX9_tell_9 : decode cX9_tell 9 = .ok (.ireturn, 1) := kqo_ac kbl_X9_tell (pc := 9) rfl
theorem dX9_tell_10 : decode cX9_tell 10 = .ok (.aload_n 0, 1) := kqo_2a kbl_X9_tell (pc := 10) rfl
theorem dX9_tell_11 : decode cX9_tell 11 = .ok (.getfield 22, 3) := kqo_b4 (x1 := 0) (x2 := 22) kbl_X9_tell (pc := 11) rfl rfl
theorem dX9_tell_14 : decode cX9_tell 14 = .ok (.iload_n 1, 1) := kqo_1b kbl_X9_tell (pc := 14) rfl
theorem dX9_tell_15 : decode cX9_tell 15 = .ok (.iaload, 1) := kqo_2e kbl_X9_tell (pc := 15) rfl
theorem dX9_tell_16 : decode cX9_tell 16 = .ok (.istore_n 2, 1) := kqo_3d kbl_X9_tell (pc := 16) rfl
theorem dX9_tell_17 : decode cX9_tell 17 = .ok (.aload_n 0, 1) := kqo_2a kbl_X9_tell (pc := 17) rfl
theorem dX9_tell_18 : decode cX9_tell 18 = .ok (.getfield 19, 3) := kqo_b4 (x1 := 0) (x2 := 19) kbl_X9_tell (pc := 18) rfl rfl
theorem dX9_tell_21 : decode cX9_tell 21 = .ok (.iload_n 1, 1) := kqo_1b kbl_X9_tell (pc := 21) rfl
theorem dX9_tell_22 : decode cX9_tell 22 = .ok (.iaload, 1) := kqo_2e kbl_X9_tell (pc := 22) rfl
theorem dX9_tell_23 : decode cX9_tell 23 = .ok (.lookupswitch 67 #[(1, 25), (2, 40)], 25) := by decide +kernel
theorem dX9_tell_48 : decode cX9_tell 48 = .ok (.aload_n 0, 1) := kqo_2a kbl_X9_tell (pc := 48) rfl
theorem dX9_tell_49 : decode cX9_tell 49 = .ok (.iconst 2, 1) := kqo_05 kbl_X9_tell (pc := 49) rfl
theorem dX9_tell_50 : decode cX9_tell 50 = .ok (.invokevirtual 213, 3) := kqo_b6 (x1 := 0) (x2 := 213) kbl_X9_tell (pc := 50) rfl rfl
theorem dX9_tell_53 : decode cX9_tell 53 = .ok (.aload_n 0, 1) := kqo_2a kbl_X9_tell (pc := 53) rfl
theorem dX9_tell_54 : decode cX9_tell 54 = .ok (.iconst 1, 1) := kqo_04 kbl_X9_tell (pc := 54) rfl
theorem dX9_tell_55 : decode cX9_tell 55 = .ok (.invokevirtual 213, 3) := kqo_b6 (x1 := 0) (x2 := 213) kbl_X9_tell (pc := 55) rfl rfl
theorem dX9_tell_58 : decode cX9_tell 58 = .ok (.iload_n 2, 1) := kqo_1c kbl_X9_tell (pc := 58) rfl
theorem dX9_tell_59 : decode cX9_tell 59 = .ok (.bipush 100, 2) := kqo_10 (x1 := 100) kbl_X9_tell (pc := 59) rfl rfl
theorem dX9_tell_61 : decode cX9_tell 61 = .ok (.iadd, 1) := kqo_60 kbl_X9_tell (pc := 61) rfl
theorem dX9_tell_62 : decode cX9_tell 62 = .ok (.ireturn, 1) := kqo_ac kbl_X9_tell (pc := 62) rfl
theorem dX9_tell_63 : decode cX9_tell 63 = .ok (.aload_n 0, 1) := kqo_2a kbl_X9_tell (pc := 63) rfl
theorem dX9_tell_64 : decode cX9_tell 64 = .ok (.iconst 3, 1) := kqo_06 kbl_X9_tell (pc := 64) rfl
theorem dX9_tell_65 : decode cX9_tell 65 = .ok (.invokevirtual 213, 3) := kqo_b6 (x1 := 0) (x2 := 213) kbl_X9_tell (pc := 65) rfl rfl
theorem dX9_tell_68 : decode cX9_tell 68 = .ok (.aload_n 0, 1) := kqo_2a kbl_X9_tell (pc := 68) rfl
theorem dX9_tell_69 : decode cX9_tell 69 = .ok (.iconst 2, 1) := kqo_05 kbl_X9_tell (pc := 69) rfl
theorem dX9_tell_70 : decode cX9_tell 70 = .ok (.invokevirtual 213, 3) := kqo_b6 (x1 := 0) (x2 := 213) kbl_X9_tell (pc := 70) rfl rfl
theorem dX9_tell_73 : decode cX9_tell 73 = .ok (.aload_n 0, 1) := kqo_2a kbl_X9_tell (pc := 73) rfl
theorem dX9_tell_74 : decode cX9_tell 74 = .ok (.iconst 1, 1) := kqo_04 kbl_X9_tell (pc := 74) rfl
theorem dX9_tell_75 : decode cX9_tell 75 = .ok (.invokevirtual 213, 3) := kqo_b6 (x1 := 0) (x2 := 213) kbl_X9_tell (pc := 75) rfl rfl
theorem dX9_tell_78 : decode cX9_tell 78 = .ok (.aload_n 0, 1) := kqo_2a kbl_X9_tell (pc := 78) rfl
theorem dX9_tell_79 : decode cX9_tell 79 = .ok (.iconst 1, 1) := kqo_04 kbl_X9_tell (pc := 79) rfl
theorem dX9_tell_80 : decode cX9_tell 80 = .ok (.invokevirtual 213, 3) := kqo_b6 (x1 := 0) (x2 := 213) kbl_X9_tell (pc := 80) rfl rfl
theorem dX9_tell_83 : decode cX9_tell 83 = .ok (.iconst 2, 1) := kqo_05 kbl_X9_tell (pc := 83) rfl
theorem dX9_tell_84 : decode cX9_tell 84 = .ok (.iload_n 2, 1) := kqo_1c kbl_X9_tell (pc := 84) rfl
theorem dX9_tell_85 : decode cX9_tell 85 = .ok (.imul, 1) := kqo_68 kbl_X9_tell (pc := 85) rfl
theorem dX9_tell_86 : decode cX9_tell 86 = .ok (.bipush 100, 2) := kqo_10 (x1 := 100) kbl_X9_tell (pc := 86) rfl rfl
theorem dX9_tell_88 : decode cX9_tell 88 = .ok (.iadd, 1) := kqo_60 kbl_X9_tell (pc := 88) rfl
theorem dX9_tell_89 : decode cX9_tell 89 = .ok (.ireturn, 1) := kqo_ac kbl_X9_tell (pc := 89) rfl
theorem dX9_tell_90 : decode cX9_tell 90 = .ok (.aload_n 0, 1) := kqo_2a kbl_X9_tell (pc := 90) rfl
theorem dX9_tell_91 : decode cX9_tell 91 = .ok (.iconst 1, 1) := kqo_04 kbl_X9_tell (pc := 91) rfl
theorem dX9_tell_92 : decode cX9_tell 92 = .ok (.invokevirtual 213, 3) := kqo_b6 (x1 := 0) (x2 := 213) kbl_X9_tell (pc := 92) rfl rfl
theorem dX9_tell_95 : decode cX9_tell 95 = .ok (.iload_n 2, 1) := kqo_1c kbl_X9_tell (pc := 95) rfl
theorem dX9_tell_96 : decode cX9_tell 96 = .ok (.ireturn, 1) := kqo_ac kbl_X9_tell (pc := 96) rfl
set_option maxRecDepth 20000 in
theorem ggX9_tell_X9_begins : GoodIn wsX9_tell wsX9_begins := goodIn_4 _ (List.forall_mem_cons.mpr ⟨List.mem_cons_of_mem _ (List.mem_append_left _ (List.mem_of_getElem? (i := 11) rfl)), List.forall_mem_append.mpr ⟨List.forall_mem_cons.mpr ⟨List.mem_cons_of_mem _ (List.mem_append_left _ (List.mem_of_getElem? (i := 12) rfl)), fun _ h9 => absurd h9 List.not_mem_nil⟩, fun w h9 => List.mem_cons_of_mem _ (List.mem_append_right _ (h9))⟩⟩) (by decide +kernel)
set_option maxRecDepth 20000 in
theorem gX9_tell_X9_begins : GoodIn wsX9_tell (wsV RX9 213 RX9 yX9_begins wsX9_begins) := goodIn_app (goodIn_4 _ (List.forall_mem_cons.mpr ⟨List.mem_cons_of_mem _ (List.mem_append_left _ (List.mem_of_getElem? (i := 8) rfl)), List.forall_mem_cons.mpr ⟨List.mem_cons_of_mem _ (List.mem_append_left _ (List.mem_of_getElem? (i := 9) rfl)), List.forall_mem_cons.mpr ⟨List.mem_cons_of_mem _ (List.mem_append_left _ (List.mem_of_getElem? (i := 10) rfl)), List.forall_mem_cons.mpr ⟨List.mem_cons_of_mem _ (List.mem_append_left _ (List.mem_of_getElem? (i := 5) rfl)), fun _ h9 => absurd h9 List.not_mem_nil⟩⟩⟩⟩) (by decide +kernel)) ggX9_tell_X9_begins
set_option maxRecDepth 20000 in
theorem ggX9_tell_X9_isFont : GoodIn wsX9_tell wsX9_isFont := goodIn_4 _ (List.forall_mem_cons.mpr ⟨List.mem_cons_of_mem _ (List.mem_append_left _ (List.mem_of_getElem? (i := 6) rfl)), List.forall_mem_append.mpr ⟨List.forall_mem_cons.mpr ⟨List.mem_cons_of_mem _ (List.mem_append_left _ (List.mem_of_getElem? (i := 7) rfl)), fun _ h9 => absurd h9 List.not_mem_nil⟩, fun w h9 => List.mem_cons_of_mem _ (List.mem_append_right _ (h9))⟩⟩) (by decide +kernel)
set_option maxRecDepth 20000 in
theorem gX9_tell_X9_isFont : GoodIn wsX9_tell (wsV RX9 120 RX9 yX9_isFont wsX9_isFont) := goodIn_app (goodIn_4 _ (List.forall_mem_cons.mpr ⟨List.mem_cons_of_mem _ (List.mem_append_left _ (List.mem_of_getElem? (i := 2) rfl)), List.forall_mem_cons.mpr ⟨List.mem_cons_of_mem _ (List.mem_append_left _ (List.mem_of_getElem? (i := 3) rfl)), List.forall_mem_cons.mpr ⟨List.mem_cons_of_mem _ (List.mem_append_left _ (List.mem_of_getElem? (i := 4) rfl)), List.forall_mem_cons.mpr ⟨List.mem_cons_of_mem _ (List.mem_append_left _ (List.mem_of_getElem? (i := 5) rfl)), fun _ h9 => absurd h9 List.not_mem_nil⟩⟩⟩⟩) (by decide +kernel)) ggX9_tell_X9_isFont
set_option maxRecDepth 20000 in
theorem mw_X9_tell_0 : (.fieldLink RX9 22 "FontRunsModel" "width" "[I" : Cond) ∈ wsX9_tell := List.mem_cons_of_mem _ (List.mem_append_left _ (List.mem_of_getElem? (i := 0) rfl))
set_option maxRecDepth 20000 in
theorem mw_X9_tell_1 : (.fieldLink RX9 19 "FontRunsModel" "kind" "[I" : Cond) ∈ wsX9_tell := List.mem_cons_of_mem _ (List.mem_append_left _ (List.mem_of_getElem? (i := 1) rfl))
theorem ax_X9_tell_0 {e0 e1 e2 : Nat × va_E} : ([0] : List Nat).map (fun i => ([e0, e1, e2] : va_W)[i]?) = ([e0] : va_W).map some := rfl
theorem ax_X9_tell_1 {e0 e1 e2 : Nat × va_E} : ([1, 2] : List Nat).map (fun i => ([e0, e1, e2] : va_W)[i]?) = ([e1, e2] : va_W).map some := rfl
theorem ax_X9_tell_2 {D : va_G} {cl : List vw_C} {H : Heap} {e0 e1 f0 : Nat × va_E} (h : va_P D cl ((([e0, e1] : va_W) ++ ([f0] : va_W))) H) : va_P D cl (([e0, e1, f0] : va_W)) H := h
theorem ax_X9_tell_3 {A : Nat → Prop} {e0 e1 f0 : Nat × va_E} (h : va_D A ((([e0, e1] : va_W) ++ ([f0] : va_W)))) : va_D A (([e0, e1, f0] : va_W)) := h
theorem ax_X9_tell_4 {e0 e1 e2 : Nat × va_E} : ([2] : List Nat).map (fun i => ([e0, e1, e2] : va_W)[i]?) = ([e2] : va_W).map some := rfl
theorem ax_X9_tell_5 {e0 e1 e2 : Nat × va_E} : ([0, 1] : List Nat).map (fun i => ([e0, e1, e2] : va_W)[i]?) = ([e0, e1] : va_W).map some := rfl
theorem ax_X9_tell_6 {e0 e1 e2 : Nat × va_E} : ([2, 0, 1] : List Nat).map (fun i => ([e0, e1, e2] : va_W)[i]?) = ([e2, e0, e1] : va_W).map some := rfl
theorem ax_X9_tell_7 {e0 e1 e2 : Nat × va_E} : ([0, 1, 2] : List Nat).map (fun i => ([e0, e1, e2] : va_W)[i]?) = ([e0, e1, e2] : va_W).map some := rfl
set_option maxHeartbeats 4000000 in
set_option maxRecDepth 100000 in
theorem c_X9_tell (l : Launch) (D : va_G) (sz : Nat) (f : Int) (h0 : Nat) (fa : Int) (tc : Int) (so : Nat) (sl : Nat) (ce : Nat) (fn : Int) (kd : Nat) (wd : Nat) (hs : Nat) (pf : Nat) (lt : Nat) (mn : Int) (wg : Nat) (ta : Int) (ck : Int64) (at9 : Int) (rfn : Int) (rk : Nat) (rw : Nat) (rh : Nat) (cl : Int) (sa : Nat) (fi : Nat) (bo : Int) (ch : Nat) (cn : Nat) (ad : Int) (ru : Int) (kp : Nat) (dn : Int) (rfa : Nat) (c_kd : ClassId) (f_kd : Nat → Int32) (c_wd : ClassId) (f_wd : Nat → Int32) (q0 : rg f) (q1 : rg tc) (q2 : 0 ≤ fn ∧ fn ≤ 4) : Met l yX9_tell wsX9_tell ({ frames := 1, cells := 0, slots := 0, locals := 21 }) (kPre [.ref h0, .int (zI f)] D [(h0, .inr (9, [.int (zI fa), .int (zI tc), .ref so, .ref sl, .ref ce, .int (zI fn), .ref kd, .ref wd, .ref hs, .ref pf, .ref lt, .int (zI mn), .ref wg, .int (zI ta), .long ck, .int (zI at9), .int (zI rfn), .ref rk, .ref rw, .ref rh, .int (zI cl), .ref sa, .ref fi, .int (zI bo), .ref ch, .ref cn, .int (zI ad), .int (zI ru), .ref kp, .int (zI dn), .ref rfa])), (kd, .inl (c_kd, 4, .inl f_kd)), (wd, .inl (c_wd, 4, .inl f_wd))] [(c_kd, .int), (c_wd, .int)] sz) (kQS (fun rz t => ∃ (u_tc : Int), (rg u_tc) ∧ (kTe f fn f_kd f_wd tc u_tc rz) ∧ va_P D vwCl [(h0, .inr (9, [.int (zI fa), .int (zI u_tc), .ref so, .ref sl, .ref ce, .int (zI fn), .ref kd, .ref wd, .ref hs, .ref pf, .ref lt, .int (zI mn), .ref wg, .int (zI ta), .long ck, .int (zI at9), .int (zI rfn), .ref rk, .ref rw, .ref rh, .int (zI cl), .ref sa, .ref fi, .int (zI bo), .ref ch, .ref cn, .int (zI ad), .int (zI ru), .ref kp, .int (zI dn), .ref rfa])), (kd, .inl (c_kd, 4, .inl f_kd)), (wd, .inl (c_wd, 4, .inl f_wd))] t.heap ∧ va_D (va_A [(h0, .inr (9, [.int (zI fa), .int (zI tc), .ref so, .ref sl, .ref ce, .int (zI fn), .ref kd, .ref wd, .ref hs, .ref pf, .ref lt, .int (zI mn), .ref wg, .int (zI ta), .long ck, .int (zI at9), .int (zI rfn), .ref rk, .ref rw, .ref rh, .int (zI cl), .ref sa, .ref fi, .int (zI bo), .ref ch, .ref cn, .int (zI ad), .int (zI ru), .ref kp, .int (zI dn), .ref rfa])), (kd, .inl (c_kd, 4, .inl f_kd)), (wd, .inl (c_wd, 4, .inl f_wd))] sz) [(h0, .inr (9, [.int (zI fa), .int (zI u_tc), .ref so, .ref sl, .ref ce, .int (zI fn), .ref kd, .ref wd, .ref hs, .ref pf, .ref lt, .int (zI mn), .ref wg, .int (zI ta), .long ck, .int (zI at9), .int (zI rfn), .ref rk, .ref rw, .ref rh, .int (zI cl), .ref sa, .ref fi, .int (zI bo), .ref ch, .ref cn, .int (zI ad), .int (zI ru), .ref kp, .int (zI dn), .ref rfa])), (kd, .inl (c_kd, 4, .inl f_kd)), (wd, .inl (c_wd, 4, .inl f_wd))]) (va_A [(h0, .inr (9, [.int (zI fa), .int (zI tc), .ref so, .ref sl, .ref ce, .int (zI fn), .ref kd, .ref wd, .ref hs, .ref pf, .ref lt, .int (zI mn), .ref wg, .int (zI ta), .long ck, .int (zI at9), .int (zI rfn), .ref rk, .ref rw, .ref rh, .int (zI cl), .ref sa, .ref fi, .int (zI bo), .ref ch, .ref cn, .int (zI ad), .int (zI ru), .ref kp, .int (zI dn), .ref rfa])), (kd, .inl (c_kd, 4, .inl f_kd)), (wd, .inl (c_wd, 4, .inl f_wd))] sz)) 0 0 (va_A [(h0, .inr (9, [.int (zI fa), .int (zI tc), .ref so, .ref sl, .ref ce, .int (zI fn), .ref kd, .ref wd, .ref hs, .ref pf, .ref lt, .int (zI mn), .ref wg, .int (zI ta), .long ck, .int (zI at9), .int (zI rfn), .ref rk, .ref rw, .ref rh, .int (zI cl), .ref sa, .ref fi, .int (zI bo), .ref ch, .ref cn, .int (zI ad), .int (zI ru), .ref kp, .int (zI dn), .ref rfa])), (kd, .inl (c_kd, 4, .inl f_kd)), (wd, .inl (c_wd, 4, .inl f_wd))] sz) := by
  refine Met.ofW (cc := cX9_tell) (maxL := 3) (ret := (some .int)) (by decide) rfl ?_
  intro p e s m args below meth c s₁ B hml hv
  obtain ⟨rfl, hsz, hP, hK, hD0, hN⟩ := hv
  have hx := B.exec
  have hb := B.bytes
  have hr := B.returns
  have hts := atoms_spec (ws := wsX9_tell) B.pre
  have hown : s.vm.findClass RX9 = some m.cls := findClass_of_methodNamed B.named
  have hlocks := B.notSynchronized
  subst hsz
  have hD := hD0.self (sz := s.heap.size)
  generalize hAe : va_A [(h0, .inr (9, [.int (zI fa), .int (zI tc), .ref so, .ref sl, .ref ce, .int (zI fn), .ref kd, .ref wd, .ref hs, .ref pf, .ref lt, .int (zI mn), .ref wg, .int (zI ta), .long ck, .int (zI at9), .int (zI rfn), .ref rk, .ref rw, .ref rh, .int (zI cl), .ref sa, .ref fi, .int (zI bo), .ref ch, .ref cn, .int (zI ad), .int (zI ru), .ref kp, .int (zI dn), .ref rfa])), (kd, .inl (c_kd, 4, .inl f_kd)), (wd, .inl (c_wd, 4, .inl f_wd))] s.heap.size = A at hD ⊢
  have hA : ∀ q : Nat, s.heap.size ≤ q → A q := fun q h => by rw [← hAe]; exact Or.inr h
  have hS : va_S A s.heap s.heap [] := va_S.rf
  have hP : va_P D vwCl [(h0, .inr (9, [.int (zI fa), .int (zI tc), .ref so, .ref sl, .ref ce, .int (zI fn), .ref kd, .ref wd, .ref hs, .ref pf, .ref lt, .int (zI mn), .ref wg, .int (zI ta), .long ck, .int (zI at9), .int (zI rfn), .ref rk, .ref rw, .ref rh, .int (zI cl), .ref sa, .ref fi, .int (zI bo), .ref ch, .ref cn, .int (zI ad), .int (zI ru), .ref kp, .int (zI dn), .ref rfa])), (kd, .inl (c_kd, 4, .inl f_kd)), (wd, .inl (c_wd, 4, .inl f_wd))] s.heap := hP
  have hl := lv_entry ([.ref h0, .int (zI f)]) (n := 3) (Nat.le_of_ble_eq_true rfl)
  rw [lg_entry_eq]
  generalize (lg_sl ([.ref h0, .int (zI f)]) ++ List.replicate (3 - (lg_sl ([.ref h0, .int (zI f)])).length) Slot.unset).toArray = ls at hl ⊢
  have hl : lv_has ls 3 [(0, .ref h0), (1, .int (zI f))] := hl
  refine lv_aload_n hx hb dX9_tell_0 rfl (lv_at hl 0 rfl) ?_
  refine lv_iload_n hx hb dX9_tell_1 rfl (lv_at hl 1 rfl) ?_
  refine k_callR (va_runV (As := [.int (zI f)]) (rest := []) ⟨hx, hb, hml, hown, hts⟩ (c_X9_isFont l D s.heap.size (f := f) (h0 := h0) (fa := fa) (tc := tc) (so := so) (sl := sl) (ce := ce) (fn := fn) (kd := kd) (wd := wd) (hs := hs) (pf := pf) (lt := lt) (mn := mn) (wg := wg) (ta := ta) (ck := ck) (at9 := at9) (rfn := rfn) (rk := rk) (rw := rw) (rh := rh) (cl := cl) (sa := sa) (fi := fi) (bo := bo) (ch := ch) (cn := cn) (ad := ad) (ru := ru) (kp := kp) (dn := dn) (rfa := rfa) q0 q2) (cwV 1 hts gX9_tell_X9_isFont rfl rfl rfl (by decide +kernel) ⟨Nat.le_of_ble_eq_true rfl, Nat.le_of_ble_eq_true rfl⟩) (kPreV hP (kD0 hD) hK hN [0] [] ax_X9_tell_0 rfl (by decide +kernel) 0 9 rfl rfl) rfl rfl hl.1 rfl (lv_room (Nat.le_of_ble_eq_true rfl)) dX9_tell_2 ⟨Nat.le_of_ble_eq_true rfl, Nat.le_of_ble_eq_true rfl⟩) ?_
  refine lv_if_ne (tgt := 10) hx hb dX9_tell_5 (by decide) (fun c_1 => ?_) (fun c_1 => ?_)
  · have c_1 : 0 ≤ f ∧ f < fn := b01t c_1
    refine lv_aload_n hx hb dX9_tell_10 rfl (lv_at hl 0 rfl) ?_
    refine va_get (D := D) (ci := 9) (v := .ref wd) (C := RX9) (T := TX9) (N := 31) hx hb hts (fun _ h9 => List.mem_cons_of_mem _ (List.mem_append_right _ h9)) hown hK hP 0 rfl rfl 7 (by decide) (hts (.fieldLink RX9 22 "FontRunsModel" "width" "[I") mw_X9_tell_0) (fun _ h9 => h9) rfl dX9_tell_11 ?_
    refine lv_iload_n hx hb dX9_tell_14 rfl (lv_at hl 1 rfl) ?_
    refine kz_iald hx hb hK hP 2 1 rfl rfl (by omega) dX9_tell_15 (fun z_2 rz_2 ez_2 => ?_)
    refine lv_istore_n (lv' := [(2, .int (zI z_2)), (0, .ref h0), (1, .int (zI f))]) hx hb dX9_tell_16 rfl hl (by decide) rfl (fun ls hl => ?_)
    refine lv_aload_n hx hb dX9_tell_17 rfl (lv_at hl 1 rfl) ?_
    refine va_get (D := D) (ci := 9) (v := .ref kd) (C := RX9) (T := TX9) (N := 31) hx hb hts (fun _ h9 => List.mem_cons_of_mem _ (List.mem_append_right _ h9)) hown hK hP 0 rfl rfl 6 (by decide) (hts (.fieldLink RX9 19 "FontRunsModel" "kind" "[I") mw_X9_tell_1) (fun _ h9 => h9) rfl dX9_tell_18 ?_
    refine lv_iload_n hx hb dX9_tell_21 rfl (lv_at hl 2 rfl) ?_
    refine kz_iald hx hb hK hP 1 0 rfl rfl (by omega) dX9_tell_22 (fun z_3 rz_3 ez_3 => ?_)
    rcases (show z_3 = 1 ∨ z_3 = 2 ∨ (¬ z_3 = 1 ∧ ¬ z_3 = 2) from by omega) with c_4 | c_4 | c_4
    · refine kz_look (tgt := 48) (off := 25) hx hb dX9_tell_23 (by decide) (by omega) (by show Op.lookupswitch.offset [(1, 25), (2, 40)] 67 z_3 = 25; rw [Op.lookupswitch.offset_cons, Op.lookupswitch.offset_cons, Op.lookupswitch.offset_nil]; (repeat' split) <;> omega) (by decide) ?_
      refine lv_aload_n hx hb dX9_tell_48 rfl (lv_at hl 1 rfl) ?_
      refine lv_iconst (v := zI 2) hx hb dX9_tell_49 rfl ?_
      have hFc := va_free (wc := [(h0, .inr (9, [.int (zI fa), .int (zI tc), .ref so, .ref sl, .ref ce, .int (zI fn), .ref kd, .ref wd, .ref hs, .ref pf, .ref lt, .int (zI mn), .ref wg, .int (zI ta), .long ck, .int (zI at9), .int (zI rfn), .ref rk, .ref rw, .ref rh, .int (zI cl), .ref sa, .ref fi, .int (zI bo), .ref ch, .ref cn, .int (zI ad), .int (zI ru), .ref kp, .int (zI dn), .ref rfa]))]) hD hS hA [0] ax_X9_tell_0
      refine va_callv (va_runV (As := [.int (zI 2)]) (rest := []) ⟨hx, hb, hml, hown, hts⟩ (c_X9_begins l D s.heap.size (x := 2) (h0 := h0) (fa := fa) (tc := tc) (so := so) (sl := sl) (ce := ce) (fn := fn) (kd := kd) (wd := wd) (hs := hs) (pf := pf) (lt := lt) (mn := mn) (wg := wg) (ta := ta) (ck := ck) (at9 := at9) (rfn := rfn) (rk := rk) (rw := rw) (rh := rh) (cl := cl) (sa := sa) (fi := fi) (bo := bo) (ch := ch) (cn := cn) (ad := ad) (ru := ru) (kp := kp) (dn := dn) (rfa := rfa) (by omega) q1) (cwV 1 hts gX9_tell_X9_begins rfl rfl rfl (by decide +kernel) ⟨Nat.le_of_ble_eq_true rfl, Nat.le_of_ble_eq_true rfl⟩) (kPreV hP (kD0 hD) hK hN [0] [] ax_X9_tell_0 rfl (by decide +kernel) 0 9 rfl rfl) rfl rfl hl.1 rfl (lv_room (Nat.le_of_ble_eq_true rfl)) dX9_tell_50 ⟨Nat.le_of_ble_eq_true rfl, Nat.le_of_ble_eq_true rfl⟩) hS (fun q _ h => hFc q h) hFc (fun u t H1 locs ht hvm hw hB hz1 hk1 hS => ?_)
      refine Exists.elim hB (fun u_tc_5 hB1 => ?_)
      have h_6 := hB1.1
      have h_7 := hB1.2.1
      have hP1 := hB1.2.2.1
      have hD1 := hB1.2.2.2
      clear hB hB1
      rw [ht] at hP1
      obtain ⟨hP, hD⟩ := va_join (wr := [(kd, .inl (c_kd, 4, .inl f_kd)), (wd, .inl (c_wd, 4, .inl f_wd))]) (w1 := [(h0, .inr (9, [.int (zI fa), .int (zI u_tc_5), .ref so, .ref sl, .ref ce, .int (zI fn), .ref kd, .ref wd, .ref hs, .ref pf, .ref lt, .int (zI mn), .ref wg, .int (zI ta), .long ck, .int (zI at9), .int (zI rfn), .ref rk, .ref rw, .ref rh, .int (zI cl), .ref sa, .ref fi, .int (zI bo), .ref ch, .ref cn, .int (zI ad), .int (zI ru), .ref kp, .int (zI dn), .ref rfa]))]) hP hD [0] [1, 2] ax_X9_tell_0 ax_X9_tell_1 (by decide +kernel) (by decide +kernel) hk1 hFc hP1 hD1
      have hP := ax_X9_tell_2 hP
      have hD := ax_X9_tell_3 hD
      generalize H1 = H at hP hS ⊢
      have hP : va_P D vwCl [(kd, .inl (c_kd, 4, .inl f_kd)), (wd, .inl (c_wd, 4, .inl f_wd)), (h0, .inr (9, [.int (zI fa), .int (zI u_tc_5), .ref so, .ref sl, .ref ce, .int (zI fn), .ref kd, .ref wd, .ref hs, .ref pf, .ref lt, .int (zI mn), .ref wg, .int (zI ta), .long ck, .int (zI at9), .int (zI rfn), .ref rk, .ref rw, .ref rh, .int (zI cl), .ref sa, .ref fi, .int (zI bo), .ref ch, .ref cn, .int (zI ad), .int (zI ru), .ref kp, .int (zI dn), .ref rfa]))] H := hP
      have hD : va_D A [(kd, .inl (c_kd, 4, .inl f_kd)), (wd, .inl (c_wd, 4, .inl f_wd)), (h0, .inr (9, [.int (zI fa), .int (zI u_tc_5), .ref so, .ref sl, .ref ce, .int (zI fn), .ref kd, .ref wd, .ref hs, .ref pf, .ref lt, .int (zI mn), .ref wg, .int (zI ta), .long ck, .int (zI at9), .int (zI rfn), .ref rk, .ref rw, .ref rh, .int (zI cl), .ref sa, .ref fi, .int (zI bo), .ref ch, .ref cn, .int (zI ad), .int (zI ru), .ref kp, .int (zI dn), .ref rfa]))] := hD
      refine lv_aload_n hx hb dX9_tell_53 rfl (lv_at hl 1 rfl) ?_
      refine lv_iconst (v := zI 1) hx hb dX9_tell_54 rfl ?_
      have hFc := va_free (wc := [(h0, .inr (9, [.int (zI fa), .int (zI u_tc_5), .ref so, .ref sl, .ref ce, .int (zI fn), .ref kd, .ref wd, .ref hs, .ref pf, .ref lt, .int (zI mn), .ref wg, .int (zI ta), .long ck, .int (zI at9), .int (zI rfn), .ref rk, .ref rw, .ref rh, .int (zI cl), .ref sa, .ref fi, .int (zI bo), .ref ch, .ref cn, .int (zI ad), .int (zI ru), .ref kp, .int (zI dn), .ref rfa]))]) hD hS hA [2] ax_X9_tell_4
      refine va_callv (va_runV (As := [.int (zI 1)]) (rest := []) ⟨hx, hb, hml, hown, hts⟩ (c_X9_begins l D H.size (x := 1) (h0 := h0) (fa := fa) (tc := u_tc_5) (so := so) (sl := sl) (ce := ce) (fn := fn) (kd := kd) (wd := wd) (hs := hs) (pf := pf) (lt := lt) (mn := mn) (wg := wg) (ta := ta) (ck := ck) (at9 := at9) (rfn := rfn) (rk := rk) (rw := rw) (rh := rh) (cl := cl) (sa := sa) (fi := fi) (bo := bo) (ch := ch) (cn := cn) (ad := ad) (ru := ru) (kp := kp) (dn := dn) (rfa := rfa) (by omega) h_6) (cwV 1 hts gX9_tell_X9_begins rfl rfl rfl (by decide +kernel) ⟨Nat.le_of_ble_eq_true rfl, Nat.le_of_ble_eq_true rfl⟩) (kPreV hP (kD0 hD) hK hN [2] [] ax_X9_tell_4 rfl (by decide +kernel) 2 9 rfl rfl) rfl rfl hl.1 rfl (lv_room (Nat.le_of_ble_eq_true rfl)) dX9_tell_55 ⟨Nat.le_of_ble_eq_true rfl, Nat.le_of_ble_eq_true rfl⟩) hS (fun q _ h => hFc q h) hFc (fun u t H1 locs ht hvm hw hB hz1 hk1 hS => ?_)
      refine Exists.elim hB (fun u_tc_8 hB1 => ?_)
      have h_9 := hB1.1
      have h_10 := hB1.2.1
      have hP1 := hB1.2.2.1
      have hD1 := hB1.2.2.2
      clear hB hB1
      rw [ht] at hP1
      obtain ⟨hP, hD⟩ := va_join (wr := [(kd, .inl (c_kd, 4, .inl f_kd)), (wd, .inl (c_wd, 4, .inl f_wd))]) (w1 := [(h0, .inr (9, [.int (zI fa), .int (zI u_tc_8), .ref so, .ref sl, .ref ce, .int (zI fn), .ref kd, .ref wd, .ref hs, .ref pf, .ref lt, .int (zI mn), .ref wg, .int (zI ta), .long ck, .int (zI at9), .int (zI rfn), .ref rk, .ref rw, .ref rh, .int (zI cl), .ref sa, .ref fi, .int (zI bo), .ref ch, .ref cn, .int (zI ad), .int (zI ru), .ref kp, .int (zI dn), .ref rfa]))]) hP hD [2] [0, 1] ax_X9_tell_4 ax_X9_tell_5 (by decide +kernel) (by decide +kernel) hk1 hFc hP1 hD1
      have hP := ax_X9_tell_2 hP
      have hD := ax_X9_tell_3 hD
      generalize H1 = H at hP hS ⊢
      have hP : va_P D vwCl [(kd, .inl (c_kd, 4, .inl f_kd)), (wd, .inl (c_wd, 4, .inl f_wd)), (h0, .inr (9, [.int (zI fa), .int (zI u_tc_8), .ref so, .ref sl, .ref ce, .int (zI fn), .ref kd, .ref wd, .ref hs, .ref pf, .ref lt, .int (zI mn), .ref wg, .int (zI ta), .long ck, .int (zI at9), .int (zI rfn), .ref rk, .ref rw, .ref rh, .int (zI cl), .ref sa, .ref fi, .int (zI bo), .ref ch, .ref cn, .int (zI ad), .int (zI ru), .ref kp, .int (zI dn), .ref rfa]))] H := hP
      have hD : va_D A [(kd, .inl (c_kd, 4, .inl f_kd)), (wd, .inl (c_wd, 4, .inl f_wd)), (h0, .inr (9, [.int (zI fa), .int (zI u_tc_8), .ref so, .ref sl, .ref ce, .int (zI fn), .ref kd, .ref wd, .ref hs, .ref pf, .ref lt, .int (zI mn), .ref wg, .int (zI ta), .long ck, .int (zI at9), .int (zI rfn), .ref rk, .ref rw, .ref rh, .int (zI cl), .ref sa, .ref fi, .int (zI bo), .ref ch, .ref cn, .int (zI ad), .int (zI ru), .ref kp, .int (zI dn), .ref rfa]))] := hD
      refine lv_iload_n hx hb dX9_tell_58 rfl (lv_at hl 0 rfl) ?_
      refine lv_bipush (v := zI 100) hx hb dX9_tell_59 (by decide) ?_
      refine kz_iadd hx hb dX9_tell_61 ?_
      refine kz_any (fun z_11 rz_11 ez_11 => ?_)
      have hP9 := hP.sub (ws' := [(h0, .inr (9, [.int (zI fa), .int (zI u_tc_8), .ref so, .ref sl, .ref ce, .int (zI fn), .ref kd, .ref wd, .ref hs, .ref pf, .ref lt, .int (zI mn), .ref wg, .int (zI ta), .long ck, .int (zI at9), .int (zI rfn), .ref rk, .ref rw, .ref rh, .int (zI cl), .ref sa, .ref fi, .int (zI bo), .ref ch, .ref cn, .int (zI ad), .int (zI ru), .ref kp, .int (zI dn), .ref rfa])), (kd, .inl (c_kd, 4, .inl f_kd)), (wd, .inl (c_wd, 4, .inl f_wd))]) [2, 0, 1] rfl
      have hD9 := hD.sub (ws' := [(h0, .inr (9, [.int (zI fa), .int (zI u_tc_8), .ref so, .ref sl, .ref ce, .int (zI fn), .ref kd, .ref wd, .ref hs, .ref pf, .ref lt, .int (zI mn), .ref wg, .int (zI ta), .long ck, .int (zI at9), .int (zI rfn), .ref rk, .ref rw, .ref rh, .int (zI cl), .ref sa, .ref fi, .int (zI bo), .ref ch, .ref cn, .int (zI ad), .int (zI ru), .ref kp, .int (zI dn), .ref rfa])), (kd, .inl (c_kd, 4, .inl f_kd)), (wd, .inl (c_wd, 4, .inl f_wd))]) [2, 0, 1] (by decide +kernel) rfl
      exact W.iret (v := (zI z_11)) hx hb hr (fun t ht hW => kQS_of (by omega) ⟨u_tc_8, h_9, (kTe_1 (by omega) ez_3 (by omega) ez_2 (by rw [h_10, h_7]) ez_11.symm (by omega)), by rw [ht]; exact hP9, hD9⟩ (hS.F ht)) hS.2.2 dX9_tell_62
    · refine kz_look (tgt := 63) (off := 40) hx hb dX9_tell_23 (by decide) (by omega) (by show Op.lookupswitch.offset [(1, 25), (2, 40)] 67 z_3 = 40; rw [Op.lookupswitch.offset_cons, Op.lookupswitch.offset_cons, Op.lookupswitch.offset_nil]; (repeat' split) <;> omega) (by decide) ?_
      refine lv_aload_n hx hb dX9_tell_63 rfl (lv_at hl 1 rfl) ?_
      refine lv_iconst (v := zI 3) hx hb dX9_tell_64 rfl ?_
      have hFc := va_free (wc := [(h0, .inr (9, [.int (zI fa), .int (zI tc), .ref so, .ref sl, .ref ce, .int (zI fn), .ref kd, .ref wd, .ref hs, .ref pf, .ref lt, .int (zI mn), .ref wg, .int (zI ta), .long ck, .int (zI at9), .int (zI rfn), .ref rk, .ref rw, .ref rh, .int (zI cl), .ref sa, .ref fi, .int (zI bo), .ref ch, .ref cn, .int (zI ad), .int (zI ru), .ref kp, .int (zI dn), .ref rfa]))]) hD hS hA [0] ax_X9_tell_0
      refine va_callv (va_runV (As := [.int (zI 3)]) (rest := []) ⟨hx, hb, hml, hown, hts⟩ (c_X9_begins l D s.heap.size (x := 3) (h0 := h0) (fa := fa) (tc := tc) (so := so) (sl := sl) (ce := ce) (fn := fn) (kd := kd) (wd := wd) (hs := hs) (pf := pf) (lt := lt) (mn := mn) (wg := wg) (ta := ta) (ck := ck) (at9 := at9) (rfn := rfn) (rk := rk) (rw := rw) (rh := rh) (cl := cl) (sa := sa) (fi := fi) (bo := bo) (ch := ch) (cn := cn) (ad := ad) (ru := ru) (kp := kp) (dn := dn) (rfa := rfa) (by omega) q1) (cwV 1 hts gX9_tell_X9_begins rfl rfl rfl (by decide +kernel) ⟨Nat.le_of_ble_eq_true rfl, Nat.le_of_ble_eq_true rfl⟩) (kPreV hP (kD0 hD) hK hN [0] [] ax_X9_tell_0 rfl (by decide +kernel) 0 9 rfl rfl) rfl rfl hl.1 rfl (lv_room (Nat.le_of_ble_eq_true rfl)) dX9_tell_65 ⟨Nat.le_of_ble_eq_true rfl, Nat.le_of_ble_eq_true rfl⟩) hS (fun q _ h => hFc q h) hFc (fun u t H1 locs ht hvm hw hB hz1 hk1 hS => ?_)
      refine Exists.elim hB (fun u_tc_12 hB1 => ?_)
      have h_13 := hB1.1
      have h_14 := hB1.2.1
      have hP1 := hB1.2.2.1
      have hD1 := hB1.2.2.2
      clear hB hB1
      rw [ht] at hP1
      obtain ⟨hP, hD⟩ := va_join (wr := [(kd, .inl (c_kd, 4, .inl f_kd)), (wd, .inl (c_wd, 4, .inl f_wd))]) (w1 := [(h0, .inr (9, [.int (zI fa), .int (zI u_tc_12), .ref so, .ref sl, .ref ce, .int (zI fn), .ref kd, .ref wd, .ref hs, .ref pf, .ref lt, .int (zI mn), .ref wg, .int (zI ta), .long ck, .int (zI at9), .int (zI rfn), .ref rk, .ref rw, .ref rh, .int (zI cl), .ref sa, .ref fi, .int (zI bo), .ref ch, .ref cn, .int (zI ad), .int (zI ru), .ref kp, .int (zI dn), .ref rfa]))]) hP hD [0] [1, 2] ax_X9_tell_0 ax_X9_tell_1 (by decide +kernel) (by decide +kernel) hk1 hFc hP1 hD1
      have hP := ax_X9_tell_2 hP
      have hD := ax_X9_tell_3 hD
      generalize H1 = H at hP hS ⊢
      have hP : va_P D vwCl [(kd, .inl (c_kd, 4, .inl f_kd)), (wd, .inl (c_wd, 4, .inl f_wd)), (h0, .inr (9, [.int (zI fa), .int (zI u_tc_12), .ref so, .ref sl, .ref ce, .int (zI fn), .ref kd, .ref wd, .ref hs, .ref pf, .ref lt, .int (zI mn), .ref wg, .int (zI ta), .long ck, .int (zI at9), .int (zI rfn), .ref rk, .ref rw, .ref rh, .int (zI cl), .ref sa, .ref fi, .int (zI bo), .ref ch, .ref cn, .int (zI ad), .int (zI ru), .ref kp, .int (zI dn), .ref rfa]))] H := hP
      have hD : va_D A [(kd, .inl (c_kd, 4, .inl f_kd)), (wd, .inl (c_wd, 4, .inl f_wd)), (h0, .inr (9, [.int (zI fa), .int (zI u_tc_12), .ref so, .ref sl, .ref ce, .int (zI fn), .ref kd, .ref wd, .ref hs, .ref pf, .ref lt, .int (zI mn), .ref wg, .int (zI ta), .long ck, .int (zI at9), .int (zI rfn), .ref rk, .ref rw, .ref rh, .int (zI cl), .ref sa, .ref fi, .int (zI bo), .ref ch, .ref cn, .int (zI ad), .int (zI ru), .ref kp, .int (zI dn), .ref rfa]))] := hD
      refine lv_aload_n hx hb dX9_tell_68 rfl (lv_at hl 1 rfl) ?_
      refine lv_iconst (v := zI 2) hx hb dX9_tell_69 rfl ?_
      have hFc := va_free (wc := [(h0, .inr (9, [.int (zI fa), .int (zI u_tc_12), .ref so, .ref sl, .ref ce, .int (zI fn), .ref kd, .ref wd, .ref hs, .ref pf, .ref lt, .int (zI mn), .ref wg, .int (zI ta), .long ck, .int (zI at9), .int (zI rfn), .ref rk, .ref rw, .ref rh, .int (zI cl), .ref sa, .ref fi, .int (zI bo), .ref ch, .ref cn, .int (zI ad), .int (zI ru), .ref kp, .int (zI dn), .ref rfa]))]) hD hS hA [2] ax_X9_tell_4
      refine va_callv (va_runV (As := [.int (zI 2)]) (rest := []) ⟨hx, hb, hml, hown, hts⟩ (c_X9_begins l D H.size (x := 2) (h0 := h0) (fa := fa) (tc := u_tc_12) (so := so) (sl := sl) (ce := ce) (fn := fn) (kd := kd) (wd := wd) (hs := hs) (pf := pf) (lt := lt) (mn := mn) (wg := wg) (ta := ta) (ck := ck) (at9 := at9) (rfn := rfn) (rk := rk) (rw := rw) (rh := rh) (cl := cl) (sa := sa) (fi := fi) (bo := bo) (ch := ch) (cn := cn) (ad := ad) (ru := ru) (kp := kp) (dn := dn) (rfa := rfa) (by omega) h_13) (cwV 1 hts gX9_tell_X9_begins rfl rfl rfl (by decide +kernel) ⟨Nat.le_of_ble_eq_true rfl, Nat.le_of_ble_eq_true rfl⟩) (kPreV hP (kD0 hD) hK hN [2] [] ax_X9_tell_4 rfl (by decide +kernel) 2 9 rfl rfl) rfl rfl hl.1 rfl (lv_room (Nat.le_of_ble_eq_true rfl)) dX9_tell_70 ⟨Nat.le_of_ble_eq_true rfl, Nat.le_of_ble_eq_true rfl⟩) hS (fun q _ h => hFc q h) hFc (fun u t H1 locs ht hvm hw hB hz1 hk1 hS => ?_)
      refine Exists.elim hB (fun u_tc_15 hB1 => ?_)
      have h_16 := hB1.1
      have h_17 := hB1.2.1
      have hP1 := hB1.2.2.1
      have hD1 := hB1.2.2.2
      clear hB hB1
      rw [ht] at hP1
      obtain ⟨hP, hD⟩ := va_join (wr := [(kd, .inl (c_kd, 4, .inl f_kd)), (wd, .inl (c_wd, 4, .inl f_wd))]) (w1 := [(h0, .inr (9, [.int (zI fa), .int (zI u_tc_15), .ref so, .ref sl, .ref ce, .int (zI fn), .ref kd, .ref wd, .ref hs, .ref pf, .ref lt, .int (zI mn), .ref wg, .int (zI ta), .long ck, .int (zI at9), .int (zI rfn), .ref rk, .ref rw, .ref rh, .int (zI cl), .ref sa, .ref fi, .int (zI bo), .ref ch, .ref cn, .int (zI ad), .int (zI ru), .ref kp, .int (zI dn), .ref rfa]))]) hP hD [2] [0, 1] ax_X9_tell_4 ax_X9_tell_5 (by decide +kernel) (by decide +kernel) hk1 hFc hP1 hD1
      have hP := ax_X9_tell_2 hP
      have hD := ax_X9_tell_3 hD
      generalize H1 = H at hP hS ⊢
      have hP : va_P D vwCl [(kd, .inl (c_kd, 4, .inl f_kd)), (wd, .inl (c_wd, 4, .inl f_wd)), (h0, .inr (9, [.int (zI fa), .int (zI u_tc_15), .ref so, .ref sl, .ref ce, .int (zI fn), .ref kd, .ref wd, .ref hs, .ref pf, .ref lt, .int (zI mn), .ref wg, .int (zI ta), .long ck, .int (zI at9), .int (zI rfn), .ref rk, .ref rw, .ref rh, .int (zI cl), .ref sa, .ref fi, .int (zI bo), .ref ch, .ref cn, .int (zI ad), .int (zI ru), .ref kp, .int (zI dn), .ref rfa]))] H := hP
      have hD : va_D A [(kd, .inl (c_kd, 4, .inl f_kd)), (wd, .inl (c_wd, 4, .inl f_wd)), (h0, .inr (9, [.int (zI fa), .int (zI u_tc_15), .ref so, .ref sl, .ref ce, .int (zI fn), .ref kd, .ref wd, .ref hs, .ref pf, .ref lt, .int (zI mn), .ref wg, .int (zI ta), .long ck, .int (zI at9), .int (zI rfn), .ref rk, .ref rw, .ref rh, .int (zI cl), .ref sa, .ref fi, .int (zI bo), .ref ch, .ref cn, .int (zI ad), .int (zI ru), .ref kp, .int (zI dn), .ref rfa]))] := hD
      refine lv_aload_n hx hb dX9_tell_73 rfl (lv_at hl 1 rfl) ?_
      refine lv_iconst (v := zI 1) hx hb dX9_tell_74 rfl ?_
      have hFc := va_free (wc := [(h0, .inr (9, [.int (zI fa), .int (zI u_tc_15), .ref so, .ref sl, .ref ce, .int (zI fn), .ref kd, .ref wd, .ref hs, .ref pf, .ref lt, .int (zI mn), .ref wg, .int (zI ta), .long ck, .int (zI at9), .int (zI rfn), .ref rk, .ref rw, .ref rh, .int (zI cl), .ref sa, .ref fi, .int (zI bo), .ref ch, .ref cn, .int (zI ad), .int (zI ru), .ref kp, .int (zI dn), .ref rfa]))]) hD hS hA [2] ax_X9_tell_4
      refine va_callv (va_runV (As := [.int (zI 1)]) (rest := []) ⟨hx, hb, hml, hown, hts⟩ (c_X9_begins l D H.size (x := 1) (h0 := h0) (fa := fa) (tc := u_tc_15) (so := so) (sl := sl) (ce := ce) (fn := fn) (kd := kd) (wd := wd) (hs := hs) (pf := pf) (lt := lt) (mn := mn) (wg := wg) (ta := ta) (ck := ck) (at9 := at9) (rfn := rfn) (rk := rk) (rw := rw) (rh := rh) (cl := cl) (sa := sa) (fi := fi) (bo := bo) (ch := ch) (cn := cn) (ad := ad) (ru := ru) (kp := kp) (dn := dn) (rfa := rfa) (by omega) h_16) (cwV 1 hts gX9_tell_X9_begins rfl rfl rfl (by decide +kernel) ⟨Nat.le_of_ble_eq_true rfl, Nat.le_of_ble_eq_true rfl⟩) (kPreV hP (kD0 hD) hK hN [2] [] ax_X9_tell_4 rfl (by decide +kernel) 2 9 rfl rfl) rfl rfl hl.1 rfl (lv_room (Nat.le_of_ble_eq_true rfl)) dX9_tell_75 ⟨Nat.le_of_ble_eq_true rfl, Nat.le_of_ble_eq_true rfl⟩) hS (fun q _ h => hFc q h) hFc (fun u t H1 locs ht hvm hw hB hz1 hk1 hS => ?_)
      refine Exists.elim hB (fun u_tc_18 hB1 => ?_)
      have h_19 := hB1.1
      have h_20 := hB1.2.1
      have hP1 := hB1.2.2.1
      have hD1 := hB1.2.2.2
      clear hB hB1
      rw [ht] at hP1
      obtain ⟨hP, hD⟩ := va_join (wr := [(kd, .inl (c_kd, 4, .inl f_kd)), (wd, .inl (c_wd, 4, .inl f_wd))]) (w1 := [(h0, .inr (9, [.int (zI fa), .int (zI u_tc_18), .ref so, .ref sl, .ref ce, .int (zI fn), .ref kd, .ref wd, .ref hs, .ref pf, .ref lt, .int (zI mn), .ref wg, .int (zI ta), .long ck, .int (zI at9), .int (zI rfn), .ref rk, .ref rw, .ref rh, .int (zI cl), .ref sa, .ref fi, .int (zI bo), .ref ch, .ref cn, .int (zI ad), .int (zI ru), .ref kp, .int (zI dn), .ref rfa]))]) hP hD [2] [0, 1] ax_X9_tell_4 ax_X9_tell_5 (by decide +kernel) (by decide +kernel) hk1 hFc hP1 hD1
      have hP := ax_X9_tell_2 hP
      have hD := ax_X9_tell_3 hD
      generalize H1 = H at hP hS ⊢
      have hP : va_P D vwCl [(kd, .inl (c_kd, 4, .inl f_kd)), (wd, .inl (c_wd, 4, .inl f_wd)), (h0, .inr (9, [.int (zI fa), .int (zI u_tc_18), .ref so, .ref sl, .ref ce, .int (zI fn), .ref kd, .ref wd, .ref hs, .ref pf, .ref lt, .int (zI mn), .ref wg, .int (zI ta), .long ck, .int (zI at9), .int (zI rfn), .ref rk, .ref rw, .ref rh, .int (zI cl), .ref sa, .ref fi, .int (zI bo), .ref ch, .ref cn, .int (zI ad), .int (zI ru), .ref kp, .int (zI dn), .ref rfa]))] H := hP
      have hD : va_D A [(kd, .inl (c_kd, 4, .inl f_kd)), (wd, .inl (c_wd, 4, .inl f_wd)), (h0, .inr (9, [.int (zI fa), .int (zI u_tc_18), .ref so, .ref sl, .ref ce, .int (zI fn), .ref kd, .ref wd, .ref hs, .ref pf, .ref lt, .int (zI mn), .ref wg, .int (zI ta), .long ck, .int (zI at9), .int (zI rfn), .ref rk, .ref rw, .ref rh, .int (zI cl), .ref sa, .ref fi, .int (zI bo), .ref ch, .ref cn, .int (zI ad), .int (zI ru), .ref kp, .int (zI dn), .ref rfa]))] := hD
      refine lv_aload_n hx hb dX9_tell_78 rfl (lv_at hl 1 rfl) ?_
      refine lv_iconst (v := zI 1) hx hb dX9_tell_79 rfl ?_
      have hFc := va_free (wc := [(h0, .inr (9, [.int (zI fa), .int (zI u_tc_18), .ref so, .ref sl, .ref ce, .int (zI fn), .ref kd, .ref wd, .ref hs, .ref pf, .ref lt, .int (zI mn), .ref wg, .int (zI ta), .long ck, .int (zI at9), .int (zI rfn), .ref rk, .ref rw, .ref rh, .int (zI cl), .ref sa, .ref fi, .int (zI bo), .ref ch, .ref cn, .int (zI ad), .int (zI ru), .ref kp, .int (zI dn), .ref rfa]))]) hD hS hA [2] ax_X9_tell_4
      refine va_callv (va_runV (As := [.int (zI 1)]) (rest := []) ⟨hx, hb, hml, hown, hts⟩ (c_X9_begins l D H.size (x := 1) (h0 := h0) (fa := fa) (tc := u_tc_18) (so := so) (sl := sl) (ce := ce) (fn := fn) (kd := kd) (wd := wd) (hs := hs) (pf := pf) (lt := lt) (mn := mn) (wg := wg) (ta := ta) (ck := ck) (at9 := at9) (rfn := rfn) (rk := rk) (rw := rw) (rh := rh) (cl := cl) (sa := sa) (fi := fi) (bo := bo) (ch := ch) (cn := cn) (ad := ad) (ru := ru) (kp := kp) (dn := dn) (rfa := rfa) (by omega) h_19) (cwV 1 hts gX9_tell_X9_begins rfl rfl rfl (by decide +kernel) ⟨Nat.le_of_ble_eq_true rfl, Nat.le_of_ble_eq_true rfl⟩) (kPreV hP (kD0 hD) hK hN [2] [] ax_X9_tell_4 rfl (by decide +kernel) 2 9 rfl rfl) rfl rfl hl.1 rfl (lv_room (Nat.le_of_ble_eq_true rfl)) dX9_tell_80 ⟨Nat.le_of_ble_eq_true rfl, Nat.le_of_ble_eq_true rfl⟩) hS (fun q _ h => hFc q h) hFc (fun u t H1 locs ht hvm hw hB hz1 hk1 hS => ?_)
      refine Exists.elim hB (fun u_tc_21 hB1 => ?_)
      have h_22 := hB1.1
      have h_23 := hB1.2.1
      have hP1 := hB1.2.2.1
      have hD1 := hB1.2.2.2
      clear hB hB1
      rw [ht] at hP1
      obtain ⟨hP, hD⟩ := va_join (wr := [(kd, .inl (c_kd, 4, .inl f_kd)), (wd, .inl (c_wd, 4, .inl f_wd))]) (w1 := [(h0, .inr (9, [.int (zI fa), .int (zI u_tc_21), .ref so, .ref sl, .ref ce, .int (zI fn), .ref kd, .ref wd, .ref hs, .ref pf, .ref lt, .int (zI mn), .ref wg, .int (zI ta), .long ck, .int (zI at9), .int (zI rfn), .ref rk, .ref rw, .ref rh, .int (zI cl), .ref sa, .ref fi, .int (zI bo), .ref ch, .ref cn, .int (zI ad), .int (zI ru), .ref kp, .int (zI dn), .ref rfa]))]) hP hD [2] [0, 1] ax_X9_tell_4 ax_X9_tell_5 (by decide +kernel) (by decide +kernel) hk1 hFc hP1 hD1
      have hP := ax_X9_tell_2 hP
      have hD := ax_X9_tell_3 hD
      generalize H1 = H at hP hS ⊢
      have hP : va_P D vwCl [(kd, .inl (c_kd, 4, .inl f_kd)), (wd, .inl (c_wd, 4, .inl f_wd)), (h0, .inr (9, [.int (zI fa), .int (zI u_tc_21), .ref so, .ref sl, .ref ce, .int (zI fn), .ref kd, .ref wd, .ref hs, .ref pf, .ref lt, .int (zI mn), .ref wg, .int (zI ta), .long ck, .int (zI at9), .int (zI rfn), .ref rk, .ref rw, .ref rh, .int (zI cl), .ref sa, .ref fi, .int (zI bo), .ref ch, .ref cn, .int (zI ad), .int (zI ru), .ref kp, .int (zI dn), .ref rfa]))] H := hP
      have hD : va_D A [(kd, .inl (c_kd, 4, .inl f_kd)), (wd, .inl (c_wd, 4, .inl f_wd)), (h0, .inr (9, [.int (zI fa), .int (zI u_tc_21), .ref so, .ref sl, .ref ce, .int (zI fn), .ref kd, .ref wd, .ref hs, .ref pf, .ref lt, .int (zI mn), .ref wg, .int (zI ta), .long ck, .int (zI at9), .int (zI rfn), .ref rk, .ref rw, .ref rh, .int (zI cl), .ref sa, .ref fi, .int (zI bo), .ref ch, .ref cn, .int (zI ad), .int (zI ru), .ref kp, .int (zI dn), .ref rfa]))] := hD
      refine lv_iconst (v := zI 2) hx hb dX9_tell_83 rfl ?_
      refine lv_iload_n hx hb dX9_tell_84 rfl (lv_at hl 0 rfl) ?_
      refine kz_imul hx hb dX9_tell_85 ?_
      refine lv_bipush (v := zI 100) hx hb dX9_tell_86 (by decide) ?_
      refine kz_iadd hx hb dX9_tell_88 ?_
      refine kz_any (fun z_24 rz_24 ez_24 => ?_)
      have hP9 := hP.sub (ws' := [(h0, .inr (9, [.int (zI fa), .int (zI u_tc_21), .ref so, .ref sl, .ref ce, .int (zI fn), .ref kd, .ref wd, .ref hs, .ref pf, .ref lt, .int (zI mn), .ref wg, .int (zI ta), .long ck, .int (zI at9), .int (zI rfn), .ref rk, .ref rw, .ref rh, .int (zI cl), .ref sa, .ref fi, .int (zI bo), .ref ch, .ref cn, .int (zI ad), .int (zI ru), .ref kp, .int (zI dn), .ref rfa])), (kd, .inl (c_kd, 4, .inl f_kd)), (wd, .inl (c_wd, 4, .inl f_wd))]) [2, 0, 1] rfl
      have hD9 := hD.sub (ws' := [(h0, .inr (9, [.int (zI fa), .int (zI u_tc_21), .ref so, .ref sl, .ref ce, .int (zI fn), .ref kd, .ref wd, .ref hs, .ref pf, .ref lt, .int (zI mn), .ref wg, .int (zI ta), .long ck, .int (zI at9), .int (zI rfn), .ref rk, .ref rw, .ref rh, .int (zI cl), .ref sa, .ref fi, .int (zI bo), .ref ch, .ref cn, .int (zI ad), .int (zI ru), .ref kp, .int (zI dn), .ref rfa])), (kd, .inl (c_kd, 4, .inl f_kd)), (wd, .inl (c_wd, 4, .inl f_wd))]) [2, 0, 1] (by decide +kernel) rfl
      exact W.iret (v := (zI z_24)) hx hb hr (fun t ht hW => kQS_of (by omega) ⟨u_tc_21, h_22, (kTe_2 (by omega) ez_3 (by omega) ez_2 (by rw [h_23, h_20, h_17, h_14]) ez_24.symm (by omega)), by rw [ht]; exact hP9, hD9⟩ (hS.F ht)) hS.2.2 dX9_tell_89
    · refine kz_look (tgt := 90) (off := 67) hx hb dX9_tell_23 (by decide) (by omega) (by show Op.lookupswitch.offset [(1, 25), (2, 40)] 67 z_3 = 67; rw [Op.lookupswitch.offset_cons, Op.lookupswitch.offset_cons, Op.lookupswitch.offset_nil]; (repeat' split) <;> omega) (by decide) ?_
      refine lv_aload_n hx hb dX9_tell_90 rfl (lv_at hl 1 rfl) ?_
      refine lv_iconst (v := zI 1) hx hb dX9_tell_91 rfl ?_
      have hFc := va_free (wc := [(h0, .inr (9, [.int (zI fa), .int (zI tc), .ref so, .ref sl, .ref ce, .int (zI fn), .ref kd, .ref wd, .ref hs, .ref pf, .ref lt, .int (zI mn), .ref wg, .int (zI ta), .long ck, .int (zI at9), .int (zI rfn), .ref rk, .ref rw, .ref rh, .int (zI cl), .ref sa, .ref fi, .int (zI bo), .ref ch, .ref cn, .int (zI ad), .int (zI ru), .ref kp, .int (zI dn), .ref rfa]))]) hD hS hA [0] ax_X9_tell_0
      refine va_callv (va_runV (As := [.int (zI 1)]) (rest := []) ⟨hx, hb, hml, hown, hts⟩ (c_X9_begins l D s.heap.size (x := 1) (h0 := h0) (fa := fa) (tc := tc) (so := so) (sl := sl) (ce := ce) (fn := fn) (kd := kd) (wd := wd) (hs := hs) (pf := pf) (lt := lt) (mn := mn) (wg := wg) (ta := ta) (ck := ck) (at9 := at9) (rfn := rfn) (rk := rk) (rw := rw) (rh := rh) (cl := cl) (sa := sa) (fi := fi) (bo := bo) (ch := ch) (cn := cn) (ad := ad) (ru := ru) (kp := kp) (dn := dn) (rfa := rfa) (by omega) q1) (cwV 1 hts gX9_tell_X9_begins rfl rfl rfl (by decide +kernel) ⟨Nat.le_of_ble_eq_true rfl, Nat.le_of_ble_eq_true rfl⟩) (kPreV hP (kD0 hD) hK hN [0] [] ax_X9_tell_0 rfl (by decide +kernel) 0 9 rfl rfl) rfl rfl hl.1 rfl (lv_room (Nat.le_of_ble_eq_true rfl)) dX9_tell_92 ⟨Nat.le_of_ble_eq_true rfl, Nat.le_of_ble_eq_true rfl⟩) hS (fun q _ h => hFc q h) hFc (fun u t H1 locs ht hvm hw hB hz1 hk1 hS => ?_)
      refine Exists.elim hB (fun u_tc_25 hB1 => ?_)
      have h_26 := hB1.1
      have h_27 := hB1.2.1
      have hP1 := hB1.2.2.1
      have hD1 := hB1.2.2.2
      clear hB hB1
      rw [ht] at hP1
      obtain ⟨hP, hD⟩ := va_join (wr := [(kd, .inl (c_kd, 4, .inl f_kd)), (wd, .inl (c_wd, 4, .inl f_wd))]) (w1 := [(h0, .inr (9, [.int (zI fa), .int (zI u_tc_25), .ref so, .ref sl, .ref ce, .int (zI fn), .ref kd, .ref wd, .ref hs, .ref pf, .ref lt, .int (zI mn), .ref wg, .int (zI ta), .long ck, .int (zI at9), .int (zI rfn), .ref rk, .ref rw, .ref rh, .int (zI cl), .ref sa, .ref fi, .int (zI bo), .ref ch, .ref cn, .int (zI ad), .int (zI ru), .ref kp, .int (zI dn), .ref rfa]))]) hP hD [0] [1, 2] ax_X9_tell_0 ax_X9_tell_1 (by decide +kernel) (by decide +kernel) hk1 hFc hP1 hD1
      have hP := ax_X9_tell_2 hP
      have hD := ax_X9_tell_3 hD
      generalize H1 = H at hP hS ⊢
      have hP : va_P D vwCl [(kd, .inl (c_kd, 4, .inl f_kd)), (wd, .inl (c_wd, 4, .inl f_wd)), (h0, .inr (9, [.int (zI fa), .int (zI u_tc_25), .ref so, .ref sl, .ref ce, .int (zI fn), .ref kd, .ref wd, .ref hs, .ref pf, .ref lt, .int (zI mn), .ref wg, .int (zI ta), .long ck, .int (zI at9), .int (zI rfn), .ref rk, .ref rw, .ref rh, .int (zI cl), .ref sa, .ref fi, .int (zI bo), .ref ch, .ref cn, .int (zI ad), .int (zI ru), .ref kp, .int (zI dn), .ref rfa]))] H := hP
      have hD : va_D A [(kd, .inl (c_kd, 4, .inl f_kd)), (wd, .inl (c_wd, 4, .inl f_wd)), (h0, .inr (9, [.int (zI fa), .int (zI u_tc_25), .ref so, .ref sl, .ref ce, .int (zI fn), .ref kd, .ref wd, .ref hs, .ref pf, .ref lt, .int (zI mn), .ref wg, .int (zI ta), .long ck, .int (zI at9), .int (zI rfn), .ref rk, .ref rw, .ref rh, .int (zI cl), .ref sa, .ref fi, .int (zI bo), .ref ch, .ref cn, .int (zI ad), .int (zI ru), .ref kp, .int (zI dn), .ref rfa]))] := hD
      refine lv_iload_n hx hb dX9_tell_95 rfl (lv_at hl 0 rfl) ?_
      refine kz_any (fun z_28 rz_28 ez_28 => ?_)
      have hP9 := hP.sub (ws' := [(h0, .inr (9, [.int (zI fa), .int (zI u_tc_25), .ref so, .ref sl, .ref ce, .int (zI fn), .ref kd, .ref wd, .ref hs, .ref pf, .ref lt, .int (zI mn), .ref wg, .int (zI ta), .long ck, .int (zI at9), .int (zI rfn), .ref rk, .ref rw, .ref rh, .int (zI cl), .ref sa, .ref fi, .int (zI bo), .ref ch, .ref cn, .int (zI ad), .int (zI ru), .ref kp, .int (zI dn), .ref rfa])), (kd, .inl (c_kd, 4, .inl f_kd)), (wd, .inl (c_wd, 4, .inl f_wd))]) [2, 0, 1] rfl
      have hD9 := hD.sub (ws' := [(h0, .inr (9, [.int (zI fa), .int (zI u_tc_25), .ref so, .ref sl, .ref ce, .int (zI fn), .ref kd, .ref wd, .ref hs, .ref pf, .ref lt, .int (zI mn), .ref wg, .int (zI ta), .long ck, .int (zI at9), .int (zI rfn), .ref rk, .ref rw, .ref rh, .int (zI cl), .ref sa, .ref fi, .int (zI bo), .ref ch, .ref cn, .int (zI ad), .int (zI ru), .ref kp, .int (zI dn), .ref rfa])), (kd, .inl (c_kd, 4, .inl f_kd)), (wd, .inl (c_wd, 4, .inl f_wd))]) [2, 0, 1] (by decide +kernel) rfl
      exact W.iret (v := (zI z_28)) hx hb hr (fun t ht hW => kQS_of (by omega) ⟨u_tc_25, h_26, (kTe_3 (by omega) ez_3 rz_3 (by omega) ez_2 (by rw [h_27]) ez_28.symm (by omega)), by rw [ht]; exact hP9, hD9⟩ (hS.F ht)) hS.2.2 dX9_tell_96
  · have c_1 : ¬ (0 ≤ f ∧ f < fn) := b01f c_1
    refine lv_iconst (v := zI (-1)) hx hb dX9_tell_8 rfl ?_
    have hP9 := hP.sub (ws' := [(h0, .inr (9, [.int (zI fa), .int (zI tc), .ref so, .ref sl, .ref ce, .int (zI fn), .ref kd, .ref wd, .ref hs, .ref pf, .ref lt, .int (zI mn), .ref wg, .int (zI ta), .long ck, .int (zI at9), .int (zI rfn), .ref rk, .ref rw, .ref rh, .int (zI cl), .ref sa, .ref fi, .int (zI bo), .ref ch, .ref cn, .int (zI ad), .int (zI ru), .ref kp, .int (zI dn), .ref rfa])), (kd, .inl (c_kd, 4, .inl f_kd)), (wd, .inl (c_wd, 4, .inl f_wd))]) [0, 1, 2] rfl
    have hD9 := hD.sub (ws' := [(h0, .inr (9, [.int (zI fa), .int (zI tc), .ref so, .ref sl, .ref ce, .int (zI fn), .ref kd, .ref wd, .ref hs, .ref pf, .ref lt, .int (zI mn), .ref wg, .int (zI ta), .long ck, .int (zI at9), .int (zI rfn), .ref rk, .ref rw, .ref rh, .int (zI cl), .ref sa, .ref fi, .int (zI bo), .ref ch, .ref cn, .int (zI ad), .int (zI ru), .ref kp, .int (zI dn), .ref rfa])), (kd, .inl (c_kd, 4, .inl f_kd)), (wd, .inl (c_wd, 4, .inl f_wd))]) [0, 1, 2] (by decide +kernel) rfl
    exact W.iret (v := (zI (-1))) hx hb hr (fun t ht hW => kQS_of (by omega) ⟨tc, q1, (kTe_0 (by omega) (by omega)), by rw [ht]; exact hP9, hD9⟩ (hS.F ht)) hS.2.2 dX9_tell_9
theorem dX9_sample_0 : decode cX9_sample 0 = .ok (.aload_n 0, 1) := kqo_2a kbl_X9_sample (pc := 0) rfl
theorem dX9_sample_1 : decode cX9_sample 1 = .ok (.iload_n 1, 1) := kqo_1b kbl_X9_sample (pc := 1) rfl
theorem dX9_sample_2 : decode cX9_sample 2 = .ok (.invokevirtual 120, 3) := kqo_b6 (x1 := 0) (x2 := 120) kbl_X9_sample (pc := 2) rfl rfl
theorem dX9_sample_5 : decode cX9_sample 5 = .ok (.ifCond .ne 5, 3) := kqo_9a (x1 := 0) (x2 := 5) kbl_X9_sample (pc := 5) rfl rfl
theorem dX9_sample_8 : decode cX9_sample 8 = .ok (.iconst (-1), 1) := kqo_02 kbl_X9_sample (pc := 8) rfl
theorem dX9_sample_9 : decode cX9_sample 9 = .ok (.ireturn, 1) := kqo_ac kbl_X9_sample (pc := 9) rfl
theorem dX9_sample_10 : decode cX9_sample 10 = .ok (.aload_n 0, 1) := kqo_2a kbl_X9_sample (pc := 10) rfl
theorem dX9_sample_11 : decode cX9_sample 11 = .ok (.aload_n 0, 1) := kqo_2a kbl_X9_sample (pc := 11) rfl
theorem dX9_sample_12 : decode cX9_sample 12 = .ok (.getfield 19, 3) := kqo_b4 (x1 := 0) (x2 := 19) kbl_X9_sample (pc := 12) rfl rfl
theorem dX9_sample_15 : decode cX9_sample 15 = .ok (.iload_n 1, 1) := kqo_1b kbl_X9_sample (pc := 15) rfl
theorem dX9_sample_16 : decode cX9_sample 16 = .ok (.iaload, 1) := kqo_2e kbl_X9_sample (pc := 16) rfl
theorem dX9_sample_17 : decode cX9_sample 17 = .ok (.iconst 2, 1) := kqo_05 kbl_X9_sample (pc := 17) rfl
theorem dX9_sample_18 : decode cX9_sample 18 = .ok (.if_icmp .ne 7, 3) := kqo_a0 (x1 := 0) (x2 := 7) kbl_X9_sample (pc := 18) rfl rfl
theorem dX9_sample_21 : decode cX9_sample 21 = .ok (.iconst 5, 1) := kqo_08 kbl_X9_sample (pc := 21) rfl
theorem dX9_sample_22 : decode cX9_sample 22 = .ok (.goto 4, 3) := kqo_a7 (x1 := 0) (x2 := 4) kbl_X9_sample (pc := 22) rfl rfl
theorem dX9_sample_25 : decode cX9_sample 25 = .ok (.iconst 4, 1) := kqo_07 kbl_X9_sample (pc := 25) rfl
theorem dX9_sample_26 : decode cX9_sample 26 = .ok (.invokevirtual 213, 3) := kqo_b6 (x1 := 0) (x2 := 213) kbl_X9_sample (pc := 26) rfl rfl
theorem dX9_sample_29 : decode cX9_sample 29 = .ok (.aload_n 0, 1) := kqo_2a kbl_X9_sample (pc := 29) rfl
theorem dX9_sample_30 : decode cX9_sample 30 = .ok (.getfield 19, 3) := kqo_b4 (x1 := 0) (x2 := 19) kbl_X9_sample (pc := 30) rfl rfl
theorem dX9_sample_33 : decode cX9_sample 33 = .ok (.iload_n 1, 1) := kqo_1b kbl_X9_sample (pc := 33) rfl
theorem dX9_sample_34 : decode cX9_sample 34 = .ok (.iaload, 1) := kqo_2e kbl_X9_sample (pc := 34) rfl
theorem dX9_sample_35 : decode cX9_sample 35 = .ok (.iconst 2, 1) := kqo_05 kbl_X9_sample (pc := 35) rfl
theorem dX9_sample_36 : decode cX9_sample 36 = .ok (.if_icmp .ne 8, 3) := kqo_a0 (x1 := 0) (x2 := 8) kbl_X9_sample (pc := 36) rfl rfl
theorem dX9_sample_39 : decode cX9_sample 39 = .ok (.bipush 50, 2) := kqo_10 (x1 := 50) kbl_X9_sample (pc := 39) rfl rfl
theorem dX9_sample_41 : decode cX9_sample 41 = .ok (.goto 12, 3) := kqo_a7 (x1 := 0) (x2 := 12) kbl_X9_sample (pc := 41) rfl rfl
theorem dX9_sample_44 : decode cX9_sample 44 = .ok (.aload_n 0, 1) := kqo_2a kbl_X9_sample (pc := 44) rfl
theorem dX9_sample_45 : decode cX9_sample 45 = .ok (.getfield 25, 3) := kqo_b4 (x1 := 0) (x2 := 25) kbl_X9_sample (pc := 45) rfl rfl
theorem dX9_sample_48 : decode cX9_sample 48 = .ok (.iload_n 1, 1) := kqo_1b kbl_X9_sample (pc := 48) rfl
theorem dX9_sample_49 : decode cX9_sample 49 = .ok (.iaload, 1) := kqo_2e kbl_X9_sample (pc := 49) rfl
theorem dX9_sample_50 : decode cX9_sample 50 = .ok (.invokestatic 114, 3) := kqo_b8 (x1 := 0) (x2 := 114) kbl_X9_sample (pc := 50) rfl rfl
theorem dX9_sample_53 : decode cX9_sample 53 = .ok (.ireturn, 1) := kqo_ac kbl_X9_sample (pc := 53) rfl
set_option maxRecDepth 20000 in
theorem ggX9_sample_X9_begins : GoodIn wsX9_sample wsX9_begins := goodIn_4 _ (List.forall_mem_cons.mpr ⟨List.mem_cons_of_mem _ (List.mem_append_left _ (List.mem_of_getElem? (i := 11) rfl)), List.forall_mem_append.mpr ⟨List.forall_mem_cons.mpr ⟨List.mem_cons_of_mem _ (List.mem_append_left _ (List.mem_of_getElem? (i := 12) rfl)), fun _ h9 => absurd h9 List.not_mem_nil⟩, fun w h9 => List.mem_cons_of_mem _ (List.mem_append_right _ (h9))⟩⟩) (by decide +kernel)
set_option maxRecDepth 20000 in
theorem gX9_sample_X9_begins : GoodIn wsX9_sample (wsV RX9 213 RX9 yX9_begins wsX9_begins) := goodIn_app (goodIn_4 _ (List.forall_mem_cons.mpr ⟨List.mem_cons_of_mem _ (List.mem_append_left _ (List.mem_of_getElem? (i := 8) rfl)), List.forall_mem_cons.mpr ⟨List.mem_cons_of_mem _ (List.mem_append_left _ (List.mem_of_getElem? (i := 9) rfl)), List.forall_mem_cons.mpr ⟨List.mem_cons_of_mem _ (List.mem_append_left _ (List.mem_of_getElem? (i := 10) rfl)), List.forall_mem_cons.mpr ⟨List.mem_cons_of_mem _ (List.mem_append_left _ (List.mem_of_getElem? (i := 5) rfl)), fun _ h9 => absurd h9 List.not_mem_nil⟩⟩⟩⟩) (by decide +kernel)) ggX9_sample_X9_begins
set_option maxRecDepth 20000 in
theorem ggX9_sample_X9_isFont : GoodIn wsX9_sample wsX9_isFont := goodIn_4 _ (List.forall_mem_cons.mpr ⟨List.mem_cons_of_mem _ (List.mem_append_left _ (List.mem_of_getElem? (i := 6) rfl)), List.forall_mem_append.mpr ⟨List.forall_mem_cons.mpr ⟨List.mem_cons_of_mem _ (List.mem_append_left _ (List.mem_of_getElem? (i := 7) rfl)), fun _ h9 => absurd h9 List.not_mem_nil⟩, fun w h9 => List.mem_cons_of_mem _ (List.mem_append_right _ (h9))⟩⟩) (by decide +kernel)
set_option maxRecDepth 20000 in
theorem gX9_sample_X9_isFont : GoodIn wsX9_sample (wsV RX9 120 RX9 yX9_isFont wsX9_isFont) := goodIn_app (goodIn_4 _ (List.forall_mem_cons.mpr ⟨List.mem_cons_of_mem _ (List.mem_append_left _ (List.mem_of_getElem? (i := 2) rfl)), List.forall_mem_cons.mpr ⟨List.mem_cons_of_mem _ (List.mem_append_left _ (List.mem_of_getElem? (i := 3) rfl)), List.forall_mem_cons.mpr ⟨List.mem_cons_of_mem _ (List.mem_append_left _ (List.mem_of_getElem? (i := 4) rfl)), List.forall_mem_cons.mpr ⟨List.mem_cons_of_mem _ (List.mem_append_left _ (List.mem_of_getElem? (i := 5) rfl)), fun _ h9 => absurd h9 List.not_mem_nil⟩⟩⟩⟩) (by decide +kernel)) ggX9_sample_X9_isFont
set_option maxRecDepth 20000 in
theorem ggX9_sample_X9_size : GoodIn wsX9_sample wsX9_size := goodIn_4 _ (List.forall_mem_cons.mpr ⟨List.mem_cons_of_mem _ (List.mem_append_left _ (List.mem_of_getElem? (i := 15) rfl)), fun _ h9 => absurd h9 List.not_mem_nil⟩) (by decide +kernel)
set_option maxRecDepth 20000 in
theorem gX9_sample_X9_size : GoodIn wsX9_sample (va_wsS RX9 114 yX9_size wsX9_size) := goodIn_app (goodIn_4 _ (List.forall_mem_cons.mpr ⟨List.mem_cons_of_mem _ (List.mem_append_left _ (List.mem_of_getElem? (i := 13) rfl)), List.forall_mem_cons.mpr ⟨List.mem_cons_of_mem _ (List.mem_append_left _ (List.mem_of_getElem? (i := 14) rfl)), List.forall_mem_cons.mpr ⟨List.mem_cons_of_mem _ (List.mem_append_left _ (List.mem_of_getElem? (i := 5) rfl)), fun _ h9 => absurd h9 List.not_mem_nil⟩⟩⟩) (by decide +kernel)) ggX9_sample_X9_size
set_option maxRecDepth 20000 in
theorem mw_X9_sample_0 : (.fieldLink RX9 19 "FontRunsModel" "kind" "[I" : Cond) ∈ wsX9_sample := List.mem_cons_of_mem _ (List.mem_append_left _ (List.mem_of_getElem? (i := 0) rfl))
set_option maxRecDepth 20000 in
theorem mw_X9_sample_1 : (.fieldLink RX9 25 "FontRunsModel" "has" "[I" : Cond) ∈ wsX9_sample := List.mem_cons_of_mem _ (List.mem_append_left _ (List.mem_of_getElem? (i := 1) rfl))
theorem ax_X9_sample_0 {e0 e1 e2 : Nat × va_E} : ([0] : List Nat).map (fun i => ([e0, e1, e2] : va_W)[i]?) = ([e0] : va_W).map some := rfl
theorem ax_X9_sample_1 {e0 e1 e2 : Nat × va_E} : ([1, 2] : List Nat).map (fun i => ([e0, e1, e2] : va_W)[i]?) = ([e1, e2] : va_W).map some := rfl
theorem ax_X9_sample_2 {D : va_G} {cl : List vw_C} {H : Heap} {e0 e1 f0 : Nat × va_E} (h : va_P D cl ((([e0, e1] : va_W) ++ ([f0] : va_W))) H) : va_P D cl (([e0, e1, f0] : va_W)) H := h
theorem ax_X9_sample_3 {A : Nat → Prop} {e0 e1 f0 : Nat × va_E} (h : va_D A ((([e0, e1] : va_W) ++ ([f0] : va_W)))) : va_D A (([e0, e1, f0] : va_W)) := h
theorem ax_X9_sample_4 {e0 e1 e2 : Nat × va_E} : ([] : List Nat).map (fun i => ([e0, e1, e2] : va_W)[i]?) = ([] : va_W).map some := rfl
theorem ax_X9_sample_5 {e0 e1 e2 : Nat × va_E} : ([2, 0, 1] : List Nat).map (fun i => ([e0, e1, e2] : va_W)[i]?) = ([e2, e0, e1] : va_W).map some := rfl
theorem ax_X9_sample_6 {e0 e1 e2 : Nat × va_E} : ([0, 1, 2] : List Nat).map (fun i => ([e0, e1, e2] : va_W)[i]?) = ([e0, e1, e2] : va_W).map some := rfl
set_option maxHeartbeats 4000000 in
set_option maxRecDepth 100000 in
theorem c_X9_sample (l : Launch) (D : va_G) (sz : Nat) (f : Int) (h0 : Nat) (fa : Int) (tc : Int) (so : Nat) (sl : Nat) (ce : Nat) (fn : Int) (kd : Nat) (wd : Nat) (hs : Nat) (pf : Nat) (lt : Nat) (mn : Int) (wg : Nat) (ta : Int) (ck : Int64) (at9 : Int) (rfn : Int) (rk : Nat) (rw : Nat) (rh : Nat) (cl : Int) (sa : Nat) (fi : Nat) (bo : Int) (ch : Nat) (cn : Nat) (ad : Int) (ru : Int) (kp : Nat) (dn : Int) (rfa : Nat) (c_kd : ClassId) (f_kd : Nat → Int32) (c_hs : ClassId) (f_hs : Nat → Int32) (q0 : rg f) (q1 : rg tc) (q2 : 0 ≤ fn ∧ fn ≤ 4) : Met l yX9_sample wsX9_sample ({ frames := 1, cells := 0, slots := 0, locals := 22 }) (kPre [.ref h0, .int (zI f)] D [(h0, .inr (9, [.int (zI fa), .int (zI tc), .ref so, .ref sl, .ref ce, .int (zI fn), .ref kd, .ref wd, .ref hs, .ref pf, .ref lt, .int (zI mn), .ref wg, .int (zI ta), .long ck, .int (zI at9), .int (zI rfn), .ref rk, .ref rw, .ref rh, .int (zI cl), .ref sa, .ref fi, .int (zI bo), .ref ch, .ref cn, .int (zI ad), .int (zI ru), .ref kp, .int (zI dn), .ref rfa])), (kd, .inl (c_kd, 4, .inl f_kd)), (hs, .inl (c_hs, 4, .inl f_hs))] [(c_kd, .int), (c_hs, .int)] sz) (kQS (fun rz t => ∃ (u_tc : Int), (rg u_tc) ∧ (kSaM f fn f_kd f_hs tc u_tc rz) ∧ va_P D vwCl [(h0, .inr (9, [.int (zI fa), .int (zI u_tc), .ref so, .ref sl, .ref ce, .int (zI fn), .ref kd, .ref wd, .ref hs, .ref pf, .ref lt, .int (zI mn), .ref wg, .int (zI ta), .long ck, .int (zI at9), .int (zI rfn), .ref rk, .ref rw, .ref rh, .int (zI cl), .ref sa, .ref fi, .int (zI bo), .ref ch, .ref cn, .int (zI ad), .int (zI ru), .ref kp, .int (zI dn), .ref rfa])), (kd, .inl (c_kd, 4, .inl f_kd)), (hs, .inl (c_hs, 4, .inl f_hs))] t.heap ∧ va_D (va_A [(h0, .inr (9, [.int (zI fa), .int (zI tc), .ref so, .ref sl, .ref ce, .int (zI fn), .ref kd, .ref wd, .ref hs, .ref pf, .ref lt, .int (zI mn), .ref wg, .int (zI ta), .long ck, .int (zI at9), .int (zI rfn), .ref rk, .ref rw, .ref rh, .int (zI cl), .ref sa, .ref fi, .int (zI bo), .ref ch, .ref cn, .int (zI ad), .int (zI ru), .ref kp, .int (zI dn), .ref rfa])), (kd, .inl (c_kd, 4, .inl f_kd)), (hs, .inl (c_hs, 4, .inl f_hs))] sz) [(h0, .inr (9, [.int (zI fa), .int (zI u_tc), .ref so, .ref sl, .ref ce, .int (zI fn), .ref kd, .ref wd, .ref hs, .ref pf, .ref lt, .int (zI mn), .ref wg, .int (zI ta), .long ck, .int (zI at9), .int (zI rfn), .ref rk, .ref rw, .ref rh, .int (zI cl), .ref sa, .ref fi, .int (zI bo), .ref ch, .ref cn, .int (zI ad), .int (zI ru), .ref kp, .int (zI dn), .ref rfa])), (kd, .inl (c_kd, 4, .inl f_kd)), (hs, .inl (c_hs, 4, .inl f_hs))]) (va_A [(h0, .inr (9, [.int (zI fa), .int (zI tc), .ref so, .ref sl, .ref ce, .int (zI fn), .ref kd, .ref wd, .ref hs, .ref pf, .ref lt, .int (zI mn), .ref wg, .int (zI ta), .long ck, .int (zI at9), .int (zI rfn), .ref rk, .ref rw, .ref rh, .int (zI cl), .ref sa, .ref fi, .int (zI bo), .ref ch, .ref cn, .int (zI ad), .int (zI ru), .ref kp, .int (zI dn), .ref rfa])), (kd, .inl (c_kd, 4, .inl f_kd)), (hs, .inl (c_hs, 4, .inl f_hs))] sz)) 0 0 (va_A [(h0, .inr (9, [.int (zI fa), .int (zI tc), .ref so, .ref sl, .ref ce, .int (zI fn), .ref kd, .ref wd, .ref hs, .ref pf, .ref lt, .int (zI mn), .ref wg, .int (zI ta), .long ck, .int (zI at9), .int (zI rfn), .ref rk, .ref rw, .ref rh, .int (zI cl), .ref sa, .ref fi, .int (zI bo), .ref ch, .ref cn, .int (zI ad), .int (zI ru), .ref kp, .int (zI dn), .ref rfa])), (kd, .inl (c_kd, 4, .inl f_kd)), (hs, .inl (c_hs, 4, .inl f_hs))] sz) := by
  refine Met.ofW (cc := cX9_sample) (maxL := 2) (ret := (some .int)) (by decide) rfl ?_
  intro p e s m args below meth c s₁ B hml hv
  obtain ⟨rfl, hsz, hP, hK, hD0, hN⟩ := hv
  have hx := B.exec
  have hb := B.bytes
  have hr := B.returns
  have hts := atoms_spec (ws := wsX9_sample) B.pre
  have hown : s.vm.findClass RX9 = some m.cls := findClass_of_methodNamed B.named
  have hlocks := B.notSynchronized
  subst hsz
  have hD := hD0.self (sz := s.heap.size)
  generalize hAe : va_A [(h0, .inr (9, [.int (zI fa), .int (zI tc), .ref so, .ref sl, .ref ce, .int (zI fn), .ref kd, .ref wd, .ref hs, .ref pf, .ref lt, .int (zI mn), .ref wg, .int (zI ta), .long ck, .int (zI at9), .int (zI rfn), .ref rk, .ref rw, .ref rh, .int (zI cl), .ref sa, .ref fi, .int (zI bo), .ref ch, .ref cn, .int (zI ad), .int (zI ru), .ref kp, .int (zI dn), .ref rfa])), (kd, .inl (c_kd, 4, .inl f_kd)), (hs, .inl (c_hs, 4, .inl f_hs))] s.heap.size = A at hD ⊢
  have hA : ∀ q : Nat, s.heap.size ≤ q → A q := fun q h => by rw [← hAe]; exact Or.inr h
  have hS : va_S A s.heap s.heap [] := va_S.rf
  have hP : va_P D vwCl [(h0, .inr (9, [.int (zI fa), .int (zI tc), .ref so, .ref sl, .ref ce, .int (zI fn), .ref kd, .ref wd, .ref hs, .ref pf, .ref lt, .int (zI mn), .ref wg, .int (zI ta), .long ck, .int (zI at9), .int (zI rfn), .ref rk, .ref rw, .ref rh, .int (zI cl), .ref sa, .ref fi, .int (zI bo), .ref ch, .ref cn, .int (zI ad), .int (zI ru), .ref kp, .int (zI dn), .ref rfa])), (kd, .inl (c_kd, 4, .inl f_kd)), (hs, .inl (c_hs, 4, .inl f_hs))] s.heap := hP
  have hl := lv_entry ([.ref h0, .int (zI f)]) (n := 2) (Nat.le_of_ble_eq_true rfl)
  rw [lg_entry_eq]
  generalize (lg_sl ([.ref h0, .int (zI f)]) ++ List.replicate (2 - (lg_sl ([.ref h0, .int (zI f)])).length) Slot.unset).toArray = ls at hl ⊢
  have hl : lv_has ls 2 [(0, .ref h0), (1, .int (zI f))] := hl
  refine lv_aload_n hx hb dX9_sample_0 rfl (lv_at hl 0 rfl) ?_
  refine lv_iload_n hx hb dX9_sample_1 rfl (lv_at hl 1 rfl) ?_
  refine k_callR (va_runV (As := [.int (zI f)]) (rest := []) ⟨hx, hb, hml, hown, hts⟩ (c_X9_isFont l D s.heap.size (f := f) (h0 := h0) (fa := fa) (tc := tc) (so := so) (sl := sl) (ce := ce) (fn := fn) (kd := kd) (wd := wd) (hs := hs) (pf := pf) (lt := lt) (mn := mn) (wg := wg) (ta := ta) (ck := ck) (at9 := at9) (rfn := rfn) (rk := rk) (rw := rw) (rh := rh) (cl := cl) (sa := sa) (fi := fi) (bo := bo) (ch := ch) (cn := cn) (ad := ad) (ru := ru) (kp := kp) (dn := dn) (rfa := rfa) q0 q2) (cwV 1 hts gX9_sample_X9_isFont rfl rfl rfl (by decide +kernel) ⟨Nat.le_of_ble_eq_true rfl, Nat.le_of_ble_eq_true rfl⟩) (kPreV hP (kD0 hD) hK hN [0] [] ax_X9_sample_0 rfl (by decide +kernel) 0 9 rfl rfl) rfl rfl hl.1 rfl (lv_room (Nat.le_of_ble_eq_true rfl)) dX9_sample_2 ⟨Nat.le_of_ble_eq_true rfl, Nat.le_of_ble_eq_true rfl⟩) ?_
  refine lv_if_ne (tgt := 10) hx hb dX9_sample_5 (by decide) (fun c_1 => ?_) (fun c_1 => ?_)
  · have c_1 : 0 ≤ f ∧ f < fn := b01t c_1
    refine lv_aload_n hx hb dX9_sample_10 rfl (lv_at hl 0 rfl) ?_
    refine lv_aload_n hx hb dX9_sample_11 rfl (lv_at hl 0 rfl) ?_
    refine va_get (D := D) (ci := 9) (v := .ref kd) (C := RX9) (T := TX9) (N := 31) hx hb hts (fun _ h9 => List.mem_cons_of_mem _ (List.mem_append_right _ h9)) hown hK hP 0 rfl rfl 6 (by decide) (hts (.fieldLink RX9 19 "FontRunsModel" "kind" "[I") mw_X9_sample_0) (fun _ h9 => h9) rfl dX9_sample_12 ?_
    refine lv_iload_n hx hb dX9_sample_15 rfl (lv_at hl 1 rfl) ?_
    refine kz_iald hx hb hK hP 1 0 rfl rfl (by omega) dX9_sample_16 (fun z_2 rz_2 ez_2 => ?_)
    have tz_2 : (f_kd (f).toNat).toInt = z_2 := by rw [ez_2, zI_toInt rz_2]
    refine lv_iconst (v := zI 2) hx hb dX9_sample_17 rfl ?_
    refine kz_icmp_ne (tgt := 25) hx hb dX9_sample_18 (by decide) (by omega) (by omega) (fun c_3 => ?_) (fun c_3 => ?_)
    · refine lv_iconst (v := zI 4) hx hb dX9_sample_25 rfl ?_
      have hFc := va_free (wc := [(h0, .inr (9, [.int (zI fa), .int (zI tc), .ref so, .ref sl, .ref ce, .int (zI fn), .ref kd, .ref wd, .ref hs, .ref pf, .ref lt, .int (zI mn), .ref wg, .int (zI ta), .long ck, .int (zI at9), .int (zI rfn), .ref rk, .ref rw, .ref rh, .int (zI cl), .ref sa, .ref fi, .int (zI bo), .ref ch, .ref cn, .int (zI ad), .int (zI ru), .ref kp, .int (zI dn), .ref rfa]))]) hD hS hA [0] ax_X9_sample_0
      refine va_callv (va_runV (As := [.int (zI 4)]) (rest := []) ⟨hx, hb, hml, hown, hts⟩ (c_X9_begins l D s.heap.size (x := 4) (h0 := h0) (fa := fa) (tc := tc) (so := so) (sl := sl) (ce := ce) (fn := fn) (kd := kd) (wd := wd) (hs := hs) (pf := pf) (lt := lt) (mn := mn) (wg := wg) (ta := ta) (ck := ck) (at9 := at9) (rfn := rfn) (rk := rk) (rw := rw) (rh := rh) (cl := cl) (sa := sa) (fi := fi) (bo := bo) (ch := ch) (cn := cn) (ad := ad) (ru := ru) (kp := kp) (dn := dn) (rfa := rfa) (by omega) q1) (cwV 1 hts gX9_sample_X9_begins rfl rfl rfl (by decide +kernel) ⟨Nat.le_of_ble_eq_true rfl, Nat.le_of_ble_eq_true rfl⟩) (kPreV hP (kD0 hD) hK hN [0] [] ax_X9_sample_0 rfl (by decide +kernel) 0 9 rfl rfl) rfl rfl hl.1 rfl (lv_room (Nat.le_of_ble_eq_true rfl)) dX9_sample_26 ⟨Nat.le_of_ble_eq_true rfl, Nat.le_of_ble_eq_true rfl⟩) hS (fun q _ h => hFc q h) hFc (fun u t H1 locs ht hvm hw hB hz1 hk1 hS => ?_)
      refine Exists.elim hB (fun u_tc_4 hB1 => ?_)
      have h_5 := hB1.1
      have h_6 := hB1.2.1
      have hP1 := hB1.2.2.1
      have hD1 := hB1.2.2.2
      clear hB hB1
      rw [ht] at hP1
      obtain ⟨hP, hD⟩ := va_join (wr := [(kd, .inl (c_kd, 4, .inl f_kd)), (hs, .inl (c_hs, 4, .inl f_hs))]) (w1 := [(h0, .inr (9, [.int (zI fa), .int (zI u_tc_4), .ref so, .ref sl, .ref ce, .int (zI fn), .ref kd, .ref wd, .ref hs, .ref pf, .ref lt, .int (zI mn), .ref wg, .int (zI ta), .long ck, .int (zI at9), .int (zI rfn), .ref rk, .ref rw, .ref rh, .int (zI cl), .ref sa, .ref fi, .int (zI bo), .ref ch, .ref cn, .int (zI ad), .int (zI ru), .ref kp, .int (zI dn), .ref rfa]))]) hP hD [0] [1, 2] ax_X9_sample_0 ax_X9_sample_1 (by decide +kernel) (by decide +kernel) hk1 hFc hP1 hD1
      have hP := ax_X9_sample_2 hP
      have hD := ax_X9_sample_3 hD
      generalize H1 = H at hP hS ⊢
      have hP : va_P D vwCl [(kd, .inl (c_kd, 4, .inl f_kd)), (hs, .inl (c_hs, 4, .inl f_hs)), (h0, .inr (9, [.int (zI fa), .int (zI u_tc_4), .ref so, .ref sl, .ref ce, .int (zI fn), .ref kd, .ref wd, .ref hs, .ref pf, .ref lt, .int (zI mn), .ref wg, .int (zI ta), .long ck, .int (zI at9), .int (zI rfn), .ref rk, .ref rw, .ref rh, .int (zI cl), .ref sa, .ref fi, .int (zI bo), .ref ch, .ref cn, .int (zI ad), .int (zI ru), .ref kp, .int (zI dn), .ref rfa]))] H := hP
      have hD : va_D A [(kd, .inl (c_kd, 4, .inl f_kd)), (hs, .inl (c_hs, 4, .inl f_hs)), (h0, .inr (9, [.int (zI fa), .int (zI u_tc_4), .ref so, .ref sl, .ref ce, .int (zI fn), .ref kd, .ref wd, .ref hs, .ref pf, .ref lt, .int (zI mn), .ref wg, .int (zI ta), .long ck, .int (zI at9), .int (zI rfn), .ref rk, .ref rw, .ref rh, .int (zI cl), .ref sa, .ref fi, .int (zI bo), .ref ch, .ref cn, .int (zI ad), .int (zI ru), .ref kp, .int (zI dn), .ref rfa]))] := hD
      refine lv_aload_n hx hb dX9_sample_29 rfl (lv_at hl 0 rfl) ?_
      refine va_get (D := D) (ci := 9) (v := .ref kd) (C := RX9) (T := TX9) (N := 31) hx hb hts (fun _ h9 => List.mem_cons_of_mem _ (List.mem_append_right _ h9)) hown hK hP 2 rfl rfl 6 (by decide) (hts (.fieldLink RX9 19 "FontRunsModel" "kind" "[I") mw_X9_sample_0) (fun _ h9 => h9) rfl dX9_sample_30 ?_
      refine lv_iload_n hx hb dX9_sample_33 rfl (lv_at hl 1 rfl) ?_
      refine kz_iald hx hb hK hP 0 0 rfl rfl (by omega) dX9_sample_34 (fun z_7 rz_7 ez_7 => ?_)
      have q9 : z_2 = z_7 := (zI_eq rz_2 rz_7).mp (ez_2.symm.trans ez_7)
      subst q9
      refine lv_iconst (v := zI 2) hx hb dX9_sample_35 rfl ?_
      refine kz_icmp_ne (tgt := 44) hx hb dX9_sample_36 (by decide) (by omega) (by omega) (fun c9 => ?_) (fun c9 => by omega)
      refine lv_aload_n hx hb dX9_sample_44 rfl (lv_at hl 0 rfl) ?_
      refine va_get (D := D) (ci := 9) (v := .ref hs) (C := RX9) (T := TX9) (N := 31) hx hb hts (fun _ h9 => List.mem_cons_of_mem _ (List.mem_append_right _ h9)) hown hK hP 2 rfl rfl 8 (by decide) (hts (.fieldLink RX9 25 "FontRunsModel" "has" "[I") mw_X9_sample_1) (fun _ h9 => h9) rfl dX9_sample_45 ?_
      refine lv_iload_n hx hb dX9_sample_48 rfl (lv_at hl 1 rfl) ?_
      refine kz_iald hx hb hK hP 1 1 rfl rfl (by omega) dX9_sample_49 (fun z_8 rz_8 ez_8 => ?_)
      have tz_8 : (f_hs (f).toNat).toInt = z_8 := by rw [ez_8, zI_toInt rz_8]
      refine k_callP (va_runS (As := [.int (zI z_8)]) (rest := []) ⟨hx, hb, hml, hown, hts⟩ (c_X9_size_w l D H.size (x := z_8) (by omega)) (va_cwS 1 hts gX9_sample_X9_size rfl rfl rfl (by decide +kernel) ⟨Nat.le_of_ble_eq_true rfl, Nat.le_of_ble_eq_true rfl⟩) (kPreS hP (kD0 hD) hK hN [] [] ax_X9_sample_4 rfl (by decide +kernel)) rfl rfl hl.1 rfl (lv_room (Nat.le_of_ble_eq_true rfl)) dX9_sample_50 ⟨Nat.le_of_ble_eq_true rfl, Nat.le_of_ble_eq_true rfl⟩) (fun z_9 rz_9 h_10 => ?_)
      have hP9 := hP.sub (ws' := [(h0, .inr (9, [.int (zI fa), .int (zI u_tc_4), .ref so, .ref sl, .ref ce, .int (zI fn), .ref kd, .ref wd, .ref hs, .ref pf, .ref lt, .int (zI mn), .ref wg, .int (zI ta), .long ck, .int (zI at9), .int (zI rfn), .ref rk, .ref rw, .ref rh, .int (zI cl), .ref sa, .ref fi, .int (zI bo), .ref ch, .ref cn, .int (zI ad), .int (zI ru), .ref kp, .int (zI dn), .ref rfa])), (kd, .inl (c_kd, 4, .inl f_kd)), (hs, .inl (c_hs, 4, .inl f_hs))]) [2, 0, 1] rfl
      have hD9 := hD.sub (ws' := [(h0, .inr (9, [.int (zI fa), .int (zI u_tc_4), .ref so, .ref sl, .ref ce, .int (zI fn), .ref kd, .ref wd, .ref hs, .ref pf, .ref lt, .int (zI mn), .ref wg, .int (zI ta), .long ck, .int (zI at9), .int (zI rfn), .ref rk, .ref rw, .ref rh, .int (zI cl), .ref sa, .ref fi, .int (zI bo), .ref ch, .ref cn, .int (zI ad), .int (zI ru), .ref kp, .int (zI dn), .ref rfa])), (kd, .inl (c_kd, 4, .inl f_kd)), (hs, .inl (c_hs, 4, .inl f_hs))]) [2, 0, 1] (by decide +kernel) rfl
      exact W.iret (v := (zI z_9)) hx hb hr (fun t ht hW => kQS_of (by omega) ⟨u_tc_4, h_5, (Or.inr ⟨by omega, Or.inr ⟨by omega, h_6, by rw [tz_8]; exact h_10⟩⟩), by rw [ht]; exact hP9, hD9⟩ (hS.F ht)) hS.2.2 dX9_sample_53
    · refine lv_iconst (v := zI 5) hx hb dX9_sample_21 rfl ?_
      refine lv_goto (tgt := 26) hx hb dX9_sample_22 (by decide) ?_
      have hFc := va_free (wc := [(h0, .inr (9, [.int (zI fa), .int (zI tc), .ref so, .ref sl, .ref ce, .int (zI fn), .ref kd, .ref wd, .ref hs, .ref pf, .ref lt, .int (zI mn), .ref wg, .int (zI ta), .long ck, .int (zI at9), .int (zI rfn), .ref rk, .ref rw, .ref rh, .int (zI cl), .ref sa, .ref fi, .int (zI bo), .ref ch, .ref cn, .int (zI ad), .int (zI ru), .ref kp, .int (zI dn), .ref rfa]))]) hD hS hA [0] ax_X9_sample_0
      refine va_callv (va_runV (As := [.int (zI 5)]) (rest := []) ⟨hx, hb, hml, hown, hts⟩ (c_X9_begins l D s.heap.size (x := 5) (h0 := h0) (fa := fa) (tc := tc) (so := so) (sl := sl) (ce := ce) (fn := fn) (kd := kd) (wd := wd) (hs := hs) (pf := pf) (lt := lt) (mn := mn) (wg := wg) (ta := ta) (ck := ck) (at9 := at9) (rfn := rfn) (rk := rk) (rw := rw) (rh := rh) (cl := cl) (sa := sa) (fi := fi) (bo := bo) (ch := ch) (cn := cn) (ad := ad) (ru := ru) (kp := kp) (dn := dn) (rfa := rfa) (by omega) q1) (cwV 1 hts gX9_sample_X9_begins rfl rfl rfl (by decide +kernel) ⟨Nat.le_of_ble_eq_true rfl, Nat.le_of_ble_eq_true rfl⟩) (kPreV hP (kD0 hD) hK hN [0] [] ax_X9_sample_0 rfl (by decide +kernel) 0 9 rfl rfl) rfl rfl hl.1 rfl (lv_room (Nat.le_of_ble_eq_true rfl)) dX9_sample_26 ⟨Nat.le_of_ble_eq_true rfl, Nat.le_of_ble_eq_true rfl⟩) hS (fun q _ h => hFc q h) hFc (fun u t H1 locs ht hvm hw hB hz1 hk1 hS => ?_)
      refine Exists.elim hB (fun u_tc_11 hB1 => ?_)
      have h_12 := hB1.1
      have h_13 := hB1.2.1
      have hP1 := hB1.2.2.1
      have hD1 := hB1.2.2.2
      clear hB hB1
      rw [ht] at hP1
      obtain ⟨hP, hD⟩ := va_join (wr := [(kd, .inl (c_kd, 4, .inl f_kd)), (hs, .inl (c_hs, 4, .inl f_hs))]) (w1 := [(h0, .inr (9, [.int (zI fa), .int (zI u_tc_11), .ref so, .ref sl, .ref ce, .int (zI fn), .ref kd, .ref wd, .ref hs, .ref pf, .ref lt, .int (zI mn), .ref wg, .int (zI ta), .long ck, .int (zI at9), .int (zI rfn), .ref rk, .ref rw, .ref rh, .int (zI cl), .ref sa, .ref fi, .int (zI bo), .ref ch, .ref cn, .int (zI ad), .int (zI ru), .ref kp, .int (zI dn), .ref rfa]))]) hP hD [0] [1, 2] ax_X9_sample_0 ax_X9_sample_1 (by decide +kernel) (by decide +kernel) hk1 hFc hP1 hD1
      have hP := ax_X9_sample_2 hP
      have hD := ax_X9_sample_3 hD
      generalize H1 = H at hP hS ⊢
      have hP : va_P D vwCl [(kd, .inl (c_kd, 4, .inl f_kd)), (hs, .inl (c_hs, 4, .inl f_hs)), (h0, .inr (9, [.int (zI fa), .int (zI u_tc_11), .ref so, .ref sl, .ref ce, .int (zI fn), .ref kd, .ref wd, .ref hs, .ref pf, .ref lt, .int (zI mn), .ref wg, .int (zI ta), .long ck, .int (zI at9), .int (zI rfn), .ref rk, .ref rw, .ref rh, .int (zI cl), .ref sa, .ref fi, .int (zI bo), .ref ch, .ref cn, .int (zI ad), .int (zI ru), .ref kp, .int (zI dn), .ref rfa]))] H := hP
      have hD : va_D A [(kd, .inl (c_kd, 4, .inl f_kd)), (hs, .inl (c_hs, 4, .inl f_hs)), (h0, .inr (9, [.int (zI fa), .int (zI u_tc_11), .ref so, .ref sl, .ref ce, .int (zI fn), .ref kd, .ref wd, .ref hs, .ref pf, .ref lt, .int (zI mn), .ref wg, .int (zI ta), .long ck, .int (zI at9), .int (zI rfn), .ref rk, .ref rw, .ref rh, .int (zI cl), .ref sa, .ref fi, .int (zI bo), .ref ch, .ref cn, .int (zI ad), .int (zI ru), .ref kp, .int (zI dn), .ref rfa]))] := hD
      refine lv_aload_n hx hb dX9_sample_29 rfl (lv_at hl 0 rfl) ?_
      refine va_get (D := D) (ci := 9) (v := .ref kd) (C := RX9) (T := TX9) (N := 31) hx hb hts (fun _ h9 => List.mem_cons_of_mem _ (List.mem_append_right _ h9)) hown hK hP 2 rfl rfl 6 (by decide) (hts (.fieldLink RX9 19 "FontRunsModel" "kind" "[I") mw_X9_sample_0) (fun _ h9 => h9) rfl dX9_sample_30 ?_
      refine lv_iload_n hx hb dX9_sample_33 rfl (lv_at hl 1 rfl) ?_
      refine kz_iald hx hb hK hP 0 0 rfl rfl (by omega) dX9_sample_34 (fun z_14 rz_14 ez_14 => ?_)
      have q9 : z_2 = z_14 := (zI_eq rz_2 rz_14).mp (ez_2.symm.trans ez_14)
      subst q9
      refine lv_iconst (v := zI 2) hx hb dX9_sample_35 rfl ?_
      refine kz_icmp_ne (tgt := 44) hx hb dX9_sample_36 (by decide) (by omega) (by omega) (fun c9 => by omega) (fun c9 => ?_)
      refine lv_bipush (v := zI 50) hx hb dX9_sample_39 (by decide) ?_
      refine lv_goto (tgt := 53) hx hb dX9_sample_41 (by decide) ?_
      have hP9 := hP.sub (ws' := [(h0, .inr (9, [.int (zI fa), .int (zI u_tc_11), .ref so, .ref sl, .ref ce, .int (zI fn), .ref kd, .ref wd, .ref hs, .ref pf, .ref lt, .int (zI mn), .ref wg, .int (zI ta), .long ck, .int (zI at9), .int (zI rfn), .ref rk, .ref rw, .ref rh, .int (zI cl), .ref sa, .ref fi, .int (zI bo), .ref ch, .ref cn, .int (zI ad), .int (zI ru), .ref kp, .int (zI dn), .ref rfa])), (kd, .inl (c_kd, 4, .inl f_kd)), (hs, .inl (c_hs, 4, .inl f_hs))]) [2, 0, 1] rfl
      have hD9 := hD.sub (ws' := [(h0, .inr (9, [.int (zI fa), .int (zI u_tc_11), .ref so, .ref sl, .ref ce, .int (zI fn), .ref kd, .ref wd, .ref hs, .ref pf, .ref lt, .int (zI mn), .ref wg, .int (zI ta), .long ck, .int (zI at9), .int (zI rfn), .ref rk, .ref rw, .ref rh, .int (zI cl), .ref sa, .ref fi, .int (zI bo), .ref ch, .ref cn, .int (zI ad), .int (zI ru), .ref kp, .int (zI dn), .ref rfa])), (kd, .inl (c_kd, 4, .inl f_kd)), (hs, .inl (c_hs, 4, .inl f_hs))]) [2, 0, 1] (by decide +kernel) rfl
      exact W.iret (v := (zI 50)) hx hb hr (fun t ht hW => kQS_of (by omega) ⟨u_tc_11, h_12, (Or.inr ⟨by omega, Or.inl ⟨by omega, h_13, by omega⟩⟩), by rw [ht]; exact hP9, hD9⟩ (hS.F ht)) hS.2.2 dX9_sample_53
  · have c_1 : ¬ (0 ≤ f ∧ f < fn) := b01f c_1
    refine lv_iconst (v := zI (-1)) hx hb dX9_sample_8 rfl ?_
    have hP9 := hP.sub (ws' := [(h0, .inr (9, [.int (zI fa), .int (zI tc), .ref so, .ref sl, .ref ce, .int (zI fn), .ref kd, .ref wd, .ref hs, .ref pf, .ref lt, .int (zI mn), .ref wg, .int (zI ta), .long ck, .int (zI at9), .int (zI rfn), .ref rk, .ref rw, .ref rh, .int (zI cl), .ref sa, .ref fi, .int (zI bo), .ref ch, .ref cn, .int (zI ad), .int (zI ru), .ref kp, .int (zI dn), .ref rfa])), (kd, .inl (c_kd, 4, .inl f_kd)), (hs, .inl (c_hs, 4, .inl f_hs))]) [0, 1, 2] rfl
    have hD9 := hD.sub (ws' := [(h0, .inr (9, [.int (zI fa), .int (zI tc), .ref so, .ref sl, .ref ce, .int (zI fn), .ref kd, .ref wd, .ref hs, .ref pf, .ref lt, .int (zI mn), .ref wg, .int (zI ta), .long ck, .int (zI at9), .int (zI rfn), .ref rk, .ref rw, .ref rh, .int (zI cl), .ref sa, .ref fi, .int (zI bo), .ref ch, .ref cn, .int (zI ad), .int (zI ru), .ref kp, .int (zI dn), .ref rfa])), (kd, .inl (c_kd, 4, .inl f_kd)), (hs, .inl (c_hs, 4, .inl f_hs))]) [0, 1, 2] (by decide +kernel) rfl
    exact W.iret (v := (zI (-1))) hx hb hr (fun t ht hW => kQS_of (by omega) ⟨tc, q1, (Or.inl ⟨by omega, by omega, rfl⟩), by rw [ht]; exact hP9, hD9⟩ (hS.F ht)) hS.2.2 dX9_sample_9
theorem dX9_as_0 : decode cX9_as 0 = .ok (.aload_n 0, 1) := kqo_2a kbl_X9_as (pc := 0) rfl
theorem dX9_as_1 : decode cX9_as 1 = .ok (.iconst 0, 1) := kqo_03 kbl_X9_as (pc := 1) rfl
theorem dX9_as_2 : decode cX9_as 2 = .ok (.putfield 64, 3) := kqo_b5 (x1 := 0) (x2 := 64) kbl_X9_as (pc := 2) rfl rfl
theorem dX9_as_5 : decode cX9_as 5 = .ok (.aload_n 0, 1) := kqo_2a kbl_X9_as (pc := 5) rfl
theorem dX9_as_6 : decode cX9_as 6 = .ok (.iload_n 1, 1) := kqo_1b kbl_X9_as (pc := 6) rfl
theorem dX9_as_7 : decode cX9_as 7 = .ok (.invokevirtual 120, 3) := kqo_b6 (x1 := 0) (x2 := 120) kbl_X9_as (pc := 7) rfl rfl
theorem dX9_as_10 : decode cX9_as 10 = .ok (.ifCond .ne 5, 3) := kqo_9a (x1 := 0) (x2 := 5) kbl_X9_as (pc := 10) rfl rfl
theorem dX9_as_13 : decode cX9_as 13 = .ok (.iconst (-1), 1) := kqo_02 kbl_X9_as (pc := 13) rfl
theorem dX9_as_14 : decode cX9_as 14 = .ok (.ireturn, 1) := kqo_ac kbl_X9_as (pc := 14) rfl
theorem dX9_as_15 : decode cX9_as 15 = .ok (.iload_n 2, 1) := kqo_1c kbl_X9_as (pc := 15) rfl
theorem dX9_as_16 : decode cX9_as 16 = .ok (.iconst 0, 1) := kqo_03 kbl_X9_as (pc := 16) rfl
theorem dX9_as_17 : decode cX9_as 17 = .ok (.iconst 2, 1) := kqo_05 kbl_X9_as (pc := 17) rfl
theorem dX9_as_18 : decode cX9_as 18 = .ok (.invokestatic 70, 3) := kqo_b8 (x1 := 0) (x2 := 70) kbl_X9_as (pc := 18) rfl rfl
theorem dX9_as_21 : decode cX9_as 21 = .ok (.ifCond .ne 6, 3) := kqo_9a (x1 := 0) (x2 := 6) kbl_X9_as (pc := 21) rfl rfl
theorem dX9_as_24 : decode cX9_as 24 = .ok (.bipush (-2), 2) := kqo_10 (x1 := 254) kbl_X9_as (pc := 24) rfl rfl
theorem dX9_as_26 : decode cX9_as 26 = .ok (.ireturn, 1) := kqo_ac kbl_X9_as (pc := 26) rfl
theorem dX9_as_27 : decode cX9_as 27 = .ok (.aload_n 0, 1) := kqo_2a kbl_X9_as (pc := 27) rfl
theorem dX9_as_28 : decode cX9_as 28 = .ok (.getfield 19, 3) := kqo_b4 (x1 := 0) (x2 := 19) kbl_X9_as (pc := 28) rfl rfl
theorem dX9_as_31 : decode cX9_as 31 = .ok (.iload_n 1, 1) := kqo_1b kbl_X9_as (pc := 31) rfl
theorem dX9_as_32 : decode cX9_as 32 = .ok (.iaload, 1) := kqo_2e kbl_X9_as (pc := 32) rfl
theorem dX9_as_33 : decode cX9_as 33 = .ok (.iload_n 2, 1) := kqo_1c kbl_X9_as (pc := 33) rfl
theorem dX9_as_34 : decode cX9_as 34 = .ok (.if_icmp .lt 7, 3) := kqo_a1 (x1 := 0) (x2 := 7) kbl_X9_as (pc := 34) rfl rfl
theorem dX9_as_37 : decode cX9_as 37 = .ok (.iconst 1, 1) := kqo_04 kbl_X9_as (pc := 37) rfl
theorem dX9_as_38 : decode cX9_as 38 = .ok (.goto 8, 3) := kqo_a7 (x1 := 0) (x2 := 8) kbl_X9_as (pc := 38) rfl rfl
theorem dX9_as_41 : decode cX9_as 41 = .ok (.aload_n 0, 1) := kqo_2a kbl_X9_as (pc := 41) rfl
theorem dX9_as_42 : decode cX9_as 42 = .ok (.iconst 2, 1) := kqo_05 kbl_X9_as (pc := 42) rfl
theorem dX9_as_43 : decode cX9_as 43 = .ok (.invokevirtual 91, 3) := kqo_b6 (x1 := 0) (x2 := 91) kbl_X9_as (pc := 43) rfl rfl
theorem dX9_as_46 : decode cX9_as 46 = .ok (.ireturn, 1) := kqo_ac kbl_X9_as (pc := 46) rfl
set_option maxRecDepth 20000 in
theorem ggX9_as_X9_fails : GoodIn wsX9_as wsX9_fails := goodIn_4 _ (List.forall_mem_cons.mpr ⟨List.mem_cons_of_mem _ (List.mem_append_left _ (List.mem_of_getElem? (i := 14) rfl)), List.forall_mem_append.mpr ⟨List.forall_mem_cons.mpr ⟨List.mem_cons_of_mem _ (List.mem_append_left _ (List.mem_of_getElem? (i := 0) rfl)), fun _ h9 => absurd h9 List.not_mem_nil⟩, fun w h9 => List.mem_cons_of_mem _ (List.mem_append_right _ (h9))⟩⟩) (by decide +kernel)
set_option maxRecDepth 20000 in
theorem gX9_as_X9_fails : GoodIn wsX9_as (wsV RX9 91 RX9 yX9_fails wsX9_fails) := goodIn_app (goodIn_4 _ (List.forall_mem_cons.mpr ⟨List.mem_cons_of_mem _ (List.mem_append_left _ (List.mem_of_getElem? (i := 11) rfl)), List.forall_mem_cons.mpr ⟨List.mem_cons_of_mem _ (List.mem_append_left _ (List.mem_of_getElem? (i := 12) rfl)), List.forall_mem_cons.mpr ⟨List.mem_cons_of_mem _ (List.mem_append_left _ (List.mem_of_getElem? (i := 13) rfl)), List.forall_mem_cons.mpr ⟨List.mem_cons_of_mem _ (List.mem_append_left _ (List.mem_of_getElem? (i := 5) rfl)), fun _ h9 => absurd h9 List.not_mem_nil⟩⟩⟩⟩) (by decide +kernel)) ggX9_as_X9_fails
set_option maxRecDepth 20000 in
theorem ggX9_as_X9_isFont : GoodIn wsX9_as wsX9_isFont := goodIn_4 _ (List.forall_mem_cons.mpr ⟨List.mem_cons_of_mem _ (List.mem_append_left _ (List.mem_of_getElem? (i := 6) rfl)), List.forall_mem_append.mpr ⟨List.forall_mem_cons.mpr ⟨List.mem_cons_of_mem _ (List.mem_append_left _ (List.mem_of_getElem? (i := 7) rfl)), fun _ h9 => absurd h9 List.not_mem_nil⟩, fun w h9 => List.mem_cons_of_mem _ (List.mem_append_right _ (h9))⟩⟩) (by decide +kernel)
set_option maxRecDepth 20000 in
theorem gX9_as_X9_isFont : GoodIn wsX9_as (wsV RX9 120 RX9 yX9_isFont wsX9_isFont) := goodIn_app (goodIn_4 _ (List.forall_mem_cons.mpr ⟨List.mem_cons_of_mem _ (List.mem_append_left _ (List.mem_of_getElem? (i := 2) rfl)), List.forall_mem_cons.mpr ⟨List.mem_cons_of_mem _ (List.mem_append_left _ (List.mem_of_getElem? (i := 3) rfl)), List.forall_mem_cons.mpr ⟨List.mem_cons_of_mem _ (List.mem_append_left _ (List.mem_of_getElem? (i := 4) rfl)), List.forall_mem_cons.mpr ⟨List.mem_cons_of_mem _ (List.mem_append_left _ (List.mem_of_getElem? (i := 5) rfl)), fun _ h9 => absurd h9 List.not_mem_nil⟩⟩⟩⟩) (by decide +kernel)) ggX9_as_X9_isFont
set_option maxRecDepth 20000 in
theorem ggX9_as_X9_within : GoodIn wsX9_as wsX9_within := goodIn_4 _ (List.forall_mem_cons.mpr ⟨List.mem_cons_of_mem _ (List.mem_append_left _ (List.mem_of_getElem? (i := 10) rfl)), fun _ h9 => absurd h9 List.not_mem_nil⟩) (by decide +kernel)
set_option maxRecDepth 20000 in
theorem gX9_as_X9_within : GoodIn wsX9_as (va_wsS RX9 70 yX9_within wsX9_within) := goodIn_app (goodIn_4 _ (List.forall_mem_cons.mpr ⟨List.mem_cons_of_mem _ (List.mem_append_left _ (List.mem_of_getElem? (i := 8) rfl)), List.forall_mem_cons.mpr ⟨List.mem_cons_of_mem _ (List.mem_append_left _ (List.mem_of_getElem? (i := 9) rfl)), List.forall_mem_cons.mpr ⟨List.mem_cons_of_mem _ (List.mem_append_left _ (List.mem_of_getElem? (i := 5) rfl)), fun _ h9 => absurd h9 List.not_mem_nil⟩⟩⟩) (by decide +kernel)) ggX9_as_X9_within
set_option maxRecDepth 20000 in
theorem mw_X9_as_0 : (.fieldLink RX9 64 "FontRunsModel" "fault" "I" : Cond) ∈ wsX9_as := List.mem_cons_of_mem _ (List.mem_append_left _ (List.mem_of_getElem? (i := 0) rfl))
set_option maxRecDepth 20000 in
theorem mw_X9_as_1 : (.fieldLink RX9 19 "FontRunsModel" "kind" "[I" : Cond) ∈ wsX9_as := List.mem_cons_of_mem _ (List.mem_append_left _ (List.mem_of_getElem? (i := 1) rfl))
theorem ax_X9_as_0 {e0 e1 : Nat × va_E} : ([0] : List Nat).map (fun i => ([e0, e1] : va_W)[i]?) = ([e0] : va_W).map some := rfl
theorem ax_X9_as_1 {e0 e1 : Nat × va_E} : ([] : List Nat).map (fun i => ([e0, e1] : va_W)[i]?) = ([] : va_W).map some := rfl
theorem ax_X9_as_2 {e0 e1 : Nat × va_E} : ([1] : List Nat).map (fun i => ([e0, e1] : va_W)[i]?) = ([e1] : va_W).map some := rfl
theorem ax_X9_as_3 {D : va_G} {cl : List vw_C} {H : Heap} {e0 f0 : Nat × va_E} (h : va_P D cl ((([e0] : va_W) ++ ([f0] : va_W))) H) : va_P D cl (([e0, f0] : va_W)) H := h
theorem ax_X9_as_4 {A : Nat → Prop} {e0 f0 : Nat × va_E} (h : va_D A ((([e0] : va_W) ++ ([f0] : va_W)))) : va_D A (([e0, f0] : va_W)) := h
theorem ax_X9_as_5 {e0 e1 : Nat × va_E} : ([1, 0] : List Nat).map (fun i => ([e0, e1] : va_W)[i]?) = ([e1, e0] : va_W).map some := rfl
theorem ax_X9_as_6 {e0 e1 : Nat × va_E} : ([0, 1] : List Nat).map (fun i => ([e0, e1] : va_W)[i]?) = ([e0, e1] : va_W).map some := rfl
set_option maxHeartbeats 4000000 in
set_option maxRecDepth 100000 in
theorem c_X9_as (l : Launch) (D : va_G) (sz : Nat) (f : Int) (x : Int) (h0 : Nat) (fa : Int) (tc : Int) (so : Nat) (sl : Nat) (ce : Nat) (fn : Int) (kd : Nat) (wd : Nat) (hs : Nat) (pf : Nat) (lt : Nat) (mn : Int) (wg : Nat) (ta : Int) (ck : Int64) (at9 : Int) (rfn : Int) (rk : Nat) (rw : Nat) (rh : Nat) (cl : Int) (sa : Nat) (fi : Nat) (bo : Int) (ch : Nat) (cn : Nat) (ad : Int) (ru : Int) (kp : Nat) (dn : Int) (rfa : Nat) (c_kd : ClassId) (f_kd : Nat → Int32) (q0 : rg f) (q1 : rg x) (q2 : rg fa) (q3 : 0 ≤ fn ∧ fn ≤ 4) : Met l yX9_as wsX9_as ({ frames := 1, cells := 0, slots := 0, locals := 22 }) (kPre [.ref h0, .int (zI f), .int (zI x)] D [(h0, .inr (9, [.int (zI fa), .int (zI tc), .ref so, .ref sl, .ref ce, .int (zI fn), .ref kd, .ref wd, .ref hs, .ref pf, .ref lt, .int (zI mn), .ref wg, .int (zI ta), .long ck, .int (zI at9), .int (zI rfn), .ref rk, .ref rw, .ref rh, .int (zI cl), .ref sa, .ref fi, .int (zI bo), .ref ch, .ref cn, .int (zI ad), .int (zI ru), .ref kp, .int (zI dn), .ref rfa])), (kd, .inl (c_kd, 4, .inl f_kd))] [(c_kd, .int)] sz) (kQS (fun rz t => ∃ (u_fa : Int), (rg u_fa) ∧ (kAs f fn x f_kd u_fa rz) ∧ va_P D vwCl [(h0, .inr (9, [.int (zI u_fa), .int (zI tc), .ref so, .ref sl, .ref ce, .int (zI fn), .ref kd, .ref wd, .ref hs, .ref pf, .ref lt, .int (zI mn), .ref wg, .int (zI ta), .long ck, .int (zI at9), .int (zI rfn), .ref rk, .ref rw, .ref rh, .int (zI cl), .ref sa, .ref fi, .int (zI bo), .ref ch, .ref cn, .int (zI ad), .int (zI ru), .ref kp, .int (zI dn), .ref rfa])), (kd, .inl (c_kd, 4, .inl f_kd))] t.heap ∧ va_D (va_A [(h0, .inr (9, [.int (zI fa), .int (zI tc), .ref so, .ref sl, .ref ce, .int (zI fn), .ref kd, .ref wd, .ref hs, .ref pf, .ref lt, .int (zI mn), .ref wg, .int (zI ta), .long ck, .int (zI at9), .int (zI rfn), .ref rk, .ref rw, .ref rh, .int (zI cl), .ref sa, .ref fi, .int (zI bo), .ref ch, .ref cn, .int (zI ad), .int (zI ru), .ref kp, .int (zI dn), .ref rfa])), (kd, .inl (c_kd, 4, .inl f_kd))] sz) [(h0, .inr (9, [.int (zI u_fa), .int (zI tc), .ref so, .ref sl, .ref ce, .int (zI fn), .ref kd, .ref wd, .ref hs, .ref pf, .ref lt, .int (zI mn), .ref wg, .int (zI ta), .long ck, .int (zI at9), .int (zI rfn), .ref rk, .ref rw, .ref rh, .int (zI cl), .ref sa, .ref fi, .int (zI bo), .ref ch, .ref cn, .int (zI ad), .int (zI ru), .ref kp, .int (zI dn), .ref rfa])), (kd, .inl (c_kd, 4, .inl f_kd))]) (va_A [(h0, .inr (9, [.int (zI fa), .int (zI tc), .ref so, .ref sl, .ref ce, .int (zI fn), .ref kd, .ref wd, .ref hs, .ref pf, .ref lt, .int (zI mn), .ref wg, .int (zI ta), .long ck, .int (zI at9), .int (zI rfn), .ref rk, .ref rw, .ref rh, .int (zI cl), .ref sa, .ref fi, .int (zI bo), .ref ch, .ref cn, .int (zI ad), .int (zI ru), .ref kp, .int (zI dn), .ref rfa])), (kd, .inl (c_kd, 4, .inl f_kd))] sz)) 0 0 (va_A [(h0, .inr (9, [.int (zI fa), .int (zI tc), .ref so, .ref sl, .ref ce, .int (zI fn), .ref kd, .ref wd, .ref hs, .ref pf, .ref lt, .int (zI mn), .ref wg, .int (zI ta), .long ck, .int (zI at9), .int (zI rfn), .ref rk, .ref rw, .ref rh, .int (zI cl), .ref sa, .ref fi, .int (zI bo), .ref ch, .ref cn, .int (zI ad), .int (zI ru), .ref kp, .int (zI dn), .ref rfa])), (kd, .inl (c_kd, 4, .inl f_kd))] sz) := by
  refine Met.ofW (cc := cX9_as) (maxL := 3) (ret := (some .int)) (by decide) rfl ?_
  intro p e s m args below meth c s₁ B hml hv
  obtain ⟨rfl, hsz, hP, hK, hD0, hN⟩ := hv
  have hx := B.exec
  have hb := B.bytes
  have hr := B.returns
  have hts := atoms_spec (ws := wsX9_as) B.pre
  have hown : s.vm.findClass RX9 = some m.cls := findClass_of_methodNamed B.named
  have hlocks := B.notSynchronized
  subst hsz
  have hD := hD0.self (sz := s.heap.size)
  generalize hAe : va_A [(h0, .inr (9, [.int (zI fa), .int (zI tc), .ref so, .ref sl, .ref ce, .int (zI fn), .ref kd, .ref wd, .ref hs, .ref pf, .ref lt, .int (zI mn), .ref wg, .int (zI ta), .long ck, .int (zI at9), .int (zI rfn), .ref rk, .ref rw, .ref rh, .int (zI cl), .ref sa, .ref fi, .int (zI bo), .ref ch, .ref cn, .int (zI ad), .int (zI ru), .ref kp, .int (zI dn), .ref rfa])), (kd, .inl (c_kd, 4, .inl f_kd))] s.heap.size = A at hD ⊢
  have hA : ∀ q : Nat, s.heap.size ≤ q → A q := fun q h => by rw [← hAe]; exact Or.inr h
  have hS : va_S A s.heap s.heap [] := va_S.rf
  have hP : va_P D vwCl [(h0, .inr (9, [.int (zI fa), .int (zI tc), .ref so, .ref sl, .ref ce, .int (zI fn), .ref kd, .ref wd, .ref hs, .ref pf, .ref lt, .int (zI mn), .ref wg, .int (zI ta), .long ck, .int (zI at9), .int (zI rfn), .ref rk, .ref rw, .ref rh, .int (zI cl), .ref sa, .ref fi, .int (zI bo), .ref ch, .ref cn, .int (zI ad), .int (zI ru), .ref kp, .int (zI dn), .ref rfa])), (kd, .inl (c_kd, 4, .inl f_kd))] s.heap := hP
  have hl := lv_entry ([.ref h0, .int (zI f), .int (zI x)]) (n := 3) (Nat.le_of_ble_eq_true rfl)
  rw [lg_entry_eq]
  generalize (lg_sl ([.ref h0, .int (zI f), .int (zI x)]) ++ List.replicate (3 - (lg_sl ([.ref h0, .int (zI f), .int (zI x)])).length) Slot.unset).toArray = ls at hl ⊢
  have hl : lv_has ls 3 [(0, .ref h0), (1, .int (zI f)), (2, .int (zI x))] := hl
  refine lv_aload_n hx hb dX9_as_0 rfl (lv_at hl 0 rfl) ?_
  refine lv_iconst (v := zI 0) hx hb dX9_as_1 rfl ?_
  refine va_put (D := D) (ci := 9) (v := .int (zI 0)) (ty := .int) (C := RX9) (T := TX9) (N := 31) hx hb hts (fun _ h9 => List.mem_cons_of_mem _ (List.mem_append_right _ h9)) tyX9 tyX9_ok nmX9 hown hK hP hD hS 0 rfl rfl 0 (by decide) (hts (.fieldLink RX9 64 "FontRunsModel" "fault" "I") mw_X9_as_0) (fun _ h9 => h9) rfl (by decide +kernel) rfl rfl (Nat.le_of_ble_eq_true rfl) dX9_as_2 (fun H locs hP hD hS => ?_)
  have hP : va_P D vwCl [(h0, .inr (9, [.int (zI 0), .int (zI tc), .ref so, .ref sl, .ref ce, .int (zI fn), .ref kd, .ref wd, .ref hs, .ref pf, .ref lt, .int (zI mn), .ref wg, .int (zI ta), .long ck, .int (zI at9), .int (zI rfn), .ref rk, .ref rw, .ref rh, .int (zI cl), .ref sa, .ref fi, .int (zI bo), .ref ch, .ref cn, .int (zI ad), .int (zI ru), .ref kp, .int (zI dn), .ref rfa])), (kd, .inl (c_kd, 4, .inl f_kd))] H := hP
  have hD : va_D A [(h0, .inr (9, [.int (zI 0), .int (zI tc), .ref so, .ref sl, .ref ce, .int (zI fn), .ref kd, .ref wd, .ref hs, .ref pf, .ref lt, .int (zI mn), .ref wg, .int (zI ta), .long ck, .int (zI at9), .int (zI rfn), .ref rk, .ref rw, .ref rh, .int (zI cl), .ref sa, .ref fi, .int (zI bo), .ref ch, .ref cn, .int (zI ad), .int (zI ru), .ref kp, .int (zI dn), .ref rfa])), (kd, .inl (c_kd, 4, .inl f_kd))] := hD
  refine lv_aload_n hx hb dX9_as_5 rfl (lv_at hl 0 rfl) ?_
  refine lv_iload_n hx hb dX9_as_6 rfl (lv_at hl 1 rfl) ?_
  refine k_callR (va_runV (As := [.int (zI f)]) (rest := []) ⟨hx, hb, hml, hown, hts⟩ (c_X9_isFont l D H.size (f := f) (h0 := h0) (fa := 0) (tc := tc) (so := so) (sl := sl) (ce := ce) (fn := fn) (kd := kd) (wd := wd) (hs := hs) (pf := pf) (lt := lt) (mn := mn) (wg := wg) (ta := ta) (ck := ck) (at9 := at9) (rfn := rfn) (rk := rk) (rw := rw) (rh := rh) (cl := cl) (sa := sa) (fi := fi) (bo := bo) (ch := ch) (cn := cn) (ad := ad) (ru := ru) (kp := kp) (dn := dn) (rfa := rfa) q0 q3) (cwV 1 hts gX9_as_X9_isFont rfl rfl rfl (by decide +kernel) ⟨Nat.le_of_ble_eq_true rfl, Nat.le_of_ble_eq_true rfl⟩) (kPreV hP (kD0 hD) hK hN [0] [] ax_X9_as_0 rfl (by decide +kernel) 0 9 rfl rfl) rfl rfl hl.1 rfl (lv_room (Nat.le_of_ble_eq_true rfl)) dX9_as_7 ⟨Nat.le_of_ble_eq_true rfl, Nat.le_of_ble_eq_true rfl⟩) ?_
  refine lv_if_ne (tgt := 15) hx hb dX9_as_10 (by decide) (fun c_1 => ?_) (fun c_1 => ?_)
  · have c_1 : 0 ≤ f ∧ f < fn := b01t c_1
    refine lv_iload_n hx hb dX9_as_15 rfl (lv_at hl 2 rfl) ?_
    refine lv_iconst (v := zI 0) hx hb dX9_as_16 rfl ?_
    refine lv_iconst (v := zI 2) hx hb dX9_as_17 rfl ?_
    refine k_callR (va_runS (As := [.int (zI x), .int (zI 0), .int (zI 2)]) (rest := []) ⟨hx, hb, hml, hown, hts⟩ (c_X9_within l D H.size (v := x) (a := 0) (b := 2) q1 (by omega) (by omega)) (va_cwS 3 hts gX9_as_X9_within rfl rfl rfl (by decide +kernel) ⟨Nat.le_of_ble_eq_true rfl, Nat.le_of_ble_eq_true rfl⟩) (kPreS hP (kD0 hD) hK hN [] [] ax_X9_as_1 rfl (by decide +kernel)) rfl rfl hl.1 rfl (lv_room (Nat.le_of_ble_eq_true rfl)) dX9_as_18 ⟨Nat.le_of_ble_eq_true rfl, Nat.le_of_ble_eq_true rfl⟩) ?_
    refine lv_if_ne (tgt := 27) hx hb dX9_as_21 (by decide) (fun c_2 => ?_) (fun c_2 => ?_)
    · have c_2 : 0 ≤ x ∧ x ≤ 2 := b01t c_2
      refine lv_aload_n hx hb dX9_as_27 rfl (lv_at hl 0 rfl) ?_
      refine va_get (D := D) (ci := 9) (v := .ref kd) (C := RX9) (T := TX9) (N := 31) hx hb hts (fun _ h9 => List.mem_cons_of_mem _ (List.mem_append_right _ h9)) hown hK hP 0 rfl rfl 6 (by decide) (hts (.fieldLink RX9 19 "FontRunsModel" "kind" "[I") mw_X9_as_1) (fun _ h9 => h9) rfl dX9_as_28 ?_
      refine lv_iload_n hx hb dX9_as_31 rfl (lv_at hl 1 rfl) ?_
      refine kz_iald hx hb hK hP 1 0 rfl rfl (by omega) dX9_as_32 (fun z_3 rz_3 ez_3 => ?_)
      have tz_3 : (f_kd (f).toNat).toInt = z_3 := by rw [ez_3, zI_toInt rz_3]
      refine lv_iload_n hx hb dX9_as_33 rfl (lv_at hl 2 rfl) ?_
      refine kz_icmp_lt (tgt := 41) hx hb dX9_as_34 (by decide) (by omega) (by omega) (fun c_4 => ?_) (fun c_4 => ?_)
      · refine lv_aload_n hx hb dX9_as_41 rfl (lv_at hl 0 rfl) ?_
        refine lv_iconst (v := zI 2) hx hb dX9_as_42 rfl ?_
        have hFc := va_free (wc := [(h0, .inr (9, [.int (zI 0), .int (zI tc), .ref so, .ref sl, .ref ce, .int (zI fn), .ref kd, .ref wd, .ref hs, .ref pf, .ref lt, .int (zI mn), .ref wg, .int (zI ta), .long ck, .int (zI at9), .int (zI rfn), .ref rk, .ref rw, .ref rh, .int (zI cl), .ref sa, .ref fi, .int (zI bo), .ref ch, .ref cn, .int (zI ad), .int (zI ru), .ref kp, .int (zI dn), .ref rfa]))]) hD hS hA [0] ax_X9_as_0
        refine va_calli (va_runV (As := [.int (zI 2)]) (rest := []) ⟨hx, hb, hml, hown, hts⟩ (c_X9_fails_w l D H.size (f := 2) (h0 := h0) (fa := 0) (tc := tc) (so := so) (sl := sl) (ce := ce) (fn := fn) (kd := kd) (wd := wd) (hs := hs) (pf := pf) (lt := lt) (mn := mn) (wg := wg) (ta := ta) (ck := ck) (at9 := at9) (rfn := rfn) (rk := rk) (rw := rw) (rh := rh) (cl := cl) (sa := sa) (fi := fi) (bo := bo) (ch := ch) (cn := cn) (ad := ad) (ru := ru) (kp := kp) (dn := dn) (rfa := rfa) (by omega) (by omega)) (cwV 1 hts gX9_as_X9_fails rfl rfl rfl (by decide +kernel) ⟨Nat.le_of_ble_eq_true rfl, Nat.le_of_ble_eq_true rfl⟩) (kPreV hP (kD0 hD) hK hN [0] [] ax_X9_as_0 rfl (by decide +kernel) 0 9 rfl rfl) rfl rfl hl.1 rfl (lv_room (Nat.le_of_ble_eq_true rfl)) dX9_as_43 ⟨Nat.le_of_ble_eq_true rfl, Nat.le_of_ble_eq_true rfl⟩) hS (fun q _ h => hFc q h) hFc (fun r u t H1 locs ht hvm hw hB hz1 hk1 hS => ?_)
        obtain ⟨z_6, e9⟩ : ∃ z, z = u := ⟨_, rfl⟩
        subst e9
        obtain ⟨rfl, rz_6⟩ := hw
        refine Exists.elim hB (fun u_fa_5 hB1 => ?_)
        have h_7 := hB1.1
        have h_8 := hB1.2.1
        have h_9 := hB1.2.2.1
        have hP1 := hB1.2.2.2.1
        have hD1 := hB1.2.2.2.2
        clear hB hB1
        rw [ht] at hP1
        obtain ⟨hP, hD⟩ := va_join (wr := [(kd, .inl (c_kd, 4, .inl f_kd))]) (w1 := [(h0, .inr (9, [.int (zI u_fa_5), .int (zI tc), .ref so, .ref sl, .ref ce, .int (zI fn), .ref kd, .ref wd, .ref hs, .ref pf, .ref lt, .int (zI mn), .ref wg, .int (zI ta), .long ck, .int (zI at9), .int (zI rfn), .ref rk, .ref rw, .ref rh, .int (zI cl), .ref sa, .ref fi, .int (zI bo), .ref ch, .ref cn, .int (zI ad), .int (zI ru), .ref kp, .int (zI dn), .ref rfa]))]) hP hD [0] [1] ax_X9_as_0 ax_X9_as_2 (by decide +kernel) (by decide +kernel) hk1 hFc hP1 hD1
        have hP := ax_X9_as_3 hP
        have hD := ax_X9_as_4 hD
        generalize H1 = H at hP hS ⊢
        have hP : va_P D vwCl [(kd, .inl (c_kd, 4, .inl f_kd)), (h0, .inr (9, [.int (zI u_fa_5), .int (zI tc), .ref so, .ref sl, .ref ce, .int (zI fn), .ref kd, .ref wd, .ref hs, .ref pf, .ref lt, .int (zI mn), .ref wg, .int (zI ta), .long ck, .int (zI at9), .int (zI rfn), .ref rk, .ref rw, .ref rh, .int (zI cl), .ref sa, .ref fi, .int (zI bo), .ref ch, .ref cn, .int (zI ad), .int (zI ru), .ref kp, .int (zI dn), .ref rfa]))] H := hP
        have hD : va_D A [(kd, .inl (c_kd, 4, .inl f_kd)), (h0, .inr (9, [.int (zI u_fa_5), .int (zI tc), .ref so, .ref sl, .ref ce, .int (zI fn), .ref kd, .ref wd, .ref hs, .ref pf, .ref lt, .int (zI mn), .ref wg, .int (zI ta), .long ck, .int (zI at9), .int (zI rfn), .ref rk, .ref rw, .ref rh, .int (zI cl), .ref sa, .ref fi, .int (zI bo), .ref ch, .ref cn, .int (zI ad), .int (zI ru), .ref kp, .int (zI dn), .ref rfa]))] := hD
        have hP9 := hP.sub (ws' := [(h0, .inr (9, [.int (zI u_fa_5), .int (zI tc), .ref so, .ref sl, .ref ce, .int (zI fn), .ref kd, .ref wd, .ref hs, .ref pf, .ref lt, .int (zI mn), .ref wg, .int (zI ta), .long ck, .int (zI at9), .int (zI rfn), .ref rk, .ref rw, .ref rh, .int (zI cl), .ref sa, .ref fi, .int (zI bo), .ref ch, .ref cn, .int (zI ad), .int (zI ru), .ref kp, .int (zI dn), .ref rfa])), (kd, .inl (c_kd, 4, .inl f_kd))]) [1, 0] rfl
        have hD9 := hD.sub (ws' := [(h0, .inr (9, [.int (zI u_fa_5), .int (zI tc), .ref so, .ref sl, .ref ce, .int (zI fn), .ref kd, .ref wd, .ref hs, .ref pf, .ref lt, .int (zI mn), .ref wg, .int (zI ta), .long ck, .int (zI at9), .int (zI rfn), .ref rk, .ref rw, .ref rh, .int (zI cl), .ref sa, .ref fi, .int (zI bo), .ref ch, .ref cn, .int (zI ad), .int (zI ru), .ref kp, .int (zI dn), .ref rfa])), (kd, .inl (c_kd, 4, .inl f_kd))]) [1, 0] (by decide +kernel) rfl
        exact W.iret (v := (zI z_6)) hx hb hr (fun t ht hW => kQS_of (by omega) ⟨u_fa_5, h_7, (by unfold kAs; omega), by rw [ht]; exact hP9, hD9⟩ (hS.F ht)) hS.2.2 dX9_as_46
      · refine lv_iconst (v := zI 1) hx hb dX9_as_37 rfl ?_
        refine lv_goto (tgt := 46) hx hb dX9_as_38 (by decide) ?_
        have hP9 := hP.sub (ws' := [(h0, .inr (9, [.int (zI 0), .int (zI tc), .ref so, .ref sl, .ref ce, .int (zI fn), .ref kd, .ref wd, .ref hs, .ref pf, .ref lt, .int (zI mn), .ref wg, .int (zI ta), .long ck, .int (zI at9), .int (zI rfn), .ref rk, .ref rw, .ref rh, .int (zI cl), .ref sa, .ref fi, .int (zI bo), .ref ch, .ref cn, .int (zI ad), .int (zI ru), .ref kp, .int (zI dn), .ref rfa])), (kd, .inl (c_kd, 4, .inl f_kd))]) [0, 1] rfl
        have hD9 := hD.sub (ws' := [(h0, .inr (9, [.int (zI 0), .int (zI tc), .ref so, .ref sl, .ref ce, .int (zI fn), .ref kd, .ref wd, .ref hs, .ref pf, .ref lt, .int (zI mn), .ref wg, .int (zI ta), .long ck, .int (zI at9), .int (zI rfn), .ref rk, .ref rw, .ref rh, .int (zI cl), .ref sa, .ref fi, .int (zI bo), .ref ch, .ref cn, .int (zI ad), .int (zI ru), .ref kp, .int (zI dn), .ref rfa])), (kd, .inl (c_kd, 4, .inl f_kd))]) [0, 1] (by decide +kernel) rfl
        exact W.iret (v := (zI 1)) hx hb hr (fun t ht hW => kQS_of (by omega) ⟨0, (by omega), (by unfold kAs; omega), by rw [ht]; exact hP9, hD9⟩ (hS.F ht)) hS.2.2 dX9_as_46
    · have c_2 : ¬ (0 ≤ x ∧ x ≤ 2) := b01f c_2
      refine lv_bipush (v := zI (-2)) hx hb dX9_as_24 (by decide) ?_
      have hP9 := hP.sub (ws' := [(h0, .inr (9, [.int (zI 0), .int (zI tc), .ref so, .ref sl, .ref ce, .int (zI fn), .ref kd, .ref wd, .ref hs, .ref pf, .ref lt, .int (zI mn), .ref wg, .int (zI ta), .long ck, .int (zI at9), .int (zI rfn), .ref rk, .ref rw, .ref rh, .int (zI cl), .ref sa, .ref fi, .int (zI bo), .ref ch, .ref cn, .int (zI ad), .int (zI ru), .ref kp, .int (zI dn), .ref rfa])), (kd, .inl (c_kd, 4, .inl f_kd))]) [0, 1] rfl
      have hD9 := hD.sub (ws' := [(h0, .inr (9, [.int (zI 0), .int (zI tc), .ref so, .ref sl, .ref ce, .int (zI fn), .ref kd, .ref wd, .ref hs, .ref pf, .ref lt, .int (zI mn), .ref wg, .int (zI ta), .long ck, .int (zI at9), .int (zI rfn), .ref rk, .ref rw, .ref rh, .int (zI cl), .ref sa, .ref fi, .int (zI bo), .ref ch, .ref cn, .int (zI ad), .int (zI ru), .ref kp, .int (zI dn), .ref rfa])), (kd, .inl (c_kd, 4, .inl f_kd))]) [0, 1] (by decide +kernel) rfl
      exact W.iret (v := (zI (-2))) hx hb hr (fun t ht hW => kQS_of (by omega) ⟨0, (by omega), (by unfold kAs; omega), by rw [ht]; exact hP9, hD9⟩ (hS.F ht)) hS.2.2 dX9_as_26
  · have c_1 : ¬ (0 ≤ f ∧ f < fn) := b01f c_1
    refine lv_iconst (v := zI (-1)) hx hb dX9_as_13 rfl ?_
    have hP9 := hP.sub (ws' := [(h0, .inr (9, [.int (zI 0), .int (zI tc), .ref so, .ref sl, .ref ce, .int (zI fn), .ref kd, .ref wd, .ref hs, .ref pf, .ref lt, .int (zI mn), .ref wg, .int (zI ta), .long ck, .int (zI at9), .int (zI rfn), .ref rk, .ref rw, .ref rh, .int (zI cl), .ref sa, .ref fi, .int (zI bo), .ref ch, .ref cn, .int (zI ad), .int (zI ru), .ref kp, .int (zI dn), .ref rfa])), (kd, .inl (c_kd, 4, .inl f_kd))]) [0, 1] rfl
    have hD9 := hD.sub (ws' := [(h0, .inr (9, [.int (zI 0), .int (zI tc), .ref so, .ref sl, .ref ce, .int (zI fn), .ref kd, .ref wd, .ref hs, .ref pf, .ref lt, .int (zI mn), .ref wg, .int (zI ta), .long ck, .int (zI at9), .int (zI rfn), .ref rk, .ref rw, .ref rh, .int (zI cl), .ref sa, .ref fi, .int (zI bo), .ref ch, .ref cn, .int (zI ad), .int (zI ru), .ref kp, .int (zI dn), .ref rfa])), (kd, .inl (c_kd, 4, .inl f_kd))]) [0, 1] (by decide +kernel) rfl
    exact W.iret (v := (zI (-1))) hx hb hr (fun t ht hW => kQS_of (by omega) ⟨0, (by omega), (by unfold kAs; omega), by rw [ht]; exact hP9, hD9⟩ (hS.F ht)) hS.2.2 dX9_as_14
theorem dX9_kinds_0 : decode cX9_kinds 0 = .ok (.aload_n 0, 1) := kqo_2a kbl_X9_kinds (pc := 0) rfl
theorem dX9_kinds_1 : decode cX9_kinds 1 = .ok (.iload_n 1, 1) := kqo_1b kbl_X9_kinds (pc := 1) rfl
theorem dX9_kinds_2 : decode cX9_kinds 2 = .ok (.invokevirtual 120, 3) := kqo_b6 (x1 := 0) (x2 := 120) kbl_X9_kinds (pc := 2) rfl rfl
theorem dX9_kinds_5 : decode cX9_kinds 5 = .ok (.ifCond .ne 5, 3) := kqo_9a (x1 := 0) (x2 := 5) kbl_X9_kinds (pc := 5) rfl rfl
theorem dX9_kinds_8 : decode cX9_kinds 8 = .ok (.iconst (-1), 1) := kqo_02 kbl_X9_kinds (pc := 8) rfl
theorem dX9_kinds_9 : decode cX9_kinds 9 = .ok (.ireturn, 1) := kqo_ac kbl_X9_kinds (pc := 9) rfl
theorem dX9_kinds_10 : decode cX9_kinds 10 = .ok (.aload_n 0, 1) := kqo_2a kbl_X9_kinds (pc := 10) rfl
theorem dX9_kinds_11 : decode cX9_kinds 11 = .ok (.getfield 19, 3) := kqo_b4 (x1 := 0) (x2 := 19) kbl_X9_kinds (pc := 11) rfl rfl
theorem dX9_kinds_14 : decode cX9_kinds 14 = .ok (.iload_n 1, 1) := kqo_1b kbl_X9_kinds (pc := 14) rfl
theorem dX9_kinds_15 : decode cX9_kinds 15 = .ok (.iaload, 1) := kqo_2e kbl_X9_kinds (pc := 15) rfl
theorem dX9_kinds_16 : decode cX9_kinds 16 = .ok (.istore_n 2, 1) := kqo_3d kbl_X9_kinds (pc := 16) rfl
theorem dX9_kinds_17 : decode cX9_kinds 17 = .ok (.iconst 0, 1) := kqo_03 kbl_X9_kinds (pc := 17) rfl
theorem dX9_kinds_18 : decode cX9_kinds 18 = .ok (.istore_n 3, 1) := kqo_3e kbl_X9_kinds (pc := 18) rfl
theorem dX9_kinds_19 : decode cX9_kinds 19 = .ok (.iconst 0, 1) := kqo_03 kbl_X9_kinds (pc := 19) rfl
theorem dX9_kinds_20 : decode cX9_kinds 20 = .ok (.istore 4, 2) := kqo_36 (x1 := 4) kbl_X9_kinds (pc := 20) rfl rfl
theorem dX9_kinds_22 : decode cX9_kinds 22 = .ok (.iload 4, 2) := kqo_15 (x1 := 4) kbl_X9_kinds (pc := 22) rfl rfl
theorem dX9_kinds_24 : decode cX9_kinds 24 = .ok (.iconst 3, 1) := kqo_06 kbl_X9_kinds (pc := 24) rfl
theorem dX9_kinds_25 : decode cX9_kinds 25 = .ok (.if_icmp .ge 35, 3) := kqo_a2 (x1 := 0) (x2 := 35) kbl_X9_kinds (pc := 25) rfl rfl
theorem dX9_kinds_28 : decode cX9_kinds 28 = .ok (.aload_n 0, 1) := kqo_2a kbl_X9_kinds (pc := 28) rfl
theorem dX9_kinds_29 : decode cX9_kinds 29 = .ok (.getfield 19, 3) := kqo_b4 (x1 := 0) (x2 := 19) kbl_X9_kinds (pc := 29) rfl rfl
theorem dX9_kinds_32 : decode cX9_kinds 32 = .ok (.iload_n 1, 1) := kqo_1b kbl_X9_kinds (pc := 32) rfl
theorem dX9_kinds_33 : decode cX9_kinds 33 = .ok (.iload 4, 2) := kqo_15 (x1 := 4) kbl_X9_kinds (pc := 33) rfl rfl
theorem dX9_kinds_35 : decode cX9_kinds 35 = .ok (.iastore, 1) := kqo_4f kbl_X9_kinds (pc := 35) rfl
theorem dX9_kinds_36 : decode cX9_kinds 36 = .ok (.iload_n 3, 1) := kqo_1d kbl_X9_kinds (pc := 36) rfl
theorem dX9_kinds_37 : decode cX9_kinds 37 = .ok (.aload_n 0, 1) := kqo_2a kbl_X9_kinds (pc := 37) rfl
theorem dX9_kinds_38 : decode cX9_kinds 38 = .ok (.invokevirtual 196, 3) := kqo_b6 (x1 := 0) (x2 := 196) kbl_X9_kinds (pc := 38) rfl rfl
theorem dX9_kinds_41 : decode cX9_kinds 41 = .ok (.ifCond .eq 10, 3) := kqo_99 (x1 := 0) (x2 := 10) kbl_X9_kinds (pc := 41) rfl rfl
theorem dX9_kinds_44 : decode cX9_kinds 44 = .ok (.iconst 1, 1) := kqo_04 kbl_X9_kinds (pc := 44) rfl
theorem dX9_kinds_45 : decode cX9_kinds 45 = .ok (.iload 4, 2) := kqo_15 (x1 := 4) kbl_X9_kinds (pc := 45) rfl rfl
theorem dX9_kinds_47 : decode cX9_kinds 47 = .ok (.ishl, 1) := kqo_78 kbl_X9_kinds (pc := 47) rfl
theorem dX9_kinds_48 : decode cX9_kinds 48 = .ok (.goto 4, 3) := kqo_a7 (x1 := 0) (x2 := 4) kbl_X9_kinds (pc := 48) rfl rfl
theorem dX9_kinds_51 : decode cX9_kinds 51 = .ok (.iconst 0, 1) := kqo_03 kbl_X9_kinds (pc := 51) rfl
theorem dX9_kinds_52 : decode cX9_kinds 52 = .ok (.ior, 1) := kqo_80 kbl_X9_kinds (pc := 52) rfl
theorem dX9_kinds_53 : decode cX9_kinds 53 = .ok (.istore_n 3, 1) := kqo_3e kbl_X9_kinds (pc := 53) rfl
theorem dX9_kinds_54 : decode cX9_kinds 54 = .ok (.iinc 4 1, 3) := kqo_84 (x1 := 4) (x2 := 1) kbl_X9_kinds (pc := 54) rfl rfl
theorem dX9_kinds_57 : decode cX9_kinds 57 = .ok (.goto (-35), 3) := kqo_a7 (x1 := 255) (x2 := 221) kbl_X9_kinds (pc := 57) rfl rfl
theorem dX9_kinds_60 : decode cX9_kinds 60 = .ok (.aload_n 0, 1) := kqo_2a kbl_X9_kinds (pc := 60) rfl
theorem dX9_kinds_61 : decode cX9_kinds 61 = .ok (.getfield 19, 3) := kqo_b4 (x1 := 0) (x2 := 19) kbl_X9_kinds (pc := 61) rfl rfl
theorem dX9_kinds_64 : decode cX9_kinds 64 = .ok (.iload_n 1, 1) := kqo_1b kbl_X9_kinds (pc := 64) rfl
theorem dX9_kinds_65 : decode cX9_kinds 65 = .ok (.iload_n 2, 1) := kqo_1c kbl_X9_kinds (pc := 65) rfl
theorem dX9_kinds_66 : decode cX9_kinds 66 = .ok (.iastore, 1) := kqo_4f kbl_X9_kinds (pc := 66) rfl
theorem dX9_kinds_67 : decode cX9_kinds 67 = .ok (.iload_n 3, 1) := kqo_1d kbl_X9_kinds (pc := 67) rfl
theorem dX9_kinds_68 : decode cX9_kinds 68 = .ok (.ireturn, 1) := kqo_ac kbl_X9_kinds (pc := 68) rfl
set_option maxRecDepth 20000 in
theorem ggX9_kinds_X9_areSo : GoodIn wsX9_kinds wsX9_areSo := goodIn_4 _ (List.forall_mem_cons.mpr ⟨List.mem_cons_of_mem _ (List.mem_append_left _ (List.mem_append_left _ (List.mem_of_getElem? (i := 10) rfl))), List.forall_mem_append.mpr ⟨List.forall_mem_append.mpr ⟨List.forall_mem_cons.mpr ⟨List.mem_cons_of_mem _ (List.mem_append_left _ (List.mem_append_left _ (List.mem_of_getElem? (i := 11) rfl))), List.forall_mem_cons.mpr ⟨List.mem_cons_of_mem _ (List.mem_append_left _ (List.mem_append_left _ (List.mem_of_getElem? (i := 12) rfl))), List.forall_mem_cons.mpr ⟨List.mem_cons_of_mem _ (List.mem_append_left _ (List.mem_append_left _ (List.mem_of_getElem? (i := 13) rfl))), List.forall_mem_cons.mpr ⟨List.mem_cons_of_mem _ (List.mem_append_left _ (List.mem_append_left _ (List.mem_of_getElem? (i := 14) rfl))), List.forall_mem_cons.mpr ⟨List.mem_cons_of_mem _ (List.mem_append_left _ (List.mem_append_left _ (List.mem_of_getElem? (i := 15) rfl))), List.forall_mem_cons.mpr ⟨List.mem_cons_of_mem _ (List.mem_append_left _ (List.mem_append_left _ (List.mem_of_getElem? (i := 16) rfl))), List.forall_mem_cons.mpr ⟨List.mem_cons_of_mem _ (List.mem_append_left _ (List.mem_append_left _ (List.mem_of_getElem? (i := 4) rfl))), List.forall_mem_cons.mpr ⟨List.mem_cons_of_mem _ (List.mem_append_left _ (List.mem_append_left _ (List.mem_of_getElem? (i := 17) rfl))), List.forall_mem_cons.mpr ⟨List.mem_cons_of_mem _ (List.mem_append_left _ (List.mem_append_left _ (List.mem_of_getElem? (i := 18) rfl))), List.forall_mem_cons.mpr ⟨List.mem_cons_of_mem _ (List.mem_append_left _ (List.mem_append_left _ (List.mem_of_getElem? (i := 19) rfl))), List.forall_mem_cons.mpr ⟨List.mem_cons_of_mem _ (List.mem_append_left _ (List.mem_append_left _ (List.mem_of_getElem? (i := 20) rfl))), List.forall_mem_cons.mpr ⟨List.mem_cons_of_mem _ (List.mem_append_left _ (List.mem_append_left _ (List.mem_of_getElem? (i := 21) rfl))), List.forall_mem_cons.mpr ⟨List.mem_cons_of_mem _ (List.mem_append_left _ (List.mem_append_left _ (List.mem_of_getElem? (i := 22) rfl))), List.forall_mem_cons.mpr ⟨List.mem_cons_of_mem _ (List.mem_append_left _ (List.mem_append_left _ (List.mem_of_getElem? (i := 23) rfl))), List.forall_mem_cons.mpr ⟨List.mem_cons_of_mem _ (List.mem_append_left _ (List.mem_append_right _ (List.mem_append_left _ (List.mem_of_getElem? (i := 0) rfl)))), List.forall_mem_cons.mpr ⟨List.mem_cons_of_mem _ (List.mem_append_left _ (List.mem_append_right _ (List.mem_append_left _ (List.mem_of_getElem? (i := 1) rfl)))), List.forall_mem_cons.mpr ⟨List.mem_cons_of_mem _ (List.mem_append_left _ (List.mem_append_left _ (List.mem_of_getElem? (i := 6) rfl))), List.forall_mem_cons.mpr ⟨List.mem_cons_of_mem _ (List.mem_append_left _ (List.mem_append_right _ (List.mem_append_left _ (List.mem_of_getElem? (i := 2) rfl)))), List.forall_mem_cons.mpr ⟨List.mem_cons_of_mem _ (List.mem_append_left _ (List.mem_append_right _ (List.mem_append_left _ (List.mem_of_getElem? (i := 3) rfl)))), List.forall_mem_cons.mpr ⟨List.mem_cons_of_mem _ (List.mem_append_left _ (List.mem_append_right _ (List.mem_append_left _ (List.mem_of_getElem? (i := 4) rfl)))), List.forall_mem_cons.mpr ⟨List.mem_cons_of_mem _ (List.mem_append_left _ (List.mem_append_right _ (List.mem_append_left _ (List.mem_of_getElem? (i := 5) rfl)))), List.forall_mem_cons.mpr ⟨List.mem_cons_of_mem _ (List.mem_append_left _ (List.mem_append_right _ (List.mem_append_left _ (List.mem_of_getElem? (i := 6) rfl)))), List.forall_mem_cons.mpr ⟨List.mem_cons_of_mem _ (List.mem_append_left _ (List.mem_append_right _ (List.mem_append_left _ (List.mem_of_getElem? (i := 7) rfl)))), List.forall_mem_cons.mpr ⟨List.mem_cons_of_mem _ (List.mem_append_left _ (List.mem_append_right _ (List.mem_append_left _ (List.mem_of_getElem? (i := 8) rfl)))), fun _ h9 => absurd h9 List.not_mem_nil⟩⟩⟩⟩⟩⟩⟩⟩⟩⟩⟩⟩⟩⟩⟩⟩⟩⟩⟩⟩⟩⟩⟩⟩, List.forall_mem_append.mpr ⟨List.forall_mem_cons.mpr ⟨List.mem_cons_of_mem _ (List.mem_append_left _ (List.mem_append_right _ (List.mem_append_left _ (List.mem_of_getElem? (i := 9) rfl)))), List.forall_mem_cons.mpr ⟨List.mem_cons_of_mem _ (List.mem_append_left _ (List.mem_append_right _ (List.mem_append_left _ (List.mem_of_getElem? (i := 10) rfl)))), List.forall_mem_cons.mpr ⟨List.mem_cons_of_mem _ (List.mem_append_left _ (List.mem_append_right _ (List.mem_append_left _ (List.mem_of_getElem? (i := 11) rfl)))), List.forall_mem_cons.mpr ⟨List.mem_cons_of_mem _ (List.mem_append_left _ (List.mem_append_right _ (List.mem_append_left _ (List.mem_of_getElem? (i := 12) rfl)))), List.forall_mem_cons.mpr ⟨List.mem_cons_of_mem _ (List.mem_append_left _ (List.mem_append_right _ (List.mem_append_left _ (List.mem_of_getElem? (i := 13) rfl)))), List.forall_mem_cons.mpr ⟨List.mem_cons_of_mem _ (List.mem_append_left _ (List.mem_append_right _ (List.mem_append_left _ (List.mem_of_getElem? (i := 14) rfl)))), List.forall_mem_cons.mpr ⟨List.mem_cons_of_mem _ (List.mem_append_left _ (List.mem_append_right _ (List.mem_append_left _ (List.mem_of_getElem? (i := 15) rfl)))), List.forall_mem_cons.mpr ⟨List.mem_cons_of_mem _ (List.mem_append_left _ (List.mem_append_right _ (List.mem_append_left _ (List.mem_of_getElem? (i := 16) rfl)))), List.forall_mem_cons.mpr ⟨List.mem_cons_of_mem _ (List.mem_append_left _ (List.mem_append_right _ (List.mem_append_left _ (List.mem_of_getElem? (i := 17) rfl)))), List.forall_mem_cons.mpr ⟨List.mem_cons_of_mem _ (List.mem_append_left _ (List.mem_append_right _ (List.mem_append_left _ (List.mem_of_getElem? (i := 18) rfl)))), List.forall_mem_cons.mpr ⟨List.mem_cons_of_mem _ (List.mem_append_left _ (List.mem_append_right _ (List.mem_append_left _ (List.mem_of_getElem? (i := 19) rfl)))), List.forall_mem_cons.mpr ⟨List.mem_cons_of_mem _ (List.mem_append_left _ (List.mem_append_right _ (List.mem_append_left _ (List.mem_of_getElem? (i := 20) rfl)))), List.forall_mem_cons.mpr ⟨List.mem_cons_of_mem _ (List.mem_append_left _ (List.mem_append_right _ (List.mem_append_left _ (List.mem_of_getElem? (i := 21) rfl)))), List.forall_mem_cons.mpr ⟨List.mem_cons_of_mem _ (List.mem_append_left _ (List.mem_append_right _ (List.mem_append_left _ (List.mem_of_getElem? (i := 22) rfl)))), List.forall_mem_cons.mpr ⟨List.mem_cons_of_mem _ (List.mem_append_left _ (List.mem_append_right _ (List.mem_append_left _ (List.mem_of_getElem? (i := 23) rfl)))), List.forall_mem_cons.mpr ⟨List.mem_cons_of_mem _ (List.mem_append_left _ (List.mem_append_right _ (List.mem_append_right _ (List.mem_of_getElem? (i := 0) rfl)))), List.forall_mem_cons.mpr ⟨List.mem_cons_of_mem _ (List.mem_append_left _ (List.mem_append_right _ (List.mem_append_right _ (List.mem_of_getElem? (i := 1) rfl)))), List.forall_mem_cons.mpr ⟨List.mem_cons_of_mem _ (List.mem_append_left _ (List.mem_append_right _ (List.mem_append_right _ (List.mem_of_getElem? (i := 2) rfl)))), List.forall_mem_cons.mpr ⟨List.mem_cons_of_mem _ (List.mem_append_left _ (List.mem_append_right _ (List.mem_append_right _ (List.mem_of_getElem? (i := 3) rfl)))), List.forall_mem_cons.mpr ⟨List.mem_cons_of_mem _ (List.mem_append_left _ (List.mem_append_right _ (List.mem_append_right _ (List.mem_of_getElem? (i := 4) rfl)))), List.forall_mem_cons.mpr ⟨List.mem_cons_of_mem _ (List.mem_append_left _ (List.mem_append_right _ (List.mem_append_right _ (List.mem_of_getElem? (i := 5) rfl)))), List.forall_mem_cons.mpr ⟨List.mem_cons_of_mem _ (List.mem_append_left _ (List.mem_append_right _ (List.mem_append_right _ (List.mem_of_getElem? (i := 6) rfl)))), List.forall_mem_cons.mpr ⟨List.mem_cons_of_mem _ (List.mem_append_left _ (List.mem_append_right _ (List.mem_append_right _ (List.mem_of_getElem? (i := 7) rfl)))), List.forall_mem_cons.mpr ⟨List.mem_cons_of_mem _ (List.mem_append_left _ (List.mem_append_left _ (List.mem_of_getElem? (i := 0) rfl))), fun _ h9 => absurd h9 List.not_mem_nil⟩⟩⟩⟩⟩⟩⟩⟩⟩⟩⟩⟩⟩⟩⟩⟩⟩⟩⟩⟩⟩⟩⟩⟩, List.forall_mem_cons.mpr ⟨List.mem_cons_of_mem _ (List.mem_append_left _ (List.mem_append_right _ (List.mem_append_right _ (List.mem_of_getElem? (i := 8) rfl)))), fun _ h9 => absurd h9 List.not_mem_nil⟩⟩⟩, fun w h9 => List.mem_cons_of_mem _ (List.mem_append_right _ (h9))⟩⟩) (by decide +kernel)
set_option maxRecDepth 20000 in
theorem gX9_kinds_X9_areSo : GoodIn wsX9_kinds (wsV RX9 196 RX9 yX9_areSo wsX9_areSo) := goodIn_app (goodIn_4 _ (List.forall_mem_cons.mpr ⟨List.mem_cons_of_mem _ (List.mem_append_left _ (List.mem_append_left _ (List.mem_of_getElem? (i := 7) rfl))), List.forall_mem_cons.mpr ⟨List.mem_cons_of_mem _ (List.mem_append_left _ (List.mem_append_left _ (List.mem_of_getElem? (i := 8) rfl))), List.forall_mem_cons.mpr ⟨List.mem_cons_of_mem _ (List.mem_append_left _ (List.mem_append_left _ (List.mem_of_getElem? (i := 9) rfl))), List.forall_mem_cons.mpr ⟨List.mem_cons_of_mem _ (List.mem_append_left _ (List.mem_append_left _ (List.mem_of_getElem? (i := 4) rfl))), fun _ h9 => absurd h9 List.not_mem_nil⟩⟩⟩⟩) (by decide +kernel)) ggX9_kinds_X9_areSo
set_option maxRecDepth 20000 in
theorem ggX9_kinds_X9_isFont : GoodIn wsX9_kinds wsX9_isFont := goodIn_4 _ (List.forall_mem_cons.mpr ⟨List.mem_cons_of_mem _ (List.mem_append_left _ (List.mem_append_left _ (List.mem_of_getElem? (i := 5) rfl))), List.forall_mem_append.mpr ⟨List.forall_mem_cons.mpr ⟨List.mem_cons_of_mem _ (List.mem_append_left _ (List.mem_append_left _ (List.mem_of_getElem? (i := 6) rfl))), fun _ h9 => absurd h9 List.not_mem_nil⟩, fun w h9 => List.mem_cons_of_mem _ (List.mem_append_right _ (h9))⟩⟩) (by decide +kernel)
set_option maxRecDepth 20000 in
theorem gX9_kinds_X9_isFont : GoodIn wsX9_kinds (wsV RX9 120 RX9 yX9_isFont wsX9_isFont) := goodIn_app (goodIn_4 _ (List.forall_mem_cons.mpr ⟨List.mem_cons_of_mem _ (List.mem_append_left _ (List.mem_append_left _ (List.mem_of_getElem? (i := 1) rfl))), List.forall_mem_cons.mpr ⟨List.mem_cons_of_mem _ (List.mem_append_left _ (List.mem_append_left _ (List.mem_of_getElem? (i := 2) rfl))), List.forall_mem_cons.mpr ⟨List.mem_cons_of_mem _ (List.mem_append_left _ (List.mem_append_left _ (List.mem_of_getElem? (i := 3) rfl))), List.forall_mem_cons.mpr ⟨List.mem_cons_of_mem _ (List.mem_append_left _ (List.mem_append_left _ (List.mem_of_getElem? (i := 4) rfl))), fun _ h9 => absurd h9 List.not_mem_nil⟩⟩⟩⟩) (by decide +kernel)) ggX9_kinds_X9_isFont
set_option maxRecDepth 20000 in
theorem mw_X9_kinds_0 : (.fieldLink RX9 19 "FontRunsModel" "kind" "[I" : Cond) ∈ wsX9_kinds := List.mem_cons_of_mem _ (List.mem_append_left _ (List.mem_append_left _ (List.mem_of_getElem? (i := 0) rfl)))
theorem ax_X9_kinds_0 {e0 e1 e2 e3 e4 e5 e6 e7 e8 e9 e10 : Nat × va_E} : ([0] : List Nat).map (fun i => ([e0, e1, e2, e3, e4, e5, e6, e7, e8, e9, e10] : va_W)[i]?) = ([e0] : va_W).map some := rfl
theorem ax_X9_kinds_1 {e0 e1 e2 e3 e4 e5 e6 e7 e8 e9 e10 : Nat × va_E} : ([0, 1, 2, 3, 4, 5, 6, 7, 8, 9, 10] : List Nat).map (fun i => ([e0, e1, e2, e3, e4, e5, e6, e7, e8, e9, e10] : va_W)[i]?) = ([e0, e1, e2, e3, e4, e5, e6, e7, e8, e9, e10] : va_W).map some := rfl
theorem ax_X9_kinds_2 {e0 e1 e2 e3 e4 e5 e6 e7 e8 e9 e10 : Nat × va_E} : ([] : List Nat).map (fun i => ([e0, e1, e2, e3, e4, e5, e6, e7, e8, e9, e10] : va_W)[i]?) = ([] : va_W).map some := rfl
theorem ax_X9_kinds_3 {D : va_G} {cl : List vw_C} {H : Heap} {f0 f1 f2 f3 f4 f5 f6 f7 f8 f9 f10 : Nat × va_E} (h : va_P D cl ((([] : va_W) ++ ([f0, f1, f2, f3, f4, f5, f6, f7, f8, f9, f10] : va_W))) H) : va_P D cl (([f0, f1, f2, f3, f4, f5, f6, f7, f8, f9, f10] : va_W)) H := h
theorem ax_X9_kinds_4 {A : Nat → Prop} {f0 f1 f2 f3 f4 f5 f6 f7 f8 f9 f10 : Nat × va_E} (h : va_D A ((([] : va_W) ++ ([f0, f1, f2, f3, f4, f5, f6, f7, f8, f9, f10] : va_W)))) : va_D A (([f0, f1, f2, f3, f4, f5, f6, f7, f8, f9, f10] : va_W)) := h
set_option maxHeartbeats 4000000 in
set_option maxRecDepth 100000 in
theorem c_X9_kinds (l : Launch) (D : va_G) (sz : Nat) (f : Int) (h0 : Nat) (fa : Int) (tc : Int) (so : Nat) (sl : Nat) (ce : Nat) (fn : Int) (kd : Nat) (wd : Nat) (hs : Nat) (pf : Nat) (lt : Nat) (mn : Int) (wg : Nat) (ta : Int) (ck : Int64) (at9 : Int) (rfn : Int) (rk : Nat) (rw : Nat) (rh : Nat) (cl : Int) (sa : Nat) (fi : Nat) (bo : Int) (ch : Nat) (cn : Nat) (ad : Int) (ru : Int) (kp : Nat) (dn : Int) (rfa : Nat) (c_wg : ClassId) (f_wg : Nat → Int32) (c_sa : ClassId) (f_sa : Nat → Int32) (c_fi : ClassId) (f_fi : Nat → Int32) (c_hs : ClassId) (f_hs : Nat → Int32) (c_ch : ClassId) (f_ch : Nat → Int32) (c_cn : ClassId) (f_cn : Nat → Int32) (c_pf : ClassId) (f_pf : Nat → Int32) (c_kd : ClassId) (f_kd : Nat → Int32) (c_wd : ClassId) (f_wd : Nat → Int32) (c_rfa : ClassId) (f_rfa : Nat → Int32) (q0 : rg f) (q1 : 0 ≤ mn ∧ mn ≤ 24) (q2 : 0 ≤ fn ∧ fn ≤ 4) (q3 : kPm f_pf fn) (q4 : ¬ (fn = 0 ∧ 1 ≤ mn)) (q5 : rg ad) (q6 : 0 ≤ ru ∧ ru ≤ 24) (q7 : 0 ≤ cl ∧ cl ≤ 24) (q8 : 0 ≤ bo ∧ bo ≤ 24) (q9 : 0 ≤ dn ∧ dn ≤ 8) : Met l yX9_kinds wsX9_kinds ({ frames := 6, cells := 0, slots := 0, locals := 140 }) (kPre [.ref h0, .int (zI f)] D [(h0, .inr (9, [.int (zI fa), .int (zI tc), .ref so, .ref sl, .ref ce, .int (zI fn), .ref kd, .ref wd, .ref hs, .ref pf, .ref lt, .int (zI mn), .ref wg, .int (zI ta), .long ck, .int (zI at9), .int (zI rfn), .ref rk, .ref rw, .ref rh, .int (zI cl), .ref sa, .ref fi, .int (zI bo), .ref ch, .ref cn, .int (zI ad), .int (zI ru), .ref kp, .int (zI dn), .ref rfa])), (wg, .inl (c_wg, 24, .inl f_wg)), (sa, .inl (c_sa, 25, .inl f_sa)), (fi, .inl (c_fi, 24, .inl f_fi)), (hs, .inl (c_hs, 4, .inl f_hs)), (ch, .inl (c_ch, 96, .inl f_ch)), (cn, .inl (c_cn, 24, .inl f_cn)), (pf, .inl (c_pf, 4, .inl f_pf)), (kd, .inl (c_kd, 4, .inl f_kd)), (wd, .inl (c_wd, 4, .inl f_wd)), (rfa, .inl (c_rfa, 8, .inl f_rfa))] [(c_wg, .int), (c_sa, .int), (c_fi, .int), (c_hs, .int), (c_ch, .int), (c_cn, .int), (c_pf, .int), (c_kd, .int), (c_wd, .int), (c_rfa, .int)] sz) (kQS (fun rz t => ∃ (u_f_kd : Nat → Int32) (u_cl : Int) (u_bo : Int) (u_ad : Int) (u_ru : Int) (u_f_sa : Nat → Int32) (u_f_fi : Nat → Int32) (u_f_ch : Nat → Int32) (u_f_cn : Nat → Int32), (rg u_ad) ∧ (0 ≤ u_ru ∧ u_ru ≤ 24) ∧ (0 ≤ u_cl ∧ u_cl ≤ 24) ∧ (0 ≤ u_bo ∧ u_bo ≤ 24) ∧ (u_f_kd = f_kd) ∧ va_P D vwCl [(h0, .inr (9, [.int (zI fa), .int (zI tc), .ref so, .ref sl, .ref ce, .int (zI fn), .ref kd, .ref wd, .ref hs, .ref pf, .ref lt, .int (zI mn), .ref wg, .int (zI ta), .long ck, .int (zI at9), .int (zI rfn), .ref rk, .ref rw, .ref rh, .int (zI u_cl), .ref sa, .ref fi, .int (zI u_bo), .ref ch, .ref cn, .int (zI u_ad), .int (zI u_ru), .ref kp, .int (zI dn), .ref rfa])), (wg, .inl (c_wg, 24, .inl f_wg)), (sa, .inl (c_sa, 25, .inl u_f_sa)), (fi, .inl (c_fi, 24, .inl u_f_fi)), (hs, .inl (c_hs, 4, .inl f_hs)), (ch, .inl (c_ch, 96, .inl u_f_ch)), (cn, .inl (c_cn, 24, .inl u_f_cn)), (pf, .inl (c_pf, 4, .inl f_pf)), (kd, .inl (c_kd, 4, .inl u_f_kd)), (wd, .inl (c_wd, 4, .inl f_wd)), (rfa, .inl (c_rfa, 8, .inl f_rfa))] t.heap ∧ va_D (va_A [(h0, .inr (9, [.int (zI fa), .int (zI tc), .ref so, .ref sl, .ref ce, .int (zI fn), .ref kd, .ref wd, .ref hs, .ref pf, .ref lt, .int (zI mn), .ref wg, .int (zI ta), .long ck, .int (zI at9), .int (zI rfn), .ref rk, .ref rw, .ref rh, .int (zI cl), .ref sa, .ref fi, .int (zI bo), .ref ch, .ref cn, .int (zI ad), .int (zI ru), .ref kp, .int (zI dn), .ref rfa])), (wg, .inl (c_wg, 24, .inl f_wg)), (sa, .inl (c_sa, 25, .inl f_sa)), (fi, .inl (c_fi, 24, .inl f_fi)), (hs, .inl (c_hs, 4, .inl f_hs)), (ch, .inl (c_ch, 96, .inl f_ch)), (cn, .inl (c_cn, 24, .inl f_cn)), (pf, .inl (c_pf, 4, .inl f_pf)), (kd, .inl (c_kd, 4, .inl f_kd)), (wd, .inl (c_wd, 4, .inl f_wd)), (rfa, .inl (c_rfa, 8, .inl f_rfa))] sz) [(h0, .inr (9, [.int (zI fa), .int (zI tc), .ref so, .ref sl, .ref ce, .int (zI fn), .ref kd, .ref wd, .ref hs, .ref pf, .ref lt, .int (zI mn), .ref wg, .int (zI ta), .long ck, .int (zI at9), .int (zI rfn), .ref rk, .ref rw, .ref rh, .int (zI u_cl), .ref sa, .ref fi, .int (zI u_bo), .ref ch, .ref cn, .int (zI u_ad), .int (zI u_ru), .ref kp, .int (zI dn), .ref rfa])), (wg, .inl (c_wg, 24, .inl f_wg)), (sa, .inl (c_sa, 25, .inl u_f_sa)), (fi, .inl (c_fi, 24, .inl u_f_fi)), (hs, .inl (c_hs, 4, .inl f_hs)), (ch, .inl (c_ch, 96, .inl u_f_ch)), (cn, .inl (c_cn, 24, .inl u_f_cn)), (pf, .inl (c_pf, 4, .inl f_pf)), (kd, .inl (c_kd, 4, .inl u_f_kd)), (wd, .inl (c_wd, 4, .inl f_wd)), (rfa, .inl (c_rfa, 8, .inl f_rfa))]) (va_A [(h0, .inr (9, [.int (zI fa), .int (zI tc), .ref so, .ref sl, .ref ce, .int (zI fn), .ref kd, .ref wd, .ref hs, .ref pf, .ref lt, .int (zI mn), .ref wg, .int (zI ta), .long ck, .int (zI at9), .int (zI rfn), .ref rk, .ref rw, .ref rh, .int (zI cl), .ref sa, .ref fi, .int (zI bo), .ref ch, .ref cn, .int (zI ad), .int (zI ru), .ref kp, .int (zI dn), .ref rfa])), (wg, .inl (c_wg, 24, .inl f_wg)), (sa, .inl (c_sa, 25, .inl f_sa)), (fi, .inl (c_fi, 24, .inl f_fi)), (hs, .inl (c_hs, 4, .inl f_hs)), (ch, .inl (c_ch, 96, .inl f_ch)), (cn, .inl (c_cn, 24, .inl f_cn)), (pf, .inl (c_pf, 4, .inl f_pf)), (kd, .inl (c_kd, 4, .inl f_kd)), (wd, .inl (c_wd, 4, .inl f_wd)), (rfa, .inl (c_rfa, 8, .inl f_rfa))] sz)) 0 0 (va_A [(h0, .inr (9, [.int (zI fa), .int (zI tc), .ref so, .ref sl, .ref ce, .int (zI fn), .ref kd, .ref wd, .ref hs, .ref pf, .ref lt, .int (zI mn), .ref wg, .int (zI ta), .long ck, .int (zI at9), .int (zI rfn), .ref rk, .ref rw, .ref rh, .int (zI cl), .ref sa, .ref fi, .int (zI bo), .ref ch, .ref cn, .int (zI ad), .int (zI ru), .ref kp, .int (zI dn), .ref rfa])), (wg, .inl (c_wg, 24, .inl f_wg)), (sa, .inl (c_sa, 25, .inl f_sa)), (fi, .inl (c_fi, 24, .inl f_fi)), (hs, .inl (c_hs, 4, .inl f_hs)), (ch, .inl (c_ch, 96, .inl f_ch)), (cn, .inl (c_cn, 24, .inl f_cn)), (pf, .inl (c_pf, 4, .inl f_pf)), (kd, .inl (c_kd, 4, .inl f_kd)), (wd, .inl (c_wd, 4, .inl f_wd)), (rfa, .inl (c_rfa, 8, .inl f_rfa))] sz) := by
  refine Met.ofW (cc := cX9_kinds) (maxL := 5) (ret := (some .int)) (by decide) rfl ?_
  intro p e s m args below meth c s₁ B hml hv
  obtain ⟨rfl, hsz, hP, hK, hD0, hN⟩ := hv
  have hx := B.exec
  have hb := B.bytes
  have hr := B.returns
  have hts := atoms_spec (ws := wsX9_kinds) B.pre
  have hown : s.vm.findClass RX9 = some m.cls := findClass_of_methodNamed B.named
  have hlocks := B.notSynchronized
  subst hsz
  have hD := hD0.self (sz := s.heap.size)
  generalize hAe : va_A [(h0, .inr (9, [.int (zI fa), .int (zI tc), .ref so, .ref sl, .ref ce, .int (zI fn), .ref kd, .ref wd, .ref hs, .ref pf, .ref lt, .int (zI mn), .ref wg, .int (zI ta), .long ck, .int (zI at9), .int (zI rfn), .ref rk, .ref rw, .ref rh, .int (zI cl), .ref sa, .ref fi, .int (zI bo), .ref ch, .ref cn, .int (zI ad), .int (zI ru), .ref kp, .int (zI dn), .ref rfa])), (wg, .inl (c_wg, 24, .inl f_wg)), (sa, .inl (c_sa, 25, .inl f_sa)), (fi, .inl (c_fi, 24, .inl f_fi)), (hs, .inl (c_hs, 4, .inl f_hs)), (ch, .inl (c_ch, 96, .inl f_ch)), (cn, .inl (c_cn, 24, .inl f_cn)), (pf, .inl (c_pf, 4, .inl f_pf)), (kd, .inl (c_kd, 4, .inl f_kd)), (wd, .inl (c_wd, 4, .inl f_wd)), (rfa, .inl (c_rfa, 8, .inl f_rfa))] s.heap.size = A at hD ⊢
  have hA : ∀ q : Nat, s.heap.size ≤ q → A q := fun q h => by rw [← hAe]; exact Or.inr h
  have hS : va_S A s.heap s.heap [] := va_S.rf
  have hP : va_P D vwCl [(h0, .inr (9, [.int (zI fa), .int (zI tc), .ref so, .ref sl, .ref ce, .int (zI fn), .ref kd, .ref wd, .ref hs, .ref pf, .ref lt, .int (zI mn), .ref wg, .int (zI ta), .long ck, .int (zI at9), .int (zI rfn), .ref rk, .ref rw, .ref rh, .int (zI cl), .ref sa, .ref fi, .int (zI bo), .ref ch, .ref cn, .int (zI ad), .int (zI ru), .ref kp, .int (zI dn), .ref rfa])), (wg, .inl (c_wg, 24, .inl f_wg)), (sa, .inl (c_sa, 25, .inl f_sa)), (fi, .inl (c_fi, 24, .inl f_fi)), (hs, .inl (c_hs, 4, .inl f_hs)), (ch, .inl (c_ch, 96, .inl f_ch)), (cn, .inl (c_cn, 24, .inl f_cn)), (pf, .inl (c_pf, 4, .inl f_pf)), (kd, .inl (c_kd, 4, .inl f_kd)), (wd, .inl (c_wd, 4, .inl f_wd)), (rfa, .inl (c_rfa, 8, .inl f_rfa))] s.heap := hP
  have hl := lv_entry ([.ref h0, .int (zI f)]) (n := 5) (Nat.le_of_ble_eq_true rfl)
  rw [lg_entry_eq]
  generalize (lg_sl ([.ref h0, .int (zI f)]) ++ List.replicate (5 - (lg_sl ([.ref h0, .int (zI f)])).length) Slot.unset).toArray = ls at hl ⊢
  have hl : lv_has ls 5 [(0, .ref h0), (1, .int (zI f))] := hl
  refine lv_aload_n hx hb dX9_kinds_0 rfl (lv_at hl 0 rfl) ?_
  refine lv_iload_n hx hb dX9_kinds_1 rfl (lv_at hl 1 rfl) ?_
  refine k_callR (va_runV (As := [.int (zI f)]) (rest := []) ⟨hx, hb, hml, hown, hts⟩ (c_X9_isFont l D s.heap.size (f := f) (h0 := h0) (fa := fa) (tc := tc) (so := so) (sl := sl) (ce := ce) (fn := fn) (kd := kd) (wd := wd) (hs := hs) (pf := pf) (lt := lt) (mn := mn) (wg := wg) (ta := ta) (ck := ck) (at9 := at9) (rfn := rfn) (rk := rk) (rw := rw) (rh := rh) (cl := cl) (sa := sa) (fi := fi) (bo := bo) (ch := ch) (cn := cn) (ad := ad) (ru := ru) (kp := kp) (dn := dn) (rfa := rfa) q0 q2) (cwV 1 hts gX9_kinds_X9_isFont rfl rfl rfl (by decide +kernel) ⟨Nat.le_of_ble_eq_true rfl, Nat.le_of_ble_eq_true rfl⟩) (kPreV hP (kD0 hD) hK hN [0] [] ax_X9_kinds_0 rfl (by decide +kernel) 0 9 rfl rfl) rfl rfl hl.1 rfl (lv_room (Nat.le_of_ble_eq_true rfl)) dX9_kinds_2 ⟨Nat.le_of_ble_eq_true rfl, Nat.le_of_ble_eq_true rfl⟩) ?_
  refine lv_if_ne (tgt := 10) hx hb dX9_kinds_5 (by decide) (fun c_1 => ?_) (fun c_1 => ?_)
  · have c_1 : 0 ≤ f ∧ f < fn := b01t c_1
    refine lv_aload_n hx hb dX9_kinds_10 rfl (lv_at hl 0 rfl) ?_
    refine va_get (D := D) (ci := 9) (v := .ref kd) (C := RX9) (T := TX9) (N := 31) hx hb hts (fun _ h9 => List.mem_cons_of_mem _ (List.mem_append_right _ h9)) hown hK hP 0 rfl rfl 6 (by decide) (hts (.fieldLink RX9 19 "FontRunsModel" "kind" "[I") mw_X9_kinds_0) (fun _ h9 => h9) rfl dX9_kinds_11 ?_
    refine lv_iload_n hx hb dX9_kinds_14 rfl (lv_at hl 1 rfl) ?_
    refine kz_iald hx hb hK hP 8 7 rfl rfl (by omega) dX9_kinds_15 (fun z_2 rz_2 ez_2 => ?_)
    refine lv_istore_n (lv' := [(2, .int (zI z_2)), (0, .ref h0), (1, .int (zI f))]) hx hb dX9_kinds_16 rfl hl (by decide) rfl (fun ls hl => ?_)
    refine lv_iconst (v := zI 0) hx hb dX9_kinds_17 rfl ?_
    refine lv_istore_n (lv' := [(3, .int (zI 0)), (2, .int (zI z_2)), (0, .ref h0), (1, .int (zI f))]) hx hb dX9_kinds_18 rfl hl (by decide) rfl (fun ls hl => ?_)
    refine lv_iconst (v := zI 0) hx hb dX9_kinds_19 rfl ?_
    refine lv_istore (lv' := [(4, .int (zI 0)), (3, .int (zI 0)), (2, .int (zI z_2)), (0, .ref h0), (1, .int (zI f))]) hx hb dX9_kinds_20 hl (by decide) rfl (fun ls hl => ?_)
    refine k_loopM (I := fun n9 H locs ls => ∃ (js : Int) (jv : Int) (jc : Int) (jo : Int) (jd : Int) (jr : Int) (a1 : Nat → Int32) (a2 : Nat → Int32) (a3 : Nat → Int32) (a4 : Nat → Int32) (a5 : Nat → Int32), n9 = (3 - jv).toNat ∧ (rg js) ∧ (0 ≤ jc ∧ jc ≤ 24) ∧ (0 ≤ jo ∧ jo ≤ 24) ∧ (rg jd) ∧ (0 ≤ jr ∧ jr ≤ 24) ∧ (0 ≤ jv ∧ jv ≤ 3) ∧ (kEx a5 f_kd f) ∧ va_P D vwCl [(h0, .inr (9, [.int (zI fa), .int (zI tc), .ref so, .ref sl, .ref ce, .int (zI fn), .ref kd, .ref wd, .ref hs, .ref pf, .ref lt, .int (zI mn), .ref wg, .int (zI ta), .long ck, .int (zI at9), .int (zI rfn), .ref rk, .ref rw, .ref rh, .int (zI jc), .ref sa, .ref fi, .int (zI jo), .ref ch, .ref cn, .int (zI jd), .int (zI jr), .ref kp, .int (zI dn), .ref rfa])), (wg, .inl (c_wg, 24, .inl f_wg)), (sa, .inl (c_sa, 25, .inl a1)), (fi, .inl (c_fi, 24, .inl a2)), (hs, .inl (c_hs, 4, .inl f_hs)), (ch, .inl (c_ch, 96, .inl a3)), (cn, .inl (c_cn, 24, .inl a4)), (pf, .inl (c_pf, 4, .inl f_pf)), (kd, .inl (c_kd, 4, .inl a5)), (wd, .inl (c_wd, 4, .inl f_wd)), (rfa, .inl (c_rfa, 8, .inl f_rfa))] H ∧ va_D A [(h0, .inr (9, [.int (zI fa), .int (zI tc), .ref so, .ref sl, .ref ce, .int (zI fn), .ref kd, .ref wd, .ref hs, .ref pf, .ref lt, .int (zI mn), .ref wg, .int (zI ta), .long ck, .int (zI at9), .int (zI rfn), .ref rk, .ref rw, .ref rh, .int (zI jc), .ref sa, .ref fi, .int (zI jo), .ref ch, .ref cn, .int (zI jd), .int (zI jr), .ref kp, .int (zI dn), .ref rfa])), (wg, .inl (c_wg, 24, .inl f_wg)), (sa, .inl (c_sa, 25, .inl a1)), (fi, .inl (c_fi, 24, .inl a2)), (hs, .inl (c_hs, 4, .inl f_hs)), (ch, .inl (c_ch, 96, .inl a3)), (cn, .inl (c_cn, 24, .inl a4)), (pf, .inl (c_pf, 4, .inl f_pf)), (kd, .inl (c_kd, 4, .inl a5)), (wd, .inl (c_wd, 4, .inl f_wd)), (rfa, .inl (c_rfa, 8, .inl f_rfa))] ∧ va_S A s.heap H locs ∧ lv_has ls 5 [(4, .int (zI jv)), (3, .int (zI js)), (2, .int (zI z_2)), (0, .ref h0), (1, .int (zI f))]) ?_ _ ⟨0, 0, cl, bo, ad, ru, f_sa, f_fi, f_ch, f_cn, f_kd, rfl, (by omega), q7, q8, q5, q6, (by omega), kEx_0, hP, hD, hS, hl⟩
    intro n22 ih22 H locs ls hI
    obtain ⟨js, jv, jc, jo, jd, jr, a1, a2, a3, a4, a5, en22, v_220, v_221, v_222, v_223, v_224, v_225, v_226, hP, hD, hS, hl⟩ := hI
    refine lv_iload hx hb dX9_kinds_22 (lv_at hl 0 rfl) ?_
    refine lv_iconst (v := zI 3) hx hb dX9_kinds_24 rfl ?_
    refine kz_icmp_ge (tgt := 60) hx hb dX9_kinds_25 (by decide) (by omega) (by omega) (fun c_3 => ?_) (fun c_3 => ?_)
    · refine lv_aload_n hx hb dX9_kinds_60 rfl (lv_at hl 3 rfl) ?_
      refine va_get (D := D) (ci := 9) (v := .ref kd) (C := RX9) (T := TX9) (N := 31) hx hb hts (fun _ h9 => List.mem_cons_of_mem _ (List.mem_append_right _ h9)) hown hK hP 0 rfl rfl 6 (by decide) (hts (.fieldLink RX9 19 "FontRunsModel" "kind" "[I") mw_X9_kinds_0) (fun _ h9 => h9) rfl dX9_kinds_61 ?_
      refine lv_iload_n hx hb dX9_kinds_64 rfl (lv_at hl 4 rfl) ?_
      refine lv_iload_n hx hb dX9_kinds_65 rfl (lv_at hl 2 rfl) ?_
      refine kz_iast hx hb hK hP hD hS 8 7 rfl rfl (by omega) dX9_kinds_66 (fun H locs hP hD hS => ?_)
      have hP : va_P D vwCl [(h0, .inr (9, [.int (zI fa), .int (zI tc), .ref so, .ref sl, .ref ce, .int (zI fn), .ref kd, .ref wd, .ref hs, .ref pf, .ref lt, .int (zI mn), .ref wg, .int (zI ta), .long ck, .int (zI at9), .int (zI rfn), .ref rk, .ref rw, .ref rh, .int (zI jc), .ref sa, .ref fi, .int (zI jo), .ref ch, .ref cn, .int (zI jd), .int (zI jr), .ref kp, .int (zI dn), .ref rfa])), (wg, .inl (c_wg, 24, .inl f_wg)), (sa, .inl (c_sa, 25, .inl a1)), (fi, .inl (c_fi, 24, .inl a2)), (hs, .inl (c_hs, 4, .inl f_hs)), (ch, .inl (c_ch, 96, .inl a3)), (cn, .inl (c_cn, 24, .inl a4)), (pf, .inl (c_pf, 4, .inl f_pf)), (kd, .inl (c_kd, 4, .inl (upd a5 (f).toNat (zI z_2)))), (wd, .inl (c_wd, 4, .inl f_wd)), (rfa, .inl (c_rfa, 8, .inl f_rfa))] H := hP
      have hD : va_D A [(h0, .inr (9, [.int (zI fa), .int (zI tc), .ref so, .ref sl, .ref ce, .int (zI fn), .ref kd, .ref wd, .ref hs, .ref pf, .ref lt, .int (zI mn), .ref wg, .int (zI ta), .long ck, .int (zI at9), .int (zI rfn), .ref rk, .ref rw, .ref rh, .int (zI jc), .ref sa, .ref fi, .int (zI jo), .ref ch, .ref cn, .int (zI jd), .int (zI jr), .ref kp, .int (zI dn), .ref rfa])), (wg, .inl (c_wg, 24, .inl f_wg)), (sa, .inl (c_sa, 25, .inl a1)), (fi, .inl (c_fi, 24, .inl a2)), (hs, .inl (c_hs, 4, .inl f_hs)), (ch, .inl (c_ch, 96, .inl a3)), (cn, .inl (c_cn, 24, .inl a4)), (pf, .inl (c_pf, 4, .inl f_pf)), (kd, .inl (c_kd, 4, .inl (upd a5 (f).toNat (zI z_2)))), (wd, .inl (c_wd, 4, .inl f_wd)), (rfa, .inl (c_rfa, 8, .inl f_rfa))] := hD
      generalize ef_4 : upd a5 (f).toNat (zI z_2) = f_4 at hP hD
      refine lv_iload_n hx hb dX9_kinds_67 rfl (lv_at hl 1 rfl) ?_
      have hP9 := hP.sub (ws' := [(h0, .inr (9, [.int (zI fa), .int (zI tc), .ref so, .ref sl, .ref ce, .int (zI fn), .ref kd, .ref wd, .ref hs, .ref pf, .ref lt, .int (zI mn), .ref wg, .int (zI ta), .long ck, .int (zI at9), .int (zI rfn), .ref rk, .ref rw, .ref rh, .int (zI jc), .ref sa, .ref fi, .int (zI jo), .ref ch, .ref cn, .int (zI jd), .int (zI jr), .ref kp, .int (zI dn), .ref rfa])), (wg, .inl (c_wg, 24, .inl f_wg)), (sa, .inl (c_sa, 25, .inl a1)), (fi, .inl (c_fi, 24, .inl a2)), (hs, .inl (c_hs, 4, .inl f_hs)), (ch, .inl (c_ch, 96, .inl a3)), (cn, .inl (c_cn, 24, .inl a4)), (pf, .inl (c_pf, 4, .inl f_pf)), (kd, .inl (c_kd, 4, .inl f_4)), (wd, .inl (c_wd, 4, .inl f_wd)), (rfa, .inl (c_rfa, 8, .inl f_rfa))]) [0, 1, 2, 3, 4, 5, 6, 7, 8, 9, 10] rfl
      have hD9 := hD.sub (ws' := [(h0, .inr (9, [.int (zI fa), .int (zI tc), .ref so, .ref sl, .ref ce, .int (zI fn), .ref kd, .ref wd, .ref hs, .ref pf, .ref lt, .int (zI mn), .ref wg, .int (zI ta), .long ck, .int (zI at9), .int (zI rfn), .ref rk, .ref rw, .ref rh, .int (zI jc), .ref sa, .ref fi, .int (zI jo), .ref ch, .ref cn, .int (zI jd), .int (zI jr), .ref kp, .int (zI dn), .ref rfa])), (wg, .inl (c_wg, 24, .inl f_wg)), (sa, .inl (c_sa, 25, .inl a1)), (fi, .inl (c_fi, 24, .inl a2)), (hs, .inl (c_hs, 4, .inl f_hs)), (ch, .inl (c_ch, 96, .inl a3)), (cn, .inl (c_cn, 24, .inl a4)), (pf, .inl (c_pf, 4, .inl f_pf)), (kd, .inl (c_kd, 4, .inl f_4)), (wd, .inl (c_wd, 4, .inl f_wd)), (rfa, .inl (c_rfa, 8, .inl f_rfa))]) [0, 1, 2, 3, 4, 5, 6, 7, 8, 9, 10] (by decide +kernel) rfl
      exact W.iret (v := (zI js)) hx hb hr (fun t ht hW => kQS_of (by omega) ⟨f_4, jc, jo, jd, jr, a1, a2, a3, a4, v_223, v_224, v_221, v_222, (kEx_e v_226 ez_2 ef_4), by rw [ht]; exact hP9, hD9⟩ (hS.F ht)) hS.2.2 dX9_kinds_68
    · refine lv_aload_n hx hb dX9_kinds_28 rfl (lv_at hl 3 rfl) ?_
      refine va_get (D := D) (ci := 9) (v := .ref kd) (C := RX9) (T := TX9) (N := 31) hx hb hts (fun _ h9 => List.mem_cons_of_mem _ (List.mem_append_right _ h9)) hown hK hP 0 rfl rfl 6 (by decide) (hts (.fieldLink RX9 19 "FontRunsModel" "kind" "[I") mw_X9_kinds_0) (fun _ h9 => h9) rfl dX9_kinds_29 ?_
      refine lv_iload_n hx hb dX9_kinds_32 rfl (lv_at hl 4 rfl) ?_
      refine lv_iload hx hb dX9_kinds_33 (lv_at hl 0 rfl) ?_
      refine kz_iast hx hb hK hP hD hS 8 7 rfl rfl (by omega) dX9_kinds_35 (fun H locs hP hD hS => ?_)
      have hP : va_P D vwCl [(h0, .inr (9, [.int (zI fa), .int (zI tc), .ref so, .ref sl, .ref ce, .int (zI fn), .ref kd, .ref wd, .ref hs, .ref pf, .ref lt, .int (zI mn), .ref wg, .int (zI ta), .long ck, .int (zI at9), .int (zI rfn), .ref rk, .ref rw, .ref rh, .int (zI jc), .ref sa, .ref fi, .int (zI jo), .ref ch, .ref cn, .int (zI jd), .int (zI jr), .ref kp, .int (zI dn), .ref rfa])), (wg, .inl (c_wg, 24, .inl f_wg)), (sa, .inl (c_sa, 25, .inl a1)), (fi, .inl (c_fi, 24, .inl a2)), (hs, .inl (c_hs, 4, .inl f_hs)), (ch, .inl (c_ch, 96, .inl a3)), (cn, .inl (c_cn, 24, .inl a4)), (pf, .inl (c_pf, 4, .inl f_pf)), (kd, .inl (c_kd, 4, .inl (upd a5 (f).toNat (zI jv)))), (wd, .inl (c_wd, 4, .inl f_wd)), (rfa, .inl (c_rfa, 8, .inl f_rfa))] H := hP
      have hD : va_D A [(h0, .inr (9, [.int (zI fa), .int (zI tc), .ref so, .ref sl, .ref ce, .int (zI fn), .ref kd, .ref wd, .ref hs, .ref pf, .ref lt, .int (zI mn), .ref wg, .int (zI ta), .long ck, .int (zI at9), .int (zI rfn), .ref rk, .ref rw, .ref rh, .int (zI jc), .ref sa, .ref fi, .int (zI jo), .ref ch, .ref cn, .int (zI jd), .int (zI jr), .ref kp, .int (zI dn), .ref rfa])), (wg, .inl (c_wg, 24, .inl f_wg)), (sa, .inl (c_sa, 25, .inl a1)), (fi, .inl (c_fi, 24, .inl a2)), (hs, .inl (c_hs, 4, .inl f_hs)), (ch, .inl (c_ch, 96, .inl a3)), (cn, .inl (c_cn, 24, .inl a4)), (pf, .inl (c_pf, 4, .inl f_pf)), (kd, .inl (c_kd, 4, .inl (upd a5 (f).toNat (zI jv)))), (wd, .inl (c_wd, 4, .inl f_wd)), (rfa, .inl (c_rfa, 8, .inl f_rfa))] := hD
      generalize ef_5 : upd a5 (f).toNat (zI jv) = f_5 at hP hD
      refine lv_iload_n hx hb dX9_kinds_36 rfl (lv_at hl 1 rfl) ?_
      refine lv_aload_n hx hb dX9_kinds_37 rfl (lv_at hl 3 rfl) ?_
      have hFc := va_free (wc := [(h0, .inr (9, [.int (zI fa), .int (zI tc), .ref so, .ref sl, .ref ce, .int (zI fn), .ref kd, .ref wd, .ref hs, .ref pf, .ref lt, .int (zI mn), .ref wg, .int (zI ta), .long ck, .int (zI at9), .int (zI rfn), .ref rk, .ref rw, .ref rh, .int (zI jc), .ref sa, .ref fi, .int (zI jo), .ref ch, .ref cn, .int (zI jd), .int (zI jr), .ref kp, .int (zI dn), .ref rfa])), (wg, .inl (c_wg, 24, .inl f_wg)), (sa, .inl (c_sa, 25, .inl a1)), (fi, .inl (c_fi, 24, .inl a2)), (hs, .inl (c_hs, 4, .inl f_hs)), (ch, .inl (c_ch, 96, .inl a3)), (cn, .inl (c_cn, 24, .inl a4)), (pf, .inl (c_pf, 4, .inl f_pf)), (kd, .inl (c_kd, 4, .inl f_5)), (wd, .inl (c_wd, 4, .inl f_wd)), (rfa, .inl (c_rfa, 8, .inl f_rfa))]) hD hS hA [0, 1, 2, 3, 4, 5, 6, 7, 8, 9, 10] ax_X9_kinds_1
      refine va_calli (va_runV (As := []) (rest := [.int (zI js)]) ⟨hx, hb, hml, hown, hts⟩ (c_X9_areSo l D H.size (h0 := h0) (fa := fa) (tc := tc) (so := so) (sl := sl) (ce := ce) (fn := fn) (kd := kd) (wd := wd) (hs := hs) (pf := pf) (lt := lt) (mn := mn) (wg := wg) (ta := ta) (ck := ck) (at9 := at9) (rfn := rfn) (rk := rk) (rw := rw) (rh := rh) (cl := jc) (sa := sa) (fi := fi) (bo := jo) (ch := ch) (cn := cn) (ad := jd) (ru := jr) (kp := kp) (dn := dn) (rfa := rfa) (c_wg := c_wg) (f_wg := f_wg) (c_sa := c_sa) (f_sa := a1) (c_fi := c_fi) (f_fi := a2) (c_hs := c_hs) (f_hs := f_hs) (c_ch := c_ch) (f_ch := a3) (c_cn := c_cn) (f_cn := a4) (c_pf := c_pf) (f_pf := f_pf) (c_kd := c_kd) (f_kd := f_5) (c_wd := c_wd) (f_wd := f_wd) (c_rfa := c_rfa) (f_rfa := f_rfa) q1 q2 q3 q4 v_223 v_224 v_221 v_222 q9) (cwV 0 hts gX9_kinds_X9_areSo rfl rfl rfl (by decide +kernel) ⟨Nat.le_of_ble_eq_true rfl, Nat.le_of_ble_eq_true rfl⟩) (kPreV hP (kD0 hD) hK hN [0, 1, 2, 3, 4, 5, 6, 7, 8, 9, 10] [0, 1, 2, 3, 4, 5, 6, 7, 8, 9] ax_X9_kinds_1 rfl (by decide +kernel) 0 9 rfl rfl) rfl rfl hl.1 rfl (lv_room (Nat.le_of_ble_eq_true rfl)) dX9_kinds_38 ⟨Nat.le_of_ble_eq_true rfl, Nat.le_of_ble_eq_true rfl⟩) hS (fun q _ h => hFc q h) hFc (fun r u t H1 locs ht hvm hw hB hz1 hk1 hS => ?_)
      obtain ⟨z_14, e9⟩ : ∃ z, z = u := ⟨_, rfl⟩
      subst e9
      obtain ⟨rfl, rz_14⟩ := hw
      refine Exists.elim hB (fun u_cl_6 hB1 => Exists.elim hB1 (fun u_bo_7 hB2 => Exists.elim hB2 (fun u_ad_8 hB3 => Exists.elim hB3 (fun u_ru_9 hB4 => Exists.elim hB4 (fun u_f_sa_10 hB5 => Exists.elim hB5 (fun u_f_fi_11 hB6 => Exists.elim hB6 (fun u_f_ch_12 hB7 => Exists.elim hB7 (fun u_f_cn_13 hB8 => ?_))))))))
      have h_15 := hB8.1
      have h_16 := hB8.2.1
      have h_17 := hB8.2.2.1
      have h_18 := hB8.2.2.2.1
      have h_19 := hB8.2.2.2.2.1
      have hP1 := hB8.2.2.2.2.2.1
      have hD1 := hB8.2.2.2.2.2.2
      clear hB hB1 hB2 hB3 hB4 hB5 hB6 hB7 hB8
      rw [ht] at hP1
      obtain ⟨hP, hD⟩ := va_join (wr := []) (w1 := [(h0, .inr (9, [.int (zI fa), .int (zI tc), .ref so, .ref sl, .ref ce, .int (zI fn), .ref kd, .ref wd, .ref hs, .ref pf, .ref lt, .int (zI mn), .ref wg, .int (zI ta), .long ck, .int (zI at9), .int (zI rfn), .ref rk, .ref rw, .ref rh, .int (zI u_cl_6), .ref sa, .ref fi, .int (zI u_bo_7), .ref ch, .ref cn, .int (zI u_ad_8), .int (zI u_ru_9), .ref kp, .int (zI dn), .ref rfa])), (wg, .inl (c_wg, 24, .inl f_wg)), (sa, .inl (c_sa, 25, .inl u_f_sa_10)), (fi, .inl (c_fi, 24, .inl u_f_fi_11)), (hs, .inl (c_hs, 4, .inl f_hs)), (ch, .inl (c_ch, 96, .inl u_f_ch_12)), (cn, .inl (c_cn, 24, .inl u_f_cn_13)), (pf, .inl (c_pf, 4, .inl f_pf)), (kd, .inl (c_kd, 4, .inl f_5)), (wd, .inl (c_wd, 4, .inl f_wd)), (rfa, .inl (c_rfa, 8, .inl f_rfa))]) hP hD [0, 1, 2, 3, 4, 5, 6, 7, 8, 9, 10] [] ax_X9_kinds_1 ax_X9_kinds_2 (by decide +kernel) (by decide +kernel) hk1 hFc hP1 hD1
      have hP := ax_X9_kinds_3 hP
      have hD := ax_X9_kinds_4 hD
      generalize H1 = H at hP hS ⊢
      have hP : va_P D vwCl [(h0, .inr (9, [.int (zI fa), .int (zI tc), .ref so, .ref sl, .ref ce, .int (zI fn), .ref kd, .ref wd, .ref hs, .ref pf, .ref lt, .int (zI mn), .ref wg, .int (zI ta), .long ck, .int (zI at9), .int (zI rfn), .ref rk, .ref rw, .ref rh, .int (zI u_cl_6), .ref sa, .ref fi, .int (zI u_bo_7), .ref ch, .ref cn, .int (zI u_ad_8), .int (zI u_ru_9), .ref kp, .int (zI dn), .ref rfa])), (wg, .inl (c_wg, 24, .inl f_wg)), (sa, .inl (c_sa, 25, .inl u_f_sa_10)), (fi, .inl (c_fi, 24, .inl u_f_fi_11)), (hs, .inl (c_hs, 4, .inl f_hs)), (ch, .inl (c_ch, 96, .inl u_f_ch_12)), (cn, .inl (c_cn, 24, .inl u_f_cn_13)), (pf, .inl (c_pf, 4, .inl f_pf)), (kd, .inl (c_kd, 4, .inl f_5)), (wd, .inl (c_wd, 4, .inl f_wd)), (rfa, .inl (c_rfa, 8, .inl f_rfa))] H := hP
      have hD : va_D A [(h0, .inr (9, [.int (zI fa), .int (zI tc), .ref so, .ref sl, .ref ce, .int (zI fn), .ref kd, .ref wd, .ref hs, .ref pf, .ref lt, .int (zI mn), .ref wg, .int (zI ta), .long ck, .int (zI at9), .int (zI rfn), .ref rk, .ref rw, .ref rh, .int (zI u_cl_6), .ref sa, .ref fi, .int (zI u_bo_7), .ref ch, .ref cn, .int (zI u_ad_8), .int (zI u_ru_9), .ref kp, .int (zI dn), .ref rfa])), (wg, .inl (c_wg, 24, .inl f_wg)), (sa, .inl (c_sa, 25, .inl u_f_sa_10)), (fi, .inl (c_fi, 24, .inl u_f_fi_11)), (hs, .inl (c_hs, 4, .inl f_hs)), (ch, .inl (c_ch, 96, .inl u_f_ch_12)), (cn, .inl (c_cn, 24, .inl u_f_cn_13)), (pf, .inl (c_pf, 4, .inl f_pf)), (kd, .inl (c_kd, 4, .inl f_5)), (wd, .inl (c_wd, 4, .inl f_wd)), (rfa, .inl (c_rfa, 8, .inl f_rfa))] := hD
      refine kz_if_eq (tgt := 51) hx hb dX9_kinds_41 (by decide) (by omega) (fun c_20 => ?_) (fun c_20 => ?_)
      · refine lv_iconst (v := zI 0) hx hb dX9_kinds_51 rfl ?_
        refine lv_ior hx hb dX9_kinds_52 ?_
        refine kz_any (fun z_21 rz_21 ez_21 => ?_)
        refine lv_istore_n (lv' := [(3, .int (zI z_21)), (4, .int (zI jv)), (2, .int (zI z_2)), (0, .ref h0), (1, .int (zI f))]) hx hb dX9_kinds_53 rfl hl (by decide) rfl (fun ls hl => ?_)
        refine lv_iinc (v := (zI (jv + 1))) (lv' := [(4, .int (zI (jv + 1))), (3, .int (zI z_21)), (2, .int (zI z_2)), (0, .ref h0), (1, .int (zI f))]) hx hb dX9_kinds_54 hl (k := 1) rfl (kz_inc _ 1) (by decide) rfl (fun ls hl => ?_)
        refine lv_goto (tgt := 22) hx hb dX9_kinds_57 (by decide) ?_
        exact ih22 _ (by omega) _ _ _ ⟨z_21, (jv + 1), u_cl_6, u_bo_7, u_ad_8, u_ru_9, u_f_sa_10, u_f_fi_11, u_f_ch_12, u_f_cn_13, f_5, rfl, (by omega), h_17, h_18, h_15, h_16, (by omega), (kEx_s v_226 ef_5), hP, hD, hS, lv_sub hl [0, 1, 2, 3, 4] rfl⟩
      · refine lv_iconst (v := zI 1) hx hb dX9_kinds_44 rfl ?_
        refine lv_iload hx hb dX9_kinds_45 (lv_at hl 0 rfl) ?_
        refine lv_ishl hx hb dX9_kinds_47 ?_
        refine kz_any (fun z_22 rz_22 ez_22 => ?_)
        refine lv_goto (tgt := 52) hx hb dX9_kinds_48 (by decide) ?_
        refine lv_ior hx hb dX9_kinds_52 ?_
        refine kz_any (fun z_23 rz_23 ez_23 => ?_)
        refine lv_istore_n (lv' := [(3, .int (zI z_23)), (4, .int (zI jv)), (2, .int (zI z_2)), (0, .ref h0), (1, .int (zI f))]) hx hb dX9_kinds_53 rfl hl (by decide) rfl (fun ls hl => ?_)
        refine lv_iinc (v := (zI (jv + 1))) (lv' := [(4, .int (zI (jv + 1))), (3, .int (zI z_23)), (2, .int (zI z_2)), (0, .ref h0), (1, .int (zI f))]) hx hb dX9_kinds_54 hl (k := 1) rfl (kz_inc _ 1) (by decide) rfl (fun ls hl => ?_)
        refine lv_goto (tgt := 22) hx hb dX9_kinds_57 (by decide) ?_
        exact ih22 _ (by omega) _ _ _ ⟨z_23, (jv + 1), u_cl_6, u_bo_7, u_ad_8, u_ru_9, u_f_sa_10, u_f_fi_11, u_f_ch_12, u_f_cn_13, f_5, rfl, (by omega), h_17, h_18, h_15, h_16, (by omega), (kEx_s v_226 ef_5), hP, hD, hS, lv_sub hl [0, 1, 2, 3, 4] rfl⟩
  · have c_1 : ¬ (0 ≤ f ∧ f < fn) := b01f c_1
    refine lv_iconst (v := zI (-1)) hx hb dX9_kinds_8 rfl ?_
    have hP9 := hP.sub (ws' := [(h0, .inr (9, [.int (zI fa), .int (zI tc), .ref so, .ref sl, .ref ce, .int (zI fn), .ref kd, .ref wd, .ref hs, .ref pf, .ref lt, .int (zI mn), .ref wg, .int (zI ta), .long ck, .int (zI at9), .int (zI rfn), .ref rk, .ref rw, .ref rh, .int (zI cl), .ref sa, .ref fi, .int (zI bo), .ref ch, .ref cn, .int (zI ad), .int (zI ru), .ref kp, .int (zI dn), .ref rfa])), (wg, .inl (c_wg, 24, .inl f_wg)), (sa, .inl (c_sa, 25, .inl f_sa)), (fi, .inl (c_fi, 24, .inl f_fi)), (hs, .inl (c_hs, 4, .inl f_hs)), (ch, .inl (c_ch, 96, .inl f_ch)), (cn, .inl (c_cn, 24, .inl f_cn)), (pf, .inl (c_pf, 4, .inl f_pf)), (kd, .inl (c_kd, 4, .inl f_kd)), (wd, .inl (c_wd, 4, .inl f_wd)), (rfa, .inl (c_rfa, 8, .inl f_rfa))]) [0, 1, 2, 3, 4, 5, 6, 7, 8, 9, 10] rfl
    have hD9 := hD.sub (ws' := [(h0, .inr (9, [.int (zI fa), .int (zI tc), .ref so, .ref sl, .ref ce, .int (zI fn), .ref kd, .ref wd, .ref hs, .ref pf, .ref lt, .int (zI mn), .ref wg, .int (zI ta), .long ck, .int (zI at9), .int (zI rfn), .ref rk, .ref rw, .ref rh, .int (zI cl), .ref sa, .ref fi, .int (zI bo), .ref ch, .ref cn, .int (zI ad), .int (zI ru), .ref kp, .int (zI dn), .ref rfa])), (wg, .inl (c_wg, 24, .inl f_wg)), (sa, .inl (c_sa, 25, .inl f_sa)), (fi, .inl (c_fi, 24, .inl f_fi)), (hs, .inl (c_hs, 4, .inl f_hs)), (ch, .inl (c_ch, 96, .inl f_ch)), (cn, .inl (c_cn, 24, .inl f_cn)), (pf, .inl (c_pf, 4, .inl f_pf)), (kd, .inl (c_kd, 4, .inl f_kd)), (wd, .inl (c_wd, 4, .inl f_wd)), (rfa, .inl (c_rfa, 8, .inl f_rfa))]) [0, 1, 2, 3, 4, 5, 6, 7, 8, 9, 10] (by decide +kernel) rfl
    exact W.iret (v := (zI (-1))) hx hb hr (fun t ht hW => kQS_of (by omega) ⟨f_kd, cl, bo, ad, ru, f_sa, f_fi, f_ch, f_cn, q5, q6, q7, q8, rfl, by rw [ht]; exact hP9, hD9⟩ (hS.F ht)) hS.2.2 dX9_kinds_9
theorem dX9_widths_0 : decode cX9_widths 0 = .ok (.aload_n 0, 1) := kqo_2a kbl_X9_widths (pc := 0) rfl
theorem dX9_widths_1 : decode cX9_widths 1 = .ok (.iload_n 1, 1) := kqo_1b kbl_X9_widths (pc := 1) rfl
theorem dX9_widths_2 : decode cX9_widths 2 = .ok (.invokevirtual 120, 3) := kqo_b6 (x1 := 0) (x2 := 120) kbl_X9_widths (pc := 2) rfl rfl
theorem dX9_widths_5 : decode cX9_widths 5 = .ok (.ifCond .ne 5, 3) := kqo_9a (x1 := 0) (x2 := 5) kbl_X9_widths (pc := 5) rfl rfl
theorem dX9_widths_8 : decode cX9_widths 8 = .ok (.iconst (-1), 1) := kqo_02 kbl_X9_widths (pc := 8) rfl
theorem dX9_widths_9 : decode cX9_widths 9 = .ok (.ireturn, 1) := kqo_ac kbl_X9_widths (pc := 9) rfl
theorem dX9_widths_10 : decode cX9_widths 10 = .ok (.aload_n 0, 1) := kqo_2a kbl_X9_widths (pc := 10) rfl
theorem dX9_widths_11 : decode cX9_widths 11 = .ok (.getfield 22, 3) := kqo_b4 (x1 := 0) (x2 := 22) kbl_X9_widths (pc := 11) rfl rfl
theorem dX9_widths_14 : decode cX9_widths 14 = .ok (.iload_n 1, 1) := kqo_1b kbl_X9_widths (pc := 14) rfl
theorem dX9_widths_15 : decode cX9_widths 15 = .ok (.iaload, 1) := kqo_2e kbl_X9_widths (pc := 15) rfl
theorem dX9_widths_16 : decode cX9_widths 16 = .ok (.istore_n 2, 1) := kqo_3d kbl_X9_widths (pc := 16) rfl
theorem dX9_widths_17 : decode cX9_widths 17 = .ok (.iconst 0, 1) := kqo_03 kbl_X9_widths (pc := 17) rfl
theorem dX9_widths_18 : decode cX9_widths 18 = .ok (.istore_n 3, 1) := kqo_3e kbl_X9_widths (pc := 18) rfl
theorem dX9_widths_19 : decode cX9_widths 19 = .ok (.iconst 1, 1) := kqo_04 kbl_X9_widths (pc := 19) rfl
theorem dX9_widths_20 : decode cX9_widths 20 = .ok (.istore 4, 2) := kqo_36 (x1 := 4) kbl_X9_widths (pc := 20) rfl rfl
theorem dX9_widths_22 : decode cX9_widths 22 = .ok (.iload 4, 2) := kqo_15 (x1 := 4) kbl_X9_widths (pc := 22) rfl rfl
theorem dX9_widths_24 : decode cX9_widths 24 = .ok (.bipush 9, 2) := kqo_10 (x1 := 9) kbl_X9_widths (pc := 24) rfl rfl
theorem dX9_widths_26 : decode cX9_widths 26 = .ok (.if_icmp .gt 35, 3) := kqo_a3 (x1 := 0) (x2 := 35) kbl_X9_widths (pc := 26) rfl rfl
theorem dX9_widths_29 : decode cX9_widths 29 = .ok (.aload_n 0, 1) := kqo_2a kbl_X9_widths (pc := 29) rfl
theorem dX9_widths_30 : decode cX9_widths 30 = .ok (.getfield 22, 3) := kqo_b4 (x1 := 0) (x2 := 22) kbl_X9_widths (pc := 30) rfl rfl
theorem dX9_widths_33 : decode cX9_widths 33 = .ok (.iload_n 1, 1) := kqo_1b kbl_X9_widths (pc := 33) rfl
theorem dX9_widths_34 : decode cX9_widths 34 = .ok (.iload 4, 2) := kqo_15 (x1 := 4) kbl_X9_widths (pc := 34) rfl rfl
theorem dX9_widths_36 : decode cX9_widths 36 = .ok (.iastore, 1) := kqo_4f kbl_X9_widths (pc := 36) rfl
theorem dX9_widths_37 : decode cX9_widths 37 = .ok (.iload_n 3, 1) := kqo_1d kbl_X9_widths (pc := 37) rfl
theorem dX9_widths_38 : decode cX9_widths 38 = .ok (.aload_n 0, 1) := kqo_2a kbl_X9_widths (pc := 38) rfl
theorem dX9_widths_39 : decode cX9_widths 39 = .ok (.invokevirtual 196, 3) := kqo_b6 (x1 := 0) (x2 := 196) kbl_X9_widths (pc := 39) rfl rfl
theorem dX9_widths_42 : decode cX9_widths 42 = .ok (.ifCond .eq 10, 3) := kqo_99 (x1 := 0) (x2 := 10) kbl_X9_widths (pc := 42) rfl rfl
theorem dX9_widths_45 : decode cX9_widths 45 = .ok (.iconst 1, 1) := kqo_04 kbl_X9_widths (pc := 45) rfl
theorem dX9_widths_46 : decode cX9_widths 46 = .ok (.iload 4, 2) := kqo_15 (x1 := 4) kbl_X9_widths (pc := 46) rfl rfl
theorem dX9_widths_48 : decode cX9_widths 48 = .ok (.ishl, 1) := kqo_78 kbl_X9_widths (pc := 48) rfl
theorem dX9_widths_49 : decode cX9_widths 49 = .ok (.goto 4, 3) := kqo_a7 (x1 := 0) (x2 := 4) kbl_X9_widths (pc := 49) rfl rfl
theorem dX9_widths_52 : decode cX9_widths 52 = .ok (.iconst 0, 1) := kqo_03 kbl_X9_widths (pc := 52) rfl
theorem dX9_widths_53 : decode cX9_widths 53 = .ok (.ior, 1) := kqo_80 kbl_X9_widths (pc := 53) rfl
theorem dX9_widths_54 : decode cX9_widths 54 = .ok (.istore_n 3, 1) := kqo_3e kbl_X9_widths (pc := 54) rfl
theorem dX9_widths_55 : decode cX9_widths 55 = .ok (.iinc 4 1, 3) := kqo_84 (x1 := 4) (x2 := 1) kbl_X9_widths (pc := 55) rfl rfl
theorem dX9_widths_58 : decode cX9_widths 58 = .ok (.goto (-36), 3) := kqo_a7 (x1 := 255) (x2 := 220) kbl_X9_widths (pc := 58) rfl rfl
theorem dX9_widths_61 : decode cX9_widths 61 = .ok (.aload_n 0, 1) := kqo_2a kbl_X9_widths (pc := 61) rfl
theorem dX9_widths_62 : decode cX9_widths 62 = .ok (.getfield 22, 3) := kqo_b4 (x1 := 0) (x2 := 22) kbl_X9_widths (pc := 62) rfl rfl
theorem dX9_widths_65 : decode cX9_widths 65 = .ok (.iload_n 1, 1) := kqo_1b kbl_X9_widths (pc := 65) rfl
theorem dX9_widths_66 : decode cX9_widths 66 = .ok (.iload_n 2, 1) := kqo_1c kbl_X9_widths (pc := 66) rfl
theorem dX9_widths_67 : decode cX9_widths 67 = .ok (.iastore, 1) := kqo_4f kbl_X9_widths (pc := 67) rfl
theorem dX9_widths_68 : decode cX9_widths 68 = .ok (.iload_n 3, 1) := kqo_1d kbl_X9_widths (pc := 68) rfl
theorem dX9_widths_69 : decode cX9_widths 69 = .ok (.ireturn, 1) := kqo_ac kbl_X9_widths (pc := 69) rfl
set_option maxRecDepth 20000 in
theorem ggX9_widths_X9_areSo : GoodIn wsX9_widths wsX9_areSo := goodIn_4 _ (List.forall_mem_cons.mpr ⟨List.mem_cons_of_mem _ (List.mem_append_left _ (List.mem_append_left _ (List.mem_of_getElem? (i := 10) rfl))), List.forall_mem_append.mpr ⟨List.forall_mem_append.mpr ⟨List.forall_mem_cons.mpr ⟨List.mem_cons_of_mem _ (List.mem_append_left _ (List.mem_append_left _ (List.mem_of_getElem? (i := 11) rfl))), List.forall_mem_cons.mpr ⟨List.mem_cons_of_mem _ (List.mem_append_left _ (List.mem_append_left _ (List.mem_of_getElem? (i := 12) rfl))), List.forall_mem_cons.mpr ⟨List.mem_cons_of_mem _ (List.mem_append_left _ (List.mem_append_left _ (List.mem_of_getElem? (i := 13) rfl))), List.forall_mem_cons.mpr ⟨List.mem_cons_of_mem _ (List.mem_append_left _ (List.mem_append_left _ (List.mem_of_getElem? (i := 14) rfl))), List.forall_mem_cons.mpr ⟨List.mem_cons_of_mem _ (List.mem_append_left _ (List.mem_append_left _ (List.mem_of_getElem? (i := 15) rfl))), List.forall_mem_cons.mpr ⟨List.mem_cons_of_mem _ (List.mem_append_left _ (List.mem_append_left _ (List.mem_of_getElem? (i := 16) rfl))), List.forall_mem_cons.mpr ⟨List.mem_cons_of_mem _ (List.mem_append_left _ (List.mem_append_left _ (List.mem_of_getElem? (i := 4) rfl))), List.forall_mem_cons.mpr ⟨List.mem_cons_of_mem _ (List.mem_append_left _ (List.mem_append_left _ (List.mem_of_getElem? (i := 17) rfl))), List.forall_mem_cons.mpr ⟨List.mem_cons_of_mem _ (List.mem_append_left _ (List.mem_append_left _ (List.mem_of_getElem? (i := 18) rfl))), List.forall_mem_cons.mpr ⟨List.mem_cons_of_mem _ (List.mem_append_left _ (List.mem_append_left _ (List.mem_of_getElem? (i := 19) rfl))), List.forall_mem_cons.mpr ⟨List.mem_cons_of_mem _ (List.mem_append_left _ (List.mem_append_left _ (List.mem_of_getElem? (i := 20) rfl))), List.forall_mem_cons.mpr ⟨List.mem_cons_of_mem _ (List.mem_append_left _ (List.mem_append_left _ (List.mem_of_getElem? (i := 21) rfl))), List.forall_mem_cons.mpr ⟨List.mem_cons_of_mem _ (List.mem_append_left _ (List.mem_append_left _ (List.mem_of_getElem? (i := 22) rfl))), List.forall_mem_cons.mpr ⟨List.mem_cons_of_mem _ (List.mem_append_left _ (List.mem_append_left _ (List.mem_of_getElem? (i := 23) rfl))), List.forall_mem_cons.mpr ⟨List.mem_cons_of_mem _ (List.mem_append_left _ (List.mem_append_right _ (List.mem_append_left _ (List.mem_of_getElem? (i := 0) rfl)))), List.forall_mem_cons.mpr ⟨List.mem_cons_of_mem _ (List.mem_append_left _ (List.mem_append_right _ (List.mem_append_left _ (List.mem_of_getElem? (i := 1) rfl)))), List.forall_mem_cons.mpr ⟨List.mem_cons_of_mem _ (List.mem_append_left _ (List.mem_append_left _ (List.mem_of_getElem? (i := 6) rfl))), List.forall_mem_cons.mpr ⟨List.mem_cons_of_mem _ (List.mem_append_left _ (List.mem_append_right _ (List.mem_append_left _ (List.mem_of_getElem? (i := 2) rfl)))), List.forall_mem_cons.mpr ⟨List.mem_cons_of_mem _ (List.mem_append_left _ (List.mem_append_right _ (List.mem_append_left _ (List.mem_of_getElem? (i := 3) rfl)))), List.forall_mem_cons.mpr ⟨List.mem_cons_of_mem _ (List.mem_append_left _ (List.mem_append_right _ (List.mem_append_left _ (List.mem_of_getElem? (i := 4) rfl)))), List.forall_mem_cons.mpr ⟨List.mem_cons_of_mem _ (List.mem_append_left _ (List.mem_append_right _ (List.mem_append_left _ (List.mem_of_getElem? (i := 5) rfl)))), List.forall_mem_cons.mpr ⟨List.mem_cons_of_mem _ (List.mem_append_left _ (List.mem_append_right _ (List.mem_append_left _ (List.mem_of_getElem? (i := 6) rfl)))), List.forall_mem_cons.mpr ⟨List.mem_cons_of_mem _ (List.mem_append_left _ (List.mem_append_right _ (List.mem_append_left _ (List.mem_of_getElem? (i := 7) rfl)))), List.forall_mem_cons.mpr ⟨List.mem_cons_of_mem _ (List.mem_append_left _ (List.mem_append_right _ (List.mem_append_left _ (List.mem_of_getElem? (i := 8) rfl)))), fun _ h9 => absurd h9 List.not_mem_nil⟩⟩⟩⟩⟩⟩⟩⟩⟩⟩⟩⟩⟩⟩⟩⟩⟩⟩⟩⟩⟩⟩⟩⟩, List.forall_mem_append.mpr ⟨List.forall_mem_cons.mpr ⟨List.mem_cons_of_mem _ (List.mem_append_left _ (List.mem_append_right _ (List.mem_append_left _ (List.mem_of_getElem? (i := 9) rfl)))), List.forall_mem_cons.mpr ⟨List.mem_cons_of_mem _ (List.mem_append_left _ (List.mem_append_right _ (List.mem_append_left _ (List.mem_of_getElem? (i := 10) rfl)))), List.forall_mem_cons.mpr ⟨List.mem_cons_of_mem _ (List.mem_append_left _ (List.mem_append_right _ (List.mem_append_left _ (List.mem_of_getElem? (i := 11) rfl)))), List.forall_mem_cons.mpr ⟨List.mem_cons_of_mem _ (List.mem_append_left _ (List.mem_append_right _ (List.mem_append_left _ (List.mem_of_getElem? (i := 12) rfl)))), List.forall_mem_cons.mpr ⟨List.mem_cons_of_mem _ (List.mem_append_left _ (List.mem_append_right _ (List.mem_append_left _ (List.mem_of_getElem? (i := 13) rfl)))), List.forall_mem_cons.mpr ⟨List.mem_cons_of_mem _ (List.mem_append_left _ (List.mem_append_right _ (List.mem_append_left _ (List.mem_of_getElem? (i := 14) rfl)))), List.forall_mem_cons.mpr ⟨List.mem_cons_of_mem _ (List.mem_append_left _ (List.mem_append_right _ (List.mem_append_left _ (List.mem_of_getElem? (i := 15) rfl)))), List.forall_mem_cons.mpr ⟨List.mem_cons_of_mem _ (List.mem_append_left _ (List.mem_append_right _ (List.mem_append_left _ (List.mem_of_getElem? (i := 16) rfl)))), List.forall_mem_cons.mpr ⟨List.mem_cons_of_mem _ (List.mem_append_left _ (List.mem_append_right _ (List.mem_append_left _ (List.mem_of_getElem? (i := 17) rfl)))), List.forall_mem_cons.mpr ⟨List.mem_cons_of_mem _ (List.mem_append_left _ (List.mem_append_right _ (List.mem_append_left _ (List.mem_of_getElem? (i := 18) rfl)))), List.forall_mem_cons.mpr ⟨List.mem_cons_of_mem _ (List.mem_append_left _ (List.mem_append_right _ (List.mem_append_left _ (List.mem_of_getElem? (i := 19) rfl)))), List.forall_mem_cons.mpr ⟨List.mem_cons_of_mem _ (List.mem_append_left _ (List.mem_append_right _ (List.mem_append_left _ (List.mem_of_getElem? (i := 20) rfl)))), List.forall_mem_cons.mpr ⟨List.mem_cons_of_mem _ (List.mem_append_left _ (List.mem_append_right _ (List.mem_append_left _ (List.mem_of_getElem? (i := 21) rfl)))), List.forall_mem_cons.mpr ⟨List.mem_cons_of_mem _ (List.mem_append_left _ (List.mem_append_right _ (List.mem_append_left _ (List.mem_of_getElem? (i := 22) rfl)))), List.forall_mem_cons.mpr ⟨List.mem_cons_of_mem _ (List.mem_append_left _ (List.mem_append_right _ (List.mem_append_left _ (List.mem_of_getElem? (i := 23) rfl)))), List.forall_mem_cons.mpr ⟨List.mem_cons_of_mem _ (List.mem_append_left _ (List.mem_append_right _ (List.mem_append_right _ (List.mem_of_getElem? (i := 0) rfl)))), List.forall_mem_cons.mpr ⟨List.mem_cons_of_mem _ (List.mem_append_left _ (List.mem_append_right _ (List.mem_append_right _ (List.mem_of_getElem? (i := 1) rfl)))), List.forall_mem_cons.mpr ⟨List.mem_cons_of_mem _ (List.mem_append_left _ (List.mem_append_right _ (List.mem_append_right _ (List.mem_of_getElem? (i := 2) rfl)))), List.forall_mem_cons.mpr ⟨List.mem_cons_of_mem _ (List.mem_append_left _ (List.mem_append_right _ (List.mem_append_right _ (List.mem_of_getElem? (i := 3) rfl)))), List.forall_mem_cons.mpr ⟨List.mem_cons_of_mem _ (List.mem_append_left _ (List.mem_append_right _ (List.mem_append_right _ (List.mem_of_getElem? (i := 4) rfl)))), List.forall_mem_cons.mpr ⟨List.mem_cons_of_mem _ (List.mem_append_left _ (List.mem_append_right _ (List.mem_append_right _ (List.mem_of_getElem? (i := 5) rfl)))), List.forall_mem_cons.mpr ⟨List.mem_cons_of_mem _ (List.mem_append_left _ (List.mem_append_right _ (List.mem_append_right _ (List.mem_of_getElem? (i := 6) rfl)))), List.forall_mem_cons.mpr ⟨List.mem_cons_of_mem _ (List.mem_append_left _ (List.mem_append_right _ (List.mem_append_right _ (List.mem_of_getElem? (i := 7) rfl)))), List.forall_mem_cons.mpr ⟨List.mem_cons_of_mem _ (List.mem_append_left _ (List.mem_append_right _ (List.mem_append_right _ (List.mem_of_getElem? (i := 8) rfl)))), fun _ h9 => absurd h9 List.not_mem_nil⟩⟩⟩⟩⟩⟩⟩⟩⟩⟩⟩⟩⟩⟩⟩⟩⟩⟩⟩⟩⟩⟩⟩⟩, List.forall_mem_cons.mpr ⟨List.mem_cons_of_mem _ (List.mem_append_left _ (List.mem_append_left _ (List.mem_of_getElem? (i := 0) rfl))), fun _ h9 => absurd h9 List.not_mem_nil⟩⟩⟩, fun w h9 => List.mem_cons_of_mem _ (List.mem_append_right _ (h9))⟩⟩) (by decide +kernel)
set_option maxRecDepth 20000 in
theorem gX9_widths_X9_areSo : GoodIn wsX9_widths (wsV RX9 196 RX9 yX9_areSo wsX9_areSo) := goodIn_app (goodIn_4 _ (List.forall_mem_cons.mpr ⟨List.mem_cons_of_mem _ (List.mem_append_left _ (List.mem_append_left _ (List.mem_of_getElem? (i := 7) rfl))), List.forall_mem_cons.mpr ⟨List.mem_cons_of_mem _ (List.mem_append_left _ (List.mem_append_left _ (List.mem_of_getElem? (i := 8) rfl))), List.forall_mem_cons.mpr ⟨List.mem_cons_of_mem _ (List.mem_append_left _ (List.mem_append_left _ (List.mem_of_getElem? (i := 9) rfl))), List.forall_mem_cons.mpr ⟨List.mem_cons_of_mem _ (List.mem_append_left _ (List.mem_append_left _ (List.mem_of_getElem? (i := 4) rfl))), fun _ h9 => absurd h9 List.not_mem_nil⟩⟩⟩⟩) (by decide +kernel)) ggX9_widths_X9_areSo
set_option maxRecDepth 20000 in
theorem ggX9_widths_X9_isFont : GoodIn wsX9_widths wsX9_isFont := goodIn_4 _ (List.forall_mem_cons.mpr ⟨List.mem_cons_of_mem _ (List.mem_append_left _ (List.mem_append_left _ (List.mem_of_getElem? (i := 5) rfl))), List.forall_mem_append.mpr ⟨List.forall_mem_cons.mpr ⟨List.mem_cons_of_mem _ (List.mem_append_left _ (List.mem_append_left _ (List.mem_of_getElem? (i := 6) rfl))), fun _ h9 => absurd h9 List.not_mem_nil⟩, fun w h9 => List.mem_cons_of_mem _ (List.mem_append_right _ (h9))⟩⟩) (by decide +kernel)
set_option maxRecDepth 20000 in
theorem gX9_widths_X9_isFont : GoodIn wsX9_widths (wsV RX9 120 RX9 yX9_isFont wsX9_isFont) := goodIn_app (goodIn_4 _ (List.forall_mem_cons.mpr ⟨List.mem_cons_of_mem _ (List.mem_append_left _ (List.mem_append_left _ (List.mem_of_getElem? (i := 1) rfl))), List.forall_mem_cons.mpr ⟨List.mem_cons_of_mem _ (List.mem_append_left _ (List.mem_append_left _ (List.mem_of_getElem? (i := 2) rfl))), List.forall_mem_cons.mpr ⟨List.mem_cons_of_mem _ (List.mem_append_left _ (List.mem_append_left _ (List.mem_of_getElem? (i := 3) rfl))), List.forall_mem_cons.mpr ⟨List.mem_cons_of_mem _ (List.mem_append_left _ (List.mem_append_left _ (List.mem_of_getElem? (i := 4) rfl))), fun _ h9 => absurd h9 List.not_mem_nil⟩⟩⟩⟩) (by decide +kernel)) ggX9_widths_X9_isFont
set_option maxRecDepth 20000 in
theorem mw_X9_widths_0 : (.fieldLink RX9 22 "FontRunsModel" "width" "[I" : Cond) ∈ wsX9_widths := List.mem_cons_of_mem _ (List.mem_append_left _ (List.mem_append_left _ (List.mem_of_getElem? (i := 0) rfl)))
theorem ax_X9_widths_0 {e0 e1 e2 e3 e4 e5 e6 e7 e8 e9 e10 : Nat × va_E} : ([0] : List Nat).map (fun i => ([e0, e1, e2, e3, e4, e5, e6, e7, e8, e9, e10] : va_W)[i]?) = ([e0] : va_W).map some := rfl
theorem ax_X9_widths_1 {e0 e1 e2 e3 e4 e5 e6 e7 e8 e9 e10 : Nat × va_E} : ([0, 1, 2, 3, 4, 5, 6, 7, 8, 9, 10] : List Nat).map (fun i => ([e0, e1, e2, e3, e4, e5, e6, e7, e8, e9, e10] : va_W)[i]?) = ([e0, e1, e2, e3, e4, e5, e6, e7, e8, e9, e10] : va_W).map some := rfl
theorem ax_X9_widths_2 {e0 e1 e2 e3 e4 e5 e6 e7 e8 e9 e10 : Nat × va_E} : ([] : List Nat).map (fun i => ([e0, e1, e2, e3, e4, e5, e6, e7, e8, e9, e10] : va_W)[i]?) = ([] : va_W).map some := rfl
theorem ax_X9_widths_3 {D : va_G} {cl : List vw_C} {H : Heap} {f0 f1 f2 f3 f4 f5 f6 f7 f8 f9 f10 : Nat × va_E} (h : va_P D cl ((([] : va_W) ++ ([f0, f1, f2, f3, f4, f5, f6, f7, f8, f9, f10] : va_W))) H) : va_P D cl (([f0, f1, f2, f3, f4, f5, f6, f7, f8, f9, f10] : va_W)) H := h
theorem ax_X9_widths_4 {A : Nat → Prop} {f0 f1 f2 f3 f4 f5 f6 f7 f8 f9 f10 : Nat × va_E} (h : va_D A ((([] : va_W) ++ ([f0, f1, f2, f3, f4, f5, f6, f7, f8, f9, f10] : va_W)))) : va_D A (([f0, f1, f2, f3, f4, f5, f6, f7, f8, f9, f10] : va_W)) := h
set_option maxHeartbeats 4000000 in
set_option maxRecDepth 100000 in
theorem c_X9_widths (l : Launch) (D : va_G) (sz : Nat) (f : Int) (h0 : Nat) (fa : Int) (tc : Int) (so : Nat) (sl : Nat) (ce : Nat) (fn : Int) (kd : Nat) (wd : Nat) (hs : Nat) (pf : Nat) (lt : Nat) (mn : Int) (wg : Nat) (ta : Int) (ck : Int64) (at9 : Int) (rfn : Int) (rk : Nat) (rw : Nat) (rh : Nat) (cl : Int) (sa : Nat) (fi : Nat) (bo : Int) (ch : Nat) (cn : Nat) (ad : Int) (ru : Int) (kp : Nat) (dn : Int) (rfa : Nat) (c_wg : ClassId) (f_wg : Nat → Int32) (c_sa : ClassId) (f_sa : Nat → Int32) (c_fi : ClassId) (f_fi : Nat → Int32) (c_hs : ClassId) (f_hs : Nat → Int32) (c_ch : ClassId) (f_ch : Nat → Int32) (c_cn : ClassId) (f_cn : Nat → Int32) (c_pf : ClassId) (f_pf : Nat → Int32) (c_kd : ClassId) (f_kd : Nat → Int32) (c_wd : ClassId) (f_wd : Nat → Int32) (c_rfa : ClassId) (f_rfa : Nat → Int32) (q0 : rg f) (q1 : 0 ≤ mn ∧ mn ≤ 24) (q2 : 0 ≤ fn ∧ fn ≤ 4) (q3 : kPm f_pf fn) (q4 : ¬ (fn = 0 ∧ 1 ≤ mn)) (q5 : rg ad) (q6 : 0 ≤ ru ∧ ru ≤ 24) (q7 : 0 ≤ cl ∧ cl ≤ 24) (q8 : 0 ≤ bo ∧ bo ≤ 24) (q9 : 0 ≤ dn ∧ dn ≤ 8) : Met l yX9_widths wsX9_widths ({ frames := 6, cells := 0, slots := 0, locals := 140 }) (kPre [.ref h0, .int (zI f)] D [(h0, .inr (9, [.int (zI fa), .int (zI tc), .ref so, .ref sl, .ref ce, .int (zI fn), .ref kd, .ref wd, .ref hs, .ref pf, .ref lt, .int (zI mn), .ref wg, .int (zI ta), .long ck, .int (zI at9), .int (zI rfn), .ref rk, .ref rw, .ref rh, .int (zI cl), .ref sa, .ref fi, .int (zI bo), .ref ch, .ref cn, .int (zI ad), .int (zI ru), .ref kp, .int (zI dn), .ref rfa])), (wg, .inl (c_wg, 24, .inl f_wg)), (sa, .inl (c_sa, 25, .inl f_sa)), (fi, .inl (c_fi, 24, .inl f_fi)), (hs, .inl (c_hs, 4, .inl f_hs)), (ch, .inl (c_ch, 96, .inl f_ch)), (cn, .inl (c_cn, 24, .inl f_cn)), (pf, .inl (c_pf, 4, .inl f_pf)), (kd, .inl (c_kd, 4, .inl f_kd)), (wd, .inl (c_wd, 4, .inl f_wd)), (rfa, .inl (c_rfa, 8, .inl f_rfa))] [(c_wg, .int), (c_sa, .int), (c_fi, .int), (c_hs, .int), (c_ch, .int), (c_cn, .int), (c_pf, .int), (c_kd, .int), (c_wd, .int), (c_rfa, .int)] sz) (kQS (fun rz t => ∃ (u_f_wd : Nat → Int32) (u_cl : Int) (u_bo : Int) (u_ad : Int) (u_ru : Int) (u_f_sa : Nat → Int32) (u_f_fi : Nat → Int32) (u_f_ch : Nat → Int32) (u_f_cn : Nat → Int32), (rg u_ad) ∧ (0 ≤ u_ru ∧ u_ru ≤ 24) ∧ (0 ≤ u_cl ∧ u_cl ≤ 24) ∧ (0 ≤ u_bo ∧ u_bo ≤ 24) ∧ (u_f_wd = f_wd) ∧ va_P D vwCl [(h0, .inr (9, [.int (zI fa), .int (zI tc), .ref so, .ref sl, .ref ce, .int (zI fn), .ref kd, .ref wd, .ref hs, .ref pf, .ref lt, .int (zI mn), .ref wg, .int (zI ta), .long ck, .int (zI at9), .int (zI rfn), .ref rk, .ref rw, .ref rh, .int (zI u_cl), .ref sa, .ref fi, .int (zI u_bo), .ref ch, .ref cn, .int (zI u_ad), .int (zI u_ru), .ref kp, .int (zI dn), .ref rfa])), (wg, .inl (c_wg, 24, .inl f_wg)), (sa, .inl (c_sa, 25, .inl u_f_sa)), (fi, .inl (c_fi, 24, .inl u_f_fi)), (hs, .inl (c_hs, 4, .inl f_hs)), (ch, .inl (c_ch, 96, .inl u_f_ch)), (cn, .inl (c_cn, 24, .inl u_f_cn)), (pf, .inl (c_pf, 4, .inl f_pf)), (kd, .inl (c_kd, 4, .inl f_kd)), (wd, .inl (c_wd, 4, .inl u_f_wd)), (rfa, .inl (c_rfa, 8, .inl f_rfa))] t.heap ∧ va_D (va_A [(h0, .inr (9, [.int (zI fa), .int (zI tc), .ref so, .ref sl, .ref ce, .int (zI fn), .ref kd, .ref wd, .ref hs, .ref pf, .ref lt, .int (zI mn), .ref wg, .int (zI ta), .long ck, .int (zI at9), .int (zI rfn), .ref rk, .ref rw, .ref rh, .int (zI cl), .ref sa, .ref fi, .int (zI bo), .ref ch, .ref cn, .int (zI ad), .int (zI ru), .ref kp, .int (zI dn), .ref rfa])), (wg, .inl (c_wg, 24, .inl f_wg)), (sa, .inl (c_sa, 25, .inl f_sa)), (fi, .inl (c_fi, 24, .inl f_fi)), (hs, .inl (c_hs, 4, .inl f_hs)), (ch, .inl (c_ch, 96, .inl f_ch)), (cn, .inl (c_cn, 24, .inl f_cn)), (pf, .inl (c_pf, 4, .inl f_pf)), (kd, .inl (c_kd, 4, .inl f_kd)), (wd, .inl (c_wd, 4, .inl f_wd)), (rfa, .inl (c_rfa, 8, .inl f_rfa))] sz) [(h0, .inr (9, [.int (zI fa), .int (zI tc), .ref so, .ref sl, .ref ce, .int (zI fn), .ref kd, .ref wd, .ref hs, .ref pf, .ref lt, .int (zI mn), .ref wg, .int (zI ta), .long ck, .int (zI at9), .int (zI rfn), .ref rk, .ref rw, .ref rh, .int (zI u_cl), .ref sa, .ref fi, .int (zI u_bo), .ref ch, .ref cn, .int (zI u_ad), .int (zI u_ru), .ref kp, .int (zI dn), .ref rfa])), (wg, .inl (c_wg, 24, .inl f_wg)), (sa, .inl (c_sa, 25, .inl u_f_sa)), (fi, .inl (c_fi, 24, .inl u_f_fi)), (hs, .inl (c_hs, 4, .inl f_hs)), (ch, .inl (c_ch, 96, .inl u_f_ch)), (cn, .inl (c_cn, 24, .inl u_f_cn)), (pf, .inl (c_pf, 4, .inl f_pf)), (kd, .inl (c_kd, 4, .inl f_kd)), (wd, .inl (c_wd, 4, .inl u_f_wd)), (rfa, .inl (c_rfa, 8, .inl f_rfa))]) (va_A [(h0, .inr (9, [.int (zI fa), .int (zI tc), .ref so, .ref sl, .ref ce, .int (zI fn), .ref kd, .ref wd, .ref hs, .ref pf, .ref lt, .int (zI mn), .ref wg, .int (zI ta), .long ck, .int (zI at9), .int (zI rfn), .ref rk, .ref rw, .ref rh, .int (zI cl), .ref sa, .ref fi, .int (zI bo), .ref ch, .ref cn, .int (zI ad), .int (zI ru), .ref kp, .int (zI dn), .ref rfa])), (wg, .inl (c_wg, 24, .inl f_wg)), (sa, .inl (c_sa, 25, .inl f_sa)), (fi, .inl (c_fi, 24, .inl f_fi)), (hs, .inl (c_hs, 4, .inl f_hs)), (ch, .inl (c_ch, 96, .inl f_ch)), (cn, .inl (c_cn, 24, .inl f_cn)), (pf, .inl (c_pf, 4, .inl f_pf)), (kd, .inl (c_kd, 4, .inl f_kd)), (wd, .inl (c_wd, 4, .inl f_wd)), (rfa, .inl (c_rfa, 8, .inl f_rfa))] sz)) 0 0 (va_A [(h0, .inr (9, [.int (zI fa), .int (zI tc), .ref so, .ref sl, .ref ce, .int (zI fn), .ref kd, .ref wd, .ref hs, .ref pf, .ref lt, .int (zI mn), .ref wg, .int (zI ta), .long ck, .int (zI at9), .int (zI rfn), .ref rk, .ref rw, .ref rh, .int (zI cl), .ref sa, .ref fi, .int (zI bo), .ref ch, .ref cn, .int (zI ad), .int (zI ru), .ref kp, .int (zI dn), .ref rfa])), (wg, .inl (c_wg, 24, .inl f_wg)), (sa, .inl (c_sa, 25, .inl f_sa)), (fi, .inl (c_fi, 24, .inl f_fi)), (hs, .inl (c_hs, 4, .inl f_hs)), (ch, .inl (c_ch, 96, .inl f_ch)), (cn, .inl (c_cn, 24, .inl f_cn)), (pf, .inl (c_pf, 4, .inl f_pf)), (kd, .inl (c_kd, 4, .inl f_kd)), (wd, .inl (c_wd, 4, .inl f_wd)), (rfa, .inl (c_rfa, 8, .inl f_rfa))] sz) := by
  refine Met.ofW (cc := cX9_widths) (maxL := 5) (ret := (some .int)) (by decide) rfl ?_
  intro p e s m args below meth c s₁ B hml hv
  obtain ⟨rfl, hsz, hP, hK, hD0, hN⟩ := hv
  have hx := B.exec
  have hb := B.bytes
  have hr := B.returns
  have hts := atoms_spec (ws := wsX9_widths) B.pre
  have hown : s.vm.findClass RX9 = some m.cls := findClass_of_methodNamed B.named
  have hlocks := B.notSynchronized
  subst hsz
  have hD := hD0.self (sz := s.heap.size)
  generalize hAe : va_A [(h0, .inr (9, [.int (zI fa), .int (zI tc), .ref so, .ref sl, .ref ce, .int (zI fn), .ref kd, .ref wd, .ref hs, .ref pf, .ref lt, .int (zI mn), .ref wg, .int (zI ta), .long ck, .int (zI at9), .int (zI rfn), .ref rk, .ref rw, .ref rh, .int (zI cl), .ref sa, .ref fi, .int (zI bo), .ref ch, .ref cn, .int (zI ad), .int (zI ru), .ref kp, .int (zI dn), .ref rfa])), (wg, .inl (c_wg, 24, .inl f_wg)), (sa, .inl (c_sa, 25, .inl f_sa)), (fi, .inl (c_fi, 24, .inl f_fi)), (hs, .inl (c_hs, 4, .inl f_hs)), (ch, .inl (c_ch, 96, .inl f_ch)), (cn, .inl (c_cn, 24, .inl f_cn)), (pf, .inl (c_pf, 4, .inl f_pf)), (kd, .inl (c_kd, 4, .inl f_kd)), (wd, .inl (c_wd, 4, .inl f_wd)), (rfa, .inl (c_rfa, 8, .inl f_rfa))] s.heap.size = A at hD ⊢
  have hA : ∀ q : Nat, s.heap.size ≤ q → A q := fun q h => by rw [← hAe]; exact Or.inr h
  have hS : va_S A s.heap s.heap [] := va_S.rf
  have hP : va_P D vwCl [(h0, .inr (9, [.int (zI fa), .int (zI tc), .ref so, .ref sl, .ref ce, .int (zI fn), .ref kd, .ref wd, .ref hs, .ref pf, .ref lt, .int (zI mn), .ref wg, .int (zI ta), .long ck, .int (zI at9), .int (zI rfn), .ref rk, .ref rw, .ref rh, .int (zI cl), .ref sa, .ref fi, .int (zI bo), .ref ch, .ref cn, .int (zI ad), .int (zI ru), .ref kp, .int (zI dn), .ref rfa])), (wg, .inl (c_wg, 24, .inl f_wg)), (sa, .inl (c_sa, 25, .inl f_sa)), (fi, .inl (c_fi, 24, .inl f_fi)), (hs, .inl (c_hs, 4, .inl f_hs)), (ch, .inl (c_ch, 96, .inl f_ch)), (cn, .inl (c_cn, 24, .inl f_cn)), (pf, .inl (c_pf, 4, .inl f_pf)), (kd, .inl (c_kd, 4, .inl f_kd)), (wd, .inl (c_wd, 4, .inl f_wd)), (rfa, .inl (c_rfa, 8, .inl f_rfa))] s.heap := hP
  have hl := lv_entry ([.ref h0, .int (zI f)]) (n := 5) (Nat.le_of_ble_eq_true rfl)
  rw [lg_entry_eq]
  generalize (lg_sl ([.ref h0, .int (zI f)]) ++ List.replicate (5 - (lg_sl ([.ref h0, .int (zI f)])).length) Slot.unset).toArray = ls at hl ⊢
  have hl : lv_has ls 5 [(0, .ref h0), (1, .int (zI f))] := hl
  refine lv_aload_n hx hb dX9_widths_0 rfl (lv_at hl 0 rfl) ?_
  refine lv_iload_n hx hb dX9_widths_1 rfl (lv_at hl 1 rfl) ?_
  refine k_callR (va_runV (As := [.int (zI f)]) (rest := []) ⟨hx, hb, hml, hown, hts⟩ (c_X9_isFont l D s.heap.size (f := f) (h0 := h0) (fa := fa) (tc := tc) (so := so) (sl := sl) (ce := ce) (fn := fn) (kd := kd) (wd := wd) (hs := hs) (pf := pf) (lt := lt) (mn := mn) (wg := wg) (ta := ta) (ck := ck) (at9 := at9) (rfn := rfn) (rk := rk) (rw := rw) (rh := rh) (cl := cl) (sa := sa) (fi := fi) (bo := bo) (ch := ch) (cn := cn) (ad := ad) (ru := ru) (kp := kp) (dn := dn) (rfa := rfa) q0 q2) (cwV 1 hts gX9_widths_X9_isFont rfl rfl rfl (by decide +kernel) ⟨Nat.le_of_ble_eq_true rfl, Nat.le_of_ble_eq_true rfl⟩) (kPreV hP (kD0 hD) hK hN [0] [] ax_X9_widths_0 rfl (by decide +kernel) 0 9 rfl rfl) rfl rfl hl.1 rfl (lv_room (Nat.le_of_ble_eq_true rfl)) dX9_widths_2 ⟨Nat.le_of_ble_eq_true rfl, Nat.le_of_ble_eq_true rfl⟩) ?_
  refine lv_if_ne (tgt := 10) hx hb dX9_widths_5 (by decide) (fun c_1 => ?_) (fun c_1 => ?_)
  · have c_1 : 0 ≤ f ∧ f < fn := b01t c_1
    refine lv_aload_n hx hb dX9_widths_10 rfl (lv_at hl 0 rfl) ?_
    refine va_get (D := D) (ci := 9) (v := .ref wd) (C := RX9) (T := TX9) (N := 31) hx hb hts (fun _ h9 => List.mem_cons_of_mem _ (List.mem_append_right _ h9)) hown hK hP 0 rfl rfl 7 (by decide) (hts (.fieldLink RX9 22 "FontRunsModel" "width" "[I") mw_X9_widths_0) (fun _ h9 => h9) rfl dX9_widths_11 ?_
    refine lv_iload_n hx hb dX9_widths_14 rfl (lv_at hl 1 rfl) ?_
    refine kz_iald hx hb hK hP 9 8 rfl rfl (by omega) dX9_widths_15 (fun z_2 rz_2 ez_2 => ?_)
    refine lv_istore_n (lv' := [(2, .int (zI z_2)), (0, .ref h0), (1, .int (zI f))]) hx hb dX9_widths_16 rfl hl (by decide) rfl (fun ls hl => ?_)
    refine lv_iconst (v := zI 0) hx hb dX9_widths_17 rfl ?_
    refine lv_istore_n (lv' := [(3, .int (zI 0)), (2, .int (zI z_2)), (0, .ref h0), (1, .int (zI f))]) hx hb dX9_widths_18 rfl hl (by decide) rfl (fun ls hl => ?_)
    refine lv_iconst (v := zI 1) hx hb dX9_widths_19 rfl ?_
    refine lv_istore (lv' := [(4, .int (zI 1)), (3, .int (zI 0)), (2, .int (zI z_2)), (0, .ref h0), (1, .int (zI f))]) hx hb dX9_widths_20 hl (by decide) rfl (fun ls hl => ?_)
    refine k_loopM (I := fun n9 H locs ls => ∃ (js : Int) (jv : Int) (jc : Int) (jo : Int) (jd : Int) (jr : Int) (a1 : Nat → Int32) (a2 : Nat → Int32) (a3 : Nat → Int32) (a4 : Nat → Int32) (a5 : Nat → Int32), n9 = (10 - jv).toNat ∧ (rg js) ∧ (0 ≤ jc ∧ jc ≤ 24) ∧ (0 ≤ jo ∧ jo ≤ 24) ∧ (rg jd) ∧ (0 ≤ jr ∧ jr ≤ 24) ∧ (1 ≤ jv ∧ jv ≤ 10) ∧ (kEx a5 f_wd f) ∧ va_P D vwCl [(h0, .inr (9, [.int (zI fa), .int (zI tc), .ref so, .ref sl, .ref ce, .int (zI fn), .ref kd, .ref wd, .ref hs, .ref pf, .ref lt, .int (zI mn), .ref wg, .int (zI ta), .long ck, .int (zI at9), .int (zI rfn), .ref rk, .ref rw, .ref rh, .int (zI jc), .ref sa, .ref fi, .int (zI jo), .ref ch, .ref cn, .int (zI jd), .int (zI jr), .ref kp, .int (zI dn), .ref rfa])), (wg, .inl (c_wg, 24, .inl f_wg)), (sa, .inl (c_sa, 25, .inl a1)), (fi, .inl (c_fi, 24, .inl a2)), (hs, .inl (c_hs, 4, .inl f_hs)), (ch, .inl (c_ch, 96, .inl a3)), (cn, .inl (c_cn, 24, .inl a4)), (pf, .inl (c_pf, 4, .inl f_pf)), (kd, .inl (c_kd, 4, .inl f_kd)), (wd, .inl (c_wd, 4, .inl a5)), (rfa, .inl (c_rfa, 8, .inl f_rfa))] H ∧ va_D A [(h0, .inr (9, [.int (zI fa), .int (zI tc), .ref so, .ref sl, .ref ce, .int (zI fn), .ref kd, .ref wd, .ref hs, .ref pf, .ref lt, .int (zI mn), .ref wg, .int (zI ta), .long ck, .int (zI at9), .int (zI rfn), .ref rk, .ref rw, .ref rh, .int (zI jc), .ref sa, .ref fi, .int (zI jo), .ref ch, .ref cn, .int (zI jd), .int (zI jr), .ref kp, .int (zI dn), .ref rfa])), (wg, .inl (c_wg, 24, .inl f_wg)), (sa, .inl (c_sa, 25, .inl a1)), (fi, .inl (c_fi, 24, .inl a2)), (hs, .inl (c_hs, 4, .inl f_hs)), (ch, .inl (c_ch, 96, .inl a3)), (cn, .inl (c_cn, 24, .inl a4)), (pf, .inl (c_pf, 4, .inl f_pf)), (kd, .inl (c_kd, 4, .inl f_kd)), (wd, .inl (c_wd, 4, .inl a5)), (rfa, .inl (c_rfa, 8, .inl f_rfa))] ∧ va_S A s.heap H locs ∧ lv_has ls 5 [(4, .int (zI jv)), (3, .int (zI js)), (2, .int (zI z_2)), (0, .ref h0), (1, .int (zI f))]) ?_ _ ⟨0, 1, cl, bo, ad, ru, f_sa, f_fi, f_ch, f_cn, f_wd, rfl, (by omega), q7, q8, q5, q6, (by omega), kEx_0, hP, hD, hS, hl⟩
    intro n22 ih22 H locs ls hI
    obtain ⟨js, jv, jc, jo, jd, jr, a1, a2, a3, a4, a5, en22, v_220, v_221, v_222, v_223, v_224, v_225, v_226, hP, hD, hS, hl⟩ := hI
    refine lv_iload hx hb dX9_widths_22 (lv_at hl 0 rfl) ?_
    refine lv_bipush (v := zI 9) hx hb dX9_widths_24 (by decide) ?_
    refine kz_icmp_gt (tgt := 61) hx hb dX9_widths_26 (by decide) (by omega) (by omega) (fun c_3 => ?_) (fun c_3 => ?_)
    · refine lv_aload_n hx hb dX9_widths_61 rfl (lv_at hl 3 rfl) ?_
      refine va_get (D := D) (ci := 9) (v := .ref wd) (C := RX9) (T := TX9) (N := 31) hx hb hts (fun _ h9 => List.mem_cons_of_mem _ (List.mem_append_right _ h9)) hown hK hP 0 rfl rfl 7 (by decide) (hts (.fieldLink RX9 22 "FontRunsModel" "width" "[I") mw_X9_widths_0) (fun _ h9 => h9) rfl dX9_widths_62 ?_
      refine lv_iload_n hx hb dX9_widths_65 rfl (lv_at hl 4 rfl) ?_
      refine lv_iload_n hx hb dX9_widths_66 rfl (lv_at hl 2 rfl) ?_
      refine kz_iast hx hb hK hP hD hS 9 8 rfl rfl (by omega) dX9_widths_67 (fun H locs hP hD hS => ?_)
      have hP : va_P D vwCl [(h0, .inr (9, [.int (zI fa), .int (zI tc), .ref so, .ref sl, .ref ce, .int (zI fn), .ref kd, .ref wd, .ref hs, .ref pf, .ref lt, .int (zI mn), .ref wg, .int (zI ta), .long ck, .int (zI at9), .int (zI rfn), .ref rk, .ref rw, .ref rh, .int (zI jc), .ref sa, .ref fi, .int (zI jo), .ref ch, .ref cn, .int (zI jd), .int (zI jr), .ref kp, .int (zI dn), .ref rfa])), (wg, .inl (c_wg, 24, .inl f_wg)), (sa, .inl (c_sa, 25, .inl a1)), (fi, .inl (c_fi, 24, .inl a2)), (hs, .inl (c_hs, 4, .inl f_hs)), (ch, .inl (c_ch, 96, .inl a3)), (cn, .inl (c_cn, 24, .inl a4)), (pf, .inl (c_pf, 4, .inl f_pf)), (kd, .inl (c_kd, 4, .inl f_kd)), (wd, .inl (c_wd, 4, .inl (upd a5 (f).toNat (zI z_2)))), (rfa, .inl (c_rfa, 8, .inl f_rfa))] H := hP
      have hD : va_D A [(h0, .inr (9, [.int (zI fa), .int (zI tc), .ref so, .ref sl, .ref ce, .int (zI fn), .ref kd, .ref wd, .ref hs, .ref pf, .ref lt, .int (zI mn), .ref wg, .int (zI ta), .long ck, .int (zI at9), .int (zI rfn), .ref rk, .ref rw, .ref rh, .int (zI jc), .ref sa, .ref fi, .int (zI jo), .ref ch, .ref cn, .int (zI jd), .int (zI jr), .ref kp, .int (zI dn), .ref rfa])), (wg, .inl (c_wg, 24, .inl f_wg)), (sa, .inl (c_sa, 25, .inl a1)), (fi, .inl (c_fi, 24, .inl a2)), (hs, .inl (c_hs, 4, .inl f_hs)), (ch, .inl (c_ch, 96, .inl a3)), (cn, .inl (c_cn, 24, .inl a4)), (pf, .inl (c_pf, 4, .inl f_pf)), (kd, .inl (c_kd, 4, .inl f_kd)), (wd, .inl (c_wd, 4, .inl (upd a5 (f).toNat (zI z_2)))), (rfa, .inl (c_rfa, 8, .inl f_rfa))] := hD
      generalize ef_4 : upd a5 (f).toNat (zI z_2) = f_4 at hP hD
      refine lv_iload_n hx hb dX9_widths_68 rfl (lv_at hl 1 rfl) ?_
      have hP9 := hP.sub (ws' := [(h0, .inr (9, [.int (zI fa), .int (zI tc), .ref so, .ref sl, .ref ce, .int (zI fn), .ref kd, .ref wd, .ref hs, .ref pf, .ref lt, .int (zI mn), .ref wg, .int (zI ta), .long ck, .int (zI at9), .int (zI rfn), .ref rk, .ref rw, .ref rh, .int (zI jc), .ref sa, .ref fi, .int (zI jo), .ref ch, .ref cn, .int (zI jd), .int (zI jr), .ref kp, .int (zI dn), .ref rfa])), (wg, .inl (c_wg, 24, .inl f_wg)), (sa, .inl (c_sa, 25, .inl a1)), (fi, .inl (c_fi, 24, .inl a2)), (hs, .inl (c_hs, 4, .inl f_hs)), (ch, .inl (c_ch, 96, .inl a3)), (cn, .inl (c_cn, 24, .inl a4)), (pf, .inl (c_pf, 4, .inl f_pf)), (kd, .inl (c_kd, 4, .inl f_kd)), (wd, .inl (c_wd, 4, .inl f_4)), (rfa, .inl (c_rfa, 8, .inl f_rfa))]) [0, 1, 2, 3, 4, 5, 6, 7, 8, 9, 10] rfl
      have hD9 := hD.sub (ws' := [(h0, .inr (9, [.int (zI fa), .int (zI tc), .ref so, .ref sl, .ref ce, .int (zI fn), .ref kd, .ref wd, .ref hs, .ref pf, .ref lt, .int (zI mn), .ref wg, .int (zI ta), .long ck, .int (zI at9), .int (zI rfn), .ref rk, .ref rw, .ref rh, .int (zI jc), .ref sa, .ref fi, .int (zI jo), .ref ch, .ref cn, .int (zI jd), .int (zI jr), .ref kp, .int (zI dn), .ref rfa])), (wg, .inl (c_wg, 24, .inl f_wg)), (sa, .inl (c_sa, 25, .inl a1)), (fi, .inl (c_fi, 24, .inl a2)), (hs, .inl (c_hs, 4, .inl f_hs)), (ch, .inl (c_ch, 96, .inl a3)), (cn, .inl (c_cn, 24, .inl a4)), (pf, .inl (c_pf, 4, .inl f_pf)), (kd, .inl (c_kd, 4, .inl f_kd)), (wd, .inl (c_wd, 4, .inl f_4)), (rfa, .inl (c_rfa, 8, .inl f_rfa))]) [0, 1, 2, 3, 4, 5, 6, 7, 8, 9, 10] (by decide +kernel) rfl
      exact W.iret (v := (zI js)) hx hb hr (fun t ht hW => kQS_of (by omega) ⟨f_4, jc, jo, jd, jr, a1, a2, a3, a4, v_223, v_224, v_221, v_222, (kEx_e v_226 ez_2 ef_4), by rw [ht]; exact hP9, hD9⟩ (hS.F ht)) hS.2.2 dX9_widths_69
    · refine lv_aload_n hx hb dX9_widths_29 rfl (lv_at hl 3 rfl) ?_
      refine va_get (D := D) (ci := 9) (v := .ref wd) (C := RX9) (T := TX9) (N := 31) hx hb hts (fun _ h9 => List.mem_cons_of_mem _ (List.mem_append_right _ h9)) hown hK hP 0 rfl rfl 7 (by decide) (hts (.fieldLink RX9 22 "FontRunsModel" "width" "[I") mw_X9_widths_0) (fun _ h9 => h9) rfl dX9_widths_30 ?_
      refine lv_iload_n hx hb dX9_widths_33 rfl (lv_at hl 4 rfl) ?_
      refine lv_iload hx hb dX9_widths_34 (lv_at hl 0 rfl) ?_
      refine kz_iast hx hb hK hP hD hS 9 8 rfl rfl (by omega) dX9_widths_36 (fun H locs hP hD hS => ?_)
      have hP : va_P D vwCl [(h0, .inr (9, [.int (zI fa), .int (zI tc), .ref so, .ref sl, .ref ce, .int (zI fn), .ref kd, .ref wd, .ref hs, .ref pf, .ref lt, .int (zI mn), .ref wg, .int (zI ta), .long ck, .int (zI at9), .int (zI rfn), .ref rk, .ref rw, .ref rh, .int (zI jc), .ref sa, .ref fi, .int (zI jo), .ref ch, .ref cn, .int (zI jd), .int (zI jr), .ref kp, .int (zI dn), .ref rfa])), (wg, .inl (c_wg, 24, .inl f_wg)), (sa, .inl (c_sa, 25, .inl a1)), (fi, .inl (c_fi, 24, .inl a2)), (hs, .inl (c_hs, 4, .inl f_hs)), (ch, .inl (c_ch, 96, .inl a3)), (cn, .inl (c_cn, 24, .inl a4)), (pf, .inl (c_pf, 4, .inl f_pf)), (kd, .inl (c_kd, 4, .inl f_kd)), (wd, .inl (c_wd, 4, .inl (upd a5 (f).toNat (zI jv)))), (rfa, .inl (c_rfa, 8, .inl f_rfa))] H := hP
      have hD : va_D A [(h0, .inr (9, [.int (zI fa), .int (zI tc), .ref so, .ref sl, .ref ce, .int (zI fn), .ref kd, .ref wd, .ref hs, .ref pf, .ref lt, .int (zI mn), .ref wg, .int (zI ta), .long ck, .int (zI at9), .int (zI rfn), .ref rk, .ref rw, .ref rh, .int (zI jc), .ref sa, .ref fi, .int (zI jo), .ref ch, .ref cn, .int (zI jd), .int (zI jr), .ref kp, .int (zI dn), .ref rfa])), (wg, .inl (c_wg, 24, .inl f_wg)), (sa, .inl (c_sa, 25, .inl a1)), (fi, .inl (c_fi, 24, .inl a2)), (hs, .inl (c_hs, 4, .inl f_hs)), (ch, .inl (c_ch, 96, .inl a3)), (cn, .inl (c_cn, 24, .inl a4)), (pf, .inl (c_pf, 4, .inl f_pf)), (kd, .inl (c_kd, 4, .inl f_kd)), (wd, .inl (c_wd, 4, .inl (upd a5 (f).toNat (zI jv)))), (rfa, .inl (c_rfa, 8, .inl f_rfa))] := hD
      generalize ef_5 : upd a5 (f).toNat (zI jv) = f_5 at hP hD
      refine lv_iload_n hx hb dX9_widths_37 rfl (lv_at hl 1 rfl) ?_
      refine lv_aload_n hx hb dX9_widths_38 rfl (lv_at hl 3 rfl) ?_
      have hFc := va_free (wc := [(h0, .inr (9, [.int (zI fa), .int (zI tc), .ref so, .ref sl, .ref ce, .int (zI fn), .ref kd, .ref wd, .ref hs, .ref pf, .ref lt, .int (zI mn), .ref wg, .int (zI ta), .long ck, .int (zI at9), .int (zI rfn), .ref rk, .ref rw, .ref rh, .int (zI jc), .ref sa, .ref fi, .int (zI jo), .ref ch, .ref cn, .int (zI jd), .int (zI jr), .ref kp, .int (zI dn), .ref rfa])), (wg, .inl (c_wg, 24, .inl f_wg)), (sa, .inl (c_sa, 25, .inl a1)), (fi, .inl (c_fi, 24, .inl a2)), (hs, .inl (c_hs, 4, .inl f_hs)), (ch, .inl (c_ch, 96, .inl a3)), (cn, .inl (c_cn, 24, .inl a4)), (pf, .inl (c_pf, 4, .inl f_pf)), (kd, .inl (c_kd, 4, .inl f_kd)), (wd, .inl (c_wd, 4, .inl f_5)), (rfa, .inl (c_rfa, 8, .inl f_rfa))]) hD hS hA [0, 1, 2, 3, 4, 5, 6, 7, 8, 9, 10] ax_X9_widths_1
      refine va_calli (va_runV (As := []) (rest := [.int (zI js)]) ⟨hx, hb, hml, hown, hts⟩ (c_X9_areSo l D H.size (h0 := h0) (fa := fa) (tc := tc) (so := so) (sl := sl) (ce := ce) (fn := fn) (kd := kd) (wd := wd) (hs := hs) (pf := pf) (lt := lt) (mn := mn) (wg := wg) (ta := ta) (ck := ck) (at9 := at9) (rfn := rfn) (rk := rk) (rw := rw) (rh := rh) (cl := jc) (sa := sa) (fi := fi) (bo := jo) (ch := ch) (cn := cn) (ad := jd) (ru := jr) (kp := kp) (dn := dn) (rfa := rfa) (c_wg := c_wg) (f_wg := f_wg) (c_sa := c_sa) (f_sa := a1) (c_fi := c_fi) (f_fi := a2) (c_hs := c_hs) (f_hs := f_hs) (c_ch := c_ch) (f_ch := a3) (c_cn := c_cn) (f_cn := a4) (c_pf := c_pf) (f_pf := f_pf) (c_kd := c_kd) (f_kd := f_kd) (c_wd := c_wd) (f_wd := f_5) (c_rfa := c_rfa) (f_rfa := f_rfa) q1 q2 q3 q4 v_223 v_224 v_221 v_222 q9) (cwV 0 hts gX9_widths_X9_areSo rfl rfl rfl (by decide +kernel) ⟨Nat.le_of_ble_eq_true rfl, Nat.le_of_ble_eq_true rfl⟩) (kPreV hP (kD0 hD) hK hN [0, 1, 2, 3, 4, 5, 6, 7, 8, 9, 10] [0, 1, 2, 3, 4, 5, 6, 7, 8, 9] ax_X9_widths_1 rfl (by decide +kernel) 0 9 rfl rfl) rfl rfl hl.1 rfl (lv_room (Nat.le_of_ble_eq_true rfl)) dX9_widths_39 ⟨Nat.le_of_ble_eq_true rfl, Nat.le_of_ble_eq_true rfl⟩) hS (fun q _ h => hFc q h) hFc (fun r u t H1 locs ht hvm hw hB hz1 hk1 hS => ?_)
      obtain ⟨z_14, e9⟩ : ∃ z, z = u := ⟨_, rfl⟩
      subst e9
      obtain ⟨rfl, rz_14⟩ := hw
      refine Exists.elim hB (fun u_cl_6 hB1 => Exists.elim hB1 (fun u_bo_7 hB2 => Exists.elim hB2 (fun u_ad_8 hB3 => Exists.elim hB3 (fun u_ru_9 hB4 => Exists.elim hB4 (fun u_f_sa_10 hB5 => Exists.elim hB5 (fun u_f_fi_11 hB6 => Exists.elim hB6 (fun u_f_ch_12 hB7 => Exists.elim hB7 (fun u_f_cn_13 hB8 => ?_))))))))
      have h_15 := hB8.1
      have h_16 := hB8.2.1
      have h_17 := hB8.2.2.1
      have h_18 := hB8.2.2.2.1
      have h_19 := hB8.2.2.2.2.1
      have hP1 := hB8.2.2.2.2.2.1
      have hD1 := hB8.2.2.2.2.2.2
      clear hB hB1 hB2 hB3 hB4 hB5 hB6 hB7 hB8
      rw [ht] at hP1
      obtain ⟨hP, hD⟩ := va_join (wr := []) (w1 := [(h0, .inr (9, [.int (zI fa), .int (zI tc), .ref so, .ref sl, .ref ce, .int (zI fn), .ref kd, .ref wd, .ref hs, .ref pf, .ref lt, .int (zI mn), .ref wg, .int (zI ta), .long ck, .int (zI at9), .int (zI rfn), .ref rk, .ref rw, .ref rh, .int (zI u_cl_6), .ref sa, .ref fi, .int (zI u_bo_7), .ref ch, .ref cn, .int (zI u_ad_8), .int (zI u_ru_9), .ref kp, .int (zI dn), .ref rfa])), (wg, .inl (c_wg, 24, .inl f_wg)), (sa, .inl (c_sa, 25, .inl u_f_sa_10)), (fi, .inl (c_fi, 24, .inl u_f_fi_11)), (hs, .inl (c_hs, 4, .inl f_hs)), (ch, .inl (c_ch, 96, .inl u_f_ch_12)), (cn, .inl (c_cn, 24, .inl u_f_cn_13)), (pf, .inl (c_pf, 4, .inl f_pf)), (kd, .inl (c_kd, 4, .inl f_kd)), (wd, .inl (c_wd, 4, .inl f_5)), (rfa, .inl (c_rfa, 8, .inl f_rfa))]) hP hD [0, 1, 2, 3, 4, 5, 6, 7, 8, 9, 10] [] ax_X9_widths_1 ax_X9_widths_2 (by decide +kernel) (by decide +kernel) hk1 hFc hP1 hD1
      have hP := ax_X9_widths_3 hP
      have hD := ax_X9_widths_4 hD
      generalize H1 = H at hP hS ⊢
      have hP : va_P D vwCl [(h0, .inr (9, [.int (zI fa), .int (zI tc), .ref so, .ref sl, .ref ce, .int (zI fn), .ref kd, .ref wd, .ref hs, .ref pf, .ref lt, .int (zI mn), .ref wg, .int (zI ta), .long ck, .int (zI at9), .int (zI rfn), .ref rk, .ref rw, .ref rh, .int (zI u_cl_6), .ref sa, .ref fi, .int (zI u_bo_7), .ref ch, .ref cn, .int (zI u_ad_8), .int (zI u_ru_9), .ref kp, .int (zI dn), .ref rfa])), (wg, .inl (c_wg, 24, .inl f_wg)), (sa, .inl (c_sa, 25, .inl u_f_sa_10)), (fi, .inl (c_fi, 24, .inl u_f_fi_11)), (hs, .inl (c_hs, 4, .inl f_hs)), (ch, .inl (c_ch, 96, .inl u_f_ch_12)), (cn, .inl (c_cn, 24, .inl u_f_cn_13)), (pf, .inl (c_pf, 4, .inl f_pf)), (kd, .inl (c_kd, 4, .inl f_kd)), (wd, .inl (c_wd, 4, .inl f_5)), (rfa, .inl (c_rfa, 8, .inl f_rfa))] H := hP
      have hD : va_D A [(h0, .inr (9, [.int (zI fa), .int (zI tc), .ref so, .ref sl, .ref ce, .int (zI fn), .ref kd, .ref wd, .ref hs, .ref pf, .ref lt, .int (zI mn), .ref wg, .int (zI ta), .long ck, .int (zI at9), .int (zI rfn), .ref rk, .ref rw, .ref rh, .int (zI u_cl_6), .ref sa, .ref fi, .int (zI u_bo_7), .ref ch, .ref cn, .int (zI u_ad_8), .int (zI u_ru_9), .ref kp, .int (zI dn), .ref rfa])), (wg, .inl (c_wg, 24, .inl f_wg)), (sa, .inl (c_sa, 25, .inl u_f_sa_10)), (fi, .inl (c_fi, 24, .inl u_f_fi_11)), (hs, .inl (c_hs, 4, .inl f_hs)), (ch, .inl (c_ch, 96, .inl u_f_ch_12)), (cn, .inl (c_cn, 24, .inl u_f_cn_13)), (pf, .inl (c_pf, 4, .inl f_pf)), (kd, .inl (c_kd, 4, .inl f_kd)), (wd, .inl (c_wd, 4, .inl f_5)), (rfa, .inl (c_rfa, 8, .inl f_rfa))] := hD
      refine kz_if_eq (tgt := 52) hx hb dX9_widths_42 (by decide) (by omega) (fun c_20 => ?_) (fun c_20 => ?_)
      · refine lv_iconst (v := zI 0) hx hb dX9_widths_52 rfl ?_
        refine lv_ior hx hb dX9_widths_53 ?_
        refine kz_any (fun z_21 rz_21 ez_21 => ?_)
        refine lv_istore_n (lv' := [(3, .int (zI z_21)), (4, .int (zI jv)), (2, .int (zI z_2)), (0, .ref h0), (1, .int (zI f))]) hx hb dX9_widths_54 rfl hl (by decide) rfl (fun ls hl => ?_)
        refine lv_iinc (v := (zI (jv + 1))) (lv' := [(4, .int (zI (jv + 1))), (3, .int (zI z_21)), (2, .int (zI z_2)), (0, .ref h0), (1, .int (zI f))]) hx hb dX9_widths_55 hl (k := 1) rfl (kz_inc _ 1) (by decide) rfl (fun ls hl => ?_)
        refine lv_goto (tgt := 22) hx hb dX9_widths_58 (by decide) ?_
        exact ih22 _ (by omega) _ _ _ ⟨z_21, (jv + 1), u_cl_6, u_bo_7, u_ad_8, u_ru_9, u_f_sa_10, u_f_fi_11, u_f_ch_12, u_f_cn_13, f_5, rfl, (by omega), h_17, h_18, h_15, h_16, (by omega), (kEx_s v_226 ef_5), hP, hD, hS, lv_sub hl [0, 1, 2, 3, 4] rfl⟩
      · refine lv_iconst (v := zI 1) hx hb dX9_widths_45 rfl ?_
        refine lv_iload hx hb dX9_widths_46 (lv_at hl 0 rfl) ?_
        refine lv_ishl hx hb dX9_widths_48 ?_
        refine kz_any (fun z_22 rz_22 ez_22 => ?_)
        refine lv_goto (tgt := 53) hx hb dX9_widths_49 (by decide) ?_
        refine lv_ior hx hb dX9_widths_53 ?_
        refine kz_any (fun z_23 rz_23 ez_23 => ?_)
        refine lv_istore_n (lv' := [(3, .int (zI z_23)), (4, .int (zI jv)), (2, .int (zI z_2)), (0, .ref h0), (1, .int (zI f))]) hx hb dX9_widths_54 rfl hl (by decide) rfl (fun ls hl => ?_)
        refine lv_iinc (v := (zI (jv + 1))) (lv' := [(4, .int (zI (jv + 1))), (3, .int (zI z_23)), (2, .int (zI z_2)), (0, .ref h0), (1, .int (zI f))]) hx hb dX9_widths_55 hl (k := 1) rfl (kz_inc _ 1) (by decide) rfl (fun ls hl => ?_)
        refine lv_goto (tgt := 22) hx hb dX9_widths_58 (by decide) ?_
        exact ih22 _ (by omega) _ _ _ ⟨z_23, (jv + 1), u_cl_6, u_bo_7, u_ad_8, u_ru_9, u_f_sa_10, u_f_fi_11, u_f_ch_12, u_f_cn_13, f_5, rfl, (by omega), h_17, h_18, h_15, h_16, (by omega), (kEx_s v_226 ef_5), hP, hD, hS, lv_sub hl [0, 1, 2, 3, 4] rfl⟩
  · have c_1 : ¬ (0 ≤ f ∧ f < fn) := b01f c_1
    refine lv_iconst (v := zI (-1)) hx hb dX9_widths_8 rfl ?_
    have hP9 := hP.sub (ws' := [(h0, .inr (9, [.int (zI fa), .int (zI tc), .ref so, .ref sl, .ref ce, .int (zI fn), .ref kd, .ref wd, .ref hs, .ref pf, .ref lt, .int (zI mn), .ref wg, .int (zI ta), .long ck, .int (zI at9), .int (zI rfn), .ref rk, .ref rw, .ref rh, .int (zI cl), .ref sa, .ref fi, .int (zI bo), .ref ch, .ref cn, .int (zI ad), .int (zI ru), .ref kp, .int (zI dn), .ref rfa])), (wg, .inl (c_wg, 24, .inl f_wg)), (sa, .inl (c_sa, 25, .inl f_sa)), (fi, .inl (c_fi, 24, .inl f_fi)), (hs, .inl (c_hs, 4, .inl f_hs)), (ch, .inl (c_ch, 96, .inl f_ch)), (cn, .inl (c_cn, 24, .inl f_cn)), (pf, .inl (c_pf, 4, .inl f_pf)), (kd, .inl (c_kd, 4, .inl f_kd)), (wd, .inl (c_wd, 4, .inl f_wd)), (rfa, .inl (c_rfa, 8, .inl f_rfa))]) [0, 1, 2, 3, 4, 5, 6, 7, 8, 9, 10] rfl
    have hD9 := hD.sub (ws' := [(h0, .inr (9, [.int (zI fa), .int (zI tc), .ref so, .ref sl, .ref ce, .int (zI fn), .ref kd, .ref wd, .ref hs, .ref pf, .ref lt, .int (zI mn), .ref wg, .int (zI ta), .long ck, .int (zI at9), .int (zI rfn), .ref rk, .ref rw, .ref rh, .int (zI cl), .ref sa, .ref fi, .int (zI bo), .ref ch, .ref cn, .int (zI ad), .int (zI ru), .ref kp, .int (zI dn), .ref rfa])), (wg, .inl (c_wg, 24, .inl f_wg)), (sa, .inl (c_sa, 25, .inl f_sa)), (fi, .inl (c_fi, 24, .inl f_fi)), (hs, .inl (c_hs, 4, .inl f_hs)), (ch, .inl (c_ch, 96, .inl f_ch)), (cn, .inl (c_cn, 24, .inl f_cn)), (pf, .inl (c_pf, 4, .inl f_pf)), (kd, .inl (c_kd, 4, .inl f_kd)), (wd, .inl (c_wd, 4, .inl f_wd)), (rfa, .inl (c_rfa, 8, .inl f_rfa))]) [0, 1, 2, 3, 4, 5, 6, 7, 8, 9, 10] (by decide +kernel) rfl
    exact W.iret (v := (zI (-1))) hx hb hr (fun t ht hW => kQS_of (by omega) ⟨f_wd, cl, bo, ad, ru, f_sa, f_fi, f_ch, f_cn, q5, q6, q7, q8, rfl, by rw [ht]; exact hP9, hD9⟩ (hS.F ht)) hS.2.2 dX9_widths_9
