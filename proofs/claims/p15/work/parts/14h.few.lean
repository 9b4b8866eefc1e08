theorem dX9_fewestBehind_0 : decode cX9_fewestBehind 0 = .ok (.iload_n 1, 1) := by decide +kernel
theorem dX9_fewestBehind_1 : decode cX9_fewestBehind 1 = .ok (.iconst 1, 1) := by decide +kernel
theorem dX9_fewestBehind_2 : decode cX9_fewestBehind 2 = .ok (.iadd, 1) := by decide +kernel
theorem dX9_fewestBehind_3 : decode cX9_fewestBehind 3 = .ok (.aload_n 0, 1) := by decide +kernel
theorem dX9_fewestBehind_4 : decode cX9_fewestBehind 4 = .ok (.getfield 138, 3) := by decide +kernel
theorem dX9_fewestBehind_7 : decode cX9_fewestBehind 7 = .ok (.if_icmp .ne 5, 3) := by decide +kernel
theorem dX9_fewestBehind_10 : decode cX9_fewestBehind 10 = .ok (.iconst 0, 1) := by decide +kernel
theorem dX9_fewestBehind_11 : decode cX9_fewestBehind 11 = .ok (.ireturn, 1) := by decide +kernel
theorem dX9_fewestBehind_12 : decode cX9_fewestBehind 12 = .ok (.bipush 24, 2) := by decide +kernel
theorem dX9_fewestBehind_14 : decode cX9_fewestBehind 14 = .ok (.istore 4, 2) := by decide +kernel
theorem dX9_fewestBehind_16 : decode cX9_fewestBehind 16 = .ok (.iconst 0, 1) := by decide +kernel
theorem dX9_fewestBehind_17 : decode cX9_fewestBehind 17 = .ok (.istore 5, 2) := by decide +kernel
theorem dX9_fewestBehind_19 : decode cX9_fewestBehind 19 = .ok (.iload 5, 2) := by decide +kernel
theorem dX9_fewestBehind_21 : decode cX9_fewestBehind 21 = .ok (.aload_n 0, 1) := by decide +kernel
theorem dX9_fewestBehind_22 : decode cX9_fewestBehind 22 = .ok (.getfield 74, 3) := by decide +kernel
theorem dX9_fewestBehind_25 : decode cX9_fewestBehind 25 = .ok (.if_icmp .ge 70, 3) := by decide +kernel
theorem dX9_fewestBehind_28 : decode cX9_fewestBehind 28 = .ok (.aload_n 0, 1) := by decide +kernel
theorem dX9_fewestBehind_29 : decode cX9_fewestBehind 29 = .ok (.iload_n 1, 1) := by decide +kernel
theorem dX9_fewestBehind_30 : decode cX9_fewestBehind 30 = .ok (.iconst 1, 1) := by decide +kernel
theorem dX9_fewestBehind_31 : decode cX9_fewestBehind 31 = .ok (.iadd, 1) := by decide +kernel
theorem dX9_fewestBehind_32 : decode cX9_fewestBehind 32 = .ok (.iload 5, 2) := by decide +kernel
theorem dX9_fewestBehind_34 : decode cX9_fewestBehind 34 = .ok (.iload_n 3, 1) := by decide +kernel
theorem dX9_fewestBehind_35 : decode cX9_fewestBehind 35 = .ok (.invokevirtual 144, 3) := by decide +kernel
theorem dX9_fewestBehind_38 : decode cX9_fewestBehind 38 = .ok (.ifCond .eq 31, 3) := by decide +kernel
theorem dX9_fewestBehind_41 : decode cX9_fewestBehind 41 = .ok (.aload_n 0, 1) := by decide +kernel
theorem dX9_fewestBehind_42 : decode cX9_fewestBehind 42 = .ok (.getfield 52, 3) := by decide +kernel
theorem dX9_fewestBehind_45 : decode cX9_fewestBehind 45 = .ok (.iconst 4, 1) := by decide +kernel
theorem dX9_fewestBehind_46 : decode cX9_fewestBehind 46 = .ok (.iload_n 1, 1) := by decide +kernel
theorem dX9_fewestBehind_47 : decode cX9_fewestBehind 47 = .ok (.iconst 1, 1) := by decide +kernel
theorem dX9_fewestBehind_48 : decode cX9_fewestBehind 48 = .ok (.iadd, 1) := by decide +kernel
theorem dX9_fewestBehind_49 : decode cX9_fewestBehind 49 = .ok (.imul, 1) := by decide +kernel
theorem dX9_fewestBehind_50 : decode cX9_fewestBehind 50 = .ok (.iload 5, 2) := by decide +kernel
theorem dX9_fewestBehind_52 : decode cX9_fewestBehind 52 = .ok (.iadd, 1) := by decide +kernel
theorem dX9_fewestBehind_53 : decode cX9_fewestBehind 53 = .ok (.iaload, 1) := by decide +kernel
theorem dX9_fewestBehind_54 : decode cX9_fewestBehind 54 = .ok (.iload 5, 2) := by decide +kernel
theorem dX9_fewestBehind_56 : decode cX9_fewestBehind 56 = .ok (.iload_n 2, 1) := by decide +kernel
theorem dX9_fewestBehind_57 : decode cX9_fewestBehind 57 = .ok (.if_icmp .ne 7, 3) := by decide +kernel
theorem dX9_fewestBehind_60 : decode cX9_fewestBehind 60 = .ok (.iconst 0, 1) := by decide +kernel
theorem dX9_fewestBehind_61 : decode cX9_fewestBehind 61 = .ok (.goto 4, 3) := by decide +kernel
theorem dX9_fewestBehind_64 : decode cX9_fewestBehind 64 = .ok (.iconst 1, 1) := by decide +kernel
theorem dX9_fewestBehind_65 : decode cX9_fewestBehind 65 = .ok (.iadd, 1) := by decide +kernel
theorem dX9_fewestBehind_66 : decode cX9_fewestBehind 66 = .ok (.goto 5, 3) := by decide +kernel
theorem dX9_fewestBehind_69 : decode cX9_fewestBehind 69 = .ok (.bipush 24, 2) := by decide +kernel
theorem dX9_fewestBehind_71 : decode cX9_fewestBehind 71 = .ok (.istore 6, 2) := by decide +kernel
theorem dX9_fewestBehind_73 : decode cX9_fewestBehind 73 = .ok (.iload 6, 2) := by decide +kernel
theorem dX9_fewestBehind_75 : decode cX9_fewestBehind 75 = .ok (.iload 4, 2) := by decide +kernel
theorem dX9_fewestBehind_77 : decode cX9_fewestBehind 77 = .ok (.if_icmp .ge 8, 3) := by decide +kernel
theorem dX9_fewestBehind_80 : decode cX9_fewestBehind 80 = .ok (.iload 6, 2) := by decide +kernel
theorem dX9_fewestBehind_82 : decode cX9_fewestBehind 82 = .ok (.goto 5, 3) := by decide +kernel
theorem dX9_fewestBehind_85 : decode cX9_fewestBehind 85 = .ok (.iload 4, 2) := by decide +kernel
theorem dX9_fewestBehind_87 : decode cX9_fewestBehind 87 = .ok (.istore 4, 2) := by decide +kernel
theorem dX9_fewestBehind_89 : decode cX9_fewestBehind 89 = .ok (.iinc 5 1, 3) := by decide +kernel
theorem dX9_fewestBehind_92 : decode cX9_fewestBehind 92 = .ok (.goto (-73), 3) := by decide +kernel
theorem dX9_fewestBehind_95 : decode cX9_fewestBehind 95 = .ok (.iload 4, 2) := by decide +kernel
theorem dX9_fewestBehind_97 : decode cX9_fewestBehind 97 = .ok (.ireturn, 1) := by decide +kernel
set_option maxRecDepth 20000 in
theorem ggX9_fewestBehind_X9_canSet : GoodIn wsX9_fewestBehind wsX9_canSet := goodIn_4 _ (List.forall_mem_cons.mpr ⟨List.mem_cons_of_mem _ (List.mem_append_left _ (List.mem_of_getElem? (i := 7) rfl)), List.forall_mem_append.mpr ⟨List.forall_mem_cons.mpr ⟨List.mem_cons_of_mem _ (List.mem_append_left _ (List.mem_of_getElem? (i := 8) rfl)), List.forall_mem_cons.mpr ⟨List.mem_cons_of_mem _ (List.mem_append_left _ (List.mem_of_getElem? (i := 9) rfl)), List.forall_mem_cons.mpr ⟨List.mem_cons_of_mem _ (List.mem_append_left _ (List.mem_of_getElem? (i := 10) rfl)), List.forall_mem_cons.mpr ⟨List.mem_cons_of_mem _ (List.mem_append_left _ (List.mem_of_getElem? (i := 6) rfl)), List.forall_mem_cons.mpr ⟨List.mem_cons_of_mem _ (List.mem_append_left _ (List.mem_of_getElem? (i := 11) rfl)), fun _ h9 => absurd h9 List.not_mem_nil⟩⟩⟩⟩⟩, fun w h9 => List.mem_cons_of_mem _ (List.mem_append_right _ (h9))⟩⟩) (by decide +kernel)
set_option maxRecDepth 20000 in
theorem gX9_fewestBehind_X9_canSet : GoodIn wsX9_fewestBehind (wsV RX9 144 RX9 yX9_canSet wsX9_canSet) := goodIn_app (goodIn_4 _ (List.forall_mem_cons.mpr ⟨List.mem_cons_of_mem _ (List.mem_append_left _ (List.mem_of_getElem? (i := 3) rfl)), List.forall_mem_cons.mpr ⟨List.mem_cons_of_mem _ (List.mem_append_left _ (List.mem_of_getElem? (i := 4) rfl)), List.forall_mem_cons.mpr ⟨List.mem_cons_of_mem _ (List.mem_append_left _ (List.mem_of_getElem? (i := 5) rfl)), List.forall_mem_cons.mpr ⟨List.mem_cons_of_mem _ (List.mem_append_left _ (List.mem_of_getElem? (i := 6) rfl)), fun _ h9 => absurd h9 List.not_mem_nil⟩⟩⟩⟩) (by decide +kernel)) ggX9_fewestBehind_X9_canSet
set_option maxRecDepth 20000 in
theorem mw_X9_fewestBehind_0 : (.fieldLink RX9 138 "FontRunsModel" "clusters" "I" : Cond) ∈ wsX9_fewestBehind := List.mem_cons_of_mem _ (List.mem_append_left _ (List.mem_of_getElem? (i := 0) rfl))
set_option maxRecDepth 20000 in
theorem mw_X9_fewestBehind_1 : (.fieldLink RX9 74 "FontRunsModel" "fonts" "I" : Cond) ∈ wsX9_fewestBehind := List.mem_cons_of_mem _ (List.mem_append_left _ (List.mem_of_getElem? (i := 1) rfl))
set_option maxRecDepth 20000 in
theorem mw_X9_fewestBehind_2 : (.fieldLink RX9 52 "FontRunsModel" "changes" "[I" : Cond) ∈ wsX9_fewestBehind := List.mem_cons_of_mem _ (List.mem_append_left _ (List.mem_of_getElem? (i := 2) rfl))
theorem ax_X9_fewestBehind_0 {e0 e1 e2 : Nat × va_E} : ([0, 1] : List Nat).map (fun i => ([e0, e1, e2] : va_W)[i]?) = ([e0, e1] : va_W).map some := rfl
set_option maxHeartbeats 4000000 in
set_option maxRecDepth 100000 in
theorem c_X9_fewestBehind (l : Launch) (D : va_G) (sz : Nat) (kc : Int) (kf : Int) (wo : Int) (h0 : Nat) (fa : Int) (tc : Int) (so : Nat) (sl : Nat) (ce : Nat) (fn : Int) (kd : Nat) (wd : Nat) (hs : Nat) (pf : Nat) (lt : Nat) (mn : Int) (wg : Nat) (ta : Int) (ck : Int64) (at9 : Int) (rfn : Int) (rk : Nat) (rw : Nat) (rh : Nat) (cl : Int) (sa : Nat) (fi : Nat) (bo : Int) (ch : Nat) (cn : Nat) (ad : Int) (ru : Int) (kp : Nat) (dn : Int) (rfa : Nat) (c_fi : ClassId) (f_fi : Nat → Int32) (c_ch : ClassId) (f_ch : Nat → Int32) (q0 : 0 ≤ kc ∧ kc + 1 ≤ cl) (q1 : 0 ≤ kf ∧ kf < fn) (q2 : rg wo) (q3 : 0 ≤ cl ∧ cl ≤ 24) (q4 : 0 ≤ fn ∧ fn ≤ 4) (q5 : kDp f_ch f_fi fn cl wo (kc + 1)) : Met l yX9_fewestBehind wsX9_fewestBehind ({ frames := 2, cells := 0, slots := 0, locals := 44 }) (kPre [.ref h0, .int (zI kc), .int (zI kf), .int (zI wo)] D [(h0, .inr (9, [.int (zI fa), .int (zI tc), .ref so, .ref sl, .ref ce, .int (zI fn), .ref kd, .ref wd, .ref hs, .ref pf, .ref lt, .int (zI mn), .ref wg, .int (zI ta), .long ck, .int (zI at9), .int (zI rfn), .ref rk, .ref rw, .ref rh, .int (zI cl), .ref sa, .ref fi, .int (zI bo), .ref ch, .ref cn, .int (zI ad), .int (zI ru), .ref kp, .int (zI dn), .ref rfa])), (fi, .inl (c_fi, 24, .inl f_fi)), (ch, .inl (c_ch, 96, .inl f_ch))] [(c_fi, .int), (c_ch, .int)] sz) (QcP (fun rz => (kc + 1 = cl → rz = 0) ∧ (kc + 1 < cl → kFewI f_ch f_fi wo kc kf fn rz) ∧ (0 ≤ rz ∧ rz ≤ 24))) 0 0 (fun _ => False) := by
  refine Met.ofW (cc := cX9_fewestBehind) (maxL := 7) (ret := (some .int)) (by decide) rfl ?_
  intro p e s m args below meth c s₁ B hml hv
  obtain ⟨rfl, hsz, hP, hK, hD0, hN⟩ := hv
  have hx := B.exec
  have hb := B.bytes
  have hr := B.returns
  have hts := atoms_spec (ws := wsX9_fewestBehind) B.pre
  have hown : s.vm.findClass RX9 = some m.cls := findClass_of_methodNamed B.named
  have hlocks := B.notSynchronized
  subst hsz
  have hD := hD0
  have hP : va_P D vwCl [(h0, .inr (9, [.int (zI fa), .int (zI tc), .ref so, .ref sl, .ref ce, .int (zI fn), .ref kd, .ref wd, .ref hs, .ref pf, .ref lt, .int (zI mn), .ref wg, .int (zI ta), .long ck, .int (zI at9), .int (zI rfn), .ref rk, .ref rw, .ref rh, .int (zI cl), .ref sa, .ref fi, .int (zI bo), .ref ch, .ref cn, .int (zI ad), .int (zI ru), .ref kp, .int (zI dn), .ref rfa])), (fi, .inl (c_fi, 24, .inl f_fi)), (ch, .inl (c_ch, 96, .inl f_ch))] s.heap := hP
  have hl := lv_entry ([.ref h0, .int (zI kc), .int (zI kf), .int (zI wo)]) (n := 7) (Nat.le_of_ble_eq_true rfl)
  rw [lg_entry_eq]
  generalize (lg_sl ([.ref h0, .int (zI kc), .int (zI kf), .int (zI wo)]) ++ List.replicate (7 - (lg_sl ([.ref h0, .int (zI kc), .int (zI kf), .int (zI wo)])).length) Slot.unset).toArray = ls at hl ⊢
  have hl : lv_has ls 7 [(0, .ref h0), (1, .int (zI kc)), (2, .int (zI kf)), (3, .int (zI wo))] := hl
  refine lv_iload_n hx hb dX9_fewestBehind_0 rfl (lv_at hl 1 rfl) ?_
  refine lv_iconst (v := zI 1) hx hb dX9_fewestBehind_1 rfl ?_
  refine kz_iadd hx hb dX9_fewestBehind_2 ?_
  refine lv_aload_n hx hb dX9_fewestBehind_3 rfl (lv_at hl 0 rfl) ?_
  refine va_get (D := D) (ci := 9) (v := .int (zI cl)) (C := RX9) (T := TX9) (N := 31) hx hb hts (fun _ h9 => List.mem_cons_of_mem _ (List.mem_append_right _ h9)) hown hK hP 0 rfl rfl 20 (by decide) (hts (.fieldLink RX9 138 "FontRunsModel" "clusters" "I") mw_X9_fewestBehind_0) (fun _ h9 => h9) rfl dX9_fewestBehind_4 ?_
  refine kz_icmp_ne (tgt := 12) hx hb dX9_fewestBehind_7 (by decide) (by omega) (by omega) (fun c_1 => ?_) (fun c_1 => ?_)
  · refine lv_bipush (v := zI 24) hx hb dX9_fewestBehind_12 (by decide) ?_
    refine lv_istore (lv' := [(4, .int (zI 24)), (0, .ref h0), (1, .int (zI kc)), (2, .int (zI kf)), (3, .int (zI wo))]) hx hb dX9_fewestBehind_14 hl (by decide) rfl (fun ls hl => ?_)
    refine lv_iconst (v := zI 0) hx hb dX9_fewestBehind_16 rfl ?_
    refine lv_istore (lv' := [(5, .int (zI 0)), (4, .int (zI 24)), (0, .ref h0), (1, .int (zI kc)), (2, .int (zI kf)), (3, .int (zI wo))]) hx hb dX9_fewestBehind_17 hl (by decide) rfl (fun ls hl => ?_)
    refine k_loopM (I := fun n9 H locs ls => ∃ (jb : Int) (jg : Int), n9 = (fn - jg).toNat ∧ (0 ≤ jg ∧ jg ≤ fn) ∧ (kFewI f_ch f_fi wo kc kf jg jb) ∧ H = s.heap ∧ locs = [] ∧ lv_has ls 7 [(5, .int (zI jg)), (4, .int (zI jb)), (0, .ref h0), (1, .int (zI kc)), (2, .int (zI kf)), (3, .int (zI wo))]) ?_ _ ⟨24, 0, rfl, (by omega), kFewI_0, rfl, rfl, hl⟩
    intro n19 ih19 H locs ls hI
    obtain ⟨jb, jg, en19, v_190, v_191, eH, eL, hl⟩ := hI
    subst eH
    subst eL
    have b2 := kFewI_b v_191
    refine lv_iload hx hb dX9_fewestBehind_19 (lv_at hl 0 rfl) ?_
    refine lv_aload_n hx hb dX9_fewestBehind_21 rfl (lv_at hl 2 rfl) ?_
    refine va_get (D := D) (ci := 9) (v := .int (zI fn)) (C := RX9) (T := TX9) (N := 31) hx hb hts (fun _ h9 => List.mem_cons_of_mem _ (List.mem_append_right _ h9)) hown hK hP 0 rfl rfl 5 (by decide) (hts (.fieldLink RX9 74 "FontRunsModel" "fonts" "I") mw_X9_fewestBehind_1) (fun _ h9 => h9) rfl dX9_fewestBehind_22 ?_
    refine kz_icmp_ge (tgt := 95) hx hb dX9_fewestBehind_25 (by decide) (by omega) (by omega) (fun c_2 => ?_) (fun c_2 => ?_)
    · refine lv_iload hx hb dX9_fewestBehind_95 (lv_at hl 1 rfl) ?_
      exact W.iret (v := (zI jb)) hx hb hr (fun t ht hW => QcP_of (by omega) ⟨fun q => by omega, fun _ => (show fn = jg by omega) ▸ v_191, by omega⟩ ht) (fun _ h9 => by cases h9) dX9_fewestBehind_97
    · refine lv_aload_n hx hb dX9_fewestBehind_28 rfl (lv_at hl 2 rfl) ?_
      refine lv_iload_n hx hb dX9_fewestBehind_29 rfl (lv_at hl 3 rfl) ?_
      refine lv_iconst (v := zI 1) hx hb dX9_fewestBehind_30 rfl ?_
      refine kz_iadd hx hb dX9_fewestBehind_31 ?_
      refine lv_iload hx hb dX9_fewestBehind_32 (lv_at hl 0 rfl) ?_
      refine lv_iload_n hx hb dX9_fewestBehind_34 rfl (lv_at hl 5 rfl) ?_
      refine k_callR (va_runV (As := [.int (zI (kc + 1)), .int (zI jg), .int (zI wo)]) (rest := []) ⟨hx, hb, hml, hown, hts⟩ (c_X9_canSet l D s.heap.size (kc := (kc + 1)) (f := jg) (wo := wo) (h0 := h0) (fa := fa) (tc := tc) (so := so) (sl := sl) (ce := ce) (fn := fn) (kd := kd) (wd := wd) (hs := hs) (pf := pf) (lt := lt) (mn := mn) (wg := wg) (ta := ta) (ck := ck) (at9 := at9) (rfn := rfn) (rk := rk) (rw := rw) (rh := rh) (cl := cl) (sa := sa) (fi := fi) (bo := bo) (ch := ch) (cn := cn) (ad := ad) (ru := ru) (kp := kp) (dn := dn) (rfa := rfa) (c_fi := c_fi) (f_fi := f_fi) (by omega) (by omega) q2) (cwV 3 hts gX9_fewestBehind_X9_canSet rfl rfl rfl (by decide +kernel) ⟨Nat.le_of_ble_eq_true rfl, Nat.le_of_ble_eq_true rfl⟩) (kPreV hP (kD0 hD) hK hN [0, 1] [0] ax_X9_fewestBehind_0 rfl (by decide +kernel) 0 9 rfl rfl) rfl rfl hl.1 rfl (lv_room (Nat.le_of_ble_eq_true rfl)) dX9_fewestBehind_35 ⟨Nat.le_of_ble_eq_true rfl, Nat.le_of_ble_eq_true rfl⟩) ?_
      refine lv_if_eq (tgt := 69) hx hb dX9_fewestBehind_38 (by decide) (fun c_3 => ?_) (fun c_3 => ?_)
      · have c_3 : ¬ (kCan (f_fi (kc + 1).toNat) jg wo) := b01f c_3
        refine lv_bipush (v := zI 24) hx hb dX9_fewestBehind_69 (by decide) ?_
        refine lv_istore (lv' := [(6, .int (zI 24)), (5, .int (zI jg)), (4, .int (zI jb)), (0, .ref h0), (1, .int (zI kc)), (2, .int (zI kf)), (3, .int (zI wo))]) hx hb dX9_fewestBehind_71 hl (by decide) rfl (fun ls hl => ?_)
        refine lv_iload hx hb dX9_fewestBehind_73 (lv_at hl 0 rfl) ?_
        refine lv_iload hx hb dX9_fewestBehind_75 (lv_at hl 2 rfl) ?_
        refine kz_icmp_ge (tgt := 85) hx hb dX9_fewestBehind_77 (by decide) (by omega) (by omega) (fun c_4 => ?_) (fun c_4 => ?_)
        · refine lv_iload hx hb dX9_fewestBehind_85 (lv_at hl 2 rfl) ?_
          refine lv_istore (lv' := [(4, .int (zI jb)), (6, .int (zI 24)), (5, .int (zI jg)), (0, .ref h0), (1, .int (zI kc)), (2, .int (zI kf)), (3, .int (zI wo))]) hx hb dX9_fewestBehind_87 hl (by decide) rfl (fun ls hl => ?_)
          refine lv_iinc (v := (zI (jg + 1))) (lv' := [(5, .int (zI (jg + 1))), (4, .int (zI jb)), (6, .int (zI 24)), (0, .ref h0), (1, .int (zI kc)), (2, .int (zI kf)), (3, .int (zI wo))]) hx hb dX9_fewestBehind_89 hl (k := 2) rfl (kz_inc _ 1) (by decide) rfl (fun ls hl => ?_)
          refine lv_goto (tgt := 19) hx hb dX9_fewestBehind_92 (by decide) ?_
          exact ih19 _ (by omega) _ _ _ ⟨jb, (jg + 1), rfl, (by omega), (kFewI_no v_191 c_3), rfl, rfl, lv_sub hl [0, 1, 3, 4, 5, 6] rfl⟩
        · omega
      · have c_3 : kCan (f_fi (kc + 1).toNat) jg wo := b01t c_3
        refine lv_aload_n hx hb dX9_fewestBehind_41 rfl (lv_at hl 2 rfl) ?_
        refine va_get (D := D) (ci := 9) (v := .ref ch) (C := RX9) (T := TX9) (N := 31) hx hb hts (fun _ h9 => List.mem_cons_of_mem _ (List.mem_append_right _ h9)) hown hK hP 0 rfl rfl 24 (by decide) (hts (.fieldLink RX9 52 "FontRunsModel" "changes" "[I") mw_X9_fewestBehind_2) (fun _ h9 => h9) rfl dX9_fewestBehind_42 ?_
        refine lv_iconst (v := zI 4) hx hb dX9_fewestBehind_45 rfl ?_
        refine lv_iload_n hx hb dX9_fewestBehind_46 rfl (lv_at hl 3 rfl) ?_
        refine lv_iconst (v := zI 1) hx hb dX9_fewestBehind_47 rfl ?_
        refine kz_iadd hx hb dX9_fewestBehind_48 ?_
        refine kz_imul hx hb dX9_fewestBehind_49 ?_
        refine lv_iload hx hb dX9_fewestBehind_50 (lv_at hl 0 rfl) ?_
        refine kz_iadd hx hb dX9_fewestBehind_52 ?_
        refine kz_iald hx hb hK hP 2 1 rfl rfl (by omega) dX9_fewestBehind_53 (fun z_5 rz_5 ez_5 => ?_)
        have gz_5 := q5 (kc + 1) jg (by omega) (by omega) (by omega) (by omega)
        have az_5 := kch_at (c := kc + 1) (f := jg) rz_5 ez_5
        have bz_5 : 0 ≤ z_5 ∧ z_5 ≤ 24 := by have u1 := gz_5.1; have u2 := gz_5.2.1; rw [az_5] at u1 u2; exact ⟨u1, u2⟩
        refine lv_iload hx hb dX9_fewestBehind_54 (lv_at hl 0 rfl) ?_
        refine lv_iload_n hx hb dX9_fewestBehind_56 rfl (lv_at hl 4 rfl) ?_
        refine kz_icmp_ne (tgt := 64) hx hb dX9_fewestBehind_57 (by decide) (by omega) (by omega) (fun c_6 => ?_) (fun c_6 => ?_)
        · refine lv_iconst (v := zI 1) hx hb dX9_fewestBehind_64 rfl ?_
          refine kz_iadd hx hb dX9_fewestBehind_65 ?_
          refine lv_goto (tgt := 71) hx hb dX9_fewestBehind_66 (by decide) ?_
          refine lv_istore (lv' := [(6, .int (zI (z_5 + 1))), (5, .int (zI jg)), (4, .int (zI jb)), (0, .ref h0), (1, .int (zI kc)), (2, .int (zI kf)), (3, .int (zI wo))]) hx hb dX9_fewestBehind_71 hl (by decide) rfl (fun ls hl => ?_)
          refine lv_iload hx hb dX9_fewestBehind_73 (lv_at hl 0 rfl) ?_
          refine lv_iload hx hb dX9_fewestBehind_75 (lv_at hl 2 rfl) ?_
          refine kz_icmp_ge (tgt := 85) hx hb dX9_fewestBehind_77 (by decide) (by omega) (by omega) (fun c_7 => ?_) (fun c_7 => ?_)
          · refine lv_iload hx hb dX9_fewestBehind_85 (lv_at hl 2 rfl) ?_
            refine lv_istore (lv' := [(4, .int (zI jb)), (6, .int (zI (z_5 + 1))), (5, .int (zI jg)), (0, .ref h0), (1, .int (zI kc)), (2, .int (zI kf)), (3, .int (zI wo))]) hx hb dX9_fewestBehind_87 hl (by decide) rfl (fun ls hl => ?_)
            refine lv_iinc (v := (zI (jg + 1))) (lv' := [(5, .int (zI (jg + 1))), (4, .int (zI jb)), (6, .int (zI (z_5 + 1))), (0, .ref h0), (1, .int (zI kc)), (2, .int (zI kf)), (3, .int (zI wo))]) hx hb dX9_fewestBehind_89 hl (k := 2) rfl (kz_inc _ 1) (by decide) rfl (fun ls hl => ?_)
            refine lv_goto (tgt := 19) hx hb dX9_fewestBehind_92 (by decide) ?_
            exact ih19 _ (by omega) _ _ _ ⟨jb, (jg + 1), rfl, (by omega), (kFewI_ge (v := z_5 + 1) v_191 (by rw [az_5]; unfold kdl; split <;> omega) (by omega)), rfl, rfl, lv_sub hl [0, 1, 3, 4, 5, 6] rfl⟩
          · refine lv_iload hx hb dX9_fewestBehind_80 (lv_at hl 0 rfl) ?_
            refine lv_goto (tgt := 87) hx hb dX9_fewestBehind_82 (by decide) ?_
            refine lv_istore (lv' := [(4, .int (zI (z_5 + 1))), (6, .int (zI (z_5 + 1))), (5, .int (zI jg)), (0, .ref h0), (1, .int (zI kc)), (2, .int (zI kf)), (3, .int (zI wo))]) hx hb dX9_fewestBehind_87 hl (by decide) rfl (fun ls hl => ?_)
            refine lv_iinc (v := (zI (jg + 1))) (lv' := [(5, .int (zI (jg + 1))), (4, .int (zI (z_5 + 1))), (6, .int (zI (z_5 + 1))), (0, .ref h0), (1, .int (zI kc)), (2, .int (zI kf)), (3, .int (zI wo))]) hx hb dX9_fewestBehind_89 hl (k := 2) rfl (kz_inc _ 1) (by decide) rfl (fun ls hl => ?_)
            refine lv_goto (tgt := 19) hx hb dX9_fewestBehind_92 (by decide) ?_
            exact ih19 _ (by omega) _ _ _ ⟨(z_5 + 1), (jg + 1), rfl, (by omega), (kFewI_lt v_191 (by omega) c_3 (by omega) (by rw [az_5]; unfold kdl; split <;> omega) (by omega)), rfl, rfl, lv_sub hl [0, 1, 3, 4, 5, 6] rfl⟩
        · refine lv_iconst (v := zI 0) hx hb dX9_fewestBehind_60 rfl ?_
          refine lv_goto (tgt := 65) hx hb dX9_fewestBehind_61 (by decide) ?_
          refine kz_iadd hx hb dX9_fewestBehind_65 ?_
          refine lv_goto (tgt := 71) hx hb dX9_fewestBehind_66 (by decide) ?_
          refine lv_istore (lv' := [(6, .int (zI (z_5 + 0))), (5, .int (zI jg)), (4, .int (zI jb)), (0, .ref h0), (1, .int (zI kc)), (2, .int (zI kf)), (3, .int (zI wo))]) hx hb dX9_fewestBehind_71 hl (by decide) rfl (fun ls hl => ?_)
          refine lv_iload hx hb dX9_fewestBehind_73 (lv_at hl 0 rfl) ?_
          refine lv_iload hx hb dX9_fewestBehind_75 (lv_at hl 2 rfl) ?_
          refine kz_icmp_ge (tgt := 85) hx hb dX9_fewestBehind_77 (by decide) (by omega) (by omega) (fun c_8 => ?_) (fun c_8 => ?_)
          · refine lv_iload hx hb dX9_fewestBehind_85 (lv_at hl 2 rfl) ?_
            refine lv_istore (lv' := [(4, .int (zI jb)), (6, .int (zI (z_5 + 0))), (5, .int (zI jg)), (0, .ref h0), (1, .int (zI kc)), (2, .int (zI kf)), (3, .int (zI wo))]) hx hb dX9_fewestBehind_87 hl (by decide) rfl (fun ls hl => ?_)
            refine lv_iinc (v := (zI (jg + 1))) (lv' := [(5, .int (zI (jg + 1))), (4, .int (zI jb)), (6, .int (zI (z_5 + 0))), (0, .ref h0), (1, .int (zI kc)), (2, .int (zI kf)), (3, .int (zI wo))]) hx hb dX9_fewestBehind_89 hl (k := 2) rfl (kz_inc _ 1) (by decide) rfl (fun ls hl => ?_)
            refine lv_goto (tgt := 19) hx hb dX9_fewestBehind_92 (by decide) ?_
            exact ih19 _ (by omega) _ _ _ ⟨jb, (jg + 1), rfl, (by omega), (kFewI_ge (v := z_5 + 0) v_191 (by rw [az_5]; unfold kdl; split <;> omega) (by omega)), rfl, rfl, lv_sub hl [0, 1, 3, 4, 5, 6] rfl⟩
          · refine lv_iload hx hb dX9_fewestBehind_80 (lv_at hl 0 rfl) ?_
            refine lv_goto (tgt := 87) hx hb dX9_fewestBehind_82 (by decide) ?_
            refine lv_istore (lv' := [(4, .int (zI (z_5 + 0))), (6, .int (zI (z_5 + 0))), (5, .int (zI jg)), (0, .ref h0), (1, .int (zI kc)), (2, .int (zI kf)), (3, .int (zI wo))]) hx hb dX9_fewestBehind_87 hl (by decide) rfl (fun ls hl => ?_)
            refine lv_iinc (v := (zI (jg + 1))) (lv' := [(5, .int (zI (jg + 1))), (4, .int (zI (z_5 + 0))), (6, .int (zI (z_5 + 0))), (0, .ref h0), (1, .int (zI kc)), (2, .int (zI kf)), (3, .int (zI wo))]) hx hb dX9_fewestBehind_89 hl (k := 2) rfl (kz_inc _ 1) (by decide) rfl (fun ls hl => ?_)
            refine lv_goto (tgt := 19) hx hb dX9_fewestBehind_92 (by decide) ?_
            exact ih19 _ (by omega) _ _ _ ⟨(z_5 + 0), (jg + 1), rfl, (by omega), (kFewI_lt v_191 (by omega) c_3 (by omega) (by rw [az_5]; unfold kdl; split <;> omega) (by omega)), rfl, rfl, lv_sub hl [0, 1, 3, 4, 5, 6] rfl⟩
  · refine lv_iconst (v := zI 0) hx hb dX9_fewestBehind_10 rfl ?_
    exact W.iret (v := (zI 0)) hx hb hr (fun t ht hW => QcP_of (by omega) ⟨fun _ => rfl, fun q => by omega, by omega⟩ ht) (fun _ h9 => by cases h9) dX9_fewestBehind_11
