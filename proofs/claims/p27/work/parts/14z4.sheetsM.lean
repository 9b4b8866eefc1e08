set_option maxRecDepth 20000 in
theorem mw_X9_fails_w_0 : (.fieldLink RX9 64 "FontRunsModel" "fault" "I" : Cond) ∈ wsX9_fails := List.mem_cons_of_mem _ (List.mem_append_left _ (List.mem_of_getElem? (i := 0) rfl))
theorem ax_X9_fails_w_0 {e0 : Nat × va_E} : ([0] : List Nat).map (fun i => ([e0] : va_W)[i]?) = ([e0] : va_W).map some := rfl
set_option maxHeartbeats 4000000 in
set_option maxRecDepth 100000 in
theorem c_X9_fails_w (l : Launch) (D : va_G) (sz : Nat) (f : Int) (h0 : Nat) (fa : Int) (tc : Int) (so : Nat) (sl : Nat) (ce : Nat) (fn : Int) (kd : Nat) (wd : Nat) (hs : Nat) (pf : Nat) (lt : Nat) (mn : Int) (wg : Nat) (ta : Int) (ck : Int64) (at9 : Int) (rfn : Int) (rk : Nat) (rw : Nat) (rh : Nat) (cl : Int) (sa : Nat) (fi : Nat) (bo : Int) (ch : Nat) (cn : Nat) (ad : Int) (ru : Int) (kp : Nat) (dn : Int) (rfa : Nat) (q0 : 0 ≤ f ∧ f ≤ 4) (q1 : rg fa) : Met l yX9_fails wsX9_fails ({ frames := 0, cells := 0, slots := 0, locals := 0 }) (kPre [.ref h0, .int (zI f)] D [(h0, .inr (9, [.int (zI fa), .int (zI tc), .ref so, .ref sl, .ref ce, .int (zI fn), .ref kd, .ref wd, .ref hs, .ref pf, .ref lt, .int (zI mn), .ref wg, .int (zI ta), .long ck, .int (zI at9), .int (zI rfn), .ref rk, .ref rw, .ref rh, .int (zI cl), .ref sa, .ref fi, .int (zI bo), .ref ch, .ref cn, .int (zI ad), .int (zI ru), .ref kp, .int (zI dn), .ref rfa]))] [] sz) (kQS (fun rz t => ∃ (u_fa : Int), (rg u_fa) ∧ (rz = -10 - f) ∧ (u_fa = f) ∧ va_P D vwCl [(h0, .inr (9, [.int (zI u_fa), .int (zI tc), .ref so, .ref sl, .ref ce, .int (zI fn), .ref kd, .ref wd, .ref hs, .ref pf, .ref lt, .int (zI mn), .ref wg, .int (zI ta), .long ck, .int (zI at9), .int (zI rfn), .ref rk, .ref rw, .ref rh, .int (zI cl), .ref sa, .ref fi, .int (zI bo), .ref ch, .ref cn, .int (zI ad), .int (zI ru), .ref kp, .int (zI dn), .ref rfa]))] t.heap ∧ va_D (va_A [(h0, .inr (9, [.int (zI fa), .int (zI tc), .ref so, .ref sl, .ref ce, .int (zI fn), .ref kd, .ref wd, .ref hs, .ref pf, .ref lt, .int (zI mn), .ref wg, .int (zI ta), .long ck, .int (zI at9), .int (zI rfn), .ref rk, .ref rw, .ref rh, .int (zI cl), .ref sa, .ref fi, .int (zI bo), .ref ch, .ref cn, .int (zI ad), .int (zI ru), .ref kp, .int (zI dn), .ref rfa]))] sz) [(h0, .inr (9, [.int (zI u_fa), .int (zI tc), .ref so, .ref sl, .ref ce, .int (zI fn), .ref kd, .ref wd, .ref hs, .ref pf, .ref lt, .int (zI mn), .ref wg, .int (zI ta), .long ck, .int (zI at9), .int (zI rfn), .ref rk, .ref rw, .ref rh, .int (zI cl), .ref sa, .ref fi, .int (zI bo), .ref ch, .ref cn, .int (zI ad), .int (zI ru), .ref kp, .int (zI dn), .ref rfa]))]) (va_A [(h0, .inr (9, [.int (zI fa), .int (zI tc), .ref so, .ref sl, .ref ce, .int (zI fn), .ref kd, .ref wd, .ref hs, .ref pf, .ref lt, .int (zI mn), .ref wg, .int (zI ta), .long ck, .int (zI at9), .int (zI rfn), .ref rk, .ref rw, .ref rh, .int (zI cl), .ref sa, .ref fi, .int (zI bo), .ref ch, .ref cn, .int (zI ad), .int (zI ru), .ref kp, .int (zI dn), .ref rfa]))] sz)) 0 0 (va_A [(h0, .inr (9, [.int (zI fa), .int (zI tc), .ref so, .ref sl, .ref ce, .int (zI fn), .ref kd, .ref wd, .ref hs, .ref pf, .ref lt, .int (zI mn), .ref wg, .int (zI ta), .long ck, .int (zI at9), .int (zI rfn), .ref rk, .ref rw, .ref rh, .int (zI cl), .ref sa, .ref fi, .int (zI bo), .ref ch, .ref cn, .int (zI ad), .int (zI ru), .ref kp, .int (zI dn), .ref rfa]))] sz) := by
  refine Met.ofW (cc := cX9_fails) (maxL := 2) (ret := (some .int)) (by decide) rfl ?_
  intro p e s m args below meth c s₁ B hml hv
  obtain ⟨rfl, hsz, hP, hK, hD0, hN⟩ := hv
  have hx := B.exec
  have hb := B.bytes
  have hr := B.returns
  have hts := atoms_spec (ws := wsX9_fails) B.pre
  have hown : s.vm.findClass RX9 = some m.cls := findClass_of_methodNamed B.named
  have hlocks := B.notSynchronized
  subst hsz
  have hD := hD0.self (sz := s.heap.size)
  generalize hAe : va_A [(h0, .inr (9, [.int (zI fa), .int (zI tc), .ref so, .ref sl, .ref ce, .int (zI fn), .ref kd, .ref wd, .ref hs, .ref pf, .ref lt, .int (zI mn), .ref wg, .int (zI ta), .long ck, .int (zI at9), .int (zI rfn), .ref rk, .ref rw, .ref rh, .int (zI cl), .ref sa, .ref fi, .int (zI bo), .ref ch, .ref cn, .int (zI ad), .int (zI ru), .ref kp, .int (zI dn), .ref rfa]))] s.heap.size = A at hD ⊢
  have hA : ∀ q : Nat, s.heap.size ≤ q → A q := fun q h => by rw [← hAe]; exact Or.inr h
  have hS : va_S A s.heap s.heap [] := va_S.rf
  have hP : va_P D vwCl [(h0, .inr (9, [.int (zI fa), .int (zI tc), .ref so, .ref sl, .ref ce, .int (zI fn), .ref kd, .ref wd, .ref hs, .ref pf, .ref lt, .int (zI mn), .ref wg, .int (zI ta), .long ck, .int (zI at9), .int (zI rfn), .ref rk, .ref rw, .ref rh, .int (zI cl), .ref sa, .ref fi, .int (zI bo), .ref ch, .ref cn, .int (zI ad), .int (zI ru), .ref kp, .int (zI dn), .ref rfa]))] s.heap := hP
  have hl := lv_entry ([.ref h0, .int (zI f)]) (n := 2) (Nat.le_of_ble_eq_true rfl)
  rw [lg_entry_eq]
  generalize (lg_sl ([.ref h0, .int (zI f)]) ++ List.replicate (2 - (lg_sl ([.ref h0, .int (zI f)])).length) Slot.unset).toArray = ls at hl ⊢
  have hl : lv_has ls 2 [(0, .ref h0), (1, .int (zI f))] := hl
  refine lv_aload_n hx hb dX9_fails_0 rfl (lv_at hl 0 rfl) ?_
  refine lv_iload_n hx hb dX9_fails_1 rfl (lv_at hl 1 rfl) ?_
  refine va_put (D := D) (ci := 9) (v := .int (zI f)) (ty := .int) (C := RX9) (T := TX9) (N := 31) hx hb hts (fun _ h9 => List.mem_cons_of_mem _ (List.mem_append_right _ h9)) tyX9 tyX9_ok nmX9 hown hK hP hD hS 0 rfl rfl 0 (by decide) (hts (.fieldLink RX9 64 "FontRunsModel" "fault" "I") mw_X9_fails_w_0) (fun _ h9 => h9) rfl (by decide +kernel) rfl rfl (Nat.le_of_ble_eq_true rfl) dX9_fails_2 (fun H locs hP hD hS => ?_)
  have hP : va_P D vwCl [(h0, .inr (9, [.int (zI f), .int (zI tc), .ref so, .ref sl, .ref ce, .int (zI fn), .ref kd, .ref wd, .ref hs, .ref pf, .ref lt, .int (zI mn), .ref wg, .int (zI ta), .long ck, .int (zI at9), .int (zI rfn), .ref rk, .ref rw, .ref rh, .int (zI cl), .ref sa, .ref fi, .int (zI bo), .ref ch, .ref cn, .int (zI ad), .int (zI ru), .ref kp, .int (zI dn), .ref rfa]))] H := hP
  have hD : va_D A [(h0, .inr (9, [.int (zI f), .int (zI tc), .ref so, .ref sl, .ref ce, .int (zI fn), .ref kd, .ref wd, .ref hs, .ref pf, .ref lt, .int (zI mn), .ref wg, .int (zI ta), .long ck, .int (zI at9), .int (zI rfn), .ref rk, .ref rw, .ref rh, .int (zI cl), .ref sa, .ref fi, .int (zI bo), .ref ch, .ref cn, .int (zI ad), .int (zI ru), .ref kp, .int (zI dn), .ref rfa]))] := hD
  refine lv_bipush (v := zI (-10)) hx hb dX9_fails_5 (by decide) ?_
  refine lv_iload_n hx hb dX9_fails_7 rfl (lv_at hl 1 rfl) ?_
  refine kz_isub hx hb dX9_fails_8 ?_
  have hP9 := hP.sub (ws' := [(h0, .inr (9, [.int (zI f), .int (zI tc), .ref so, .ref sl, .ref ce, .int (zI fn), .ref kd, .ref wd, .ref hs, .ref pf, .ref lt, .int (zI mn), .ref wg, .int (zI ta), .long ck, .int (zI at9), .int (zI rfn), .ref rk, .ref rw, .ref rh, .int (zI cl), .ref sa, .ref fi, .int (zI bo), .ref ch, .ref cn, .int (zI ad), .int (zI ru), .ref kp, .int (zI dn), .ref rfa]))]) [0] rfl
  have hD9 := hD.sub (ws' := [(h0, .inr (9, [.int (zI f), .int (zI tc), .ref so, .ref sl, .ref ce, .int (zI fn), .ref kd, .ref wd, .ref hs, .ref pf, .ref lt, .int (zI mn), .ref wg, .int (zI ta), .long ck, .int (zI at9), .int (zI rfn), .ref rk, .ref rw, .ref rh, .int (zI cl), .ref sa, .ref fi, .int (zI bo), .ref ch, .ref cn, .int (zI ad), .int (zI ru), .ref kp, .int (zI dn), .ref rfa]))]) [0] (by decide +kernel) rfl
  exact W.iret (v := (zI ((-10) - f))) hx hb hr (fun t ht hW => kQS_of (by omega) ⟨f, (by omega), (by omega), (by omega), by rw [ht]; exact hP9, hD9⟩ (hS.F ht)) hS.2.2 dX9_fails_9
theorem dX9_sheet_0 : decode cX9_sheet 0 = .ok (.aload_n 0, 1) := kqo_2a kbl_X9_sheet (pc := 0) rfl
theorem dX9_sheet_1 : decode cX9_sheet 1 = .ok (.iconst 0, 1) := kqo_03 kbl_X9_sheet (pc := 1) rfl
theorem dX9_sheet_2 : decode cX9_sheet 2 = .ok (.putfield 64, 3) := kqo_b5 (x1 := 0) (x2 := 64) kbl_X9_sheet (pc := 2) rfl rfl
theorem dX9_sheet_5 : decode cX9_sheet 5 = .ok (.iload_n 1, 1) := kqo_1b kbl_X9_sheet (pc := 5) rfl
theorem dX9_sheet_6 : decode cX9_sheet 6 = .ok (.invokestatic 80, 3) := kqo_b8 (x1 := 0) (x2 := 80) kbl_X9_sheet (pc := 6) rfl rfl
theorem dX9_sheet_9 : decode cX9_sheet 9 = .ok (.ifCond .ne 5, 3) := kqo_9a (x1 := 0) (x2 := 5) kbl_X9_sheet (pc := 9) rfl rfl
theorem dX9_sheet_12 : decode cX9_sheet 12 = .ok (.iconst (-1), 1) := kqo_02 kbl_X9_sheet (pc := 12) rfl
theorem dX9_sheet_13 : decode cX9_sheet 13 = .ok (.ireturn, 1) := kqo_ac kbl_X9_sheet (pc := 13) rfl
theorem dX9_sheet_14 : decode cX9_sheet 14 = .ok (.iload_n 2, 1) := kqo_1c kbl_X9_sheet (pc := 14) rfl
theorem dX9_sheet_15 : decode cX9_sheet 15 = .ok (.invokestatic 84, 3) := kqo_b8 (x1 := 0) (x2 := 84) kbl_X9_sheet (pc := 15) rfl rfl
theorem dX9_sheet_18 : decode cX9_sheet 18 = .ok (.ifCond .eq 9, 3) := kqo_99 (x1 := 0) (x2 := 9) kbl_X9_sheet (pc := 18) rfl rfl
theorem dX9_sheet_21 : decode cX9_sheet 21 = .ok (.iload_n 3, 1) := kqo_1d kbl_X9_sheet (pc := 21) rfl
theorem dX9_sheet_22 : decode cX9_sheet 22 = .ok (.bipush 60, 2) := kqo_10 (x1 := 60) kbl_X9_sheet (pc := 22) rfl rfl
theorem dX9_sheet_24 : decode cX9_sheet 24 = .ok (.if_icmp .le 6, 3) := kqo_a4 (x1 := 0) (x2 := 6) kbl_X9_sheet (pc := 24) rfl rfl
theorem dX9_sheet_27 : decode cX9_sheet 27 = .ok (.bipush (-2), 2) := kqo_10 (x1 := 254) kbl_X9_sheet (pc := 27) rfl rfl
theorem dX9_sheet_29 : decode cX9_sheet 29 = .ok (.ireturn, 1) := kqo_ac kbl_X9_sheet (pc := 29) rfl
theorem dX9_sheet_30 : decode cX9_sheet 30 = .ok (.iload_n 3, 1) := kqo_1d kbl_X9_sheet (pc := 30) rfl
theorem dX9_sheet_31 : decode cX9_sheet 31 = .ok (.ifCond .ge 9, 3) := kqo_9c (x1 := 0) (x2 := 9) kbl_X9_sheet (pc := 31) rfl rfl
theorem dX9_sheet_34 : decode cX9_sheet 34 = .ok (.aload_n 0, 1) := kqo_2a kbl_X9_sheet (pc := 34) rfl
theorem dX9_sheet_35 : decode cX9_sheet 35 = .ok (.iconst 4, 1) := kqo_07 kbl_X9_sheet (pc := 35) rfl
theorem dX9_sheet_36 : decode cX9_sheet 36 = .ok (.invokevirtual 91, 3) := kqo_b6 (x1 := 0) (x2 := 91) kbl_X9_sheet (pc := 36) rfl rfl
theorem dX9_sheet_39 : decode cX9_sheet 39 = .ok (.ireturn, 1) := kqo_ac kbl_X9_sheet (pc := 39) rfl
theorem dX9_sheet_40 : decode cX9_sheet 40 = .ok (.aload_n 0, 1) := kqo_2a kbl_X9_sheet (pc := 40) rfl
theorem dX9_sheet_41 : decode cX9_sheet 41 = .ok (.getfield 9, 3) := kqo_b4 (x1 := 0) (x2 := 9) kbl_X9_sheet (pc := 41) rfl rfl
theorem dX9_sheet_44 : decode cX9_sheet 44 = .ok (.iload_n 1, 1) := kqo_1b kbl_X9_sheet (pc := 44) rfl
theorem dX9_sheet_45 : decode cX9_sheet 45 = .ok (.iload_n 2, 1) := kqo_1c kbl_X9_sheet (pc := 45) rfl
theorem dX9_sheet_46 : decode cX9_sheet 46 = .ok (.iastore, 1) := kqo_4f kbl_X9_sheet (pc := 46) rfl
theorem dX9_sheet_47 : decode cX9_sheet 47 = .ok (.aload_n 0, 1) := kqo_2a kbl_X9_sheet (pc := 47) rfl
theorem dX9_sheet_48 : decode cX9_sheet 48 = .ok (.getfield 13, 3) := kqo_b4 (x1 := 0) (x2 := 13) kbl_X9_sheet (pc := 48) rfl rfl
theorem dX9_sheet_51 : decode cX9_sheet 51 = .ok (.iload_n 1, 1) := kqo_1b kbl_X9_sheet (pc := 51) rfl
theorem dX9_sheet_52 : decode cX9_sheet 52 = .ok (.iload_n 3, 1) := kqo_1d kbl_X9_sheet (pc := 52) rfl
theorem dX9_sheet_53 : decode cX9_sheet 53 = .ok (.iastore, 1) := kqo_4f kbl_X9_sheet (pc := 53) rfl
theorem dX9_sheet_54 : decode cX9_sheet 54 = .ok (.iconst 0, 1) := kqo_03 kbl_X9_sheet (pc := 54) rfl
theorem dX9_sheet_55 : decode cX9_sheet 55 = .ok (.istore 4, 2) := kqo_36 (x1 := 4) kbl_X9_sheet (pc := 55) rfl rfl
theorem dX9_sheet_57 : decode cX9_sheet 57 = .ok (.iload 4, 2) := kqo_15 (x1 := 4) kbl_X9_sheet (pc := 57) rfl rfl
theorem dX9_sheet_59 : decode cX9_sheet 59 = .ok (.bipush 60, 2) := kqo_10 (x1 := 60) kbl_X9_sheet (pc := 59) rfl rfl
theorem dX9_sheet_61 : decode cX9_sheet 61 = .ok (.if_icmp .ge 22, 3) := kqo_a2 (x1 := 0) (x2 := 22) kbl_X9_sheet (pc := 61) rfl rfl
theorem dX9_sheet_64 : decode cX9_sheet 64 = .ok (.aload_n 0, 1) := kqo_2a kbl_X9_sheet (pc := 64) rfl
theorem dX9_sheet_65 : decode cX9_sheet 65 = .ok (.getfield 16, 3) := kqo_b4 (x1 := 0) (x2 := 16) kbl_X9_sheet (pc := 65) rfl rfl
theorem dX9_sheet_68 : decode cX9_sheet 68 = .ok (.bipush 60, 2) := kqo_10 (x1 := 60) kbl_X9_sheet (pc := 68) rfl rfl
theorem dX9_sheet_70 : decode cX9_sheet 70 = .ok (.iload_n 1, 1) := kqo_1b kbl_X9_sheet (pc := 70) rfl
theorem dX9_sheet_71 : decode cX9_sheet 71 = .ok (.imul, 1) := kqo_68 kbl_X9_sheet (pc := 71) rfl
theorem dX9_sheet_72 : decode cX9_sheet 72 = .ok (.iload 4, 2) := kqo_15 (x1 := 4) kbl_X9_sheet (pc := 72) rfl rfl
theorem dX9_sheet_74 : decode cX9_sheet 74 = .ok (.iadd, 1) := kqo_60 kbl_X9_sheet (pc := 74) rfl
theorem dX9_sheet_75 : decode cX9_sheet 75 = .ok (.iconst 0, 1) := kqo_03 kbl_X9_sheet (pc := 75) rfl
theorem dX9_sheet_76 : decode cX9_sheet 76 = .ok (.iastore, 1) := kqo_4f kbl_X9_sheet (pc := 76) rfl
theorem dX9_sheet_77 : decode cX9_sheet 77 = .ok (.iinc 4 1, 3) := kqo_84 (x1 := 4) (x2 := 1) kbl_X9_sheet (pc := 77) rfl rfl
theorem dX9_sheet_80 : decode cX9_sheet 80 = .ok (.goto (-23), 3) := kqo_a7 (x1 := 255) (x2 := 233) kbl_X9_sheet (pc := 80) rfl rfl
theorem dX9_sheet_83 : decode cX9_sheet 83 = .ok (.iconst 1, 1) := kqo_04 kbl_X9_sheet (pc := 83) rfl
theorem dX9_sheet_84 : decode cX9_sheet 84 = .ok (.ireturn, 1) := kqo_ac kbl_X9_sheet (pc := 84) rfl
set_option maxRecDepth 20000 in
theorem ggX9_sheet_X9_fails : GoodIn wsX9_sheet wsX9_fails := goodIn_4 _ (List.forall_mem_cons.mpr ⟨List.mem_cons_of_mem _ (List.mem_append_left _ (List.mem_of_getElem? (i := 17) rfl)), List.forall_mem_append.mpr ⟨List.forall_mem_cons.mpr ⟨List.mem_cons_of_mem _ (List.mem_append_left _ (List.mem_of_getElem? (i := 0) rfl)), fun _ h9 => absurd h9 List.not_mem_nil⟩, fun w h9 => List.mem_cons_of_mem _ (List.mem_append_right _ (h9))⟩⟩) (by decide +kernel)
set_option maxRecDepth 20000 in
theorem gX9_sheet_X9_fails : GoodIn wsX9_sheet (wsV RX9 91 RX9 yX9_fails wsX9_fails) := goodIn_app (goodIn_4 _ (List.forall_mem_cons.mpr ⟨List.mem_cons_of_mem _ (List.mem_append_left _ (List.mem_of_getElem? (i := 14) rfl)), List.forall_mem_cons.mpr ⟨List.mem_cons_of_mem _ (List.mem_append_left _ (List.mem_of_getElem? (i := 15) rfl)), List.forall_mem_cons.mpr ⟨List.mem_cons_of_mem _ (List.mem_append_left _ (List.mem_of_getElem? (i := 16) rfl)), List.forall_mem_cons.mpr ⟨List.mem_cons_of_mem _ (List.mem_append_left _ (List.mem_of_getElem? (i := 6) rfl)), fun _ h9 => absurd h9 List.not_mem_nil⟩⟩⟩⟩) (by decide +kernel)) ggX9_sheet_X9_fails
set_option maxRecDepth 20000 in
theorem ggX9_sheet_X9_isSheet : GoodIn wsX9_sheet wsX9_isSheet := goodIn_4 _ (List.forall_mem_cons.mpr ⟨List.mem_cons_of_mem _ (List.mem_append_left _ (List.mem_of_getElem? (i := 7) rfl)), List.forall_mem_cons.mpr ⟨List.mem_cons_of_mem _ (List.mem_append_left _ (List.mem_of_getElem? (i := 8) rfl)), List.forall_mem_cons.mpr ⟨List.mem_cons_of_mem _ (List.mem_append_left _ (List.mem_of_getElem? (i := 9) rfl)), List.forall_mem_cons.mpr ⟨List.mem_cons_of_mem _ (List.mem_append_left _ (List.mem_of_getElem? (i := 6) rfl)), List.forall_mem_cons.mpr ⟨List.mem_cons_of_mem _ (List.mem_append_left _ (List.mem_of_getElem? (i := 10) rfl)), fun _ h9 => absurd h9 List.not_mem_nil⟩⟩⟩⟩⟩) (by decide +kernel)
set_option maxRecDepth 20000 in
theorem gX9_sheet_X9_isSheet : GoodIn wsX9_sheet (va_wsS RX9 80 yX9_isSheet wsX9_isSheet) := goodIn_app (goodIn_4 _ (List.forall_mem_cons.mpr ⟨List.mem_cons_of_mem _ (List.mem_append_left _ (List.mem_of_getElem? (i := 4) rfl)), List.forall_mem_cons.mpr ⟨List.mem_cons_of_mem _ (List.mem_append_left _ (List.mem_of_getElem? (i := 5) rfl)), List.forall_mem_cons.mpr ⟨List.mem_cons_of_mem _ (List.mem_append_left _ (List.mem_of_getElem? (i := 6) rfl)), fun _ h9 => absurd h9 List.not_mem_nil⟩⟩⟩) (by decide +kernel)) ggX9_sheet_X9_isSheet
set_option maxRecDepth 20000 in
theorem ggX9_sheet_X9_isSort : GoodIn wsX9_sheet wsX9_isSort := goodIn_4 _ (List.forall_mem_cons.mpr ⟨List.mem_cons_of_mem _ (List.mem_append_left _ (List.mem_of_getElem? (i := 13) rfl)), List.forall_mem_cons.mpr ⟨List.mem_cons_of_mem _ (List.mem_append_left _ (List.mem_of_getElem? (i := 8) rfl)), List.forall_mem_cons.mpr ⟨List.mem_cons_of_mem _ (List.mem_append_left _ (List.mem_of_getElem? (i := 9) rfl)), List.forall_mem_cons.mpr ⟨List.mem_cons_of_mem _ (List.mem_append_left _ (List.mem_of_getElem? (i := 6) rfl)), List.forall_mem_cons.mpr ⟨List.mem_cons_of_mem _ (List.mem_append_left _ (List.mem_of_getElem? (i := 10) rfl)), fun _ h9 => absurd h9 List.not_mem_nil⟩⟩⟩⟩⟩) (by decide +kernel)
set_option maxRecDepth 20000 in
theorem gX9_sheet_X9_isSort : GoodIn wsX9_sheet (va_wsS RX9 84 yX9_isSort wsX9_isSort) := goodIn_app (goodIn_4 _ (List.forall_mem_cons.mpr ⟨List.mem_cons_of_mem _ (List.mem_append_left _ (List.mem_of_getElem? (i := 11) rfl)), List.forall_mem_cons.mpr ⟨List.mem_cons_of_mem _ (List.mem_append_left _ (List.mem_of_getElem? (i := 12) rfl)), List.forall_mem_cons.mpr ⟨List.mem_cons_of_mem _ (List.mem_append_left _ (List.mem_of_getElem? (i := 6) rfl)), fun _ h9 => absurd h9 List.not_mem_nil⟩⟩⟩) (by decide +kernel)) ggX9_sheet_X9_isSort
set_option maxRecDepth 20000 in
theorem mw_X9_sheet_0 : (.fieldLink RX9 64 "FontRunsModel" "fault" "I" : Cond) ∈ wsX9_sheet := List.mem_cons_of_mem _ (List.mem_append_left _ (List.mem_of_getElem? (i := 0) rfl))
set_option maxRecDepth 20000 in
theorem mw_X9_sheet_1 : (.fieldLink RX9 9 "FontRunsModel" "sorts" "[I" : Cond) ∈ wsX9_sheet := List.mem_cons_of_mem _ (List.mem_append_left _ (List.mem_of_getElem? (i := 1) rfl))
set_option maxRecDepth 20000 in
theorem mw_X9_sheet_2 : (.fieldLink RX9 13 "FontRunsModel" "sheetLong" "[I" : Cond) ∈ wsX9_sheet := List.mem_cons_of_mem _ (List.mem_append_left _ (List.mem_of_getElem? (i := 2) rfl))
set_option maxRecDepth 20000 in
theorem mw_X9_sheet_3 : (.fieldLink RX9 16 "FontRunsModel" "cells" "[I" : Cond) ∈ wsX9_sheet := List.mem_cons_of_mem _ (List.mem_append_left _ (List.mem_of_getElem? (i := 3) rfl))
theorem ax_X9_sheet_0 {e0 e1 e2 e3 : Nat × va_E} : ([] : List Nat).map (fun i => ([e0, e1, e2, e3] : va_W)[i]?) = ([] : va_W).map some := rfl
theorem ax_X9_sheet_1 {e0 e1 e2 e3 : Nat × va_E} : ([0, 1, 2, 3] : List Nat).map (fun i => ([e0, e1, e2, e3] : va_W)[i]?) = ([e0, e1, e2, e3] : va_W).map some := rfl
theorem ax_X9_sheet_2 {e0 e1 e2 e3 : Nat × va_E} : ([0] : List Nat).map (fun i => ([e0, e1, e2, e3] : va_W)[i]?) = ([e0] : va_W).map some := rfl
theorem ax_X9_sheet_3 {e0 e1 e2 e3 : Nat × va_E} : ([1, 2, 3] : List Nat).map (fun i => ([e0, e1, e2, e3] : va_W)[i]?) = ([e1, e2, e3] : va_W).map some := rfl
theorem ax_X9_sheet_4 {D : va_G} {cl : List vw_C} {H : Heap} {e0 e1 e2 f0 : Nat × va_E} (h : va_P D cl ((([e0, e1, e2] : va_W) ++ ([f0] : va_W))) H) : va_P D cl (([e0, e1, e2, f0] : va_W)) H := h
theorem ax_X9_sheet_5 {A : Nat → Prop} {e0 e1 e2 f0 : Nat × va_E} (h : va_D A ((([e0, e1, e2] : va_W) ++ ([f0] : va_W)))) : va_D A (([e0, e1, e2, f0] : va_W)) := h
theorem ax_X9_sheet_6 {e0 e1 e2 e3 : Nat × va_E} : ([3, 0, 1, 2] : List Nat).map (fun i => ([e0, e1, e2, e3] : va_W)[i]?) = ([e3, e0, e1, e2] : va_W).map some := rfl
set_option maxHeartbeats 4000000 in
set_option maxRecDepth 100000 in
theorem c_X9_sheet (l : Launch) (D : va_G) (sz : Nat) (k : Int) (y : Int) (z : Int) (h0 : Nat) (fa : Int) (tc : Int) (so : Nat) (sl : Nat) (ce : Nat) (fn : Int) (kd : Nat) (wd : Nat) (hs : Nat) (pf : Nat) (lt : Nat) (mn : Int) (wg : Nat) (ta : Int) (ck : Int64) (at9 : Int) (rfn : Int) (rk : Nat) (rw : Nat) (rh : Nat) (cl : Int) (sa : Nat) (fi : Nat) (bo : Int) (ch : Nat) (cn : Nat) (ad : Int) (ru : Int) (kp : Nat) (dn : Int) (rfa : Nat) (c_so : ClassId) (f_so : Nat → Int32) (c_sl : ClassId) (f_sl : Nat → Int32) (c_ce : ClassId) (f_ce : Nat → Int32) (q0 : rg k) (q1 : rg y) (q2 : rg z) (q3 : rg fa) (q4 : kSL f_sl) : Met l yX9_sheet wsX9_sheet ({ frames := 2, cells := 0, slots := 0, locals := 42 }) (kPre [.ref h0, .int (zI k), .int (zI y), .int (zI z)] D [(h0, .inr (9, [.int (zI fa), .int (zI tc), .ref so, .ref sl, .ref ce, .int (zI fn), .ref kd, .ref wd, .ref hs, .ref pf, .ref lt, .int (zI mn), .ref wg, .int (zI ta), .long ck, .int (zI at9), .int (zI rfn), .ref rk, .ref rw, .ref rh, .int (zI cl), .ref sa, .ref fi, .int (zI bo), .ref ch, .ref cn, .int (zI ad), .int (zI ru), .ref kp, .int (zI dn), .ref rfa])), (so, .inl (c_so, 4, .inl f_so)), (sl, .inl (c_sl, 4, .inl f_sl)), (ce, .inl (c_ce, 240, .inl f_ce))] [(c_so, .int), (c_sl, .int), (c_ce, .int)] sz) (kQS (fun rz t => ∃ (u_fa : Int) (u_f_so : Nat → Int32) (u_f_sl : Nat → Int32) (u_f_ce : Nat → Int32), (rg u_fa) ∧ (kSL u_f_sl) ∧ ((¬ (0 ≤ k ∧ k ≤ 3) ∧ rz = -1) ∨ ((0 ≤ k ∧ k ≤ 3) ∧ (¬ (0 ≤ y ∧ y ≤ 2) ∨ 60 < z) ∧ rz = -2) ∨ ((0 ≤ k ∧ k ≤ 3) ∧ (0 ≤ y ∧ y ≤ 2) ∧ z < 0 ∧ rz = -14) ∨ ((0 ≤ k ∧ k ≤ 3) ∧ (0 ≤ y ∧ y ≤ 2) ∧ 0 ≤ z ∧ z ≤ 60 ∧ rz = 1)) ∧ (kShM k y z f_so f_sl f_ce u_f_so u_f_sl u_f_ce) ∧ ((rz = -11 ∧ u_fa = 1) ∨ (rz = -12 ∧ u_fa = 2) ∨ (rz = -13 ∧ u_fa = 3) ∨ (rz = -14 ∧ u_fa = 4) ∨ (¬ (-14 ≤ rz ∧ rz ≤ -11) ∧ u_fa = 0)) ∧ va_P D vwCl [(h0, .inr (9, [.int (zI u_fa), .int (zI tc), .ref so, .ref sl, .ref ce, .int (zI fn), .ref kd, .ref wd, .ref hs, .ref pf, .ref lt, .int (zI mn), .ref wg, .int (zI ta), .long ck, .int (zI at9), .int (zI rfn), .ref rk, .ref rw, .ref rh, .int (zI cl), .ref sa, .ref fi, .int (zI bo), .ref ch, .ref cn, .int (zI ad), .int (zI ru), .ref kp, .int (zI dn), .ref rfa])), (so, .inl (c_so, 4, .inl u_f_so)), (sl, .inl (c_sl, 4, .inl u_f_sl)), (ce, .inl (c_ce, 240, .inl u_f_ce))] t.heap ∧ va_D (va_A [(h0, .inr (9, [.int (zI fa), .int (zI tc), .ref so, .ref sl, .ref ce, .int (zI fn), .ref kd, .ref wd, .ref hs, .ref pf, .ref lt, .int (zI mn), .ref wg, .int (zI ta), .long ck, .int (zI at9), .int (zI rfn), .ref rk, .ref rw, .ref rh, .int (zI cl), .ref sa, .ref fi, .int (zI bo), .ref ch, .ref cn, .int (zI ad), .int (zI ru), .ref kp, .int (zI dn), .ref rfa])), (so, .inl (c_so, 4, .inl f_so)), (sl, .inl (c_sl, 4, .inl f_sl)), (ce, .inl (c_ce, 240, .inl f_ce))] sz) [(h0, .inr (9, [.int (zI u_fa), .int (zI tc), .ref so, .ref sl, .ref ce, .int (zI fn), .ref kd, .ref wd, .ref hs, .ref pf, .ref lt, .int (zI mn), .ref wg, .int (zI ta), .long ck, .int (zI at9), .int (zI rfn), .ref rk, .ref rw, .ref rh, .int (zI cl), .ref sa, .ref fi, .int (zI bo), .ref ch, .ref cn, .int (zI ad), .int (zI ru), .ref kp, .int (zI dn), .ref rfa])), (so, .inl (c_so, 4, .inl u_f_so)), (sl, .inl (c_sl, 4, .inl u_f_sl)), (ce, .inl (c_ce, 240, .inl u_f_ce))]) (va_A [(h0, .inr (9, [.int (zI fa), .int (zI tc), .ref so, .ref sl, .ref ce, .int (zI fn), .ref kd, .ref wd, .ref hs, .ref pf, .ref lt, .int (zI mn), .ref wg, .int (zI ta), .long ck, .int (zI at9), .int (zI rfn), .ref rk, .ref rw, .ref rh, .int (zI cl), .ref sa, .ref fi, .int (zI bo), .ref ch, .ref cn, .int (zI ad), .int (zI ru), .ref kp, .int (zI dn), .ref rfa])), (so, .inl (c_so, 4, .inl f_so)), (sl, .inl (c_sl, 4, .inl f_sl)), (ce, .inl (c_ce, 240, .inl f_ce))] sz)) 0 0 (va_A [(h0, .inr (9, [.int (zI fa), .int (zI tc), .ref so, .ref sl, .ref ce, .int (zI fn), .ref kd, .ref wd, .ref hs, .ref pf, .ref lt, .int (zI mn), .ref wg, .int (zI ta), .long ck, .int (zI at9), .int (zI rfn), .ref rk, .ref rw, .ref rh, .int (zI cl), .ref sa, .ref fi, .int (zI bo), .ref ch, .ref cn, .int (zI ad), .int (zI ru), .ref kp, .int (zI dn), .ref rfa])), (so, .inl (c_so, 4, .inl f_so)), (sl, .inl (c_sl, 4, .inl f_sl)), (ce, .inl (c_ce, 240, .inl f_ce))] sz) := by
  refine Met.ofW (cc := cX9_sheet) (maxL := 5) (ret := (some .int)) (by decide) rfl ?_
  intro p e s m args below meth c s₁ B hml hv
  obtain ⟨rfl, hsz, hP, hK, hD0, hN⟩ := hv
  have hx := B.exec
  have hb := B.bytes
  have hr := B.returns
  have hts := atoms_spec (ws := wsX9_sheet) B.pre
  have hown : s.vm.findClass RX9 = some m.cls := findClass_of_methodNamed B.named
  have hlocks := B.notSynchronized
  subst hsz
  have hD := hD0.self (sz := s.heap.size)
  generalize hAe : va_A [(h0, .inr (9, [.int (zI fa), .int (zI tc), .ref so, .ref sl, .ref ce, .int (zI fn), .ref kd, .ref wd, .ref hs, .ref pf, .ref lt, .int (zI mn), .ref wg, .int (zI ta), .long ck, .int (zI at9), .int (zI rfn), .ref rk, .ref rw, .ref rh, .int (zI cl), .ref sa, .ref fi, .int (zI bo), .ref ch, .ref cn, .int (zI ad), .int (zI ru), .ref kp, .int (zI dn), .ref rfa])), (so, .inl (c_so, 4, .inl f_so)), (sl, .inl (c_sl, 4, .inl f_sl)), (ce, .inl (c_ce, 240, .inl f_ce))] s.heap.size = A at hD ⊢
  have hA : ∀ q : Nat, s.heap.size ≤ q → A q := fun q h => by rw [← hAe]; exact Or.inr h
  have hS : va_S A s.heap s.heap [] := va_S.rf
  have hP : va_P D vwCl [(h0, .inr (9, [.int (zI fa), .int (zI tc), .ref so, .ref sl, .ref ce, .int (zI fn), .ref kd, .ref wd, .ref hs, .ref pf, .ref lt, .int (zI mn), .ref wg, .int (zI ta), .long ck, .int (zI at9), .int (zI rfn), .ref rk, .ref rw, .ref rh, .int (zI cl), .ref sa, .ref fi, .int (zI bo), .ref ch, .ref cn, .int (zI ad), .int (zI ru), .ref kp, .int (zI dn), .ref rfa])), (so, .inl (c_so, 4, .inl f_so)), (sl, .inl (c_sl, 4, .inl f_sl)), (ce, .inl (c_ce, 240, .inl f_ce))] s.heap := hP
  have hl := lv_entry ([.ref h0, .int (zI k), .int (zI y), .int (zI z)]) (n := 5) (Nat.le_of_ble_eq_true rfl)
  rw [lg_entry_eq]
  generalize (lg_sl ([.ref h0, .int (zI k), .int (zI y), .int (zI z)]) ++ List.replicate (5 - (lg_sl ([.ref h0, .int (zI k), .int (zI y), .int (zI z)])).length) Slot.unset).toArray = ls at hl ⊢
  have hl : lv_has ls 5 [(0, .ref h0), (1, .int (zI k)), (2, .int (zI y)), (3, .int (zI z))] := hl
  refine lv_aload_n hx hb dX9_sheet_0 rfl (lv_at hl 0 rfl) ?_
  refine lv_iconst (v := zI 0) hx hb dX9_sheet_1 rfl ?_
  refine va_put (D := D) (ci := 9) (v := .int (zI 0)) (ty := .int) (C := RX9) (T := TX9) (N := 31) hx hb hts (fun _ h9 => List.mem_cons_of_mem _ (List.mem_append_right _ h9)) tyX9 tyX9_ok nmX9 hown hK hP hD hS 0 rfl rfl 0 (by decide) (hts (.fieldLink RX9 64 "FontRunsModel" "fault" "I") mw_X9_sheet_0) (fun _ h9 => h9) rfl (by decide +kernel) rfl rfl (Nat.le_of_ble_eq_true rfl) dX9_sheet_2 (fun H locs hP hD hS => ?_)
  have hP : va_P D vwCl [(h0, .inr (9, [.int (zI 0), .int (zI tc), .ref so, .ref sl, .ref ce, .int (zI fn), .ref kd, .ref wd, .ref hs, .ref pf, .ref lt, .int (zI mn), .ref wg, .int (zI ta), .long ck, .int (zI at9), .int (zI rfn), .ref rk, .ref rw, .ref rh, .int (zI cl), .ref sa, .ref fi, .int (zI bo), .ref ch, .ref cn, .int (zI ad), .int (zI ru), .ref kp, .int (zI dn), .ref rfa])), (so, .inl (c_so, 4, .inl f_so)), (sl, .inl (c_sl, 4, .inl f_sl)), (ce, .inl (c_ce, 240, .inl f_ce))] H := hP
  have hD : va_D A [(h0, .inr (9, [.int (zI 0), .int (zI tc), .ref so, .ref sl, .ref ce, .int (zI fn), .ref kd, .ref wd, .ref hs, .ref pf, .ref lt, .int (zI mn), .ref wg, .int (zI ta), .long ck, .int (zI at9), .int (zI rfn), .ref rk, .ref rw, .ref rh, .int (zI cl), .ref sa, .ref fi, .int (zI bo), .ref ch, .ref cn, .int (zI ad), .int (zI ru), .ref kp, .int (zI dn), .ref rfa])), (so, .inl (c_so, 4, .inl f_so)), (sl, .inl (c_sl, 4, .inl f_sl)), (ce, .inl (c_ce, 240, .inl f_ce))] := hD
  refine lv_iload_n hx hb dX9_sheet_5 rfl (lv_at hl 1 rfl) ?_
  refine k_callR (va_runS (As := [.int (zI k)]) (rest := []) ⟨hx, hb, hml, hown, hts⟩ (c_X9_isSheet l D H.size (k := k) q0) (va_cwS 1 hts gX9_sheet_X9_isSheet rfl rfl rfl (by decide +kernel) ⟨Nat.le_of_ble_eq_true rfl, Nat.le_of_ble_eq_true rfl⟩) (kPreS hP (kD0 hD) hK hN [] [] ax_X9_sheet_0 rfl (by decide +kernel)) rfl rfl hl.1 rfl (lv_room (Nat.le_of_ble_eq_true rfl)) dX9_sheet_6 ⟨Nat.le_of_ble_eq_true rfl, Nat.le_of_ble_eq_true rfl⟩) ?_
  refine lv_if_ne (tgt := 14) hx hb dX9_sheet_9 (by decide) (fun c_1 => ?_) (fun c_1 => ?_)
  · have c_1 : 0 ≤ k ∧ k ≤ 3 := b01t c_1
    refine lv_iload_n hx hb dX9_sheet_14 rfl (lv_at hl 2 rfl) ?_
    refine k_callR (va_runS (As := [.int (zI y)]) (rest := []) ⟨hx, hb, hml, hown, hts⟩ (c_X9_isSort l D H.size (k := y) q1) (va_cwS 1 hts gX9_sheet_X9_isSort rfl rfl rfl (by decide +kernel) ⟨Nat.le_of_ble_eq_true rfl, Nat.le_of_ble_eq_true rfl⟩) (kPreS hP (kD0 hD) hK hN [] [] ax_X9_sheet_0 rfl (by decide +kernel)) rfl rfl hl.1 rfl (lv_room (Nat.le_of_ble_eq_true rfl)) dX9_sheet_15 ⟨Nat.le_of_ble_eq_true rfl, Nat.le_of_ble_eq_true rfl⟩) ?_
    refine lv_if_eq (tgt := 27) hx hb dX9_sheet_18 (by decide) (fun c_2 => ?_) (fun c_2 => ?_)
    · have c_2 : ¬ (0 ≤ y ∧ y ≤ 2) := b01f c_2
      refine lv_bipush (v := zI (-2)) hx hb dX9_sheet_27 (by decide) ?_
      have hP9 := hP.sub (ws' := [(h0, .inr (9, [.int (zI 0), .int (zI tc), .ref so, .ref sl, .ref ce, .int (zI fn), .ref kd, .ref wd, .ref hs, .ref pf, .ref lt, .int (zI mn), .ref wg, .int (zI ta), .long ck, .int (zI at9), .int (zI rfn), .ref rk, .ref rw, .ref rh, .int (zI cl), .ref sa, .ref fi, .int (zI bo), .ref ch, .ref cn, .int (zI ad), .int (zI ru), .ref kp, .int (zI dn), .ref rfa])), (so, .inl (c_so, 4, .inl f_so)), (sl, .inl (c_sl, 4, .inl f_sl)), (ce, .inl (c_ce, 240, .inl f_ce))]) [0, 1, 2, 3] rfl
      have hD9 := hD.sub (ws' := [(h0, .inr (9, [.int (zI 0), .int (zI tc), .ref so, .ref sl, .ref ce, .int (zI fn), .ref kd, .ref wd, .ref hs, .ref pf, .ref lt, .int (zI mn), .ref wg, .int (zI ta), .long ck, .int (zI at9), .int (zI rfn), .ref rk, .ref rw, .ref rh, .int (zI cl), .ref sa, .ref fi, .int (zI bo), .ref ch, .ref cn, .int (zI ad), .int (zI ru), .ref kp, .int (zI dn), .ref rfa])), (so, .inl (c_so, 4, .inl f_so)), (sl, .inl (c_sl, 4, .inl f_sl)), (ce, .inl (c_ce, 240, .inl f_ce))]) [0, 1, 2, 3] (by decide +kernel) rfl
      exact W.iret (v := (zI (-2))) hx hb hr (fun t ht hW => kQS_of (by omega) ⟨0, f_so, f_sl, f_ce, (by omega), q4, (by omega), (kShM_1 (by omega)), (by omega), by rw [ht]; exact hP9, hD9⟩ (hS.F ht)) hS.2.2 dX9_sheet_29
    · have c_2 : 0 ≤ y ∧ y ≤ 2 := b01t c_2
      refine lv_iload_n hx hb dX9_sheet_21 rfl (lv_at hl 3 rfl) ?_
      refine lv_bipush (v := zI 60) hx hb dX9_sheet_22 (by decide) ?_
      refine kz_icmp_le (tgt := 30) hx hb dX9_sheet_24 (by decide) (by omega) (by omega) (fun c_3 => ?_) (fun c_3 => ?_)
      · refine lv_iload_n hx hb dX9_sheet_30 rfl (lv_at hl 3 rfl) ?_
        refine kz_if_ge (tgt := 40) hx hb dX9_sheet_31 (by decide) (by omega) (fun c_4 => ?_) (fun c_4 => ?_)
        · refine lv_aload_n hx hb dX9_sheet_40 rfl (lv_at hl 0 rfl) ?_
          refine va_get (D := D) (ci := 9) (v := .ref so) (C := RX9) (T := TX9) (N := 31) hx hb hts (fun _ h9 => List.mem_cons_of_mem _ (List.mem_append_right _ h9)) hown hK hP 0 rfl rfl 2 (by decide) (hts (.fieldLink RX9 9 "FontRunsModel" "sorts" "[I") mw_X9_sheet_1) (fun _ h9 => h9) rfl dX9_sheet_41 ?_
          refine lv_iload_n hx hb dX9_sheet_44 rfl (lv_at hl 1 rfl) ?_
          refine lv_iload_n hx hb dX9_sheet_45 rfl (lv_at hl 2 rfl) ?_
          refine kz_iast hx hb hK hP hD hS 1 0 rfl rfl (by omega) dX9_sheet_46 (fun H locs hP hD hS => ?_)
          have hP : va_P D vwCl [(h0, .inr (9, [.int (zI 0), .int (zI tc), .ref so, .ref sl, .ref ce, .int (zI fn), .ref kd, .ref wd, .ref hs, .ref pf, .ref lt, .int (zI mn), .ref wg, .int (zI ta), .long ck, .int (zI at9), .int (zI rfn), .ref rk, .ref rw, .ref rh, .int (zI cl), .ref sa, .ref fi, .int (zI bo), .ref ch, .ref cn, .int (zI ad), .int (zI ru), .ref kp, .int (zI dn), .ref rfa])), (so, .inl (c_so, 4, .inl (upd f_so (k).toNat (zI y)))), (sl, .inl (c_sl, 4, .inl f_sl)), (ce, .inl (c_ce, 240, .inl f_ce))] H := hP
          have hD : va_D A [(h0, .inr (9, [.int (zI 0), .int (zI tc), .ref so, .ref sl, .ref ce, .int (zI fn), .ref kd, .ref wd, .ref hs, .ref pf, .ref lt, .int (zI mn), .ref wg, .int (zI ta), .long ck, .int (zI at9), .int (zI rfn), .ref rk, .ref rw, .ref rh, .int (zI cl), .ref sa, .ref fi, .int (zI bo), .ref ch, .ref cn, .int (zI ad), .int (zI ru), .ref kp, .int (zI dn), .ref rfa])), (so, .inl (c_so, 4, .inl (upd f_so (k).toNat (zI y)))), (sl, .inl (c_sl, 4, .inl f_sl)), (ce, .inl (c_ce, 240, .inl f_ce))] := hD
          generalize ef_5 : upd f_so (k).toNat (zI y) = f_5 at hP hD
          refine lv_aload_n hx hb dX9_sheet_47 rfl (lv_at hl 0 rfl) ?_
          refine va_get (D := D) (ci := 9) (v := .ref sl) (C := RX9) (T := TX9) (N := 31) hx hb hts (fun _ h9 => List.mem_cons_of_mem _ (List.mem_append_right _ h9)) hown hK hP 0 rfl rfl 3 (by decide) (hts (.fieldLink RX9 13 "FontRunsModel" "sheetLong" "[I") mw_X9_sheet_2) (fun _ h9 => h9) rfl dX9_sheet_48 ?_
          refine lv_iload_n hx hb dX9_sheet_51 rfl (lv_at hl 1 rfl) ?_
          refine lv_iload_n hx hb dX9_sheet_52 rfl (lv_at hl 3 rfl) ?_
          refine kz_iast hx hb hK hP hD hS 2 1 rfl rfl (by omega) dX9_sheet_53 (fun H locs hP hD hS => ?_)
          have hP : va_P D vwCl [(h0, .inr (9, [.int (zI 0), .int (zI tc), .ref so, .ref sl, .ref ce, .int (zI fn), .ref kd, .ref wd, .ref hs, .ref pf, .ref lt, .int (zI mn), .ref wg, .int (zI ta), .long ck, .int (zI at9), .int (zI rfn), .ref rk, .ref rw, .ref rh, .int (zI cl), .ref sa, .ref fi, .int (zI bo), .ref ch, .ref cn, .int (zI ad), .int (zI ru), .ref kp, .int (zI dn), .ref rfa])), (so, .inl (c_so, 4, .inl f_5)), (sl, .inl (c_sl, 4, .inl (upd f_sl (k).toNat (zI z)))), (ce, .inl (c_ce, 240, .inl f_ce))] H := hP
          have hD : va_D A [(h0, .inr (9, [.int (zI 0), .int (zI tc), .ref so, .ref sl, .ref ce, .int (zI fn), .ref kd, .ref wd, .ref hs, .ref pf, .ref lt, .int (zI mn), .ref wg, .int (zI ta), .long ck, .int (zI at9), .int (zI rfn), .ref rk, .ref rw, .ref rh, .int (zI cl), .ref sa, .ref fi, .int (zI bo), .ref ch, .ref cn, .int (zI ad), .int (zI ru), .ref kp, .int (zI dn), .ref rfa])), (so, .inl (c_so, 4, .inl f_5)), (sl, .inl (c_sl, 4, .inl (upd f_sl (k).toNat (zI z)))), (ce, .inl (c_ce, 240, .inl f_ce))] := hD
          have k_7 : kSL (upd f_sl (k).toNat (zI z)) := kSL_upd q4 (by omega) (by omega)
          generalize ef_6 : upd f_sl (k).toNat (zI z) = f_6 at hP hD k_7
          refine lv_iconst (v := zI 0) hx hb dX9_sheet_54 rfl ?_
          refine lv_istore (lv' := [(4, .int (zI 0)), (0, .ref h0), (1, .int (zI k)), (2, .int (zI y)), (3, .int (zI z))]) hx hb dX9_sheet_55 hl (by decide) rfl (fun ls hl => ?_)
          refine k_loopM (I := fun n9 H locs ls => ∃ (jk : Int) (ja : Nat → Int32), n9 = (60 - jk).toNat ∧ (0 ≤ jk ∧ jk ≤ 60) ∧ (kZr ja f_ce k jk) ∧ va_P D vwCl [(h0, .inr (9, [.int (zI 0), .int (zI tc), .ref so, .ref sl, .ref ce, .int (zI fn), .ref kd, .ref wd, .ref hs, .ref pf, .ref lt, .int (zI mn), .ref wg, .int (zI ta), .long ck, .int (zI at9), .int (zI rfn), .ref rk, .ref rw, .ref rh, .int (zI cl), .ref sa, .ref fi, .int (zI bo), .ref ch, .ref cn, .int (zI ad), .int (zI ru), .ref kp, .int (zI dn), .ref rfa])), (so, .inl (c_so, 4, .inl f_5)), (sl, .inl (c_sl, 4, .inl f_6)), (ce, .inl (c_ce, 240, .inl ja))] H ∧ va_D A [(h0, .inr (9, [.int (zI 0), .int (zI tc), .ref so, .ref sl, .ref ce, .int (zI fn), .ref kd, .ref wd, .ref hs, .ref pf, .ref lt, .int (zI mn), .ref wg, .int (zI ta), .long ck, .int (zI at9), .int (zI rfn), .ref rk, .ref rw, .ref rh, .int (zI cl), .ref sa, .ref fi, .int (zI bo), .ref ch, .ref cn, .int (zI ad), .int (zI ru), .ref kp, .int (zI dn), .ref rfa])), (so, .inl (c_so, 4, .inl f_5)), (sl, .inl (c_sl, 4, .inl f_6)), (ce, .inl (c_ce, 240, .inl ja))] ∧ va_S A s.heap H locs ∧ lv_has ls 5 [(4, .int (zI jk)), (0, .ref h0), (1, .int (zI k)), (2, .int (zI y)), (3, .int (zI z))]) ?_ _ ⟨0, f_ce, rfl, (by omega), kZr_0, hP, hD, hS, hl⟩
          intro n57 ih57 H locs ls hI
          obtain ⟨jk, ja, en57, v_570, v_571, hP, hD, hS, hl⟩ := hI
          refine lv_iload hx hb dX9_sheet_57 (lv_at hl 0 rfl) ?_
          refine lv_bipush (v := zI 60) hx hb dX9_sheet_59 (by decide) ?_
          refine kz_icmp_ge (tgt := 83) hx hb dX9_sheet_61 (by decide) (by omega) (by omega) (fun c_8 => ?_) (fun c_8 => ?_)
          · refine lv_iconst (v := zI 1) hx hb dX9_sheet_83 rfl ?_
            have hP9 := hP.sub (ws' := [(h0, .inr (9, [.int (zI 0), .int (zI tc), .ref so, .ref sl, .ref ce, .int (zI fn), .ref kd, .ref wd, .ref hs, .ref pf, .ref lt, .int (zI mn), .ref wg, .int (zI ta), .long ck, .int (zI at9), .int (zI rfn), .ref rk, .ref rw, .ref rh, .int (zI cl), .ref sa, .ref fi, .int (zI bo), .ref ch, .ref cn, .int (zI ad), .int (zI ru), .ref kp, .int (zI dn), .ref rfa])), (so, .inl (c_so, 4, .inl f_5)), (sl, .inl (c_sl, 4, .inl f_6)), (ce, .inl (c_ce, 240, .inl ja))]) [0, 1, 2, 3] rfl
            have hD9 := hD.sub (ws' := [(h0, .inr (9, [.int (zI 0), .int (zI tc), .ref so, .ref sl, .ref ce, .int (zI fn), .ref kd, .ref wd, .ref hs, .ref pf, .ref lt, .int (zI mn), .ref wg, .int (zI ta), .long ck, .int (zI at9), .int (zI rfn), .ref rk, .ref rw, .ref rh, .int (zI cl), .ref sa, .ref fi, .int (zI bo), .ref ch, .ref cn, .int (zI ad), .int (zI ru), .ref kp, .int (zI dn), .ref rfa])), (so, .inl (c_so, 4, .inl f_5)), (sl, .inl (c_sl, 4, .inl f_6)), (ce, .inl (c_ce, 240, .inl ja))]) [0, 1, 2, 3] (by decide +kernel) rfl
            exact W.iret (v := (zI 1)) hx hb hr (fun t ht hW => kQS_of (by omega) ⟨0, f_5, f_6, ja, (by omega), k_7, (by omega), (kShM_2 (by omega) ef_5 ef_6 v_571 (by omega)), (by omega), by rw [ht]; exact hP9, hD9⟩ (hS.F ht)) hS.2.2 dX9_sheet_84
          · refine lv_aload_n hx hb dX9_sheet_64 rfl (lv_at hl 1 rfl) ?_
            refine va_get (D := D) (ci := 9) (v := .ref ce) (C := RX9) (T := TX9) (N := 31) hx hb hts (fun _ h9 => List.mem_cons_of_mem _ (List.mem_append_right _ h9)) hown hK hP 0 rfl rfl 4 (by decide) (hts (.fieldLink RX9 16 "FontRunsModel" "cells" "[I") mw_X9_sheet_3) (fun _ h9 => h9) rfl dX9_sheet_65 ?_
            refine lv_bipush (v := zI 60) hx hb dX9_sheet_68 (by decide) ?_
            refine lv_iload_n hx hb dX9_sheet_70 rfl (lv_at hl 2 rfl) ?_
            refine kz_imul hx hb dX9_sheet_71 ?_
            refine lv_iload hx hb dX9_sheet_72 (lv_at hl 0 rfl) ?_
            refine kz_iadd hx hb dX9_sheet_74 ?_
            refine lv_iconst (v := zI 0) hx hb dX9_sheet_75 rfl ?_
            refine kz_iast hx hb hK hP hD hS 3 2 rfl rfl (by omega) dX9_sheet_76 (fun H locs hP hD hS => ?_)
            have hP : va_P D vwCl [(h0, .inr (9, [.int (zI 0), .int (zI tc), .ref so, .ref sl, .ref ce, .int (zI fn), .ref kd, .ref wd, .ref hs, .ref pf, .ref lt, .int (zI mn), .ref wg, .int (zI ta), .long ck, .int (zI at9), .int (zI rfn), .ref rk, .ref rw, .ref rh, .int (zI cl), .ref sa, .ref fi, .int (zI bo), .ref ch, .ref cn, .int (zI ad), .int (zI ru), .ref kp, .int (zI dn), .ref rfa])), (so, .inl (c_so, 4, .inl f_5)), (sl, .inl (c_sl, 4, .inl f_6)), (ce, .inl (c_ce, 240, .inl (upd ja ((60 * k) + jk).toNat (zI 0))))] H := hP
            have hD : va_D A [(h0, .inr (9, [.int (zI 0), .int (zI tc), .ref so, .ref sl, .ref ce, .int (zI fn), .ref kd, .ref wd, .ref hs, .ref pf, .ref lt, .int (zI mn), .ref wg, .int (zI ta), .long ck, .int (zI at9), .int (zI rfn), .ref rk, .ref rw, .ref rh, .int (zI cl), .ref sa, .ref fi, .int (zI bo), .ref ch, .ref cn, .int (zI ad), .int (zI ru), .ref kp, .int (zI dn), .ref rfa])), (so, .inl (c_so, 4, .inl f_5)), (sl, .inl (c_sl, 4, .inl f_6)), (ce, .inl (c_ce, 240, .inl (upd ja ((60 * k) + jk).toNat (zI 0))))] := hD
            generalize ef_9 : upd ja ((60 * k) + jk).toNat (zI 0) = f_9 at hP hD
            refine lv_iinc (v := (zI (jk + 1))) (lv' := [(4, .int (zI (jk + 1))), (0, .ref h0), (1, .int (zI k)), (2, .int (zI y)), (3, .int (zI z))]) hx hb dX9_sheet_77 hl (k := 0) rfl (kz_inc _ 1) (by decide) rfl (fun ls hl => ?_)
            refine lv_goto (tgt := 57) hx hb dX9_sheet_80 (by decide) ?_
            exact ih57 _ (by omega) _ _ _ ⟨(jk + 1), f_9, rfl, (by omega), (kZr_s v_571 (by omega) (by omega) ef_9), hP, hD, hS, lv_sub hl [0, 1, 2, 3, 4] rfl⟩
        · refine lv_aload_n hx hb dX9_sheet_34 rfl (lv_at hl 0 rfl) ?_
          refine lv_iconst (v := zI 4) hx hb dX9_sheet_35 rfl ?_
          have hFc := va_free (wc := [(h0, .inr (9, [.int (zI 0), .int (zI tc), .ref so, .ref sl, .ref ce, .int (zI fn), .ref kd, .ref wd, .ref hs, .ref pf, .ref lt, .int (zI mn), .ref wg, .int (zI ta), .long ck, .int (zI at9), .int (zI rfn), .ref rk, .ref rw, .ref rh, .int (zI cl), .ref sa, .ref fi, .int (zI bo), .ref ch, .ref cn, .int (zI ad), .int (zI ru), .ref kp, .int (zI dn), .ref rfa]))]) hD hS hA [0] ax_X9_sheet_2
          refine va_calli (va_runV (As := [.int (zI 4)]) (rest := []) ⟨hx, hb, hml, hown, hts⟩ (c_X9_fails_w l D H.size (f := 4) (h0 := h0) (fa := 0) (tc := tc) (so := so) (sl := sl) (ce := ce) (fn := fn) (kd := kd) (wd := wd) (hs := hs) (pf := pf) (lt := lt) (mn := mn) (wg := wg) (ta := ta) (ck := ck) (at9 := at9) (rfn := rfn) (rk := rk) (rw := rw) (rh := rh) (cl := cl) (sa := sa) (fi := fi) (bo := bo) (ch := ch) (cn := cn) (ad := ad) (ru := ru) (kp := kp) (dn := dn) (rfa := rfa) (by omega) (by omega)) (cwV 1 hts gX9_sheet_X9_fails rfl rfl rfl (by decide +kernel) ⟨Nat.le_of_ble_eq_true rfl, Nat.le_of_ble_eq_true rfl⟩) (kPreV hP (kD0 hD) hK hN [0] [] ax_X9_sheet_2 rfl (by decide +kernel) 0 9 rfl rfl) rfl rfl hl.1 rfl (lv_room (Nat.le_of_ble_eq_true rfl)) dX9_sheet_36 ⟨Nat.le_of_ble_eq_true rfl, Nat.le_of_ble_eq_true rfl⟩) hS (fun q _ h => hFc q h) hFc (fun r u t H1 locs ht hvm hw hB hz1 hk1 hS => ?_)
          obtain ⟨z_11, e9⟩ : ∃ z, z = u := ⟨_, rfl⟩
          subst e9
          obtain ⟨rfl, rz_11⟩ := hw
          refine Exists.elim hB (fun u_fa_10 hB1 => ?_)
          have h_12 := hB1.1
          have h_13 := hB1.2.1
          have h_14 := hB1.2.2.1
          have hP1 := hB1.2.2.2.1
          have hD1 := hB1.2.2.2.2
          clear hB hB1
          rw [ht] at hP1
          obtain ⟨hP, hD⟩ := va_join (wr := [(so, .inl (c_so, 4, .inl f_so)), (sl, .inl (c_sl, 4, .inl f_sl)), (ce, .inl (c_ce, 240, .inl f_ce))]) (w1 := [(h0, .inr (9, [.int (zI u_fa_10), .int (zI tc), .ref so, .ref sl, .ref ce, .int (zI fn), .ref kd, .ref wd, .ref hs, .ref pf, .ref lt, .int (zI mn), .ref wg, .int (zI ta), .long ck, .int (zI at9), .int (zI rfn), .ref rk, .ref rw, .ref rh, .int (zI cl), .ref sa, .ref fi, .int (zI bo), .ref ch, .ref cn, .int (zI ad), .int (zI ru), .ref kp, .int (zI dn), .ref rfa]))]) hP hD [0] [1, 2, 3] ax_X9_sheet_2 ax_X9_sheet_3 (by decide +kernel) (by decide +kernel) hk1 hFc hP1 hD1
          have hP := ax_X9_sheet_4 hP
          have hD := ax_X9_sheet_5 hD
          generalize H1 = H at hP hS ⊢
          have hP : va_P D vwCl [(so, .inl (c_so, 4, .inl f_so)), (sl, .inl (c_sl, 4, .inl f_sl)), (ce, .inl (c_ce, 240, .inl f_ce)), (h0, .inr (9, [.int (zI u_fa_10), .int (zI tc), .ref so, .ref sl, .ref ce, .int (zI fn), .ref kd, .ref wd, .ref hs, .ref pf, .ref lt, .int (zI mn), .ref wg, .int (zI ta), .long ck, .int (zI at9), .int (zI rfn), .ref rk, .ref rw, .ref rh, .int (zI cl), .ref sa, .ref fi, .int (zI bo), .ref ch, .ref cn, .int (zI ad), .int (zI ru), .ref kp, .int (zI dn), .ref rfa]))] H := hP
          have hD : va_D A [(so, .inl (c_so, 4, .inl f_so)), (sl, .inl (c_sl, 4, .inl f_sl)), (ce, .inl (c_ce, 240, .inl f_ce)), (h0, .inr (9, [.int (zI u_fa_10), .int (zI tc), .ref so, .ref sl, .ref ce, .int (zI fn), .ref kd, .ref wd, .ref hs, .ref pf, .ref lt, .int (zI mn), .ref wg, .int (zI ta), .long ck, .int (zI at9), .int (zI rfn), .ref rk, .ref rw, .ref rh, .int (zI cl), .ref sa, .ref fi, .int (zI bo), .ref ch, .ref cn, .int (zI ad), .int (zI ru), .ref kp, .int (zI dn), .ref rfa]))] := hD
          have hP9 := hP.sub (ws' := [(h0, .inr (9, [.int (zI u_fa_10), .int (zI tc), .ref so, .ref sl, .ref ce, .int (zI fn), .ref kd, .ref wd, .ref hs, .ref pf, .ref lt, .int (zI mn), .ref wg, .int (zI ta), .long ck, .int (zI at9), .int (zI rfn), .ref rk, .ref rw, .ref rh, .int (zI cl), .ref sa, .ref fi, .int (zI bo), .ref ch, .ref cn, .int (zI ad), .int (zI ru), .ref kp, .int (zI dn), .ref rfa])), (so, .inl (c_so, 4, .inl f_so)), (sl, .inl (c_sl, 4, .inl f_sl)), (ce, .inl (c_ce, 240, .inl f_ce))]) [3, 0, 1, 2] rfl
          have hD9 := hD.sub (ws' := [(h0, .inr (9, [.int (zI u_fa_10), .int (zI tc), .ref so, .ref sl, .ref ce, .int (zI fn), .ref kd, .ref wd, .ref hs, .ref pf, .ref lt, .int (zI mn), .ref wg, .int (zI ta), .long ck, .int (zI at9), .int (zI rfn), .ref rk, .ref rw, .ref rh, .int (zI cl), .ref sa, .ref fi, .int (zI bo), .ref ch, .ref cn, .int (zI ad), .int (zI ru), .ref kp, .int (zI dn), .ref rfa])), (so, .inl (c_so, 4, .inl f_so)), (sl, .inl (c_sl, 4, .inl f_sl)), (ce, .inl (c_ce, 240, .inl f_ce))]) [3, 0, 1, 2] (by decide +kernel) rfl
          exact W.iret (v := (zI z_11)) hx hb hr (fun t ht hW => kQS_of (by omega) ⟨u_fa_10, f_so, f_sl, f_ce, h_12, q4, (by omega), (kShM_1 (by omega)), (by omega), by rw [ht]; exact hP9, hD9⟩ (hS.F ht)) hS.2.2 dX9_sheet_39
      · refine lv_bipush (v := zI (-2)) hx hb dX9_sheet_27 (by decide) ?_
        have hP9 := hP.sub (ws' := [(h0, .inr (9, [.int (zI 0), .int (zI tc), .ref so, .ref sl, .ref ce, .int (zI fn), .ref kd, .ref wd, .ref hs, .ref pf, .ref lt, .int (zI mn), .ref wg, .int (zI ta), .long ck, .int (zI at9), .int (zI rfn), .ref rk, .ref rw, .ref rh, .int (zI cl), .ref sa, .ref fi, .int (zI bo), .ref ch, .ref cn, .int (zI ad), .int (zI ru), .ref kp, .int (zI dn), .ref rfa])), (so, .inl (c_so, 4, .inl f_so)), (sl, .inl (c_sl, 4, .inl f_sl)), (ce, .inl (c_ce, 240, .inl f_ce))]) [0, 1, 2, 3] rfl
        have hD9 := hD.sub (ws' := [(h0, .inr (9, [.int (zI 0), .int (zI tc), .ref so, .ref sl, .ref ce, .int (zI fn), .ref kd, .ref wd, .ref hs, .ref pf, .ref lt, .int (zI mn), .ref wg, .int (zI ta), .long ck, .int (zI at9), .int (zI rfn), .ref rk, .ref rw, .ref rh, .int (zI cl), .ref sa, .ref fi, .int (zI bo), .ref ch, .ref cn, .int (zI ad), .int (zI ru), .ref kp, .int (zI dn), .ref rfa])), (so, .inl (c_so, 4, .inl f_so)), (sl, .inl (c_sl, 4, .inl f_sl)), (ce, .inl (c_ce, 240, .inl f_ce))]) [0, 1, 2, 3] (by decide +kernel) rfl
        exact W.iret (v := (zI (-2))) hx hb hr (fun t ht hW => kQS_of (by omega) ⟨0, f_so, f_sl, f_ce, (by omega), q4, (by omega), (kShM_1 (by omega)), (by omega), by rw [ht]; exact hP9, hD9⟩ (hS.F ht)) hS.2.2 dX9_sheet_29
  · have c_1 : ¬ (0 ≤ k ∧ k ≤ 3) := b01f c_1
    refine lv_iconst (v := zI (-1)) hx hb dX9_sheet_12 rfl ?_
    have hP9 := hP.sub (ws' := [(h0, .inr (9, [.int (zI 0), .int (zI tc), .ref so, .ref sl, .ref ce, .int (zI fn), .ref kd, .ref wd, .ref hs, .ref pf, .ref lt, .int (zI mn), .ref wg, .int (zI ta), .long ck, .int (zI at9), .int (zI rfn), .ref rk, .ref rw, .ref rh, .int (zI cl), .ref sa, .ref fi, .int (zI bo), .ref ch, .ref cn, .int (zI ad), .int (zI ru), .ref kp, .int (zI dn), .ref rfa])), (so, .inl (c_so, 4, .inl f_so)), (sl, .inl (c_sl, 4, .inl f_sl)), (ce, .inl (c_ce, 240, .inl f_ce))]) [0, 1, 2, 3] rfl
    have hD9 := hD.sub (ws' := [(h0, .inr (9, [.int (zI 0), .int (zI tc), .ref so, .ref sl, .ref ce, .int (zI fn), .ref kd, .ref wd, .ref hs, .ref pf, .ref lt, .int (zI mn), .ref wg, .int (zI ta), .long ck, .int (zI at9), .int (zI rfn), .ref rk, .ref rw, .ref rh, .int (zI cl), .ref sa, .ref fi, .int (zI bo), .ref ch, .ref cn, .int (zI ad), .int (zI ru), .ref kp, .int (zI dn), .ref rfa])), (so, .inl (c_so, 4, .inl f_so)), (sl, .inl (c_sl, 4, .inl f_sl)), (ce, .inl (c_ce, 240, .inl f_ce))]) [0, 1, 2, 3] (by decide +kernel) rfl
    exact W.iret (v := (zI (-1))) hx hb hr (fun t ht hW => kQS_of (by omega) ⟨0, f_so, f_sl, f_ce, (by omega), q4, (by omega), (kShM_1 (by omega)), (by omega), by rw [ht]; exact hP9, hD9⟩ (hS.F ht)) hS.2.2 dX9_sheet_13
theorem dX9_lose_0 : decode cX9_lose 0 = .ok (.iload_n 1, 1) := kqo_1b kbl_X9_lose (pc := 0) rfl
theorem dX9_lose_1 : decode cX9_lose 1 = .ok (.invokestatic 80, 3) := kqo_b8 (x1 := 0) (x2 := 80) kbl_X9_lose (pc := 1) rfl rfl
theorem dX9_lose_4 : decode cX9_lose 4 = .ok (.ifCond .ne 5, 3) := kqo_9a (x1 := 0) (x2 := 5) kbl_X9_lose (pc := 4) rfl rfl
theorem dX9_lose_7 : decode cX9_lose 7 = .ok (.iconst (-1), 1) := kqo_02 kbl_X9_lose (pc := 7) rfl
theorem dX9_lose_8 : decode cX9_lose 8 = .ok (.ireturn, 1) := kqo_ac kbl_X9_lose (pc := 8) rfl
theorem dX9_lose_9 : decode cX9_lose 9 = .ok (.aload_n 0, 1) := kqo_2a kbl_X9_lose (pc := 9) rfl
theorem dX9_lose_10 : decode cX9_lose 10 = .ok (.getfield 9, 3) := kqo_b4 (x1 := 0) (x2 := 9) kbl_X9_lose (pc := 10) rfl rfl
theorem dX9_lose_13 : decode cX9_lose 13 = .ok (.iload_n 1, 1) := kqo_1b kbl_X9_lose (pc := 13) rfl
theorem dX9_lose_14 : decode cX9_lose 14 = .ok (.iaload, 1) := kqo_2e kbl_X9_lose (pc := 14) rfl
theorem dX9_lose_15 : decode cX9_lose 15 = .ok (.bipush (-9), 2) := kqo_10 (x1 := 247) kbl_X9_lose (pc := 15) rfl rfl
theorem dX9_lose_17 : decode cX9_lose 17 = .ok (.if_icmp .ne 7, 3) := kqo_a0 (x1 := 0) (x2 := 7) kbl_X9_lose (pc := 17) rfl rfl
theorem dX9_lose_20 : decode cX9_lose 20 = .ok (.iconst 0, 1) := kqo_03 kbl_X9_lose (pc := 20) rfl
theorem dX9_lose_21 : decode cX9_lose 21 = .ok (.goto 4, 3) := kqo_a7 (x1 := 0) (x2 := 4) kbl_X9_lose (pc := 21) rfl rfl
theorem dX9_lose_24 : decode cX9_lose 24 = .ok (.iconst 1, 1) := kqo_04 kbl_X9_lose (pc := 24) rfl
theorem dX9_lose_25 : decode cX9_lose 25 = .ok (.istore_n 2, 1) := kqo_3d kbl_X9_lose (pc := 25) rfl
theorem dX9_lose_26 : decode cX9_lose 26 = .ok (.aload_n 0, 1) := kqo_2a kbl_X9_lose (pc := 26) rfl
theorem dX9_lose_27 : decode cX9_lose 27 = .ok (.getfield 9, 3) := kqo_b4 (x1 := 0) (x2 := 9) kbl_X9_lose (pc := 27) rfl rfl
theorem dX9_lose_30 : decode cX9_lose 30 = .ok (.iload_n 1, 1) := kqo_1b kbl_X9_lose (pc := 30) rfl
theorem dX9_lose_31 : decode cX9_lose 31 = .ok (.bipush (-9), 2) := kqo_10 (x1 := 247) kbl_X9_lose (pc := 31) rfl rfl
theorem dX9_lose_33 : decode cX9_lose 33 = .ok (.iastore, 1) := kqo_4f kbl_X9_lose (pc := 33) rfl
theorem dX9_lose_34 : decode cX9_lose 34 = .ok (.iload_n 2, 1) := kqo_1c kbl_X9_lose (pc := 34) rfl
theorem dX9_lose_35 : decode cX9_lose 35 = .ok (.ireturn, 1) := kqo_ac kbl_X9_lose (pc := 35) rfl
set_option maxRecDepth 20000 in
theorem ggX9_lose_X9_isSheet : GoodIn wsX9_lose wsX9_isSheet := goodIn_4 _ (List.forall_mem_cons.mpr ⟨List.mem_cons_of_mem _ (List.mem_append_left _ (List.mem_of_getElem? (i := 4) rfl)), List.forall_mem_cons.mpr ⟨List.mem_cons_of_mem _ (List.mem_append_left _ (List.mem_of_getElem? (i := 5) rfl)), List.forall_mem_cons.mpr ⟨List.mem_cons_of_mem _ (List.mem_append_left _ (List.mem_of_getElem? (i := 6) rfl)), List.forall_mem_cons.mpr ⟨List.mem_cons_of_mem _ (List.mem_append_left _ (List.mem_of_getElem? (i := 3) rfl)), List.forall_mem_cons.mpr ⟨List.mem_cons_of_mem _ (List.mem_append_left _ (List.mem_of_getElem? (i := 7) rfl)), fun _ h9 => absurd h9 List.not_mem_nil⟩⟩⟩⟩⟩) (by decide +kernel)
set_option maxRecDepth 20000 in
theorem gX9_lose_X9_isSheet : GoodIn wsX9_lose (va_wsS RX9 80 yX9_isSheet wsX9_isSheet) := goodIn_app (goodIn_4 _ (List.forall_mem_cons.mpr ⟨List.mem_cons_of_mem _ (List.mem_append_left _ (List.mem_of_getElem? (i := 1) rfl)), List.forall_mem_cons.mpr ⟨List.mem_cons_of_mem _ (List.mem_append_left _ (List.mem_of_getElem? (i := 2) rfl)), List.forall_mem_cons.mpr ⟨List.mem_cons_of_mem _ (List.mem_append_left _ (List.mem_of_getElem? (i := 3) rfl)), fun _ h9 => absurd h9 List.not_mem_nil⟩⟩⟩) (by decide +kernel)) ggX9_lose_X9_isSheet
set_option maxRecDepth 20000 in
theorem mw_X9_lose_0 : (.fieldLink RX9 9 "FontRunsModel" "sorts" "[I" : Cond) ∈ wsX9_lose := List.mem_cons_of_mem _ (List.mem_append_left _ (List.mem_of_getElem? (i := 0) rfl))
theorem ax_X9_lose_0 {e0 e1 : Nat × va_E} : ([] : List Nat).map (fun i => ([e0, e1] : va_W)[i]?) = ([] : va_W).map some := rfl
theorem ax_X9_lose_1 {e0 e1 : Nat × va_E} : ([0, 1] : List Nat).map (fun i => ([e0, e1] : va_W)[i]?) = ([e0, e1] : va_W).map some := rfl
set_option maxHeartbeats 4000000 in
set_option maxRecDepth 100000 in
theorem c_X9_lose (l : Launch) (D : va_G) (sz : Nat) (k : Int) (h0 : Nat) (fa : Int) (tc : Int) (so : Nat) (sl : Nat) (ce : Nat) (fn : Int) (kd : Nat) (wd : Nat) (hs : Nat) (pf : Nat) (lt : Nat) (mn : Int) (wg : Nat) (ta : Int) (ck : Int64) (at9 : Int) (rfn : Int) (rk : Nat) (rw : Nat) (rh : Nat) (cl : Int) (sa : Nat) (fi : Nat) (bo : Int) (ch : Nat) (cn : Nat) (ad : Int) (ru : Int) (kp : Nat) (dn : Int) (rfa : Nat) (c_so : ClassId) (f_so : Nat → Int32) (q0 : rg k) : Met l yX9_lose wsX9_lose ({ frames := 2, cells := 0, slots := 0, locals := 42 }) (kPre [.ref h0, .int (zI k)] D [(h0, .inr (9, [.int (zI fa), .int (zI tc), .ref so, .ref sl, .ref ce, .int (zI fn), .ref kd, .ref wd, .ref hs, .ref pf, .ref lt, .int (zI mn), .ref wg, .int (zI ta), .long ck, .int (zI at9), .int (zI rfn), .ref rk, .ref rw, .ref rh, .int (zI cl), .ref sa, .ref fi, .int (zI bo), .ref ch, .ref cn, .int (zI ad), .int (zI ru), .ref kp, .int (zI dn), .ref rfa])), (so, .inl (c_so, 4, .inl f_so))] [(c_so, .int)] sz) (kQS (fun rz t => ∃ (u_f_so : Nat → Int32), (kLoM k f_so u_f_so rz) ∧ va_P D vwCl [(h0, .inr (9, [.int (zI fa), .int (zI tc), .ref so, .ref sl, .ref ce, .int (zI fn), .ref kd, .ref wd, .ref hs, .ref pf, .ref lt, .int (zI mn), .ref wg, .int (zI ta), .long ck, .int (zI at9), .int (zI rfn), .ref rk, .ref rw, .ref rh, .int (zI cl), .ref sa, .ref fi, .int (zI bo), .ref ch, .ref cn, .int (zI ad), .int (zI ru), .ref kp, .int (zI dn), .ref rfa])), (so, .inl (c_so, 4, .inl u_f_so))] t.heap ∧ va_D (va_A [(h0, .inr (9, [.int (zI fa), .int (zI tc), .ref so, .ref sl, .ref ce, .int (zI fn), .ref kd, .ref wd, .ref hs, .ref pf, .ref lt, .int (zI mn), .ref wg, .int (zI ta), .long ck, .int (zI at9), .int (zI rfn), .ref rk, .ref rw, .ref rh, .int (zI cl), .ref sa, .ref fi, .int (zI bo), .ref ch, .ref cn, .int (zI ad), .int (zI ru), .ref kp, .int (zI dn), .ref rfa])), (so, .inl (c_so, 4, .inl f_so))] sz) [(h0, .inr (9, [.int (zI fa), .int (zI tc), .ref so, .ref sl, .ref ce, .int (zI fn), .ref kd, .ref wd, .ref hs, .ref pf, .ref lt, .int (zI mn), .ref wg, .int (zI ta), .long ck, .int (zI at9), .int (zI rfn), .ref rk, .ref rw, .ref rh, .int (zI cl), .ref sa, .ref fi, .int (zI bo), .ref ch, .ref cn, .int (zI ad), .int (zI ru), .ref kp, .int (zI dn), .ref rfa])), (so, .inl (c_so, 4, .inl u_f_so))]) (va_A [(h0, .inr (9, [.int (zI fa), .int (zI tc), .ref so, .ref sl, .ref ce, .int (zI fn), .ref kd, .ref wd, .ref hs, .ref pf, .ref lt, .int (zI mn), .ref wg, .int (zI ta), .long ck, .int (zI at9), .int (zI rfn), .ref rk, .ref rw, .ref rh, .int (zI cl), .ref sa, .ref fi, .int (zI bo), .ref ch, .ref cn, .int (zI ad), .int (zI ru), .ref kp, .int (zI dn), .ref rfa])), (so, .inl (c_so, 4, .inl f_so))] sz)) 0 0 (va_A [(h0, .inr (9, [.int (zI fa), .int (zI tc), .ref so, .ref sl, .ref ce, .int (zI fn), .ref kd, .ref wd, .ref hs, .ref pf, .ref lt, .int (zI mn), .ref wg, .int (zI ta), .long ck, .int (zI at9), .int (zI rfn), .ref rk, .ref rw, .ref rh, .int (zI cl), .ref sa, .ref fi, .int (zI bo), .ref ch, .ref cn, .int (zI ad), .int (zI ru), .ref kp, .int (zI dn), .ref rfa])), (so, .inl (c_so, 4, .inl f_so))] sz) := by
  refine Met.ofW (cc := cX9_lose) (maxL := 3) (ret := (some .int)) (by decide) rfl ?_
  intro p e s m args below meth c s₁ B hml hv
  obtain ⟨rfl, hsz, hP, hK, hD0, hN⟩ := hv
  have hx := B.exec
  have hb := B.bytes
  have hr := B.returns
  have hts := atoms_spec (ws := wsX9_lose) B.pre
  have hown : s.vm.findClass RX9 = some m.cls := findClass_of_methodNamed B.named
  have hlocks := B.notSynchronized
  subst hsz
  have hD := hD0.self (sz := s.heap.size)
  generalize hAe : va_A [(h0, .inr (9, [.int (zI fa), .int (zI tc), .ref so, .ref sl, .ref ce, .int (zI fn), .ref kd, .ref wd, .ref hs, .ref pf, .ref lt, .int (zI mn), .ref wg, .int (zI ta), .long ck, .int (zI at9), .int (zI rfn), .ref rk, .ref rw, .ref rh, .int (zI cl), .ref sa, .ref fi, .int (zI bo), .ref ch, .ref cn, .int (zI ad), .int (zI ru), .ref kp, .int (zI dn), .ref rfa])), (so, .inl (c_so, 4, .inl f_so))] s.heap.size = A at hD ⊢
  have hA : ∀ q : Nat, s.heap.size ≤ q → A q := fun q h => by rw [← hAe]; exact Or.inr h
  have hS : va_S A s.heap s.heap [] := va_S.rf
  have hP : va_P D vwCl [(h0, .inr (9, [.int (zI fa), .int (zI tc), .ref so, .ref sl, .ref ce, .int (zI fn), .ref kd, .ref wd, .ref hs, .ref pf, .ref lt, .int (zI mn), .ref wg, .int (zI ta), .long ck, .int (zI at9), .int (zI rfn), .ref rk, .ref rw, .ref rh, .int (zI cl), .ref sa, .ref fi, .int (zI bo), .ref ch, .ref cn, .int (zI ad), .int (zI ru), .ref kp, .int (zI dn), .ref rfa])), (so, .inl (c_so, 4, .inl f_so))] s.heap := hP
  have hl := lv_entry ([.ref h0, .int (zI k)]) (n := 3) (Nat.le_of_ble_eq_true rfl)
  rw [lg_entry_eq]
  generalize (lg_sl ([.ref h0, .int (zI k)]) ++ List.replicate (3 - (lg_sl ([.ref h0, .int (zI k)])).length) Slot.unset).toArray = ls at hl ⊢
  have hl : lv_has ls 3 [(0, .ref h0), (1, .int (zI k))] := hl
  refine lv_iload_n hx hb dX9_lose_0 rfl (lv_at hl 1 rfl) ?_
  refine k_callR (va_runS (As := [.int (zI k)]) (rest := []) ⟨hx, hb, hml, hown, hts⟩ (c_X9_isSheet l D s.heap.size (k := k) q0) (va_cwS 1 hts gX9_lose_X9_isSheet rfl rfl rfl (by decide +kernel) ⟨Nat.le_of_ble_eq_true rfl, Nat.le_of_ble_eq_true rfl⟩) (kPreS hP (kD0 hD) hK hN [] [] ax_X9_lose_0 rfl (by decide +kernel)) rfl rfl hl.1 rfl (lv_room (Nat.le_of_ble_eq_true rfl)) dX9_lose_1 ⟨Nat.le_of_ble_eq_true rfl, Nat.le_of_ble_eq_true rfl⟩) ?_
  refine lv_if_ne (tgt := 9) hx hb dX9_lose_4 (by decide) (fun c_1 => ?_) (fun c_1 => ?_)
  · have c_1 : 0 ≤ k ∧ k ≤ 3 := b01t c_1
    refine lv_aload_n hx hb dX9_lose_9 rfl (lv_at hl 0 rfl) ?_
    refine va_get (D := D) (ci := 9) (v := .ref so) (C := RX9) (T := TX9) (N := 31) hx hb hts (fun _ h9 => List.mem_cons_of_mem _ (List.mem_append_right _ h9)) hown hK hP 0 rfl rfl 2 (by decide) (hts (.fieldLink RX9 9 "FontRunsModel" "sorts" "[I") mw_X9_lose_0) (fun _ h9 => h9) rfl dX9_lose_10 ?_
    refine lv_iload_n hx hb dX9_lose_13 rfl (lv_at hl 1 rfl) ?_
    refine kz_iald hx hb hK hP 1 0 rfl rfl (by omega) dX9_lose_14 (fun z_2 rz_2 ez_2 => ?_)
    refine lv_bipush (v := zI (-9)) hx hb dX9_lose_15 (by decide) ?_
    refine kz_icmp_ne (tgt := 24) hx hb dX9_lose_17 (by decide) (by omega) (by omega) (fun c_3 => ?_) (fun c_3 => ?_)
    · refine lv_iconst (v := zI 1) hx hb dX9_lose_24 rfl ?_
      refine lv_istore_n (lv' := [(2, .int (zI 1)), (0, .ref h0), (1, .int (zI k))]) hx hb dX9_lose_25 rfl hl (by decide) rfl (fun ls hl => ?_)
      refine lv_aload_n hx hb dX9_lose_26 rfl (lv_at hl 1 rfl) ?_
      refine va_get (D := D) (ci := 9) (v := .ref so) (C := RX9) (T := TX9) (N := 31) hx hb hts (fun _ h9 => List.mem_cons_of_mem _ (List.mem_append_right _ h9)) hown hK hP 0 rfl rfl 2 (by decide) (hts (.fieldLink RX9 9 "FontRunsModel" "sorts" "[I") mw_X9_lose_0) (fun _ h9 => h9) rfl dX9_lose_27 ?_
      refine lv_iload_n hx hb dX9_lose_30 rfl (lv_at hl 2 rfl) ?_
      refine lv_bipush (v := zI (-9)) hx hb dX9_lose_31 (by decide) ?_
      refine kz_iast hx hb hK hP hD hS 1 0 rfl rfl (by omega) dX9_lose_33 (fun H locs hP hD hS => ?_)
      have hP : va_P D vwCl [(h0, .inr (9, [.int (zI fa), .int (zI tc), .ref so, .ref sl, .ref ce, .int (zI fn), .ref kd, .ref wd, .ref hs, .ref pf, .ref lt, .int (zI mn), .ref wg, .int (zI ta), .long ck, .int (zI at9), .int (zI rfn), .ref rk, .ref rw, .ref rh, .int (zI cl), .ref sa, .ref fi, .int (zI bo), .ref ch, .ref cn, .int (zI ad), .int (zI ru), .ref kp, .int (zI dn), .ref rfa])), (so, .inl (c_so, 4, .inl (upd f_so (k).toNat (zI (-9)))))] H := hP
      have hD : va_D A [(h0, .inr (9, [.int (zI fa), .int (zI tc), .ref so, .ref sl, .ref ce, .int (zI fn), .ref kd, .ref wd, .ref hs, .ref pf, .ref lt, .int (zI mn), .ref wg, .int (zI ta), .long ck, .int (zI at9), .int (zI rfn), .ref rk, .ref rw, .ref rh, .int (zI cl), .ref sa, .ref fi, .int (zI bo), .ref ch, .ref cn, .int (zI ad), .int (zI ru), .ref kp, .int (zI dn), .ref rfa])), (so, .inl (c_so, 4, .inl (upd f_so (k).toNat (zI (-9)))))] := hD
      generalize ef_4 : upd f_so (k).toNat (zI (-9)) = f_4 at hP hD
      refine lv_iload_n hx hb dX9_lose_34 rfl (lv_at hl 0 rfl) ?_
      have hP9 := hP.sub (ws' := [(h0, .inr (9, [.int (zI fa), .int (zI tc), .ref so, .ref sl, .ref ce, .int (zI fn), .ref kd, .ref wd, .ref hs, .ref pf, .ref lt, .int (zI mn), .ref wg, .int (zI ta), .long ck, .int (zI at9), .int (zI rfn), .ref rk, .ref rw, .ref rh, .int (zI cl), .ref sa, .ref fi, .int (zI bo), .ref ch, .ref cn, .int (zI ad), .int (zI ru), .ref kp, .int (zI dn), .ref rfa])), (so, .inl (c_so, 4, .inl f_4))]) [0, 1] rfl
      have hD9 := hD.sub (ws' := [(h0, .inr (9, [.int (zI fa), .int (zI tc), .ref so, .ref sl, .ref ce, .int (zI fn), .ref kd, .ref wd, .ref hs, .ref pf, .ref lt, .int (zI mn), .ref wg, .int (zI ta), .long ck, .int (zI at9), .int (zI rfn), .ref rk, .ref rw, .ref rh, .int (zI cl), .ref sa, .ref fi, .int (zI bo), .ref ch, .ref cn, .int (zI ad), .int (zI ru), .ref kp, .int (zI dn), .ref rfa])), (so, .inl (c_so, 4, .inl f_4))]) [0, 1] (by decide +kernel) rfl
      exact W.iret (v := (zI 1)) hx hb hr (fun t ht hW => kQS_of (by omega) ⟨f_4, (kLoM_3 (by omega) ef_4 rz_2 ez_2 (by omega) (by omega)), by rw [ht]; exact hP9, hD9⟩ (hS.F ht)) hS.2.2 dX9_lose_35
    · refine lv_iconst (v := zI 0) hx hb dX9_lose_20 rfl ?_
      refine lv_goto (tgt := 25) hx hb dX9_lose_21 (by decide) ?_
      refine lv_istore_n (lv' := [(2, .int (zI 0)), (0, .ref h0), (1, .int (zI k))]) hx hb dX9_lose_25 rfl hl (by decide) rfl (fun ls hl => ?_)
      refine lv_aload_n hx hb dX9_lose_26 rfl (lv_at hl 1 rfl) ?_
      refine va_get (D := D) (ci := 9) (v := .ref so) (C := RX9) (T := TX9) (N := 31) hx hb hts (fun _ h9 => List.mem_cons_of_mem _ (List.mem_append_right _ h9)) hown hK hP 0 rfl rfl 2 (by decide) (hts (.fieldLink RX9 9 "FontRunsModel" "sorts" "[I") mw_X9_lose_0) (fun _ h9 => h9) rfl dX9_lose_27 ?_
      refine lv_iload_n hx hb dX9_lose_30 rfl (lv_at hl 2 rfl) ?_
      refine lv_bipush (v := zI (-9)) hx hb dX9_lose_31 (by decide) ?_
      refine kz_iast hx hb hK hP hD hS 1 0 rfl rfl (by omega) dX9_lose_33 (fun H locs hP hD hS => ?_)
      have hP : va_P D vwCl [(h0, .inr (9, [.int (zI fa), .int (zI tc), .ref so, .ref sl, .ref ce, .int (zI fn), .ref kd, .ref wd, .ref hs, .ref pf, .ref lt, .int (zI mn), .ref wg, .int (zI ta), .long ck, .int (zI at9), .int (zI rfn), .ref rk, .ref rw, .ref rh, .int (zI cl), .ref sa, .ref fi, .int (zI bo), .ref ch, .ref cn, .int (zI ad), .int (zI ru), .ref kp, .int (zI dn), .ref rfa])), (so, .inl (c_so, 4, .inl (upd f_so (k).toNat (zI (-9)))))] H := hP
      have hD : va_D A [(h0, .inr (9, [.int (zI fa), .int (zI tc), .ref so, .ref sl, .ref ce, .int (zI fn), .ref kd, .ref wd, .ref hs, .ref pf, .ref lt, .int (zI mn), .ref wg, .int (zI ta), .long ck, .int (zI at9), .int (zI rfn), .ref rk, .ref rw, .ref rh, .int (zI cl), .ref sa, .ref fi, .int (zI bo), .ref ch, .ref cn, .int (zI ad), .int (zI ru), .ref kp, .int (zI dn), .ref rfa])), (so, .inl (c_so, 4, .inl (upd f_so (k).toNat (zI (-9)))))] := hD
      generalize ef_5 : upd f_so (k).toNat (zI (-9)) = f_5 at hP hD
      refine lv_iload_n hx hb dX9_lose_34 rfl (lv_at hl 0 rfl) ?_
      have hP9 := hP.sub (ws' := [(h0, .inr (9, [.int (zI fa), .int (zI tc), .ref so, .ref sl, .ref ce, .int (zI fn), .ref kd, .ref wd, .ref hs, .ref pf, .ref lt, .int (zI mn), .ref wg, .int (zI ta), .long ck, .int (zI at9), .int (zI rfn), .ref rk, .ref rw, .ref rh, .int (zI cl), .ref sa, .ref fi, .int (zI bo), .ref ch, .ref cn, .int (zI ad), .int (zI ru), .ref kp, .int (zI dn), .ref rfa])), (so, .inl (c_so, 4, .inl f_5))]) [0, 1] rfl
      have hD9 := hD.sub (ws' := [(h0, .inr (9, [.int (zI fa), .int (zI tc), .ref so, .ref sl, .ref ce, .int (zI fn), .ref kd, .ref wd, .ref hs, .ref pf, .ref lt, .int (zI mn), .ref wg, .int (zI ta), .long ck, .int (zI at9), .int (zI rfn), .ref rk, .ref rw, .ref rh, .int (zI cl), .ref sa, .ref fi, .int (zI bo), .ref ch, .ref cn, .int (zI ad), .int (zI ru), .ref kp, .int (zI dn), .ref rfa])), (so, .inl (c_so, 4, .inl f_5))]) [0, 1] (by decide +kernel) rfl
      exact W.iret (v := (zI 0)) hx hb hr (fun t ht hW => kQS_of (by omega) ⟨f_5, (kLoM_2 (by omega) ef_5 rz_2 ez_2 (by omega) (by omega)), by rw [ht]; exact hP9, hD9⟩ (hS.F ht)) hS.2.2 dX9_lose_35
  · have c_1 : ¬ (0 ≤ k ∧ k ≤ 3) := b01f c_1
    refine lv_iconst (v := zI (-1)) hx hb dX9_lose_7 rfl ?_
    have hP9 := hP.sub (ws' := [(h0, .inr (9, [.int (zI fa), .int (zI tc), .ref so, .ref sl, .ref ce, .int (zI fn), .ref kd, .ref wd, .ref hs, .ref pf, .ref lt, .int (zI mn), .ref wg, .int (zI ta), .long ck, .int (zI at9), .int (zI rfn), .ref rk, .ref rw, .ref rh, .int (zI cl), .ref sa, .ref fi, .int (zI bo), .ref ch, .ref cn, .int (zI ad), .int (zI ru), .ref kp, .int (zI dn), .ref rfa])), (so, .inl (c_so, 4, .inl f_so))]) [0, 1] rfl
    have hD9 := hD.sub (ws' := [(h0, .inr (9, [.int (zI fa), .int (zI tc), .ref so, .ref sl, .ref ce, .int (zI fn), .ref kd, .ref wd, .ref hs, .ref pf, .ref lt, .int (zI mn), .ref wg, .int (zI ta), .long ck, .int (zI at9), .int (zI rfn), .ref rk, .ref rw, .ref rh, .int (zI cl), .ref sa, .ref fi, .int (zI bo), .ref ch, .ref cn, .int (zI ad), .int (zI ru), .ref kp, .int (zI dn), .ref rfa])), (so, .inl (c_so, 4, .inl f_so))]) [0, 1] (by decide +kernel) rfl
    exact W.iret (v := (zI (-1))) hx hb hr (fun t ht hW => kQS_of (by omega) ⟨f_so, (Or.inl ⟨by omega, by omega, rfl⟩), by rw [ht]; exact hP9, hD9⟩ (hS.F ht)) hS.2.2 dX9_lose_8
theorem dX9_put_0 : decode cX9_put 0 = .ok (.aload_n 0, 1) := kqo_2a kbl_X9_put (pc := 0) rfl
theorem dX9_put_1 : decode cX9_put 1 = .ok (.iconst 0, 1) := kqo_03 kbl_X9_put (pc := 1) rfl
theorem dX9_put_2 : decode cX9_put 2 = .ok (.putfield 64, 3) := kqo_b5 (x1 := 0) (x2 := 64) kbl_X9_put (pc := 2) rfl rfl
theorem dX9_put_5 : decode cX9_put 5 = .ok (.iload_n 1, 1) := kqo_1b kbl_X9_put (pc := 5) rfl
theorem dX9_put_6 : decode cX9_put 6 = .ok (.invokestatic 80, 3) := kqo_b8 (x1 := 0) (x2 := 80) kbl_X9_put (pc := 6) rfl rfl
theorem dX9_put_9 : decode cX9_put 9 = .ok (.ifCond .ne 5, 3) := kqo_9a (x1 := 0) (x2 := 5) kbl_X9_put (pc := 9) rfl rfl
theorem dX9_put_12 : decode cX9_put 12 = .ok (.iconst (-1), 1) := kqo_02 kbl_X9_put (pc := 12) rfl
theorem dX9_put_13 : decode cX9_put 13 = .ok (.ireturn, 1) := kqo_ac kbl_X9_put (pc := 13) rfl
theorem dX9_put_14 : decode cX9_put 14 = .ok (.aload_n 0, 1) := kqo_2a kbl_X9_put (pc := 14) rfl
theorem dX9_put_15 : decode cX9_put 15 = .ok (.getfield 9, 3) := kqo_b4 (x1 := 0) (x2 := 9) kbl_X9_put (pc := 15) rfl rfl
theorem dX9_put_18 : decode cX9_put 18 = .ok (.iload_n 1, 1) := kqo_1b kbl_X9_put (pc := 18) rfl
theorem dX9_put_19 : decode cX9_put 19 = .ok (.iaload, 1) := kqo_2e kbl_X9_put (pc := 19) rfl
theorem dX9_put_20 : decode cX9_put 20 = .ok (.bipush (-9), 2) := kqo_10 (x1 := 247) kbl_X9_put (pc := 20) rfl rfl
theorem dX9_put_22 : decode cX9_put 22 = .ok (.if_icmp .ne 9, 3) := kqo_a0 (x1 := 0) (x2 := 9) kbl_X9_put (pc := 22) rfl rfl
theorem dX9_put_25 : decode cX9_put 25 = .ok (.aload_n 0, 1) := kqo_2a kbl_X9_put (pc := 25) rfl
theorem dX9_put_26 : decode cX9_put 26 = .ok (.iconst 1, 1) := kqo_04 kbl_X9_put (pc := 26) rfl
theorem dX9_put_27 : decode cX9_put 27 = .ok (.invokevirtual 91, 3) := kqo_b6 (x1 := 0) (x2 := 91) kbl_X9_put (pc := 27) rfl rfl
theorem dX9_put_30 : decode cX9_put 30 = .ok (.ireturn, 1) := kqo_ac kbl_X9_put (pc := 30) rfl
theorem dX9_put_31 : decode cX9_put 31 = .ok (.iload_n 2, 1) := kqo_1c kbl_X9_put (pc := 31) rfl
theorem dX9_put_32 : decode cX9_put 32 = .ok (.iconst 0, 1) := kqo_03 kbl_X9_put (pc := 32) rfl
theorem dX9_put_33 : decode cX9_put 33 = .ok (.aload_n 0, 1) := kqo_2a kbl_X9_put (pc := 33) rfl
theorem dX9_put_34 : decode cX9_put 34 = .ok (.getfield 13, 3) := kqo_b4 (x1 := 0) (x2 := 13) kbl_X9_put (pc := 34) rfl rfl
theorem dX9_put_37 : decode cX9_put 37 = .ok (.iload_n 1, 1) := kqo_1b kbl_X9_put (pc := 37) rfl
theorem dX9_put_38 : decode cX9_put 38 = .ok (.iaload, 1) := kqo_2e kbl_X9_put (pc := 38) rfl
theorem dX9_put_39 : decode cX9_put 39 = .ok (.iconst 1, 1) := kqo_04 kbl_X9_put (pc := 39) rfl
theorem dX9_put_40 : decode cX9_put 40 = .ok (.isub, 1) := kqo_64 kbl_X9_put (pc := 40) rfl
theorem dX9_put_41 : decode cX9_put 41 = .ok (.invokestatic 70, 3) := kqo_b8 (x1 := 0) (x2 := 70) kbl_X9_put (pc := 41) rfl rfl
theorem dX9_put_44 : decode cX9_put 44 = .ok (.ifCond .ne 9, 3) := kqo_9a (x1 := 0) (x2 := 9) kbl_X9_put (pc := 44) rfl rfl
theorem dX9_put_47 : decode cX9_put 47 = .ok (.aload_n 0, 1) := kqo_2a kbl_X9_put (pc := 47) rfl
theorem dX9_put_48 : decode cX9_put 48 = .ok (.iconst 3, 1) := kqo_06 kbl_X9_put (pc := 48) rfl
theorem dX9_put_49 : decode cX9_put 49 = .ok (.invokevirtual 91, 3) := kqo_b6 (x1 := 0) (x2 := 91) kbl_X9_put (pc := 49) rfl rfl
theorem dX9_put_52 : decode cX9_put 52 = .ok (.ireturn, 1) := kqo_ac kbl_X9_put (pc := 52) rfl
theorem dX9_put_53 : decode cX9_put 53 = .ok (.aload_n 0, 1) := kqo_2a kbl_X9_put (pc := 53) rfl
theorem dX9_put_54 : decode cX9_put 54 = .ok (.getfield 16, 3) := kqo_b4 (x1 := 0) (x2 := 16) kbl_X9_put (pc := 54) rfl rfl
theorem dX9_put_57 : decode cX9_put 57 = .ok (.bipush 60, 2) := kqo_10 (x1 := 60) kbl_X9_put (pc := 57) rfl rfl
theorem dX9_put_59 : decode cX9_put 59 = .ok (.iload_n 1, 1) := kqo_1b kbl_X9_put (pc := 59) rfl
theorem dX9_put_60 : decode cX9_put 60 = .ok (.imul, 1) := kqo_68 kbl_X9_put (pc := 60) rfl
theorem dX9_put_61 : decode cX9_put 61 = .ok (.iload_n 2, 1) := kqo_1c kbl_X9_put (pc := 61) rfl
theorem dX9_put_62 : decode cX9_put 62 = .ok (.iadd, 1) := kqo_60 kbl_X9_put (pc := 62) rfl
theorem dX9_put_63 : decode cX9_put 63 = .ok (.aload_n 0, 1) := kqo_2a kbl_X9_put (pc := 63) rfl
theorem dX9_put_64 : decode cX9_put 64 = .ok (.getfield 9, 3) := kqo_b4 (x1 := 0) (x2 := 9) kbl_X9_put (pc := 64) rfl rfl
theorem dX9_put_67 : decode cX9_put 67 = .ok (.iload_n 1, 1) := kqo_1b kbl_X9_put (pc := 67) rfl
theorem dX9_put_68 : decode cX9_put 68 = .ok (.iaload, 1) := kqo_2e kbl_X9_put (pc := 68) rfl
theorem dX9_put_69 : decode cX9_put 69 = .ok (.ifCond .ne 8, 3) := kqo_9a (x1 := 0) (x2 := 8) kbl_X9_put (pc := 69) rfl rfl
theorem dX9_put_72 : decode cX9_put 72 = .ok (.iload_n 3, 1) := kqo_1d kbl_X9_put (pc := 72) rfl
theorem dX9_put_73 : decode cX9_put 73 = .ok (.i2b, 1) := kqo_91 kbl_X9_put (pc := 73) rfl
theorem dX9_put_74 : decode cX9_put 74 = .ok (.goto 19, 3) := kqo_a7 (x1 := 0) (x2 := 19) kbl_X9_put (pc := 74) rfl rfl
theorem dX9_put_77 : decode cX9_put 77 = .ok (.aload_n 0, 1) := kqo_2a kbl_X9_put (pc := 77) rfl
theorem dX9_put_78 : decode cX9_put 78 = .ok (.getfield 9, 3) := kqo_b4 (x1 := 0) (x2 := 9) kbl_X9_put (pc := 78) rfl rfl
theorem dX9_put_81 : decode cX9_put 81 = .ok (.iload_n 1, 1) := kqo_1b kbl_X9_put (pc := 81) rfl
theorem dX9_put_82 : decode cX9_put 82 = .ok (.iaload, 1) := kqo_2e kbl_X9_put (pc := 82) rfl
theorem dX9_put_83 : decode cX9_put 83 = .ok (.iconst 1, 1) := kqo_04 kbl_X9_put (pc := 83) rfl
theorem dX9_put_84 : decode cX9_put 84 = .ok (.if_icmp .ne 8, 3) := kqo_a0 (x1 := 0) (x2 := 8) kbl_X9_put (pc := 84) rfl rfl
theorem dX9_put_87 : decode cX9_put 87 = .ok (.iload_n 3, 1) := kqo_1d kbl_X9_put (pc := 87) rfl
theorem dX9_put_88 : decode cX9_put 88 = .ok (.i2s, 1) := kqo_93 kbl_X9_put (pc := 88) rfl
theorem dX9_put_89 : decode cX9_put 89 = .ok (.goto 4, 3) := kqo_a7 (x1 := 0) (x2 := 4) kbl_X9_put (pc := 89) rfl rfl
theorem dX9_put_92 : decode cX9_put 92 = .ok (.iload_n 3, 1) := kqo_1d kbl_X9_put (pc := 92) rfl
theorem dX9_put_93 : decode cX9_put 93 = .ok (.iastore, 1) := kqo_4f kbl_X9_put (pc := 93) rfl
theorem dX9_put_94 : decode cX9_put 94 = .ok (.iconst 1, 1) := kqo_04 kbl_X9_put (pc := 94) rfl
theorem dX9_put_95 : decode cX9_put 95 = .ok (.ireturn, 1) := kqo_ac kbl_X9_put (pc := 95) rfl
set_option maxRecDepth 20000 in
theorem ggX9_put_X9_fails : GoodIn wsX9_put wsX9_fails := goodIn_4 _ (List.forall_mem_cons.mpr ⟨List.mem_cons_of_mem _ (List.mem_append_left _ (List.mem_of_getElem? (i := 14) rfl)), List.forall_mem_append.mpr ⟨List.forall_mem_cons.mpr ⟨List.mem_cons_of_mem _ (List.mem_append_left _ (List.mem_of_getElem? (i := 0) rfl)), fun _ h9 => absurd h9 List.not_mem_nil⟩, fun w h9 => List.mem_cons_of_mem _ (List.mem_append_right _ (h9))⟩⟩) (by decide +kernel)
set_option maxRecDepth 20000 in
theorem gX9_put_X9_fails : GoodIn wsX9_put (wsV RX9 91 RX9 yX9_fails wsX9_fails) := goodIn_app (goodIn_4 _ (List.forall_mem_cons.mpr ⟨List.mem_cons_of_mem _ (List.mem_append_left _ (List.mem_of_getElem? (i := 11) rfl)), List.forall_mem_cons.mpr ⟨List.mem_cons_of_mem _ (List.mem_append_left _ (List.mem_of_getElem? (i := 12) rfl)), List.forall_mem_cons.mpr ⟨List.mem_cons_of_mem _ (List.mem_append_left _ (List.mem_of_getElem? (i := 13) rfl)), List.forall_mem_cons.mpr ⟨List.mem_cons_of_mem _ (List.mem_append_left _ (List.mem_of_getElem? (i := 6) rfl)), fun _ h9 => absurd h9 List.not_mem_nil⟩⟩⟩⟩) (by decide +kernel)) ggX9_put_X9_fails
set_option maxRecDepth 20000 in
theorem ggX9_put_X9_isSheet : GoodIn wsX9_put wsX9_isSheet := goodIn_4 _ (List.forall_mem_cons.mpr ⟨List.mem_cons_of_mem _ (List.mem_append_left _ (List.mem_of_getElem? (i := 7) rfl)), List.forall_mem_cons.mpr ⟨List.mem_cons_of_mem _ (List.mem_append_left _ (List.mem_of_getElem? (i := 8) rfl)), List.forall_mem_cons.mpr ⟨List.mem_cons_of_mem _ (List.mem_append_left _ (List.mem_of_getElem? (i := 9) rfl)), List.forall_mem_cons.mpr ⟨List.mem_cons_of_mem _ (List.mem_append_left _ (List.mem_of_getElem? (i := 6) rfl)), List.forall_mem_cons.mpr ⟨List.mem_cons_of_mem _ (List.mem_append_left _ (List.mem_of_getElem? (i := 10) rfl)), fun _ h9 => absurd h9 List.not_mem_nil⟩⟩⟩⟩⟩) (by decide +kernel)
set_option maxRecDepth 20000 in
theorem gX9_put_X9_isSheet : GoodIn wsX9_put (va_wsS RX9 80 yX9_isSheet wsX9_isSheet) := goodIn_app (goodIn_4 _ (List.forall_mem_cons.mpr ⟨List.mem_cons_of_mem _ (List.mem_append_left _ (List.mem_of_getElem? (i := 4) rfl)), List.forall_mem_cons.mpr ⟨List.mem_cons_of_mem _ (List.mem_append_left _ (List.mem_of_getElem? (i := 5) rfl)), List.forall_mem_cons.mpr ⟨List.mem_cons_of_mem _ (List.mem_append_left _ (List.mem_of_getElem? (i := 6) rfl)), fun _ h9 => absurd h9 List.not_mem_nil⟩⟩⟩) (by decide +kernel)) ggX9_put_X9_isSheet
set_option maxRecDepth 20000 in
theorem ggX9_put_X9_within : GoodIn wsX9_put wsX9_within := goodIn_4 _ (List.forall_mem_cons.mpr ⟨List.mem_cons_of_mem _ (List.mem_append_left _ (List.mem_of_getElem? (i := 10) rfl)), fun _ h9 => absurd h9 List.not_mem_nil⟩) (by decide +kernel)
set_option maxRecDepth 20000 in
theorem gX9_put_X9_within : GoodIn wsX9_put (va_wsS RX9 70 yX9_within wsX9_within) := goodIn_app (goodIn_4 _ (List.forall_mem_cons.mpr ⟨List.mem_cons_of_mem _ (List.mem_append_left _ (List.mem_of_getElem? (i := 8) rfl)), List.forall_mem_cons.mpr ⟨List.mem_cons_of_mem _ (List.mem_append_left _ (List.mem_of_getElem? (i := 9) rfl)), List.forall_mem_cons.mpr ⟨List.mem_cons_of_mem _ (List.mem_append_left _ (List.mem_of_getElem? (i := 6) rfl)), fun _ h9 => absurd h9 List.not_mem_nil⟩⟩⟩) (by decide +kernel)) ggX9_put_X9_within
set_option maxRecDepth 20000 in
theorem mw_X9_put_0 : (.fieldLink RX9 64 "FontRunsModel" "fault" "I" : Cond) ∈ wsX9_put := List.mem_cons_of_mem _ (List.mem_append_left _ (List.mem_of_getElem? (i := 0) rfl))
set_option maxRecDepth 20000 in
theorem mw_X9_put_1 : (.fieldLink RX9 9 "FontRunsModel" "sorts" "[I" : Cond) ∈ wsX9_put := List.mem_cons_of_mem _ (List.mem_append_left _ (List.mem_of_getElem? (i := 1) rfl))
set_option maxRecDepth 20000 in
theorem mw_X9_put_2 : (.fieldLink RX9 13 "FontRunsModel" "sheetLong" "[I" : Cond) ∈ wsX9_put := List.mem_cons_of_mem _ (List.mem_append_left _ (List.mem_of_getElem? (i := 2) rfl))
set_option maxRecDepth 20000 in
theorem mw_X9_put_3 : (.fieldLink RX9 16 "FontRunsModel" "cells" "[I" : Cond) ∈ wsX9_put := List.mem_cons_of_mem _ (List.mem_append_left _ (List.mem_of_getElem? (i := 3) rfl))
theorem ax_X9_put_0 {e0 e1 e2 e3 : Nat × va_E} : ([] : List Nat).map (fun i => ([e0, e1, e2, e3] : va_W)[i]?) = ([] : va_W).map some := rfl
theorem ax_X9_put_1 {e0 e1 e2 e3 : Nat × va_E} : ([0, 1, 2, 3] : List Nat).map (fun i => ([e0, e1, e2, e3] : va_W)[i]?) = ([e0, e1, e2, e3] : va_W).map some := rfl
theorem ax_X9_put_2 {e0 e1 e2 e3 : Nat × va_E} : ([0] : List Nat).map (fun i => ([e0, e1, e2, e3] : va_W)[i]?) = ([e0] : va_W).map some := rfl
theorem ax_X9_put_3 {e0 e1 e2 e3 : Nat × va_E} : ([1, 2, 3] : List Nat).map (fun i => ([e0, e1, e2, e3] : va_W)[i]?) = ([e1, e2, e3] : va_W).map some := rfl
theorem ax_X9_put_4 {D : va_G} {cl : List vw_C} {H : Heap} {e0 e1 e2 f0 : Nat × va_E} (h : va_P D cl ((([e0, e1, e2] : va_W) ++ ([f0] : va_W))) H) : va_P D cl (([e0, e1, e2, f0] : va_W)) H := h
theorem ax_X9_put_5 {A : Nat → Prop} {e0 e1 e2 f0 : Nat × va_E} (h : va_D A ((([e0, e1, e2] : va_W) ++ ([f0] : va_W)))) : va_D A (([e0, e1, e2, f0] : va_W)) := h
theorem ax_X9_put_6 {e0 e1 e2 e3 : Nat × va_E} : ([3, 0, 1, 2] : List Nat).map (fun i => ([e0, e1, e2, e3] : va_W)[i]?) = ([e3, e0, e1, e2] : va_W).map some := rfl
set_option maxHeartbeats 4000000 in
set_option maxRecDepth 100000 in
theorem c_X9_put (l : Launch) (D : va_G) (sz : Nat) (k : Int) (i : Int) (z : Int) (h0 : Nat) (fa : Int) (tc : Int) (so : Nat) (sl : Nat) (ce : Nat) (fn : Int) (kd : Nat) (wd : Nat) (hs : Nat) (pf : Nat) (lt : Nat) (mn : Int) (wg : Nat) (ta : Int) (ck : Int64) (at9 : Int) (rfn : Int) (rk : Nat) (rw : Nat) (rh : Nat) (cl : Int) (sa : Nat) (fi : Nat) (bo : Int) (ch : Nat) (cn : Nat) (ad : Int) (ru : Int) (kp : Nat) (dn : Int) (rfa : Nat) (c_so : ClassId) (f_so : Nat → Int32) (c_sl : ClassId) (f_sl : Nat → Int32) (c_ce : ClassId) (f_ce : Nat → Int32) (q0 : rg k) (q1 : rg i) (q2 : rg z) (q3 : rg fa) (q4 : kSL f_sl) : Met l yX9_put wsX9_put ({ frames := 2, cells := 0, slots := 0, locals := 42 }) (kPre [.ref h0, .int (zI k), .int (zI i), .int (zI z)] D [(h0, .inr (9, [.int (zI fa), .int (zI tc), .ref so, .ref sl, .ref ce, .int (zI fn), .ref kd, .ref wd, .ref hs, .ref pf, .ref lt, .int (zI mn), .ref wg, .int (zI ta), .long ck, .int (zI at9), .int (zI rfn), .ref rk, .ref rw, .ref rh, .int (zI cl), .ref sa, .ref fi, .int (zI bo), .ref ch, .ref cn, .int (zI ad), .int (zI ru), .ref kp, .int (zI dn), .ref rfa])), (so, .inl (c_so, 4, .inl f_so)), (sl, .inl (c_sl, 4, .inl f_sl)), (ce, .inl (c_ce, 240, .inl f_ce))] [(c_so, .int), (c_sl, .int), (c_ce, .int)] sz) (kQS (fun rz t => ∃ (u_fa : Int) (u_f_ce : Nat → Int32), (rg u_fa) ∧ (kPuM k i z f_so f_sl f_ce u_f_ce rz) ∧ ((rz = -11 ∧ u_fa = 1) ∨ (rz = -12 ∧ u_fa = 2) ∨ (rz = -13 ∧ u_fa = 3) ∨ (rz = -14 ∧ u_fa = 4) ∨ (¬ (-14 ≤ rz ∧ rz ≤ -11) ∧ u_fa = 0)) ∧ va_P D vwCl [(h0, .inr (9, [.int (zI u_fa), .int (zI tc), .ref so, .ref sl, .ref ce, .int (zI fn), .ref kd, .ref wd, .ref hs, .ref pf, .ref lt, .int (zI mn), .ref wg, .int (zI ta), .long ck, .int (zI at9), .int (zI rfn), .ref rk, .ref rw, .ref rh, .int (zI cl), .ref sa, .ref fi, .int (zI bo), .ref ch, .ref cn, .int (zI ad), .int (zI ru), .ref kp, .int (zI dn), .ref rfa])), (so, .inl (c_so, 4, .inl f_so)), (sl, .inl (c_sl, 4, .inl f_sl)), (ce, .inl (c_ce, 240, .inl u_f_ce))] t.heap ∧ va_D (va_A [(h0, .inr (9, [.int (zI fa), .int (zI tc), .ref so, .ref sl, .ref ce, .int (zI fn), .ref kd, .ref wd, .ref hs, .ref pf, .ref lt, .int (zI mn), .ref wg, .int (zI ta), .long ck, .int (zI at9), .int (zI rfn), .ref rk, .ref rw, .ref rh, .int (zI cl), .ref sa, .ref fi, .int (zI bo), .ref ch, .ref cn, .int (zI ad), .int (zI ru), .ref kp, .int (zI dn), .ref rfa])), (so, .inl (c_so, 4, .inl f_so)), (sl, .inl (c_sl, 4, .inl f_sl)), (ce, .inl (c_ce, 240, .inl f_ce))] sz) [(h0, .inr (9, [.int (zI u_fa), .int (zI tc), .ref so, .ref sl, .ref ce, .int (zI fn), .ref kd, .ref wd, .ref hs, .ref pf, .ref lt, .int (zI mn), .ref wg, .int (zI ta), .long ck, .int (zI at9), .int (zI rfn), .ref rk, .ref rw, .ref rh, .int (zI cl), .ref sa, .ref fi, .int (zI bo), .ref ch, .ref cn, .int (zI ad), .int (zI ru), .ref kp, .int (zI dn), .ref rfa])), (so, .inl (c_so, 4, .inl f_so)), (sl, .inl (c_sl, 4, .inl f_sl)), (ce, .inl (c_ce, 240, .inl u_f_ce))]) (va_A [(h0, .inr (9, [.int (zI fa), .int (zI tc), .ref so, .ref sl, .ref ce, .int (zI fn), .ref kd, .ref wd, .ref hs, .ref pf, .ref lt, .int (zI mn), .ref wg, .int (zI ta), .long ck, .int (zI at9), .int (zI rfn), .ref rk, .ref rw, .ref rh, .int (zI cl), .ref sa, .ref fi, .int (zI bo), .ref ch, .ref cn, .int (zI ad), .int (zI ru), .ref kp, .int (zI dn), .ref rfa])), (so, .inl (c_so, 4, .inl f_so)), (sl, .inl (c_sl, 4, .inl f_sl)), (ce, .inl (c_ce, 240, .inl f_ce))] sz)) 0 0 (va_A [(h0, .inr (9, [.int (zI fa), .int (zI tc), .ref so, .ref sl, .ref ce, .int (zI fn), .ref kd, .ref wd, .ref hs, .ref pf, .ref lt, .int (zI mn), .ref wg, .int (zI ta), .long ck, .int (zI at9), .int (zI rfn), .ref rk, .ref rw, .ref rh, .int (zI cl), .ref sa, .ref fi, .int (zI bo), .ref ch, .ref cn, .int (zI ad), .int (zI ru), .ref kp, .int (zI dn), .ref rfa])), (so, .inl (c_so, 4, .inl f_so)), (sl, .inl (c_sl, 4, .inl f_sl)), (ce, .inl (c_ce, 240, .inl f_ce))] sz) := by
  refine Met.ofW (cc := cX9_put) (maxL := 4) (ret := (some .int)) (by decide) rfl ?_
  intro p e s m args below meth c s₁ B hml hv
  obtain ⟨rfl, hsz, hP, hK, hD0, hN⟩ := hv
  have hx := B.exec
  have hb := B.bytes
  have hr := B.returns
  have hts := atoms_spec (ws := wsX9_put) B.pre
  have hown : s.vm.findClass RX9 = some m.cls := findClass_of_methodNamed B.named
  have hlocks := B.notSynchronized
  subst hsz
  have hD := hD0.self (sz := s.heap.size)
  generalize hAe : va_A [(h0, .inr (9, [.int (zI fa), .int (zI tc), .ref so, .ref sl, .ref ce, .int (zI fn), .ref kd, .ref wd, .ref hs, .ref pf, .ref lt, .int (zI mn), .ref wg, .int (zI ta), .long ck, .int (zI at9), .int (zI rfn), .ref rk, .ref rw, .ref rh, .int (zI cl), .ref sa, .ref fi, .int (zI bo), .ref ch, .ref cn, .int (zI ad), .int (zI ru), .ref kp, .int (zI dn), .ref rfa])), (so, .inl (c_so, 4, .inl f_so)), (sl, .inl (c_sl, 4, .inl f_sl)), (ce, .inl (c_ce, 240, .inl f_ce))] s.heap.size = A at hD ⊢
  have hA : ∀ q : Nat, s.heap.size ≤ q → A q := fun q h => by rw [← hAe]; exact Or.inr h
  have hS : va_S A s.heap s.heap [] := va_S.rf
  have hP : va_P D vwCl [(h0, .inr (9, [.int (zI fa), .int (zI tc), .ref so, .ref sl, .ref ce, .int (zI fn), .ref kd, .ref wd, .ref hs, .ref pf, .ref lt, .int (zI mn), .ref wg, .int (zI ta), .long ck, .int (zI at9), .int (zI rfn), .ref rk, .ref rw, .ref rh, .int (zI cl), .ref sa, .ref fi, .int (zI bo), .ref ch, .ref cn, .int (zI ad), .int (zI ru), .ref kp, .int (zI dn), .ref rfa])), (so, .inl (c_so, 4, .inl f_so)), (sl, .inl (c_sl, 4, .inl f_sl)), (ce, .inl (c_ce, 240, .inl f_ce))] s.heap := hP
  have hl := lv_entry ([.ref h0, .int (zI k), .int (zI i), .int (zI z)]) (n := 4) (Nat.le_of_ble_eq_true rfl)
  rw [lg_entry_eq]
  generalize (lg_sl ([.ref h0, .int (zI k), .int (zI i), .int (zI z)]) ++ List.replicate (4 - (lg_sl ([.ref h0, .int (zI k), .int (zI i), .int (zI z)])).length) Slot.unset).toArray = ls at hl ⊢
  have hl : lv_has ls 4 [(0, .ref h0), (1, .int (zI k)), (2, .int (zI i)), (3, .int (zI z))] := hl
  refine lv_aload_n hx hb dX9_put_0 rfl (lv_at hl 0 rfl) ?_
  refine lv_iconst (v := zI 0) hx hb dX9_put_1 rfl ?_
  refine va_put (D := D) (ci := 9) (v := .int (zI 0)) (ty := .int) (C := RX9) (T := TX9) (N := 31) hx hb hts (fun _ h9 => List.mem_cons_of_mem _ (List.mem_append_right _ h9)) tyX9 tyX9_ok nmX9 hown hK hP hD hS 0 rfl rfl 0 (by decide) (hts (.fieldLink RX9 64 "FontRunsModel" "fault" "I") mw_X9_put_0) (fun _ h9 => h9) rfl (by decide +kernel) rfl rfl (Nat.le_of_ble_eq_true rfl) dX9_put_2 (fun H locs hP hD hS => ?_)
  have hP : va_P D vwCl [(h0, .inr (9, [.int (zI 0), .int (zI tc), .ref so, .ref sl, .ref ce, .int (zI fn), .ref kd, .ref wd, .ref hs, .ref pf, .ref lt, .int (zI mn), .ref wg, .int (zI ta), .long ck, .int (zI at9), .int (zI rfn), .ref rk, .ref rw, .ref rh, .int (zI cl), .ref sa, .ref fi, .int (zI bo), .ref ch, .ref cn, .int (zI ad), .int (zI ru), .ref kp, .int (zI dn), .ref rfa])), (so, .inl (c_so, 4, .inl f_so)), (sl, .inl (c_sl, 4, .inl f_sl)), (ce, .inl (c_ce, 240, .inl f_ce))] H := hP
  have hD : va_D A [(h0, .inr (9, [.int (zI 0), .int (zI tc), .ref so, .ref sl, .ref ce, .int (zI fn), .ref kd, .ref wd, .ref hs, .ref pf, .ref lt, .int (zI mn), .ref wg, .int (zI ta), .long ck, .int (zI at9), .int (zI rfn), .ref rk, .ref rw, .ref rh, .int (zI cl), .ref sa, .ref fi, .int (zI bo), .ref ch, .ref cn, .int (zI ad), .int (zI ru), .ref kp, .int (zI dn), .ref rfa])), (so, .inl (c_so, 4, .inl f_so)), (sl, .inl (c_sl, 4, .inl f_sl)), (ce, .inl (c_ce, 240, .inl f_ce))] := hD
  refine lv_iload_n hx hb dX9_put_5 rfl (lv_at hl 1 rfl) ?_
  refine k_callR (va_runS (As := [.int (zI k)]) (rest := []) ⟨hx, hb, hml, hown, hts⟩ (c_X9_isSheet l D H.size (k := k) q0) (va_cwS 1 hts gX9_put_X9_isSheet rfl rfl rfl (by decide +kernel) ⟨Nat.le_of_ble_eq_true rfl, Nat.le_of_ble_eq_true rfl⟩) (kPreS hP (kD0 hD) hK hN [] [] ax_X9_put_0 rfl (by decide +kernel)) rfl rfl hl.1 rfl (lv_room (Nat.le_of_ble_eq_true rfl)) dX9_put_6 ⟨Nat.le_of_ble_eq_true rfl, Nat.le_of_ble_eq_true rfl⟩) ?_
  refine lv_if_ne (tgt := 14) hx hb dX9_put_9 (by decide) (fun c_1 => ?_) (fun c_1 => ?_)
  · have c_1 : 0 ≤ k ∧ k ≤ 3 := b01t c_1
    refine lv_aload_n hx hb dX9_put_14 rfl (lv_at hl 0 rfl) ?_
    refine va_get (D := D) (ci := 9) (v := .ref so) (C := RX9) (T := TX9) (N := 31) hx hb hts (fun _ h9 => List.mem_cons_of_mem _ (List.mem_append_right _ h9)) hown hK hP 0 rfl rfl 2 (by decide) (hts (.fieldLink RX9 9 "FontRunsModel" "sorts" "[I") mw_X9_put_1) (fun _ h9 => h9) rfl dX9_put_15 ?_
    refine lv_iload_n hx hb dX9_put_18 rfl (lv_at hl 1 rfl) ?_
    refine kz_iald hx hb hK hP 1 0 rfl rfl (by omega) dX9_put_19 (fun z_2 rz_2 ez_2 => ?_)
    refine lv_bipush (v := zI (-9)) hx hb dX9_put_20 (by decide) ?_
    refine kz_icmp_ne (tgt := 31) hx hb dX9_put_22 (by decide) (by omega) (by omega) (fun c_3 => ?_) (fun c_3 => ?_)
    · refine lv_iload_n hx hb dX9_put_31 rfl (lv_at hl 2 rfl) ?_
      refine lv_iconst (v := zI 0) hx hb dX9_put_32 rfl ?_
      refine lv_aload_n hx hb dX9_put_33 rfl (lv_at hl 0 rfl) ?_
      refine va_get (D := D) (ci := 9) (v := .ref sl) (C := RX9) (T := TX9) (N := 31) hx hb hts (fun _ h9 => List.mem_cons_of_mem _ (List.mem_append_right _ h9)) hown hK hP 0 rfl rfl 3 (by decide) (hts (.fieldLink RX9 13 "FontRunsModel" "sheetLong" "[I") mw_X9_put_2) (fun _ h9 => h9) rfl dX9_put_34 ?_
      refine lv_iload_n hx hb dX9_put_37 rfl (lv_at hl 1 rfl) ?_
      refine kz_iald hx hb hK hP 2 1 rfl rfl (by omega) dX9_put_38 (fun z_4 rz_4 ez_4 => ?_)
      have bz_4 := kSL_at q4 (by omega) rz_4 ez_4
      refine lv_iconst (v := zI 1) hx hb dX9_put_39 rfl ?_
      refine kz_isub hx hb dX9_put_40 ?_
      refine k_callR (va_runS (As := [.int (zI i), .int (zI 0), .int (zI (z_4 - 1))]) (rest := []) ⟨hx, hb, hml, hown, hts⟩ (c_X9_within l D H.size (v := i) (a := 0) (b := (z_4 - 1)) q1 (by omega) (by omega)) (va_cwS 3 hts gX9_put_X9_within rfl rfl rfl (by decide +kernel) ⟨Nat.le_of_ble_eq_true rfl, Nat.le_of_ble_eq_true rfl⟩) (kPreS hP (kD0 hD) hK hN [] [] ax_X9_put_0 rfl (by decide +kernel)) rfl rfl hl.1 rfl (lv_room (Nat.le_of_ble_eq_true rfl)) dX9_put_41 ⟨Nat.le_of_ble_eq_true rfl, Nat.le_of_ble_eq_true rfl⟩) ?_
      refine lv_if_ne (tgt := 53) hx hb dX9_put_44 (by decide) (fun c_5 => ?_) (fun c_5 => ?_)
      · have c_5 : 0 ≤ i ∧ i ≤ (z_4 - 1) := b01t c_5
        refine lv_aload_n hx hb dX9_put_53 rfl (lv_at hl 0 rfl) ?_
        refine va_get (D := D) (ci := 9) (v := .ref ce) (C := RX9) (T := TX9) (N := 31) hx hb hts (fun _ h9 => List.mem_cons_of_mem _ (List.mem_append_right _ h9)) hown hK hP 0 rfl rfl 4 (by decide) (hts (.fieldLink RX9 16 "FontRunsModel" "cells" "[I") mw_X9_put_3) (fun _ h9 => h9) rfl dX9_put_54 ?_
        refine lv_bipush (v := zI 60) hx hb dX9_put_57 (by decide) ?_
        refine lv_iload_n hx hb dX9_put_59 rfl (lv_at hl 1 rfl) ?_
        refine kz_imul hx hb dX9_put_60 ?_
        refine lv_iload_n hx hb dX9_put_61 rfl (lv_at hl 2 rfl) ?_
        refine kz_iadd hx hb dX9_put_62 ?_
        refine lv_aload_n hx hb dX9_put_63 rfl (lv_at hl 0 rfl) ?_
        refine va_get (D := D) (ci := 9) (v := .ref so) (C := RX9) (T := TX9) (N := 31) hx hb hts (fun _ h9 => List.mem_cons_of_mem _ (List.mem_append_right _ h9)) hown hK hP 0 rfl rfl 2 (by decide) (hts (.fieldLink RX9 9 "FontRunsModel" "sorts" "[I") mw_X9_put_1) (fun _ h9 => h9) rfl dX9_put_64 ?_
        refine lv_iload_n hx hb dX9_put_67 rfl (lv_at hl 1 rfl) ?_
        refine kz_iald hx hb hK hP 1 0 rfl rfl (by omega) dX9_put_68 (fun z_6 rz_6 ez_6 => ?_)
        have q9 : z_2 = z_6 := (zI_eq rz_2 rz_6).mp (ez_2.symm.trans ez_6)
        subst q9
        refine kz_if_ne (tgt := 77) hx hb dX9_put_69 (by decide) (by omega) (fun c_7 => ?_) (fun c_7 => ?_)
        · refine lv_aload_n hx hb dX9_put_77 rfl (lv_at hl 0 rfl) ?_
          refine va_get (D := D) (ci := 9) (v := .ref so) (C := RX9) (T := TX9) (N := 31) hx hb hts (fun _ h9 => List.mem_cons_of_mem _ (List.mem_append_right _ h9)) hown hK hP 0 rfl rfl 2 (by decide) (hts (.fieldLink RX9 9 "FontRunsModel" "sorts" "[I") mw_X9_put_1) (fun _ h9 => h9) rfl dX9_put_78 ?_
          refine lv_iload_n hx hb dX9_put_81 rfl (lv_at hl 1 rfl) ?_
          refine kz_iald hx hb hK hP 1 0 rfl rfl (by omega) dX9_put_82 (fun z_8 rz_8 ez_8 => ?_)
          have q9 : z_2 = z_8 := (zI_eq rz_2 rz_8).mp (ez_2.symm.trans ez_8)
          subst q9
          refine lv_iconst (v := zI 1) hx hb dX9_put_83 rfl ?_
          refine kz_icmp_ne (tgt := 92) hx hb dX9_put_84 (by decide) (by omega) (by omega) (fun c_9 => ?_) (fun c_9 => ?_)
          · refine lv_iload_n hx hb dX9_put_92 rfl (lv_at hl 3 rfl) ?_
            refine kz_iast hx hb hK hP hD hS 3 2 rfl rfl (by omega) dX9_put_93 (fun H locs hP hD hS => ?_)
            have hP : va_P D vwCl [(h0, .inr (9, [.int (zI 0), .int (zI tc), .ref so, .ref sl, .ref ce, .int (zI fn), .ref kd, .ref wd, .ref hs, .ref pf, .ref lt, .int (zI mn), .ref wg, .int (zI ta), .long ck, .int (zI at9), .int (zI rfn), .ref rk, .ref rw, .ref rh, .int (zI cl), .ref sa, .ref fi, .int (zI bo), .ref ch, .ref cn, .int (zI ad), .int (zI ru), .ref kp, .int (zI dn), .ref rfa])), (so, .inl (c_so, 4, .inl f_so)), (sl, .inl (c_sl, 4, .inl f_sl)), (ce, .inl (c_ce, 240, .inl (upd f_ce ((60 * k) + i).toNat (zI z))))] H := hP
            have hD : va_D A [(h0, .inr (9, [.int (zI 0), .int (zI tc), .ref so, .ref sl, .ref ce, .int (zI fn), .ref kd, .ref wd, .ref hs, .ref pf, .ref lt, .int (zI mn), .ref wg, .int (zI ta), .long ck, .int (zI at9), .int (zI rfn), .ref rk, .ref rw, .ref rh, .int (zI cl), .ref sa, .ref fi, .int (zI bo), .ref ch, .ref cn, .int (zI ad), .int (zI ru), .ref kp, .int (zI dn), .ref rfa])), (so, .inl (c_so, 4, .inl f_so)), (sl, .inl (c_sl, 4, .inl f_sl)), (ce, .inl (c_ce, 240, .inl (upd f_ce ((60 * k) + i).toNat (zI z))))] := hD
            generalize ef_10 : upd f_ce ((60 * k) + i).toNat (zI z) = f_10 at hP hD
            refine lv_iconst (v := zI 1) hx hb dX9_put_94 rfl ?_
            have hP9 := hP.sub (ws' := [(h0, .inr (9, [.int (zI 0), .int (zI tc), .ref so, .ref sl, .ref ce, .int (zI fn), .ref kd, .ref wd, .ref hs, .ref pf, .ref lt, .int (zI mn), .ref wg, .int (zI ta), .long ck, .int (zI at9), .int (zI rfn), .ref rk, .ref rw, .ref rh, .int (zI cl), .ref sa, .ref fi, .int (zI bo), .ref ch, .ref cn, .int (zI ad), .int (zI ru), .ref kp, .int (zI dn), .ref rfa])), (so, .inl (c_so, 4, .inl f_so)), (sl, .inl (c_sl, 4, .inl f_sl)), (ce, .inl (c_ce, 240, .inl f_10))]) [0, 1, 2, 3] rfl
            have hD9 := hD.sub (ws' := [(h0, .inr (9, [.int (zI 0), .int (zI tc), .ref so, .ref sl, .ref ce, .int (zI fn), .ref kd, .ref wd, .ref hs, .ref pf, .ref lt, .int (zI mn), .ref wg, .int (zI ta), .long ck, .int (zI at9), .int (zI rfn), .ref rk, .ref rw, .ref rh, .int (zI cl), .ref sa, .ref fi, .int (zI bo), .ref ch, .ref cn, .int (zI ad), .int (zI ru), .ref kp, .int (zI dn), .ref rfa])), (so, .inl (c_so, 4, .inl f_so)), (sl, .inl (c_sl, 4, .inl f_sl)), (ce, .inl (c_ce, 240, .inl f_10))]) [0, 1, 2, 3] (by decide +kernel) rfl
            exact W.iret (v := (zI 1)) hx hb hr (fun t ht hW => kQS_of (by omega) ⟨0, f_10, (by omega), (kPuM_4 (by omega) rz_2 rz_4 ez_2 ez_4 (by omega) (by omega) (by omega) (by unfold kCut; (repeat' split) <;> first | omega | rfl) ef_10), (by omega), by rw [ht]; exact hP9, hD9⟩ (hS.F ht)) hS.2.2 dX9_put_95
          · refine lv_iload_n hx hb dX9_put_87 rfl (lv_at hl 3 rfl) ?_
            refine lv_i2s (v := (zI z).toInt16.toInt32) hx hb dX9_put_88 rfl ?_
            refine kz_any (fun z_11 rz_11 ez_11 => ?_)
            refine lv_goto (tgt := 93) hx hb dX9_put_89 (by decide) ?_
            refine kz_iast hx hb hK hP hD hS 3 2 rfl rfl (by omega) dX9_put_93 (fun H locs hP hD hS => ?_)
            have hP : va_P D vwCl [(h0, .inr (9, [.int (zI 0), .int (zI tc), .ref so, .ref sl, .ref ce, .int (zI fn), .ref kd, .ref wd, .ref hs, .ref pf, .ref lt, .int (zI mn), .ref wg, .int (zI ta), .long ck, .int (zI at9), .int (zI rfn), .ref rk, .ref rw, .ref rh, .int (zI cl), .ref sa, .ref fi, .int (zI bo), .ref ch, .ref cn, .int (zI ad), .int (zI ru), .ref kp, .int (zI dn), .ref rfa])), (so, .inl (c_so, 4, .inl f_so)), (sl, .inl (c_sl, 4, .inl f_sl)), (ce, .inl (c_ce, 240, .inl (upd f_ce ((60 * k) + i).toNat (zI z_11))))] H := hP
            have hD : va_D A [(h0, .inr (9, [.int (zI 0), .int (zI tc), .ref so, .ref sl, .ref ce, .int (zI fn), .ref kd, .ref wd, .ref hs, .ref pf, .ref lt, .int (zI mn), .ref wg, .int (zI ta), .long ck, .int (zI at9), .int (zI rfn), .ref rk, .ref rw, .ref rh, .int (zI cl), .ref sa, .ref fi, .int (zI bo), .ref ch, .ref cn, .int (zI ad), .int (zI ru), .ref kp, .int (zI dn), .ref rfa])), (so, .inl (c_so, 4, .inl f_so)), (sl, .inl (c_sl, 4, .inl f_sl)), (ce, .inl (c_ce, 240, .inl (upd f_ce ((60 * k) + i).toNat (zI z_11))))] := hD
            generalize ef_12 : upd f_ce ((60 * k) + i).toNat (zI z_11) = f_12 at hP hD
            refine lv_iconst (v := zI 1) hx hb dX9_put_94 rfl ?_
            have hP9 := hP.sub (ws' := [(h0, .inr (9, [.int (zI 0), .int (zI tc), .ref so, .ref sl, .ref ce, .int (zI fn), .ref kd, .ref wd, .ref hs, .ref pf, .ref lt, .int (zI mn), .ref wg, .int (zI ta), .long ck, .int (zI at9), .int (zI rfn), .ref rk, .ref rw, .ref rh, .int (zI cl), .ref sa, .ref fi, .int (zI bo), .ref ch, .ref cn, .int (zI ad), .int (zI ru), .ref kp, .int (zI dn), .ref rfa])), (so, .inl (c_so, 4, .inl f_so)), (sl, .inl (c_sl, 4, .inl f_sl)), (ce, .inl (c_ce, 240, .inl f_12))]) [0, 1, 2, 3] rfl
            have hD9 := hD.sub (ws' := [(h0, .inr (9, [.int (zI 0), .int (zI tc), .ref so, .ref sl, .ref ce, .int (zI fn), .ref kd, .ref wd, .ref hs, .ref pf, .ref lt, .int (zI mn), .ref wg, .int (zI ta), .long ck, .int (zI at9), .int (zI rfn), .ref rk, .ref rw, .ref rh, .int (zI cl), .ref sa, .ref fi, .int (zI bo), .ref ch, .ref cn, .int (zI ad), .int (zI ru), .ref kp, .int (zI dn), .ref rfa])), (so, .inl (c_so, 4, .inl f_so)), (sl, .inl (c_sl, 4, .inl f_sl)), (ce, .inl (c_ce, 240, .inl f_12))]) [0, 1, 2, 3] (by decide +kernel) rfl
            exact W.iret (v := (zI 1)) hx hb hr (fun t ht hW => kQS_of (by omega) ⟨0, f_12, (by omega), (kPuM_4 (by omega) rz_2 rz_4 ez_2 ez_4 (by omega) (by omega) (by omega) (by unfold kCut; (repeat' split) <;> first | exact ez_11 | omega | rfl) ef_12), (by omega), by rw [ht]; exact hP9, hD9⟩ (hS.F ht)) hS.2.2 dX9_put_95
        · refine lv_iload_n hx hb dX9_put_72 rfl (lv_at hl 3 rfl) ?_
          refine lv_i2b (v := (zI z).toInt8.toInt32) hx hb dX9_put_73 rfl ?_
          refine kz_any (fun z_13 rz_13 ez_13 => ?_)
          refine lv_goto (tgt := 93) hx hb dX9_put_74 (by decide) ?_
          refine kz_iast hx hb hK hP hD hS 3 2 rfl rfl (by omega) dX9_put_93 (fun H locs hP hD hS => ?_)
          have hP : va_P D vwCl [(h0, .inr (9, [.int (zI 0), .int (zI tc), .ref so, .ref sl, .ref ce, .int (zI fn), .ref kd, .ref wd, .ref hs, .ref pf, .ref lt, .int (zI mn), .ref wg, .int (zI ta), .long ck, .int (zI at9), .int (zI rfn), .ref rk, .ref rw, .ref rh, .int (zI cl), .ref sa, .ref fi, .int (zI bo), .ref ch, .ref cn, .int (zI ad), .int (zI ru), .ref kp, .int (zI dn), .ref rfa])), (so, .inl (c_so, 4, .inl f_so)), (sl, .inl (c_sl, 4, .inl f_sl)), (ce, .inl (c_ce, 240, .inl (upd f_ce ((60 * k) + i).toNat (zI z_13))))] H := hP
          have hD : va_D A [(h0, .inr (9, [.int (zI 0), .int (zI tc), .ref so, .ref sl, .ref ce, .int (zI fn), .ref kd, .ref wd, .ref hs, .ref pf, .ref lt, .int (zI mn), .ref wg, .int (zI ta), .long ck, .int (zI at9), .int (zI rfn), .ref rk, .ref rw, .ref rh, .int (zI cl), .ref sa, .ref fi, .int (zI bo), .ref ch, .ref cn, .int (zI ad), .int (zI ru), .ref kp, .int (zI dn), .ref rfa])), (so, .inl (c_so, 4, .inl f_so)), (sl, .inl (c_sl, 4, .inl f_sl)), (ce, .inl (c_ce, 240, .inl (upd f_ce ((60 * k) + i).toNat (zI z_13))))] := hD
          generalize ef_14 : upd f_ce ((60 * k) + i).toNat (zI z_13) = f_14 at hP hD
          refine lv_iconst (v := zI 1) hx hb dX9_put_94 rfl ?_
          have hP9 := hP.sub (ws' := [(h0, .inr (9, [.int (zI 0), .int (zI tc), .ref so, .ref sl, .ref ce, .int (zI fn), .ref kd, .ref wd, .ref hs, .ref pf, .ref lt, .int (zI mn), .ref wg, .int (zI ta), .long ck, .int (zI at9), .int (zI rfn), .ref rk, .ref rw, .ref rh, .int (zI cl), .ref sa, .ref fi, .int (zI bo), .ref ch, .ref cn, .int (zI ad), .int (zI ru), .ref kp, .int (zI dn), .ref rfa])), (so, .inl (c_so, 4, .inl f_so)), (sl, .inl (c_sl, 4, .inl f_sl)), (ce, .inl (c_ce, 240, .inl f_14))]) [0, 1, 2, 3] rfl
          have hD9 := hD.sub (ws' := [(h0, .inr (9, [.int (zI 0), .int (zI tc), .ref so, .ref sl, .ref ce, .int (zI fn), .ref kd, .ref wd, .ref hs, .ref pf, .ref lt, .int (zI mn), .ref wg, .int (zI ta), .long ck, .int (zI at9), .int (zI rfn), .ref rk, .ref rw, .ref rh, .int (zI cl), .ref sa, .ref fi, .int (zI bo), .ref ch, .ref cn, .int (zI ad), .int (zI ru), .ref kp, .int (zI dn), .ref rfa])), (so, .inl (c_so, 4, .inl f_so)), (sl, .inl (c_sl, 4, .inl f_sl)), (ce, .inl (c_ce, 240, .inl f_14))]) [0, 1, 2, 3] (by decide +kernel) rfl
          exact W.iret (v := (zI 1)) hx hb hr (fun t ht hW => kQS_of (by omega) ⟨0, f_14, (by omega), (kPuM_4 (by omega) rz_2 rz_4 ez_2 ez_4 (by omega) (by omega) (by omega) (by unfold kCut; (repeat' split) <;> first | exact ez_13 | omega | rfl) ef_14), (by omega), by rw [ht]; exact hP9, hD9⟩ (hS.F ht)) hS.2.2 dX9_put_95
      · have c_5 : ¬ (0 ≤ i ∧ i ≤ (z_4 - 1)) := b01f c_5
        refine lv_aload_n hx hb dX9_put_47 rfl (lv_at hl 0 rfl) ?_
        refine lv_iconst (v := zI 3) hx hb dX9_put_48 rfl ?_
        have hFc := va_free (wc := [(h0, .inr (9, [.int (zI 0), .int (zI tc), .ref so, .ref sl, .ref ce, .int (zI fn), .ref kd, .ref wd, .ref hs, .ref pf, .ref lt, .int (zI mn), .ref wg, .int (zI ta), .long ck, .int (zI at9), .int (zI rfn), .ref rk, .ref rw, .ref rh, .int (zI cl), .ref sa, .ref fi, .int (zI bo), .ref ch, .ref cn, .int (zI ad), .int (zI ru), .ref kp, .int (zI dn), .ref rfa]))]) hD hS hA [0] ax_X9_put_2
        refine va_calli (va_runV (As := [.int (zI 3)]) (rest := []) ⟨hx, hb, hml, hown, hts⟩ (c_X9_fails_w l D H.size (f := 3) (h0 := h0) (fa := 0) (tc := tc) (so := so) (sl := sl) (ce := ce) (fn := fn) (kd := kd) (wd := wd) (hs := hs) (pf := pf) (lt := lt) (mn := mn) (wg := wg) (ta := ta) (ck := ck) (at9 := at9) (rfn := rfn) (rk := rk) (rw := rw) (rh := rh) (cl := cl) (sa := sa) (fi := fi) (bo := bo) (ch := ch) (cn := cn) (ad := ad) (ru := ru) (kp := kp) (dn := dn) (rfa := rfa) (by omega) (by omega)) (cwV 1 hts gX9_put_X9_fails rfl rfl rfl (by decide +kernel) ⟨Nat.le_of_ble_eq_true rfl, Nat.le_of_ble_eq_true rfl⟩) (kPreV hP (kD0 hD) hK hN [0] [] ax_X9_put_2 rfl (by decide +kernel) 0 9 rfl rfl) rfl rfl hl.1 rfl (lv_room (Nat.le_of_ble_eq_true rfl)) dX9_put_49 ⟨Nat.le_of_ble_eq_true rfl, Nat.le_of_ble_eq_true rfl⟩) hS (fun q _ h => hFc q h) hFc (fun r u t H1 locs ht hvm hw hB hz1 hk1 hS => ?_)
        obtain ⟨z_16, e9⟩ : ∃ z, z = u := ⟨_, rfl⟩
        subst e9
        obtain ⟨rfl, rz_16⟩ := hw
        refine Exists.elim hB (fun u_fa_15 hB1 => ?_)
        have h_17 := hB1.1
        have h_18 := hB1.2.1
        have h_19 := hB1.2.2.1
        have hP1 := hB1.2.2.2.1
        have hD1 := hB1.2.2.2.2
        clear hB hB1
        rw [ht] at hP1
        obtain ⟨hP, hD⟩ := va_join (wr := [(so, .inl (c_so, 4, .inl f_so)), (sl, .inl (c_sl, 4, .inl f_sl)), (ce, .inl (c_ce, 240, .inl f_ce))]) (w1 := [(h0, .inr (9, [.int (zI u_fa_15), .int (zI tc), .ref so, .ref sl, .ref ce, .int (zI fn), .ref kd, .ref wd, .ref hs, .ref pf, .ref lt, .int (zI mn), .ref wg, .int (zI ta), .long ck, .int (zI at9), .int (zI rfn), .ref rk, .ref rw, .ref rh, .int (zI cl), .ref sa, .ref fi, .int (zI bo), .ref ch, .ref cn, .int (zI ad), .int (zI ru), .ref kp, .int (zI dn), .ref rfa]))]) hP hD [0] [1, 2, 3] ax_X9_put_2 ax_X9_put_3 (by decide +kernel) (by decide +kernel) hk1 hFc hP1 hD1
        have hP := ax_X9_put_4 hP
        have hD := ax_X9_put_5 hD
        generalize H1 = H at hP hS ⊢
        have hP : va_P D vwCl [(so, .inl (c_so, 4, .inl f_so)), (sl, .inl (c_sl, 4, .inl f_sl)), (ce, .inl (c_ce, 240, .inl f_ce)), (h0, .inr (9, [.int (zI u_fa_15), .int (zI tc), .ref so, .ref sl, .ref ce, .int (zI fn), .ref kd, .ref wd, .ref hs, .ref pf, .ref lt, .int (zI mn), .ref wg, .int (zI ta), .long ck, .int (zI at9), .int (zI rfn), .ref rk, .ref rw, .ref rh, .int (zI cl), .ref sa, .ref fi, .int (zI bo), .ref ch, .ref cn, .int (zI ad), .int (zI ru), .ref kp, .int (zI dn), .ref rfa]))] H := hP
        have hD : va_D A [(so, .inl (c_so, 4, .inl f_so)), (sl, .inl (c_sl, 4, .inl f_sl)), (ce, .inl (c_ce, 240, .inl f_ce)), (h0, .inr (9, [.int (zI u_fa_15), .int (zI tc), .ref so, .ref sl, .ref ce, .int (zI fn), .ref kd, .ref wd, .ref hs, .ref pf, .ref lt, .int (zI mn), .ref wg, .int (zI ta), .long ck, .int (zI at9), .int (zI rfn), .ref rk, .ref rw, .ref rh, .int (zI cl), .ref sa, .ref fi, .int (zI bo), .ref ch, .ref cn, .int (zI ad), .int (zI ru), .ref kp, .int (zI dn), .ref rfa]))] := hD
        have hP9 := hP.sub (ws' := [(h0, .inr (9, [.int (zI u_fa_15), .int (zI tc), .ref so, .ref sl, .ref ce, .int (zI fn), .ref kd, .ref wd, .ref hs, .ref pf, .ref lt, .int (zI mn), .ref wg, .int (zI ta), .long ck, .int (zI at9), .int (zI rfn), .ref rk, .ref rw, .ref rh, .int (zI cl), .ref sa, .ref fi, .int (zI bo), .ref ch, .ref cn, .int (zI ad), .int (zI ru), .ref kp, .int (zI dn), .ref rfa])), (so, .inl (c_so, 4, .inl f_so)), (sl, .inl (c_sl, 4, .inl f_sl)), (ce, .inl (c_ce, 240, .inl f_ce))]) [3, 0, 1, 2] rfl
        have hD9 := hD.sub (ws' := [(h0, .inr (9, [.int (zI u_fa_15), .int (zI tc), .ref so, .ref sl, .ref ce, .int (zI fn), .ref kd, .ref wd, .ref hs, .ref pf, .ref lt, .int (zI mn), .ref wg, .int (zI ta), .long ck, .int (zI at9), .int (zI rfn), .ref rk, .ref rw, .ref rh, .int (zI cl), .ref sa, .ref fi, .int (zI bo), .ref ch, .ref cn, .int (zI ad), .int (zI ru), .ref kp, .int (zI dn), .ref rfa])), (so, .inl (c_so, 4, .inl f_so)), (sl, .inl (c_sl, 4, .inl f_sl)), (ce, .inl (c_ce, 240, .inl f_ce))]) [3, 0, 1, 2] (by decide +kernel) rfl
        exact W.iret (v := (zI z_16)) hx hb hr (fun t ht hW => kQS_of (by omega) ⟨u_fa_15, f_ce, h_17, (kPuM_3 (by omega) rz_2 rz_4 ez_2 ez_4 (by omega) (by omega) (by omega)), (by omega), by rw [ht]; exact hP9, hD9⟩ (hS.F ht)) hS.2.2 dX9_put_52
    · refine lv_aload_n hx hb dX9_put_25 rfl (lv_at hl 0 rfl) ?_
      refine lv_iconst (v := zI 1) hx hb dX9_put_26 rfl ?_
      have hFc := va_free (wc := [(h0, .inr (9, [.int (zI 0), .int (zI tc), .ref so, .ref sl, .ref ce, .int (zI fn), .ref kd, .ref wd, .ref hs, .ref pf, .ref lt, .int (zI mn), .ref wg, .int (zI ta), .long ck, .int (zI at9), .int (zI rfn), .ref rk, .ref rw, .ref rh, .int (zI cl), .ref sa, .ref fi, .int (zI bo), .ref ch, .ref cn, .int (zI ad), .int (zI ru), .ref kp, .int (zI dn), .ref rfa]))]) hD hS hA [0] ax_X9_put_2
      refine va_calli (va_runV (As := [.int (zI 1)]) (rest := []) ⟨hx, hb, hml, hown, hts⟩ (c_X9_fails_w l D H.size (f := 1) (h0 := h0) (fa := 0) (tc := tc) (so := so) (sl := sl) (ce := ce) (fn := fn) (kd := kd) (wd := wd) (hs := hs) (pf := pf) (lt := lt) (mn := mn) (wg := wg) (ta := ta) (ck := ck) (at9 := at9) (rfn := rfn) (rk := rk) (rw := rw) (rh := rh) (cl := cl) (sa := sa) (fi := fi) (bo := bo) (ch := ch) (cn := cn) (ad := ad) (ru := ru) (kp := kp) (dn := dn) (rfa := rfa) (by omega) (by omega)) (cwV 1 hts gX9_put_X9_fails rfl rfl rfl (by decide +kernel) ⟨Nat.le_of_ble_eq_true rfl, Nat.le_of_ble_eq_true rfl⟩) (kPreV hP (kD0 hD) hK hN [0] [] ax_X9_put_2 rfl (by decide +kernel) 0 9 rfl rfl) rfl rfl hl.1 rfl (lv_room (Nat.le_of_ble_eq_true rfl)) dX9_put_27 ⟨Nat.le_of_ble_eq_true rfl, Nat.le_of_ble_eq_true rfl⟩) hS (fun q _ h => hFc q h) hFc (fun r u t H1 locs ht hvm hw hB hz1 hk1 hS => ?_)
      obtain ⟨z_21, e9⟩ : ∃ z, z = u := ⟨_, rfl⟩
      subst e9
      obtain ⟨rfl, rz_21⟩ := hw
      refine Exists.elim hB (fun u_fa_20 hB1 => ?_)
      have h_22 := hB1.1
      have h_23 := hB1.2.1
      have h_24 := hB1.2.2.1
      have hP1 := hB1.2.2.2.1
      have hD1 := hB1.2.2.2.2
      clear hB hB1
      rw [ht] at hP1
      obtain ⟨hP, hD⟩ := va_join (wr := [(so, .inl (c_so, 4, .inl f_so)), (sl, .inl (c_sl, 4, .inl f_sl)), (ce, .inl (c_ce, 240, .inl f_ce))]) (w1 := [(h0, .inr (9, [.int (zI u_fa_20), .int (zI tc), .ref so, .ref sl, .ref ce, .int (zI fn), .ref kd, .ref wd, .ref hs, .ref pf, .ref lt, .int (zI mn), .ref wg, .int (zI ta), .long ck, .int (zI at9), .int (zI rfn), .ref rk, .ref rw, .ref rh, .int (zI cl), .ref sa, .ref fi, .int (zI bo), .ref ch, .ref cn, .int (zI ad), .int (zI ru), .ref kp, .int (zI dn), .ref rfa]))]) hP hD [0] [1, 2, 3] ax_X9_put_2 ax_X9_put_3 (by decide +kernel) (by decide +kernel) hk1 hFc hP1 hD1
      have hP := ax_X9_put_4 hP
      have hD := ax_X9_put_5 hD
      generalize H1 = H at hP hS ⊢
      have hP : va_P D vwCl [(so, .inl (c_so, 4, .inl f_so)), (sl, .inl (c_sl, 4, .inl f_sl)), (ce, .inl (c_ce, 240, .inl f_ce)), (h0, .inr (9, [.int (zI u_fa_20), .int (zI tc), .ref so, .ref sl, .ref ce, .int (zI fn), .ref kd, .ref wd, .ref hs, .ref pf, .ref lt, .int (zI mn), .ref wg, .int (zI ta), .long ck, .int (zI at9), .int (zI rfn), .ref rk, .ref rw, .ref rh, .int (zI cl), .ref sa, .ref fi, .int (zI bo), .ref ch, .ref cn, .int (zI ad), .int (zI ru), .ref kp, .int (zI dn), .ref rfa]))] H := hP
      have hD : va_D A [(so, .inl (c_so, 4, .inl f_so)), (sl, .inl (c_sl, 4, .inl f_sl)), (ce, .inl (c_ce, 240, .inl f_ce)), (h0, .inr (9, [.int (zI u_fa_20), .int (zI tc), .ref so, .ref sl, .ref ce, .int (zI fn), .ref kd, .ref wd, .ref hs, .ref pf, .ref lt, .int (zI mn), .ref wg, .int (zI ta), .long ck, .int (zI at9), .int (zI rfn), .ref rk, .ref rw, .ref rh, .int (zI cl), .ref sa, .ref fi, .int (zI bo), .ref ch, .ref cn, .int (zI ad), .int (zI ru), .ref kp, .int (zI dn), .ref rfa]))] := hD
      have hP9 := hP.sub (ws' := [(h0, .inr (9, [.int (zI u_fa_20), .int (zI tc), .ref so, .ref sl, .ref ce, .int (zI fn), .ref kd, .ref wd, .ref hs, .ref pf, .ref lt, .int (zI mn), .ref wg, .int (zI ta), .long ck, .int (zI at9), .int (zI rfn), .ref rk, .ref rw, .ref rh, .int (zI cl), .ref sa, .ref fi, .int (zI bo), .ref ch, .ref cn, .int (zI ad), .int (zI ru), .ref kp, .int (zI dn), .ref rfa])), (so, .inl (c_so, 4, .inl f_so)), (sl, .inl (c_sl, 4, .inl f_sl)), (ce, .inl (c_ce, 240, .inl f_ce))]) [3, 0, 1, 2] rfl
      have hD9 := hD.sub (ws' := [(h0, .inr (9, [.int (zI u_fa_20), .int (zI tc), .ref so, .ref sl, .ref ce, .int (zI fn), .ref kd, .ref wd, .ref hs, .ref pf, .ref lt, .int (zI mn), .ref wg, .int (zI ta), .long ck, .int (zI at9), .int (zI rfn), .ref rk, .ref rw, .ref rh, .int (zI cl), .ref sa, .ref fi, .int (zI bo), .ref ch, .ref cn, .int (zI ad), .int (zI ru), .ref kp, .int (zI dn), .ref rfa])), (so, .inl (c_so, 4, .inl f_so)), (sl, .inl (c_sl, 4, .inl f_sl)), (ce, .inl (c_ce, 240, .inl f_ce))]) [3, 0, 1, 2] (by decide +kernel) rfl
      exact W.iret (v := (zI z_21)) hx hb hr (fun t ht hW => kQS_of (by omega) ⟨u_fa_20, f_ce, h_22, (kPuM_2 (by omega) ez_2 (by omega) (by omega)), (by omega), by rw [ht]; exact hP9, hD9⟩ (hS.F ht)) hS.2.2 dX9_put_30
  · have c_1 : ¬ (0 ≤ k ∧ k ≤ 3) := b01f c_1
    refine lv_iconst (v := zI (-1)) hx hb dX9_put_12 rfl ?_
    have hP9 := hP.sub (ws' := [(h0, .inr (9, [.int (zI 0), .int (zI tc), .ref so, .ref sl, .ref ce, .int (zI fn), .ref kd, .ref wd, .ref hs, .ref pf, .ref lt, .int (zI mn), .ref wg, .int (zI ta), .long ck, .int (zI at9), .int (zI rfn), .ref rk, .ref rw, .ref rh, .int (zI cl), .ref sa, .ref fi, .int (zI bo), .ref ch, .ref cn, .int (zI ad), .int (zI ru), .ref kp, .int (zI dn), .ref rfa])), (so, .inl (c_so, 4, .inl f_so)), (sl, .inl (c_sl, 4, .inl f_sl)), (ce, .inl (c_ce, 240, .inl f_ce))]) [0, 1, 2, 3] rfl
    have hD9 := hD.sub (ws' := [(h0, .inr (9, [.int (zI 0), .int (zI tc), .ref so, .ref sl, .ref ce, .int (zI fn), .ref kd, .ref wd, .ref hs, .ref pf, .ref lt, .int (zI mn), .ref wg, .int (zI ta), .long ck, .int (zI at9), .int (zI rfn), .ref rk, .ref rw, .ref rh, .int (zI cl), .ref sa, .ref fi, .int (zI bo), .ref ch, .ref cn, .int (zI ad), .int (zI ru), .ref kp, .int (zI dn), .ref rfa])), (so, .inl (c_so, 4, .inl f_so)), (sl, .inl (c_sl, 4, .inl f_sl)), (ce, .inl (c_ce, 240, .inl f_ce))]) [0, 1, 2, 3] (by decide +kernel) rfl
    exact W.iret (v := (zI (-1))) hx hb hr (fun t ht hW => kQS_of (by omega) ⟨0, f_ce, (by omega), (kPuM_1 (by omega) (by omega)), (by omega), by rw [ht]; exact hP9, hD9⟩ (hS.F ht)) hS.2.2 dX9_put_13
set_option maxRecDepth 20000 in
theorem mw_X9_lost_v_0 : (.fieldLink RX9 64 "FontRunsModel" "fault" "I" : Cond) ∈ wsX9_lost := List.mem_cons_of_mem _ (List.mem_append_left _ (List.mem_of_getElem? (i := 0) rfl))
set_option maxRecDepth 20000 in
theorem mw_X9_lost_v_1 : (.constantLong RX9 68 (-9223372036854775808) : Cond) ∈ wsX9_lost := List.mem_cons_of_mem _ (List.mem_append_left _ (List.mem_of_getElem? (i := 1) rfl))
theorem ax_X9_lost_v_0 {e0 : Nat × va_E} : ([0] : List Nat).map (fun i => ([e0] : va_W)[i]?) = ([e0] : va_W).map some := rfl
set_option maxHeartbeats 4000000 in
set_option maxRecDepth 100000 in
theorem c_X9_lost_v (l : Launch) (D : va_G) (sz : Nat) (f : Int) (h0 : Nat) (fa : Int) (tc : Int) (so : Nat) (sl : Nat) (ce : Nat) (fn : Int) (kd : Nat) (wd : Nat) (hs : Nat) (pf : Nat) (lt : Nat) (mn : Int) (wg : Nat) (ta : Int) (ck : Int64) (at9 : Int) (rfn : Int) (rk : Nat) (rw : Nat) (rh : Nat) (cl : Int) (sa : Nat) (fi : Nat) (bo : Int) (ch : Nat) (cn : Nat) (ad : Int) (ru : Int) (kp : Nat) (dn : Int) (rfa : Nat) (q0 : 0 ≤ f ∧ f ≤ 4) (q1 : rg fa) : Met l yX9_lost wsX9_lost ({ frames := 0, cells := 0, slots := 0, locals := 0 }) (kPre [.ref h0, .int (zI f)] D [(h0, .inr (9, [.int (zI fa), .int (zI tc), .ref so, .ref sl, .ref ce, .int (zI fn), .ref kd, .ref wd, .ref hs, .ref pf, .ref lt, .int (zI mn), .ref wg, .int (zI ta), .long ck, .int (zI at9), .int (zI rfn), .ref rk, .ref rw, .ref rh, .int (zI cl), .ref sa, .ref fi, .int (zI bo), .ref ch, .ref cn, .int (zI ad), .int (zI ru), .ref kp, .int (zI dn), .ref rfa]))] [] sz) (kQL (fun rz t => ∃ (u_fa : Int), (rg u_fa) ∧ (rz = kLOST) ∧ (u_fa = f) ∧ va_P D vwCl [(h0, .inr (9, [.int (zI u_fa), .int (zI tc), .ref so, .ref sl, .ref ce, .int (zI fn), .ref kd, .ref wd, .ref hs, .ref pf, .ref lt, .int (zI mn), .ref wg, .int (zI ta), .long ck, .int (zI at9), .int (zI rfn), .ref rk, .ref rw, .ref rh, .int (zI cl), .ref sa, .ref fi, .int (zI bo), .ref ch, .ref cn, .int (zI ad), .int (zI ru), .ref kp, .int (zI dn), .ref rfa]))] t.heap ∧ va_D (va_A [(h0, .inr (9, [.int (zI fa), .int (zI tc), .ref so, .ref sl, .ref ce, .int (zI fn), .ref kd, .ref wd, .ref hs, .ref pf, .ref lt, .int (zI mn), .ref wg, .int (zI ta), .long ck, .int (zI at9), .int (zI rfn), .ref rk, .ref rw, .ref rh, .int (zI cl), .ref sa, .ref fi, .int (zI bo), .ref ch, .ref cn, .int (zI ad), .int (zI ru), .ref kp, .int (zI dn), .ref rfa]))] sz) [(h0, .inr (9, [.int (zI u_fa), .int (zI tc), .ref so, .ref sl, .ref ce, .int (zI fn), .ref kd, .ref wd, .ref hs, .ref pf, .ref lt, .int (zI mn), .ref wg, .int (zI ta), .long ck, .int (zI at9), .int (zI rfn), .ref rk, .ref rw, .ref rh, .int (zI cl), .ref sa, .ref fi, .int (zI bo), .ref ch, .ref cn, .int (zI ad), .int (zI ru), .ref kp, .int (zI dn), .ref rfa]))]) (va_A [(h0, .inr (9, [.int (zI fa), .int (zI tc), .ref so, .ref sl, .ref ce, .int (zI fn), .ref kd, .ref wd, .ref hs, .ref pf, .ref lt, .int (zI mn), .ref wg, .int (zI ta), .long ck, .int (zI at9), .int (zI rfn), .ref rk, .ref rw, .ref rh, .int (zI cl), .ref sa, .ref fi, .int (zI bo), .ref ch, .ref cn, .int (zI ad), .int (zI ru), .ref kp, .int (zI dn), .ref rfa]))] sz)) 0 0 (va_A [(h0, .inr (9, [.int (zI fa), .int (zI tc), .ref so, .ref sl, .ref ce, .int (zI fn), .ref kd, .ref wd, .ref hs, .ref pf, .ref lt, .int (zI mn), .ref wg, .int (zI ta), .long ck, .int (zI at9), .int (zI rfn), .ref rk, .ref rw, .ref rh, .int (zI cl), .ref sa, .ref fi, .int (zI bo), .ref ch, .ref cn, .int (zI ad), .int (zI ru), .ref kp, .int (zI dn), .ref rfa]))] sz) := by
  refine Met.ofW (cc := cX9_lost) (maxL := 2) (ret := (some .long)) (by decide) rfl ?_
  intro p e s m args below meth c s₁ B hml hv
  obtain ⟨rfl, hsz, hP, hK, hD0, hN⟩ := hv
  have hx := B.exec
  have hb := B.bytes
  have hr := B.returns
  have hts := atoms_spec (ws := wsX9_lost) B.pre
  have hown : s.vm.findClass RX9 = some m.cls := findClass_of_methodNamed B.named
  have hlocks := B.notSynchronized
  subst hsz
  have hD := hD0.self (sz := s.heap.size)
  generalize hAe : va_A [(h0, .inr (9, [.int (zI fa), .int (zI tc), .ref so, .ref sl, .ref ce, .int (zI fn), .ref kd, .ref wd, .ref hs, .ref pf, .ref lt, .int (zI mn), .ref wg, .int (zI ta), .long ck, .int (zI at9), .int (zI rfn), .ref rk, .ref rw, .ref rh, .int (zI cl), .ref sa, .ref fi, .int (zI bo), .ref ch, .ref cn, .int (zI ad), .int (zI ru), .ref kp, .int (zI dn), .ref rfa]))] s.heap.size = A at hD ⊢
  have hA : ∀ q : Nat, s.heap.size ≤ q → A q := fun q h => by rw [← hAe]; exact Or.inr h
  have hS : va_S A s.heap s.heap [] := va_S.rf
  have hP : va_P D vwCl [(h0, .inr (9, [.int (zI fa), .int (zI tc), .ref so, .ref sl, .ref ce, .int (zI fn), .ref kd, .ref wd, .ref hs, .ref pf, .ref lt, .int (zI mn), .ref wg, .int (zI ta), .long ck, .int (zI at9), .int (zI rfn), .ref rk, .ref rw, .ref rh, .int (zI cl), .ref sa, .ref fi, .int (zI bo), .ref ch, .ref cn, .int (zI ad), .int (zI ru), .ref kp, .int (zI dn), .ref rfa]))] s.heap := hP
  have hl := lv_entry ([.ref h0, .int (zI f)]) (n := 2) (Nat.le_of_ble_eq_true rfl)
  rw [lg_entry_eq]
  generalize (lg_sl ([.ref h0, .int (zI f)]) ++ List.replicate (2 - (lg_sl ([.ref h0, .int (zI f)])).length) Slot.unset).toArray = ls at hl ⊢
  have hl : lv_has ls 2 [(0, .ref h0), (1, .int (zI f))] := hl
  refine lv_aload_n hx hb dX9_lost_0 rfl (lv_at hl 0 rfl) ?_
  refine lv_iload_n hx hb dX9_lost_1 rfl (lv_at hl 1 rfl) ?_
  refine va_put (D := D) (ci := 9) (v := .int (zI f)) (ty := .int) (C := RX9) (T := TX9) (N := 31) hx hb hts (fun _ h9 => List.mem_cons_of_mem _ (List.mem_append_right _ h9)) tyX9 tyX9_ok nmX9 hown hK hP hD hS 0 rfl rfl 0 (by decide) (hts (.fieldLink RX9 64 "FontRunsModel" "fault" "I") mw_X9_lost_v_0) (fun _ h9 => h9) rfl (by decide +kernel) rfl rfl (Nat.le_of_ble_eq_true rfl) dX9_lost_2 (fun H locs hP hD hS => ?_)
  have hP : va_P D vwCl [(h0, .inr (9, [.int (zI f), .int (zI tc), .ref so, .ref sl, .ref ce, .int (zI fn), .ref kd, .ref wd, .ref hs, .ref pf, .ref lt, .int (zI mn), .ref wg, .int (zI ta), .long ck, .int (zI at9), .int (zI rfn), .ref rk, .ref rw, .ref rh, .int (zI cl), .ref sa, .ref fi, .int (zI bo), .ref ch, .ref cn, .int (zI ad), .int (zI ru), .ref kp, .int (zI dn), .ref rfa]))] H := hP
  have hD : va_D A [(h0, .inr (9, [.int (zI f), .int (zI tc), .ref so, .ref sl, .ref ce, .int (zI fn), .ref kd, .ref wd, .ref hs, .ref pf, .ref lt, .int (zI mn), .ref wg, .int (zI ta), .long ck, .int (zI at9), .int (zI rfn), .ref rk, .ref rw, .ref rh, .int (zI cl), .ref sa, .ref fi, .int (zI bo), .ref ch, .ref cn, .int (zI ad), .int (zI ru), .ref kp, .int (zI dn), .ref rfa]))] := hD
  refine lv_ldc2 (v := (-9223372036854775808)) hx hb hown (hts (.constantLong RX9 68 (-9223372036854775808)) mw_X9_lost_v_1) dX9_lost_5 ?_
  have hP9 := hP.sub (ws' := [(h0, .inr (9, [.int (zI f), .int (zI tc), .ref so, .ref sl, .ref ce, .int (zI fn), .ref kd, .ref wd, .ref hs, .ref pf, .ref lt, .int (zI mn), .ref wg, .int (zI ta), .long ck, .int (zI at9), .int (zI rfn), .ref rk, .ref rw, .ref rh, .int (zI cl), .ref sa, .ref fi, .int (zI bo), .ref ch, .ref cn, .int (zI ad), .int (zI ru), .ref kp, .int (zI dn), .ref rfa]))]) [0] rfl
  have hD9 := hD.sub (ws' := [(h0, .inr (9, [.int (zI f), .int (zI tc), .ref so, .ref sl, .ref ce, .int (zI fn), .ref kd, .ref wd, .ref hs, .ref pf, .ref lt, .int (zI mn), .ref wg, .int (zI ta), .long ck, .int (zI at9), .int (zI rfn), .ref rk, .ref rw, .ref rh, .int (zI cl), .ref sa, .ref fi, .int (zI bo), .ref ch, .ref cn, .int (zI ad), .int (zI ru), .ref kp, .int (zI dn), .ref rfa]))]) [0] (by decide +kernel) rfl
  exact W.lret (v := (-9223372036854775808)) hx hb hr (fun t ht hW => kQL_of ⟨f, (by omega), rfl, (by omega), by rw [ht]; exact hP9, hD9⟩ (hS.F ht)) hS.2.2 dX9_lost_8
theorem dX9_cell_0 : decode cX9_cell 0 = .ok (.aload_n 0, 1) := kqo_2a kbl_X9_cell (pc := 0) rfl
theorem dX9_cell_1 : decode cX9_cell 1 = .ok (.iconst 0, 1) := kqo_03 kbl_X9_cell (pc := 1) rfl
theorem dX9_cell_2 : decode cX9_cell 2 = .ok (.putfield 64, 3) := kqo_b5 (x1 := 0) (x2 := 64) kbl_X9_cell (pc := 2) rfl rfl
theorem dX9_cell_5 : decode cX9_cell 5 = .ok (.iload_n 1, 1) := kqo_1b kbl_X9_cell (pc := 5) rfl
theorem dX9_cell_6 : decode cX9_cell 6 = .ok (.invokestatic 80, 3) := kqo_b8 (x1 := 0) (x2 := 80) kbl_X9_cell (pc := 6) rfl rfl
theorem dX9_cell_9 : decode cX9_cell 9 = .ok (.ifCond .eq 10, 3) := kqo_99 (x1 := 0) (x2 := 10) kbl_X9_cell (pc := 9) rfl rfl
theorem dX9_cell_12 : decode cX9_cell 12 = .ok (.iload_n 3, 1) := kqo_1d kbl_X9_cell (pc := 12) rfl
theorem dX9_cell_13 : decode cX9_cell 13 = .ok (.invokestatic 84, 3) := kqo_b8 (x1 := 0) (x2 := 84) kbl_X9_cell (pc := 13) rfl rfl
theorem dX9_cell_16 : decode cX9_cell 16 = .ok (.ifCond .ne 7, 3) := kqo_9a (x1 := 0) (x2 := 7) kbl_X9_cell (pc := 16) rfl rfl
theorem dX9_cell_19 : decode cX9_cell 19 = .ok (.ldc2_w 68, 3) := kqo_14 (x1 := 0) (x2 := 68) kbl_X9_cell (pc := 19) rfl rfl
theorem dX9_cell_22 : decode cX9_cell 22 = .ok (.lreturn, 1) := kqo_ad kbl_X9_cell (pc := 22) rfl
theorem dX9_cell_23 : decode cX9_cell 23 = .ok (.aload_n 0, 1) := kqo_2a kbl_X9_cell (pc := 23) rfl
theorem dX9_cell_24 : decode cX9_cell 24 = .ok (.getfield 9, 3) := kqo_b4 (x1 := 0) (x2 := 9) kbl_X9_cell (pc := 24) rfl rfl
theorem dX9_cell_27 : decode cX9_cell 27 = .ok (.iload_n 1, 1) := kqo_1b kbl_X9_cell (pc := 27) rfl
theorem dX9_cell_28 : decode cX9_cell 28 = .ok (.iaload, 1) := kqo_2e kbl_X9_cell (pc := 28) rfl
theorem dX9_cell_29 : decode cX9_cell 29 = .ok (.bipush (-9), 2) := kqo_10 (x1 := 247) kbl_X9_cell (pc := 29) rfl rfl
theorem dX9_cell_31 : decode cX9_cell 31 = .ok (.if_icmp .eq 19, 3) := kqo_9f (x1 := 0) (x2 := 19) kbl_X9_cell (pc := 31) rfl rfl
theorem dX9_cell_34 : decode cX9_cell 34 = .ok (.aload_n 0, 1) := kqo_2a kbl_X9_cell (pc := 34) rfl
theorem dX9_cell_35 : decode cX9_cell 35 = .ok (.getfield 9, 3) := kqo_b4 (x1 := 0) (x2 := 9) kbl_X9_cell (pc := 35) rfl rfl
theorem dX9_cell_38 : decode cX9_cell 38 = .ok (.iload_n 1, 1) := kqo_1b kbl_X9_cell (pc := 38) rfl
theorem dX9_cell_39 : decode cX9_cell 39 = .ok (.iaload, 1) := kqo_2e kbl_X9_cell (pc := 39) rfl
theorem dX9_cell_40 : decode cX9_cell 40 = .ok (.iload_n 3, 1) := kqo_1d kbl_X9_cell (pc := 40) rfl
theorem dX9_cell_41 : decode cX9_cell 41 = .ok (.if_icmp .eq 9, 3) := kqo_9f (x1 := 0) (x2 := 9) kbl_X9_cell (pc := 41) rfl rfl
theorem dX9_cell_44 : decode cX9_cell 44 = .ok (.aload_n 0, 1) := kqo_2a kbl_X9_cell (pc := 44) rfl
theorem dX9_cell_45 : decode cX9_cell 45 = .ok (.iconst 2, 1) := kqo_05 kbl_X9_cell (pc := 45) rfl
theorem dX9_cell_46 : decode cX9_cell 46 = .ok (.invokevirtual 206, 3) := kqo_b6 (x1 := 0) (x2 := 206) kbl_X9_cell (pc := 46) rfl rfl
theorem dX9_cell_49 : decode cX9_cell 49 = .ok (.lreturn, 1) := kqo_ad kbl_X9_cell (pc := 49) rfl
theorem dX9_cell_50 : decode cX9_cell 50 = .ok (.aload_n 0, 1) := kqo_2a kbl_X9_cell (pc := 50) rfl
theorem dX9_cell_51 : decode cX9_cell 51 = .ok (.getfield 9, 3) := kqo_b4 (x1 := 0) (x2 := 9) kbl_X9_cell (pc := 51) rfl rfl
theorem dX9_cell_54 : decode cX9_cell 54 = .ok (.iload_n 1, 1) := kqo_1b kbl_X9_cell (pc := 54) rfl
theorem dX9_cell_55 : decode cX9_cell 55 = .ok (.iaload, 1) := kqo_2e kbl_X9_cell (pc := 55) rfl
theorem dX9_cell_56 : decode cX9_cell 56 = .ok (.bipush (-9), 2) := kqo_10 (x1 := 247) kbl_X9_cell (pc := 56) rfl rfl
theorem dX9_cell_58 : decode cX9_cell 58 = .ok (.if_icmp .ne 9, 3) := kqo_a0 (x1 := 0) (x2 := 9) kbl_X9_cell (pc := 58) rfl rfl
theorem dX9_cell_61 : decode cX9_cell 61 = .ok (.aload_n 0, 1) := kqo_2a kbl_X9_cell (pc := 61) rfl
theorem dX9_cell_62 : decode cX9_cell 62 = .ok (.iconst 1, 1) := kqo_04 kbl_X9_cell (pc := 62) rfl
theorem dX9_cell_63 : decode cX9_cell 63 = .ok (.invokevirtual 206, 3) := kqo_b6 (x1 := 0) (x2 := 206) kbl_X9_cell (pc := 63) rfl rfl
theorem dX9_cell_66 : decode cX9_cell 66 = .ok (.lreturn, 1) := kqo_ad kbl_X9_cell (pc := 66) rfl
theorem dX9_cell_67 : decode cX9_cell 67 = .ok (.iload_n 2, 1) := kqo_1c kbl_X9_cell (pc := 67) rfl
theorem dX9_cell_68 : decode cX9_cell 68 = .ok (.iconst 0, 1) := kqo_03 kbl_X9_cell (pc := 68) rfl
theorem dX9_cell_69 : decode cX9_cell 69 = .ok (.aload_n 0, 1) := kqo_2a kbl_X9_cell (pc := 69) rfl
theorem dX9_cell_70 : decode cX9_cell 70 = .ok (.getfield 13, 3) := kqo_b4 (x1 := 0) (x2 := 13) kbl_X9_cell (pc := 70) rfl rfl
theorem dX9_cell_73 : decode cX9_cell 73 = .ok (.iload_n 1, 1) := kqo_1b kbl_X9_cell (pc := 73) rfl
theorem dX9_cell_74 : decode cX9_cell 74 = .ok (.iaload, 1) := kqo_2e kbl_X9_cell (pc := 74) rfl
theorem dX9_cell_75 : decode cX9_cell 75 = .ok (.iconst 1, 1) := kqo_04 kbl_X9_cell (pc := 75) rfl
theorem dX9_cell_76 : decode cX9_cell 76 = .ok (.isub, 1) := kqo_64 kbl_X9_cell (pc := 76) rfl
theorem dX9_cell_77 : decode cX9_cell 77 = .ok (.invokestatic 70, 3) := kqo_b8 (x1 := 0) (x2 := 70) kbl_X9_cell (pc := 77) rfl rfl
theorem dX9_cell_80 : decode cX9_cell 80 = .ok (.ifCond .ne 9, 3) := kqo_9a (x1 := 0) (x2 := 9) kbl_X9_cell (pc := 80) rfl rfl
theorem dX9_cell_83 : decode cX9_cell 83 = .ok (.aload_n 0, 1) := kqo_2a kbl_X9_cell (pc := 83) rfl
theorem dX9_cell_84 : decode cX9_cell 84 = .ok (.iconst 3, 1) := kqo_06 kbl_X9_cell (pc := 84) rfl
theorem dX9_cell_85 : decode cX9_cell 85 = .ok (.invokevirtual 206, 3) := kqo_b6 (x1 := 0) (x2 := 206) kbl_X9_cell (pc := 85) rfl rfl
theorem dX9_cell_88 : decode cX9_cell 88 = .ok (.lreturn, 1) := kqo_ad kbl_X9_cell (pc := 88) rfl
theorem dX9_cell_89 : decode cX9_cell 89 = .ok (.aload_n 0, 1) := kqo_2a kbl_X9_cell (pc := 89) rfl
theorem dX9_cell_90 : decode cX9_cell 90 = .ok (.getfield 16, 3) := kqo_b4 (x1 := 0) (x2 := 16) kbl_X9_cell (pc := 90) rfl rfl
theorem dX9_cell_93 : decode cX9_cell 93 = .ok (.bipush 60, 2) := kqo_10 (x1 := 60) kbl_X9_cell (pc := 93) rfl rfl
theorem dX9_cell_95 : decode cX9_cell 95 = .ok (.iload_n 1, 1) := kqo_1b kbl_X9_cell (pc := 95) rfl
theorem dX9_cell_96 : decode cX9_cell 96 = .ok (.imul, 1) := kqo_68 kbl_X9_cell (pc := 96) rfl
theorem dX9_cell_97 : decode cX9_cell 97 = .ok (.iload_n 2, 1) := kqo_1c kbl_X9_cell (pc := 97) rfl
theorem dX9_cell_98 : decode cX9_cell 98 = .ok (.iadd, 1) := kqo_60 kbl_X9_cell (pc := 98) rfl
theorem dX9_cell_99 : decode cX9_cell 99 = .ok (.iaload, 1) := kqo_2e kbl_X9_cell (pc := 99) rfl
theorem dX9_cell_100 : decode cX9_cell 100 = .ok (.i2l, 1) := kqo_85 kbl_X9_cell (pc := 100) rfl
theorem dX9_cell_101 : decode cX9_cell 101 = .ok (.lreturn, 1) := kqo_ad kbl_X9_cell (pc := 101) rfl
set_option maxRecDepth 20000 in
theorem ggX9_cell_X9_isSheet : GoodIn wsX9_cell wsX9_isSheet := goodIn_4 _ (List.forall_mem_cons.mpr ⟨List.mem_cons_of_mem _ (List.mem_append_left _ (List.mem_of_getElem? (i := 8) rfl)), List.forall_mem_cons.mpr ⟨List.mem_cons_of_mem _ (List.mem_append_left _ (List.mem_of_getElem? (i := 9) rfl)), List.forall_mem_cons.mpr ⟨List.mem_cons_of_mem _ (List.mem_append_left _ (List.mem_of_getElem? (i := 10) rfl)), List.forall_mem_cons.mpr ⟨List.mem_cons_of_mem _ (List.mem_append_left _ (List.mem_of_getElem? (i := 7) rfl)), List.forall_mem_cons.mpr ⟨List.mem_cons_of_mem _ (List.mem_append_left _ (List.mem_of_getElem? (i := 11) rfl)), fun _ h9 => absurd h9 List.not_mem_nil⟩⟩⟩⟩⟩) (by decide +kernel)
set_option maxRecDepth 20000 in
theorem gX9_cell_X9_isSheet : GoodIn wsX9_cell (va_wsS RX9 80 yX9_isSheet wsX9_isSheet) := goodIn_app (goodIn_4 _ (List.forall_mem_cons.mpr ⟨List.mem_cons_of_mem _ (List.mem_append_left _ (List.mem_of_getElem? (i := 5) rfl)), List.forall_mem_cons.mpr ⟨List.mem_cons_of_mem _ (List.mem_append_left _ (List.mem_of_getElem? (i := 6) rfl)), List.forall_mem_cons.mpr ⟨List.mem_cons_of_mem _ (List.mem_append_left _ (List.mem_of_getElem? (i := 7) rfl)), fun _ h9 => absurd h9 List.not_mem_nil⟩⟩⟩) (by decide +kernel)) ggX9_cell_X9_isSheet
set_option maxRecDepth 20000 in
theorem ggX9_cell_X9_isSort : GoodIn wsX9_cell wsX9_isSort := goodIn_4 _ (List.forall_mem_cons.mpr ⟨List.mem_cons_of_mem _ (List.mem_append_left _ (List.mem_of_getElem? (i := 14) rfl)), List.forall_mem_cons.mpr ⟨List.mem_cons_of_mem _ (List.mem_append_left _ (List.mem_of_getElem? (i := 9) rfl)), List.forall_mem_cons.mpr ⟨List.mem_cons_of_mem _ (List.mem_append_left _ (List.mem_of_getElem? (i := 10) rfl)), List.forall_mem_cons.mpr ⟨List.mem_cons_of_mem _ (List.mem_append_left _ (List.mem_of_getElem? (i := 7) rfl)), List.forall_mem_cons.mpr ⟨List.mem_cons_of_mem _ (List.mem_append_left _ (List.mem_of_getElem? (i := 11) rfl)), fun _ h9 => absurd h9 List.not_mem_nil⟩⟩⟩⟩⟩) (by decide +kernel)
set_option maxRecDepth 20000 in
theorem gX9_cell_X9_isSort : GoodIn wsX9_cell (va_wsS RX9 84 yX9_isSort wsX9_isSort) := goodIn_app (goodIn_4 _ (List.forall_mem_cons.mpr ⟨List.mem_cons_of_mem _ (List.mem_append_left _ (List.mem_of_getElem? (i := 12) rfl)), List.forall_mem_cons.mpr ⟨List.mem_cons_of_mem _ (List.mem_append_left _ (List.mem_of_getElem? (i := 13) rfl)), List.forall_mem_cons.mpr ⟨List.mem_cons_of_mem _ (List.mem_append_left _ (List.mem_of_getElem? (i := 7) rfl)), fun _ h9 => absurd h9 List.not_mem_nil⟩⟩⟩) (by decide +kernel)) ggX9_cell_X9_isSort
set_option maxRecDepth 20000 in
theorem ggX9_cell_X9_lost : GoodIn wsX9_cell wsX9_lost := goodIn_4 _ (List.forall_mem_cons.mpr ⟨List.mem_cons_of_mem _ (List.mem_append_left _ (List.mem_of_getElem? (i := 18) rfl)), List.forall_mem_append.mpr ⟨List.forall_mem_cons.mpr ⟨List.mem_cons_of_mem _ (List.mem_append_left _ (List.mem_of_getElem? (i := 0) rfl)), List.forall_mem_cons.mpr ⟨List.mem_cons_of_mem _ (List.mem_append_left _ (List.mem_of_getElem? (i := 1) rfl)), fun _ h9 => absurd h9 List.not_mem_nil⟩⟩, fun w h9 => List.mem_cons_of_mem _ (List.mem_append_right _ (h9))⟩⟩) (by decide +kernel)
set_option maxRecDepth 20000 in
theorem gX9_cell_X9_lost : GoodIn wsX9_cell (wsV RX9 206 RX9 yX9_lost wsX9_lost) := goodIn_app (goodIn_4 _ (List.forall_mem_cons.mpr ⟨List.mem_cons_of_mem _ (List.mem_append_left _ (List.mem_of_getElem? (i := 15) rfl)), List.forall_mem_cons.mpr ⟨List.mem_cons_of_mem _ (List.mem_append_left _ (List.mem_of_getElem? (i := 16) rfl)), List.forall_mem_cons.mpr ⟨List.mem_cons_of_mem _ (List.mem_append_left _ (List.mem_of_getElem? (i := 17) rfl)), List.forall_mem_cons.mpr ⟨List.mem_cons_of_mem _ (List.mem_append_left _ (List.mem_of_getElem? (i := 7) rfl)), fun _ h9 => absurd h9 List.not_mem_nil⟩⟩⟩⟩) (by decide +kernel)) ggX9_cell_X9_lost
set_option maxRecDepth 20000 in
theorem ggX9_cell_X9_within : GoodIn wsX9_cell wsX9_within := goodIn_4 _ (List.forall_mem_cons.mpr ⟨List.mem_cons_of_mem _ (List.mem_append_left _ (List.mem_of_getElem? (i := 11) rfl)), fun _ h9 => absurd h9 List.not_mem_nil⟩) (by decide +kernel)
set_option maxRecDepth 20000 in
theorem gX9_cell_X9_within : GoodIn wsX9_cell (va_wsS RX9 70 yX9_within wsX9_within) := goodIn_app (goodIn_4 _ (List.forall_mem_cons.mpr ⟨List.mem_cons_of_mem _ (List.mem_append_left _ (List.mem_of_getElem? (i := 9) rfl)), List.forall_mem_cons.mpr ⟨List.mem_cons_of_mem _ (List.mem_append_left _ (List.mem_of_getElem? (i := 10) rfl)), List.forall_mem_cons.mpr ⟨List.mem_cons_of_mem _ (List.mem_append_left _ (List.mem_of_getElem? (i := 7) rfl)), fun _ h9 => absurd h9 List.not_mem_nil⟩⟩⟩) (by decide +kernel)) ggX9_cell_X9_within
set_option maxRecDepth 20000 in
theorem mw_X9_cell_0 : (.fieldLink RX9 64 "FontRunsModel" "fault" "I" : Cond) ∈ wsX9_cell := List.mem_cons_of_mem _ (List.mem_append_left _ (List.mem_of_getElem? (i := 0) rfl))
set_option maxRecDepth 20000 in
theorem mw_X9_cell_1 : (.constantLong RX9 68 (-9223372036854775808) : Cond) ∈ wsX9_cell := List.mem_cons_of_mem _ (List.mem_append_left _ (List.mem_of_getElem? (i := 1) rfl))
set_option maxRecDepth 20000 in
theorem mw_X9_cell_2 : (.fieldLink RX9 9 "FontRunsModel" "sorts" "[I" : Cond) ∈ wsX9_cell := List.mem_cons_of_mem _ (List.mem_append_left _ (List.mem_of_getElem? (i := 2) rfl))
set_option maxRecDepth 20000 in
theorem mw_X9_cell_3 : (.fieldLink RX9 13 "FontRunsModel" "sheetLong" "[I" : Cond) ∈ wsX9_cell := List.mem_cons_of_mem _ (List.mem_append_left _ (List.mem_of_getElem? (i := 3) rfl))
set_option maxRecDepth 20000 in
theorem mw_X9_cell_4 : (.fieldLink RX9 16 "FontRunsModel" "cells" "[I" : Cond) ∈ wsX9_cell := List.mem_cons_of_mem _ (List.mem_append_left _ (List.mem_of_getElem? (i := 4) rfl))
theorem ax_X9_cell_0 {e0 e1 e2 e3 : Nat × va_E} : ([] : List Nat).map (fun i => ([e0, e1, e2, e3] : va_W)[i]?) = ([] : va_W).map some := rfl
theorem ax_X9_cell_1 {e0 e1 e2 e3 : Nat × va_E} : ([0, 1, 2, 3] : List Nat).map (fun i => ([e0, e1, e2, e3] : va_W)[i]?) = ([e0, e1, e2, e3] : va_W).map some := rfl
theorem ax_X9_cell_2 {e0 e1 e2 e3 : Nat × va_E} : ([0] : List Nat).map (fun i => ([e0, e1, e2, e3] : va_W)[i]?) = ([e0] : va_W).map some := rfl
theorem ax_X9_cell_3 {e0 e1 e2 e3 : Nat × va_E} : ([1, 2, 3] : List Nat).map (fun i => ([e0, e1, e2, e3] : va_W)[i]?) = ([e1, e2, e3] : va_W).map some := rfl
theorem ax_X9_cell_4 {D : va_G} {cl : List vw_C} {H : Heap} {e0 e1 e2 f0 : Nat × va_E} (h : va_P D cl ((([e0, e1, e2] : va_W) ++ ([f0] : va_W))) H) : va_P D cl (([e0, e1, e2, f0] : va_W)) H := h
theorem ax_X9_cell_5 {A : Nat → Prop} {e0 e1 e2 f0 : Nat × va_E} (h : va_D A ((([e0, e1, e2] : va_W) ++ ([f0] : va_W)))) : va_D A (([e0, e1, e2, f0] : va_W)) := h
theorem ax_X9_cell_6 {e0 e1 e2 e3 : Nat × va_E} : ([3, 0, 1, 2] : List Nat).map (fun i => ([e0, e1, e2, e3] : va_W)[i]?) = ([e3, e0, e1, e2] : va_W).map some := rfl
set_option maxHeartbeats 4000000 in
set_option maxRecDepth 100000 in
theorem c_X9_cell (l : Launch) (D : va_G) (sz : Nat) (k : Int) (i : Int) (y : Int) (h0 : Nat) (fa : Int) (tc : Int) (so : Nat) (sl : Nat) (ce : Nat) (fn : Int) (kd : Nat) (wd : Nat) (hs : Nat) (pf : Nat) (lt : Nat) (mn : Int) (wg : Nat) (ta : Int) (ck : Int64) (at9 : Int) (rfn : Int) (rk : Nat) (rw : Nat) (rh : Nat) (cl : Int) (sa : Nat) (fi : Nat) (bo : Int) (ch : Nat) (cn : Nat) (ad : Int) (ru : Int) (kp : Nat) (dn : Int) (rfa : Nat) (c_so : ClassId) (f_so : Nat → Int32) (c_sl : ClassId) (f_sl : Nat → Int32) (c_ce : ClassId) (f_ce : Nat → Int32) (q0 : rg k) (q1 : rg i) (q2 : rg y) (q3 : rg fa) (q4 : kSL f_sl) : Met l yX9_cell wsX9_cell ({ frames := 2, cells := 0, slots := 0, locals := 42 }) (kPre [.ref h0, .int (zI k), .int (zI i), .int (zI y)] D [(h0, .inr (9, [.int (zI fa), .int (zI tc), .ref so, .ref sl, .ref ce, .int (zI fn), .ref kd, .ref wd, .ref hs, .ref pf, .ref lt, .int (zI mn), .ref wg, .int (zI ta), .long ck, .int (zI at9), .int (zI rfn), .ref rk, .ref rw, .ref rh, .int (zI cl), .ref sa, .ref fi, .int (zI bo), .ref ch, .ref cn, .int (zI ad), .int (zI ru), .ref kp, .int (zI dn), .ref rfa])), (so, .inl (c_so, 4, .inl f_so)), (sl, .inl (c_sl, 4, .inl f_sl)), (ce, .inl (c_ce, 240, .inl f_ce))] [(c_so, .int), (c_sl, .int), (c_ce, .int)] sz) (kQL (fun rz t => ∃ (u_fa : Int), (rg u_fa) ∧ (kCeM k i y f_so f_sl f_ce rz) ∧ (kCfM k y i f_so f_sl u_fa) ∧ va_P D vwCl [(h0, .inr (9, [.int (zI u_fa), .int (zI tc), .ref so, .ref sl, .ref ce, .int (zI fn), .ref kd, .ref wd, .ref hs, .ref pf, .ref lt, .int (zI mn), .ref wg, .int (zI ta), .long ck, .int (zI at9), .int (zI rfn), .ref rk, .ref rw, .ref rh, .int (zI cl), .ref sa, .ref fi, .int (zI bo), .ref ch, .ref cn, .int (zI ad), .int (zI ru), .ref kp, .int (zI dn), .ref rfa])), (so, .inl (c_so, 4, .inl f_so)), (sl, .inl (c_sl, 4, .inl f_sl)), (ce, .inl (c_ce, 240, .inl f_ce))] t.heap ∧ va_D (va_A [(h0, .inr (9, [.int (zI fa), .int (zI tc), .ref so, .ref sl, .ref ce, .int (zI fn), .ref kd, .ref wd, .ref hs, .ref pf, .ref lt, .int (zI mn), .ref wg, .int (zI ta), .long ck, .int (zI at9), .int (zI rfn), .ref rk, .ref rw, .ref rh, .int (zI cl), .ref sa, .ref fi, .int (zI bo), .ref ch, .ref cn, .int (zI ad), .int (zI ru), .ref kp, .int (zI dn), .ref rfa])), (so, .inl (c_so, 4, .inl f_so)), (sl, .inl (c_sl, 4, .inl f_sl)), (ce, .inl (c_ce, 240, .inl f_ce))] sz) [(h0, .inr (9, [.int (zI u_fa), .int (zI tc), .ref so, .ref sl, .ref ce, .int (zI fn), .ref kd, .ref wd, .ref hs, .ref pf, .ref lt, .int (zI mn), .ref wg, .int (zI ta), .long ck, .int (zI at9), .int (zI rfn), .ref rk, .ref rw, .ref rh, .int (zI cl), .ref sa, .ref fi, .int (zI bo), .ref ch, .ref cn, .int (zI ad), .int (zI ru), .ref kp, .int (zI dn), .ref rfa])), (so, .inl (c_so, 4, .inl f_so)), (sl, .inl (c_sl, 4, .inl f_sl)), (ce, .inl (c_ce, 240, .inl f_ce))]) (va_A [(h0, .inr (9, [.int (zI fa), .int (zI tc), .ref so, .ref sl, .ref ce, .int (zI fn), .ref kd, .ref wd, .ref hs, .ref pf, .ref lt, .int (zI mn), .ref wg, .int (zI ta), .long ck, .int (zI at9), .int (zI rfn), .ref rk, .ref rw, .ref rh, .int (zI cl), .ref sa, .ref fi, .int (zI bo), .ref ch, .ref cn, .int (zI ad), .int (zI ru), .ref kp, .int (zI dn), .ref rfa])), (so, .inl (c_so, 4, .inl f_so)), (sl, .inl (c_sl, 4, .inl f_sl)), (ce, .inl (c_ce, 240, .inl f_ce))] sz)) 0 0 (va_A [(h0, .inr (9, [.int (zI fa), .int (zI tc), .ref so, .ref sl, .ref ce, .int (zI fn), .ref kd, .ref wd, .ref hs, .ref pf, .ref lt, .int (zI mn), .ref wg, .int (zI ta), .long ck, .int (zI at9), .int (zI rfn), .ref rk, .ref rw, .ref rh, .int (zI cl), .ref sa, .ref fi, .int (zI bo), .ref ch, .ref cn, .int (zI ad), .int (zI ru), .ref kp, .int (zI dn), .ref rfa])), (so, .inl (c_so, 4, .inl f_so)), (sl, .inl (c_sl, 4, .inl f_sl)), (ce, .inl (c_ce, 240, .inl f_ce))] sz) := by
  refine Met.ofW (cc := cX9_cell) (maxL := 4) (ret := (some .long)) (by decide) rfl ?_
  intro p e s m args below meth c s₁ B hml hv
  obtain ⟨rfl, hsz, hP, hK, hD0, hN⟩ := hv
  have hx := B.exec
  have hb := B.bytes
  have hr := B.returns
  have hts := atoms_spec (ws := wsX9_cell) B.pre
  have hown : s.vm.findClass RX9 = some m.cls := findClass_of_methodNamed B.named
  have hlocks := B.notSynchronized
  subst hsz
  have hD := hD0.self (sz := s.heap.size)
  generalize hAe : va_A [(h0, .inr (9, [.int (zI fa), .int (zI tc), .ref so, .ref sl, .ref ce, .int (zI fn), .ref kd, .ref wd, .ref hs, .ref pf, .ref lt, .int (zI mn), .ref wg, .int (zI ta), .long ck, .int (zI at9), .int (zI rfn), .ref rk, .ref rw, .ref rh, .int (zI cl), .ref sa, .ref fi, .int (zI bo), .ref ch, .ref cn, .int (zI ad), .int (zI ru), .ref kp, .int (zI dn), .ref rfa])), (so, .inl (c_so, 4, .inl f_so)), (sl, .inl (c_sl, 4, .inl f_sl)), (ce, .inl (c_ce, 240, .inl f_ce))] s.heap.size = A at hD ⊢
  have hA : ∀ q : Nat, s.heap.size ≤ q → A q := fun q h => by rw [← hAe]; exact Or.inr h
  have hS : va_S A s.heap s.heap [] := va_S.rf
  have hP : va_P D vwCl [(h0, .inr (9, [.int (zI fa), .int (zI tc), .ref so, .ref sl, .ref ce, .int (zI fn), .ref kd, .ref wd, .ref hs, .ref pf, .ref lt, .int (zI mn), .ref wg, .int (zI ta), .long ck, .int (zI at9), .int (zI rfn), .ref rk, .ref rw, .ref rh, .int (zI cl), .ref sa, .ref fi, .int (zI bo), .ref ch, .ref cn, .int (zI ad), .int (zI ru), .ref kp, .int (zI dn), .ref rfa])), (so, .inl (c_so, 4, .inl f_so)), (sl, .inl (c_sl, 4, .inl f_sl)), (ce, .inl (c_ce, 240, .inl f_ce))] s.heap := hP
  have hl := lv_entry ([.ref h0, .int (zI k), .int (zI i), .int (zI y)]) (n := 4) (Nat.le_of_ble_eq_true rfl)
  rw [lg_entry_eq]
  generalize (lg_sl ([.ref h0, .int (zI k), .int (zI i), .int (zI y)]) ++ List.replicate (4 - (lg_sl ([.ref h0, .int (zI k), .int (zI i), .int (zI y)])).length) Slot.unset).toArray = ls at hl ⊢
  have hl : lv_has ls 4 [(0, .ref h0), (1, .int (zI k)), (2, .int (zI i)), (3, .int (zI y))] := hl
  refine lv_aload_n hx hb dX9_cell_0 rfl (lv_at hl 0 rfl) ?_
  refine lv_iconst (v := zI 0) hx hb dX9_cell_1 rfl ?_
  refine va_put (D := D) (ci := 9) (v := .int (zI 0)) (ty := .int) (C := RX9) (T := TX9) (N := 31) hx hb hts (fun _ h9 => List.mem_cons_of_mem _ (List.mem_append_right _ h9)) tyX9 tyX9_ok nmX9 hown hK hP hD hS 0 rfl rfl 0 (by decide) (hts (.fieldLink RX9 64 "FontRunsModel" "fault" "I") mw_X9_cell_0) (fun _ h9 => h9) rfl (by decide +kernel) rfl rfl (Nat.le_of_ble_eq_true rfl) dX9_cell_2 (fun H locs hP hD hS => ?_)
  have hP : va_P D vwCl [(h0, .inr (9, [.int (zI 0), .int (zI tc), .ref so, .ref sl, .ref ce, .int (zI fn), .ref kd, .ref wd, .ref hs, .ref pf, .ref lt, .int (zI mn), .ref wg, .int (zI ta), .long ck, .int (zI at9), .int (zI rfn), .ref rk, .ref rw, .ref rh, .int (zI cl), .ref sa, .ref fi, .int (zI bo), .ref ch, .ref cn, .int (zI ad), .int (zI ru), .ref kp, .int (zI dn), .ref rfa])), (so, .inl (c_so, 4, .inl f_so)), (sl, .inl (c_sl, 4, .inl f_sl)), (ce, .inl (c_ce, 240, .inl f_ce))] H := hP
  have hD : va_D A [(h0, .inr (9, [.int (zI 0), .int (zI tc), .ref so, .ref sl, .ref ce, .int (zI fn), .ref kd, .ref wd, .ref hs, .ref pf, .ref lt, .int (zI mn), .ref wg, .int (zI ta), .long ck, .int (zI at9), .int (zI rfn), .ref rk, .ref rw, .ref rh, .int (zI cl), .ref sa, .ref fi, .int (zI bo), .ref ch, .ref cn, .int (zI ad), .int (zI ru), .ref kp, .int (zI dn), .ref rfa])), (so, .inl (c_so, 4, .inl f_so)), (sl, .inl (c_sl, 4, .inl f_sl)), (ce, .inl (c_ce, 240, .inl f_ce))] := hD
  refine lv_iload_n hx hb dX9_cell_5 rfl (lv_at hl 1 rfl) ?_
  refine k_callR (va_runS (As := [.int (zI k)]) (rest := []) ⟨hx, hb, hml, hown, hts⟩ (c_X9_isSheet l D H.size (k := k) q0) (va_cwS 1 hts gX9_cell_X9_isSheet rfl rfl rfl (by decide +kernel) ⟨Nat.le_of_ble_eq_true rfl, Nat.le_of_ble_eq_true rfl⟩) (kPreS hP (kD0 hD) hK hN [] [] ax_X9_cell_0 rfl (by decide +kernel)) rfl rfl hl.1 rfl (lv_room (Nat.le_of_ble_eq_true rfl)) dX9_cell_6 ⟨Nat.le_of_ble_eq_true rfl, Nat.le_of_ble_eq_true rfl⟩) ?_
  refine lv_if_eq (tgt := 19) hx hb dX9_cell_9 (by decide) (fun c_1 => ?_) (fun c_1 => ?_)
  · have c_1 : ¬ (0 ≤ k ∧ k ≤ 3) := b01f c_1
    refine lv_ldc2 (v := (-9223372036854775808)) hx hb hown (hts (.constantLong RX9 68 (-9223372036854775808)) mw_X9_cell_1) dX9_cell_19 ?_
    have hP9 := hP.sub (ws' := [(h0, .inr (9, [.int (zI 0), .int (zI tc), .ref so, .ref sl, .ref ce, .int (zI fn), .ref kd, .ref wd, .ref hs, .ref pf, .ref lt, .int (zI mn), .ref wg, .int (zI ta), .long ck, .int (zI at9), .int (zI rfn), .ref rk, .ref rw, .ref rh, .int (zI cl), .ref sa, .ref fi, .int (zI bo), .ref ch, .ref cn, .int (zI ad), .int (zI ru), .ref kp, .int (zI dn), .ref rfa])), (so, .inl (c_so, 4, .inl f_so)), (sl, .inl (c_sl, 4, .inl f_sl)), (ce, .inl (c_ce, 240, .inl f_ce))]) [0, 1, 2, 3] rfl
    have hD9 := hD.sub (ws' := [(h0, .inr (9, [.int (zI 0), .int (zI tc), .ref so, .ref sl, .ref ce, .int (zI fn), .ref kd, .ref wd, .ref hs, .ref pf, .ref lt, .int (zI mn), .ref wg, .int (zI ta), .long ck, .int (zI at9), .int (zI rfn), .ref rk, .ref rw, .ref rh, .int (zI cl), .ref sa, .ref fi, .int (zI bo), .ref ch, .ref cn, .int (zI ad), .int (zI ru), .ref kp, .int (zI dn), .ref rfa])), (so, .inl (c_so, 4, .inl f_so)), (sl, .inl (c_sl, 4, .inl f_sl)), (ce, .inl (c_ce, 240, .inl f_ce))]) [0, 1, 2, 3] (by decide +kernel) rfl
    exact W.lret (v := (-9223372036854775808)) hx hb hr (fun t ht hW => kQL_of ⟨0, (by omega), (kCeM_1 (by omega) rfl), (by unfold kCfM; omega), by rw [ht]; exact hP9, hD9⟩ (hS.F ht)) hS.2.2 dX9_cell_22
  · have c_1 : 0 ≤ k ∧ k ≤ 3 := b01t c_1
    refine lv_iload_n hx hb dX9_cell_12 rfl (lv_at hl 3 rfl) ?_
    refine k_callR (va_runS (As := [.int (zI y)]) (rest := []) ⟨hx, hb, hml, hown, hts⟩ (c_X9_isSort l D H.size (k := y) q2) (va_cwS 1 hts gX9_cell_X9_isSort rfl rfl rfl (by decide +kernel) ⟨Nat.le_of_ble_eq_true rfl, Nat.le_of_ble_eq_true rfl⟩) (kPreS hP (kD0 hD) hK hN [] [] ax_X9_cell_0 rfl (by decide +kernel)) rfl rfl hl.1 rfl (lv_room (Nat.le_of_ble_eq_true rfl)) dX9_cell_13 ⟨Nat.le_of_ble_eq_true rfl, Nat.le_of_ble_eq_true rfl⟩) ?_
    refine lv_if_ne (tgt := 23) hx hb dX9_cell_16 (by decide) (fun c_2 => ?_) (fun c_2 => ?_)
    · have c_2 : 0 ≤ y ∧ y ≤ 2 := b01t c_2
      refine lv_aload_n hx hb dX9_cell_23 rfl (lv_at hl 0 rfl) ?_
      refine va_get (D := D) (ci := 9) (v := .ref so) (C := RX9) (T := TX9) (N := 31) hx hb hts (fun _ h9 => List.mem_cons_of_mem _ (List.mem_append_right _ h9)) hown hK hP 0 rfl rfl 2 (by decide) (hts (.fieldLink RX9 9 "FontRunsModel" "sorts" "[I") mw_X9_cell_2) (fun _ h9 => h9) rfl dX9_cell_24 ?_
      refine lv_iload_n hx hb dX9_cell_27 rfl (lv_at hl 1 rfl) ?_
      refine kz_iald hx hb hK hP 1 0 rfl rfl (by omega) dX9_cell_28 (fun z_3 rz_3 ez_3 => ?_)
      have tz_3 : (f_so (k).toNat).toInt = z_3 := by rw [ez_3, zI_toInt rz_3]
      refine lv_bipush (v := zI (-9)) hx hb dX9_cell_29 (by decide) ?_
      refine kz_icmp_eq (tgt := 50) hx hb dX9_cell_31 (by decide) (by omega) (by omega) (fun c_4 => ?_) (fun c_4 => ?_)
      · refine lv_aload_n hx hb dX9_cell_50 rfl (lv_at hl 0 rfl) ?_
        refine va_get (D := D) (ci := 9) (v := .ref so) (C := RX9) (T := TX9) (N := 31) hx hb hts (fun _ h9 => List.mem_cons_of_mem _ (List.mem_append_right _ h9)) hown hK hP 0 rfl rfl 2 (by decide) (hts (.fieldLink RX9 9 "FontRunsModel" "sorts" "[I") mw_X9_cell_2) (fun _ h9 => h9) rfl dX9_cell_51 ?_
        refine lv_iload_n hx hb dX9_cell_54 rfl (lv_at hl 1 rfl) ?_
        refine kz_iald hx hb hK hP 1 0 rfl rfl (by omega) dX9_cell_55 (fun z_5 rz_5 ez_5 => ?_)
        have q9 : z_3 = z_5 := (zI_eq rz_3 rz_5).mp (ez_3.symm.trans ez_5)
        subst q9
        refine lv_bipush (v := zI (-9)) hx hb dX9_cell_56 (by decide) ?_
        refine kz_icmp_ne (tgt := 67) hx hb dX9_cell_58 (by decide) (by omega) (by omega) (fun c9 => by omega) (fun c9 => ?_)
        refine lv_aload_n hx hb dX9_cell_61 rfl (lv_at hl 0 rfl) ?_
        refine lv_iconst (v := zI 1) hx hb dX9_cell_62 rfl ?_
        have hFc := va_free (wc := [(h0, .inr (9, [.int (zI 0), .int (zI tc), .ref so, .ref sl, .ref ce, .int (zI fn), .ref kd, .ref wd, .ref hs, .ref pf, .ref lt, .int (zI mn), .ref wg, .int (zI ta), .long ck, .int (zI at9), .int (zI rfn), .ref rk, .ref rw, .ref rh, .int (zI cl), .ref sa, .ref fi, .int (zI bo), .ref ch, .ref cn, .int (zI ad), .int (zI ru), .ref kp, .int (zI dn), .ref rfa]))]) hD hS hA [0] ax_X9_cell_2
        refine va_calll (va_runV (As := [.int (zI 1)]) (rest := []) ⟨hx, hb, hml, hown, hts⟩ (c_X9_lost_v l D H.size (f := 1) (h0 := h0) (fa := 0) (tc := tc) (so := so) (sl := sl) (ce := ce) (fn := fn) (kd := kd) (wd := wd) (hs := hs) (pf := pf) (lt := lt) (mn := mn) (wg := wg) (ta := ta) (ck := ck) (at9 := at9) (rfn := rfn) (rk := rk) (rw := rw) (rh := rh) (cl := cl) (sa := sa) (fi := fi) (bo := bo) (ch := ch) (cn := cn) (ad := ad) (ru := ru) (kp := kp) (dn := dn) (rfa := rfa) (by omega) (by omega)) (cwV 1 hts gX9_cell_X9_lost rfl rfl rfl (by decide +kernel) ⟨Nat.le_of_ble_eq_true rfl, Nat.le_of_ble_eq_true rfl⟩) (kPreV hP (kD0 hD) hK hN [0] [] ax_X9_cell_2 rfl (by decide +kernel) 0 9 rfl rfl) rfl rfl hl.1 rfl (lv_room (Nat.le_of_ble_eq_true rfl)) dX9_cell_63 ⟨Nat.le_of_ble_eq_true rfl, Nat.le_of_ble_eq_true rfl⟩) hS (fun q _ h => hFc q h) hFc (fun r u t H1 locs ht hvm hw hB hz1 hk1 hS => ?_)
        obtain ⟨l_7, e9⟩ : ∃ z, z = u := ⟨_, rfl⟩
        subst e9
        have hw := Eq.symm hw
        subst hw
        refine Exists.elim hB (fun u_fa_6 hB1 => ?_)
        have h_8 := hB1.1
        have h_9 := hB1.2.1
        have h_10 := hB1.2.2.1
        have hP1 := hB1.2.2.2.1
        have hD1 := hB1.2.2.2.2
        clear hB hB1
        rw [ht] at hP1
        obtain ⟨hP, hD⟩ := va_join (wr := [(so, .inl (c_so, 4, .inl f_so)), (sl, .inl (c_sl, 4, .inl f_sl)), (ce, .inl (c_ce, 240, .inl f_ce))]) (w1 := [(h0, .inr (9, [.int (zI u_fa_6), .int (zI tc), .ref so, .ref sl, .ref ce, .int (zI fn), .ref kd, .ref wd, .ref hs, .ref pf, .ref lt, .int (zI mn), .ref wg, .int (zI ta), .long ck, .int (zI at9), .int (zI rfn), .ref rk, .ref rw, .ref rh, .int (zI cl), .ref sa, .ref fi, .int (zI bo), .ref ch, .ref cn, .int (zI ad), .int (zI ru), .ref kp, .int (zI dn), .ref rfa]))]) hP hD [0] [1, 2, 3] ax_X9_cell_2 ax_X9_cell_3 (by decide +kernel) (by decide +kernel) hk1 hFc hP1 hD1
        have hP := ax_X9_cell_4 hP
        have hD := ax_X9_cell_5 hD
        generalize H1 = H at hP hS ⊢
        have hP : va_P D vwCl [(so, .inl (c_so, 4, .inl f_so)), (sl, .inl (c_sl, 4, .inl f_sl)), (ce, .inl (c_ce, 240, .inl f_ce)), (h0, .inr (9, [.int (zI u_fa_6), .int (zI tc), .ref so, .ref sl, .ref ce, .int (zI fn), .ref kd, .ref wd, .ref hs, .ref pf, .ref lt, .int (zI mn), .ref wg, .int (zI ta), .long ck, .int (zI at9), .int (zI rfn), .ref rk, .ref rw, .ref rh, .int (zI cl), .ref sa, .ref fi, .int (zI bo), .ref ch, .ref cn, .int (zI ad), .int (zI ru), .ref kp, .int (zI dn), .ref rfa]))] H := hP
        have hD : va_D A [(so, .inl (c_so, 4, .inl f_so)), (sl, .inl (c_sl, 4, .inl f_sl)), (ce, .inl (c_ce, 240, .inl f_ce)), (h0, .inr (9, [.int (zI u_fa_6), .int (zI tc), .ref so, .ref sl, .ref ce, .int (zI fn), .ref kd, .ref wd, .ref hs, .ref pf, .ref lt, .int (zI mn), .ref wg, .int (zI ta), .long ck, .int (zI at9), .int (zI rfn), .ref rk, .ref rw, .ref rh, .int (zI cl), .ref sa, .ref fi, .int (zI bo), .ref ch, .ref cn, .int (zI ad), .int (zI ru), .ref kp, .int (zI dn), .ref rfa]))] := hD
        have hP9 := hP.sub (ws' := [(h0, .inr (9, [.int (zI u_fa_6), .int (zI tc), .ref so, .ref sl, .ref ce, .int (zI fn), .ref kd, .ref wd, .ref hs, .ref pf, .ref lt, .int (zI mn), .ref wg, .int (zI ta), .long ck, .int (zI at9), .int (zI rfn), .ref rk, .ref rw, .ref rh, .int (zI cl), .ref sa, .ref fi, .int (zI bo), .ref ch, .ref cn, .int (zI ad), .int (zI ru), .ref kp, .int (zI dn), .ref rfa])), (so, .inl (c_so, 4, .inl f_so)), (sl, .inl (c_sl, 4, .inl f_sl)), (ce, .inl (c_ce, 240, .inl f_ce))]) [3, 0, 1, 2] rfl
        have hD9 := hD.sub (ws' := [(h0, .inr (9, [.int (zI u_fa_6), .int (zI tc), .ref so, .ref sl, .ref ce, .int (zI fn), .ref kd, .ref wd, .ref hs, .ref pf, .ref lt, .int (zI mn), .ref wg, .int (zI ta), .long ck, .int (zI at9), .int (zI rfn), .ref rk, .ref rw, .ref rh, .int (zI cl), .ref sa, .ref fi, .int (zI bo), .ref ch, .ref cn, .int (zI ad), .int (zI ru), .ref kp, .int (zI dn), .ref rfa])), (so, .inl (c_so, 4, .inl f_so)), (sl, .inl (c_sl, 4, .inl f_sl)), (ce, .inl (c_ce, 240, .inl f_ce))]) [3, 0, 1, 2] (by decide +kernel) rfl
        exact W.lret (v := l_7) hx hb hr (fun t ht hW => kQL_of ⟨u_fa_6, h_8, (kCeM_2 (by omega) rz_3 ez_3 (by omega) h_9), (by unfold kCfM; omega), by rw [ht]; exact hP9, hD9⟩ (hS.F ht)) hS.2.2 dX9_cell_66
      · refine lv_aload_n hx hb dX9_cell_34 rfl (lv_at hl 0 rfl) ?_
        refine va_get (D := D) (ci := 9) (v := .ref so) (C := RX9) (T := TX9) (N := 31) hx hb hts (fun _ h9 => List.mem_cons_of_mem _ (List.mem_append_right _ h9)) hown hK hP 0 rfl rfl 2 (by decide) (hts (.fieldLink RX9 9 "FontRunsModel" "sorts" "[I") mw_X9_cell_2) (fun _ h9 => h9) rfl dX9_cell_35 ?_
        refine lv_iload_n hx hb dX9_cell_38 rfl (lv_at hl 1 rfl) ?_
        refine kz_iald hx hb hK hP 1 0 rfl rfl (by omega) dX9_cell_39 (fun z_11 rz_11 ez_11 => ?_)
        have q9 : z_3 = z_11 := (zI_eq rz_3 rz_11).mp (ez_3.symm.trans ez_11)
        subst q9
        refine lv_iload_n hx hb dX9_cell_40 rfl (lv_at hl 3 rfl) ?_
        refine kz_icmp_eq (tgt := 50) hx hb dX9_cell_41 (by decide) (by omega) (by omega) (fun c_12 => ?_) (fun c_12 => ?_)
        · refine lv_aload_n hx hb dX9_cell_50 rfl (lv_at hl 0 rfl) ?_
          refine va_get (D := D) (ci := 9) (v := .ref so) (C := RX9) (T := TX9) (N := 31) hx hb hts (fun _ h9 => List.mem_cons_of_mem _ (List.mem_append_right _ h9)) hown hK hP 0 rfl rfl 2 (by decide) (hts (.fieldLink RX9 9 "FontRunsModel" "sorts" "[I") mw_X9_cell_2) (fun _ h9 => h9) rfl dX9_cell_51 ?_
          refine lv_iload_n hx hb dX9_cell_54 rfl (lv_at hl 1 rfl) ?_
          refine kz_iald hx hb hK hP 1 0 rfl rfl (by omega) dX9_cell_55 (fun z_13 rz_13 ez_13 => ?_)
          have q9 : z_3 = z_13 := (zI_eq rz_3 rz_13).mp (ez_3.symm.trans ez_13)
          subst q9
          refine lv_bipush (v := zI (-9)) hx hb dX9_cell_56 (by decide) ?_
          refine kz_icmp_ne (tgt := 67) hx hb dX9_cell_58 (by decide) (by omega) (by omega) (fun c9 => ?_) (fun c9 => by omega)
          refine lv_iload_n hx hb dX9_cell_67 rfl (lv_at hl 2 rfl) ?_
          refine lv_iconst (v := zI 0) hx hb dX9_cell_68 rfl ?_
          refine lv_aload_n hx hb dX9_cell_69 rfl (lv_at hl 0 rfl) ?_
          refine va_get (D := D) (ci := 9) (v := .ref sl) (C := RX9) (T := TX9) (N := 31) hx hb hts (fun _ h9 => List.mem_cons_of_mem _ (List.mem_append_right _ h9)) hown hK hP 0 rfl rfl 3 (by decide) (hts (.fieldLink RX9 13 "FontRunsModel" "sheetLong" "[I") mw_X9_cell_3) (fun _ h9 => h9) rfl dX9_cell_70 ?_
          refine lv_iload_n hx hb dX9_cell_73 rfl (lv_at hl 1 rfl) ?_
          refine kz_iald hx hb hK hP 2 1 rfl rfl (by omega) dX9_cell_74 (fun z_14 rz_14 ez_14 => ?_)
          have tz_14 : (f_sl (k).toNat).toInt = z_14 := by rw [ez_14, zI_toInt rz_14]
          have bz_14 := kSL_at q4 (by omega) rz_14 ez_14
          refine lv_iconst (v := zI 1) hx hb dX9_cell_75 rfl ?_
          refine kz_isub hx hb dX9_cell_76 ?_
          refine k_callR (va_runS (As := [.int (zI i), .int (zI 0), .int (zI (z_14 - 1))]) (rest := []) ⟨hx, hb, hml, hown, hts⟩ (c_X9_within l D H.size (v := i) (a := 0) (b := (z_14 - 1)) q1 (by omega) (by omega)) (va_cwS 3 hts gX9_cell_X9_within rfl rfl rfl (by decide +kernel) ⟨Nat.le_of_ble_eq_true rfl, Nat.le_of_ble_eq_true rfl⟩) (kPreS hP (kD0 hD) hK hN [] [] ax_X9_cell_0 rfl (by decide +kernel)) rfl rfl hl.1 rfl (lv_room (Nat.le_of_ble_eq_true rfl)) dX9_cell_77 ⟨Nat.le_of_ble_eq_true rfl, Nat.le_of_ble_eq_true rfl⟩) ?_
          refine lv_if_ne (tgt := 89) hx hb dX9_cell_80 (by decide) (fun c_15 => ?_) (fun c_15 => ?_)
          · have c_15 : 0 ≤ i ∧ i ≤ (z_14 - 1) := b01t c_15
            refine lv_aload_n hx hb dX9_cell_89 rfl (lv_at hl 0 rfl) ?_
            refine va_get (D := D) (ci := 9) (v := .ref ce) (C := RX9) (T := TX9) (N := 31) hx hb hts (fun _ h9 => List.mem_cons_of_mem _ (List.mem_append_right _ h9)) hown hK hP 0 rfl rfl 4 (by decide) (hts (.fieldLink RX9 16 "FontRunsModel" "cells" "[I") mw_X9_cell_4) (fun _ h9 => h9) rfl dX9_cell_90 ?_
            refine lv_bipush (v := zI 60) hx hb dX9_cell_93 (by decide) ?_
            refine lv_iload_n hx hb dX9_cell_95 rfl (lv_at hl 1 rfl) ?_
            refine kz_imul hx hb dX9_cell_96 ?_
            refine lv_iload_n hx hb dX9_cell_97 rfl (lv_at hl 2 rfl) ?_
            refine kz_iadd hx hb dX9_cell_98 ?_
            refine kz_iald hx hb hK hP 3 2 rfl rfl (by omega) dX9_cell_99 (fun z_16 rz_16 ez_16 => ?_)
            have tz_16 : (f_ce ((60 * k) + i).toNat).toInt = z_16 := by rw [ez_16, zI_toInt rz_16]
            refine lv_i2l (v := (zI z_16).toInt64) hx hb dX9_cell_100 rfl ?_
            have hP9 := hP.sub (ws' := [(h0, .inr (9, [.int (zI 0), .int (zI tc), .ref so, .ref sl, .ref ce, .int (zI fn), .ref kd, .ref wd, .ref hs, .ref pf, .ref lt, .int (zI mn), .ref wg, .int (zI ta), .long ck, .int (zI at9), .int (zI rfn), .ref rk, .ref rw, .ref rh, .int (zI cl), .ref sa, .ref fi, .int (zI bo), .ref ch, .ref cn, .int (zI ad), .int (zI ru), .ref kp, .int (zI dn), .ref rfa])), (so, .inl (c_so, 4, .inl f_so)), (sl, .inl (c_sl, 4, .inl f_sl)), (ce, .inl (c_ce, 240, .inl f_ce))]) [0, 1, 2, 3] rfl
            have hD9 := hD.sub (ws' := [(h0, .inr (9, [.int (zI 0), .int (zI tc), .ref so, .ref sl, .ref ce, .int (zI fn), .ref kd, .ref wd, .ref hs, .ref pf, .ref lt, .int (zI mn), .ref wg, .int (zI ta), .long ck, .int (zI at9), .int (zI rfn), .ref rk, .ref rw, .ref rh, .int (zI cl), .ref sa, .ref fi, .int (zI bo), .ref ch, .ref cn, .int (zI ad), .int (zI ru), .ref kp, .int (zI dn), .ref rfa])), (so, .inl (c_so, 4, .inl f_so)), (sl, .inl (c_sl, 4, .inl f_sl)), (ce, .inl (c_ce, 240, .inl f_ce))]) [0, 1, 2, 3] (by decide +kernel) rfl
            exact W.lret (v := ((zI z_16).toInt64)) hx hb hr (fun t ht hW => kQL_of ⟨0, (by omega), (kCeM_4 (by omega) rz_3 rz_14 ez_3 ez_14 (by omega) (by omega) ez_16), (by unfold kCfM; omega), by rw [ht]; exact hP9, hD9⟩ (hS.F ht)) hS.2.2 dX9_cell_101
          · have c_15 : ¬ (0 ≤ i ∧ i ≤ (z_14 - 1)) := b01f c_15
            refine lv_aload_n hx hb dX9_cell_83 rfl (lv_at hl 0 rfl) ?_
            refine lv_iconst (v := zI 3) hx hb dX9_cell_84 rfl ?_
            have hFc := va_free (wc := [(h0, .inr (9, [.int (zI 0), .int (zI tc), .ref so, .ref sl, .ref ce, .int (zI fn), .ref kd, .ref wd, .ref hs, .ref pf, .ref lt, .int (zI mn), .ref wg, .int (zI ta), .long ck, .int (zI at9), .int (zI rfn), .ref rk, .ref rw, .ref rh, .int (zI cl), .ref sa, .ref fi, .int (zI bo), .ref ch, .ref cn, .int (zI ad), .int (zI ru), .ref kp, .int (zI dn), .ref rfa]))]) hD hS hA [0] ax_X9_cell_2
            refine va_calll (va_runV (As := [.int (zI 3)]) (rest := []) ⟨hx, hb, hml, hown, hts⟩ (c_X9_lost_v l D H.size (f := 3) (h0 := h0) (fa := 0) (tc := tc) (so := so) (sl := sl) (ce := ce) (fn := fn) (kd := kd) (wd := wd) (hs := hs) (pf := pf) (lt := lt) (mn := mn) (wg := wg) (ta := ta) (ck := ck) (at9 := at9) (rfn := rfn) (rk := rk) (rw := rw) (rh := rh) (cl := cl) (sa := sa) (fi := fi) (bo := bo) (ch := ch) (cn := cn) (ad := ad) (ru := ru) (kp := kp) (dn := dn) (rfa := rfa) (by omega) (by omega)) (cwV 1 hts gX9_cell_X9_lost rfl rfl rfl (by decide +kernel) ⟨Nat.le_of_ble_eq_true rfl, Nat.le_of_ble_eq_true rfl⟩) (kPreV hP (kD0 hD) hK hN [0] [] ax_X9_cell_2 rfl (by decide +kernel) 0 9 rfl rfl) rfl rfl hl.1 rfl (lv_room (Nat.le_of_ble_eq_true rfl)) dX9_cell_85 ⟨Nat.le_of_ble_eq_true rfl, Nat.le_of_ble_eq_true rfl⟩) hS (fun q _ h => hFc q h) hFc (fun r u t H1 locs ht hvm hw hB hz1 hk1 hS => ?_)
            obtain ⟨l_18, e9⟩ : ∃ z, z = u := ⟨_, rfl⟩
            subst e9
            have hw := Eq.symm hw
            subst hw
            refine Exists.elim hB (fun u_fa_17 hB1 => ?_)
            have h_19 := hB1.1
            have h_20 := hB1.2.1
            have h_21 := hB1.2.2.1
            have hP1 := hB1.2.2.2.1
            have hD1 := hB1.2.2.2.2
            clear hB hB1
            rw [ht] at hP1
            obtain ⟨hP, hD⟩ := va_join (wr := [(so, .inl (c_so, 4, .inl f_so)), (sl, .inl (c_sl, 4, .inl f_sl)), (ce, .inl (c_ce, 240, .inl f_ce))]) (w1 := [(h0, .inr (9, [.int (zI u_fa_17), .int (zI tc), .ref so, .ref sl, .ref ce, .int (zI fn), .ref kd, .ref wd, .ref hs, .ref pf, .ref lt, .int (zI mn), .ref wg, .int (zI ta), .long ck, .int (zI at9), .int (zI rfn), .ref rk, .ref rw, .ref rh, .int (zI cl), .ref sa, .ref fi, .int (zI bo), .ref ch, .ref cn, .int (zI ad), .int (zI ru), .ref kp, .int (zI dn), .ref rfa]))]) hP hD [0] [1, 2, 3] ax_X9_cell_2 ax_X9_cell_3 (by decide +kernel) (by decide +kernel) hk1 hFc hP1 hD1
            have hP := ax_X9_cell_4 hP
            have hD := ax_X9_cell_5 hD
            generalize H1 = H at hP hS ⊢
            have hP : va_P D vwCl [(so, .inl (c_so, 4, .inl f_so)), (sl, .inl (c_sl, 4, .inl f_sl)), (ce, .inl (c_ce, 240, .inl f_ce)), (h0, .inr (9, [.int (zI u_fa_17), .int (zI tc), .ref so, .ref sl, .ref ce, .int (zI fn), .ref kd, .ref wd, .ref hs, .ref pf, .ref lt, .int (zI mn), .ref wg, .int (zI ta), .long ck, .int (zI at9), .int (zI rfn), .ref rk, .ref rw, .ref rh, .int (zI cl), .ref sa, .ref fi, .int (zI bo), .ref ch, .ref cn, .int (zI ad), .int (zI ru), .ref kp, .int (zI dn), .ref rfa]))] H := hP
            have hD : va_D A [(so, .inl (c_so, 4, .inl f_so)), (sl, .inl (c_sl, 4, .inl f_sl)), (ce, .inl (c_ce, 240, .inl f_ce)), (h0, .inr (9, [.int (zI u_fa_17), .int (zI tc), .ref so, .ref sl, .ref ce, .int (zI fn), .ref kd, .ref wd, .ref hs, .ref pf, .ref lt, .int (zI mn), .ref wg, .int (zI ta), .long ck, .int (zI at9), .int (zI rfn), .ref rk, .ref rw, .ref rh, .int (zI cl), .ref sa, .ref fi, .int (zI bo), .ref ch, .ref cn, .int (zI ad), .int (zI ru), .ref kp, .int (zI dn), .ref rfa]))] := hD
            have hP9 := hP.sub (ws' := [(h0, .inr (9, [.int (zI u_fa_17), .int (zI tc), .ref so, .ref sl, .ref ce, .int (zI fn), .ref kd, .ref wd, .ref hs, .ref pf, .ref lt, .int (zI mn), .ref wg, .int (zI ta), .long ck, .int (zI at9), .int (zI rfn), .ref rk, .ref rw, .ref rh, .int (zI cl), .ref sa, .ref fi, .int (zI bo), .ref ch, .ref cn, .int (zI ad), .int (zI ru), .ref kp, .int (zI dn), .ref rfa])), (so, .inl (c_so, 4, .inl f_so)), (sl, .inl (c_sl, 4, .inl f_sl)), (ce, .inl (c_ce, 240, .inl f_ce))]) [3, 0, 1, 2] rfl
            have hD9 := hD.sub (ws' := [(h0, .inr (9, [.int (zI u_fa_17), .int (zI tc), .ref so, .ref sl, .ref ce, .int (zI fn), .ref kd, .ref wd, .ref hs, .ref pf, .ref lt, .int (zI mn), .ref wg, .int (zI ta), .long ck, .int (zI at9), .int (zI rfn), .ref rk, .ref rw, .ref rh, .int (zI cl), .ref sa, .ref fi, .int (zI bo), .ref ch, .ref cn, .int (zI ad), .int (zI ru), .ref kp, .int (zI dn), .ref rfa])), (so, .inl (c_so, 4, .inl f_so)), (sl, .inl (c_sl, 4, .inl f_sl)), (ce, .inl (c_ce, 240, .inl f_ce))]) [3, 0, 1, 2] (by decide +kernel) rfl
            exact W.lret (v := l_18) hx hb hr (fun t ht hW => kQL_of ⟨u_fa_17, h_19, (kCeM_3 (by omega) rz_3 rz_14 ez_3 ez_14 (by omega) h_20), (by unfold kCfM; omega), by rw [ht]; exact hP9, hD9⟩ (hS.F ht)) hS.2.2 dX9_cell_88
        · refine lv_aload_n hx hb dX9_cell_44 rfl (lv_at hl 0 rfl) ?_
          refine lv_iconst (v := zI 2) hx hb dX9_cell_45 rfl ?_
          have hFc := va_free (wc := [(h0, .inr (9, [.int (zI 0), .int (zI tc), .ref so, .ref sl, .ref ce, .int (zI fn), .ref kd, .ref wd, .ref hs, .ref pf, .ref lt, .int (zI mn), .ref wg, .int (zI ta), .long ck, .int (zI at9), .int (zI rfn), .ref rk, .ref rw, .ref rh, .int (zI cl), .ref sa, .ref fi, .int (zI bo), .ref ch, .ref cn, .int (zI ad), .int (zI ru), .ref kp, .int (zI dn), .ref rfa]))]) hD hS hA [0] ax_X9_cell_2
          refine va_calll (va_runV (As := [.int (zI 2)]) (rest := []) ⟨hx, hb, hml, hown, hts⟩ (c_X9_lost_v l D H.size (f := 2) (h0 := h0) (fa := 0) (tc := tc) (so := so) (sl := sl) (ce := ce) (fn := fn) (kd := kd) (wd := wd) (hs := hs) (pf := pf) (lt := lt) (mn := mn) (wg := wg) (ta := ta) (ck := ck) (at9 := at9) (rfn := rfn) (rk := rk) (rw := rw) (rh := rh) (cl := cl) (sa := sa) (fi := fi) (bo := bo) (ch := ch) (cn := cn) (ad := ad) (ru := ru) (kp := kp) (dn := dn) (rfa := rfa) (by omega) (by omega)) (cwV 1 hts gX9_cell_X9_lost rfl rfl rfl (by decide +kernel) ⟨Nat.le_of_ble_eq_true rfl, Nat.le_of_ble_eq_true rfl⟩) (kPreV hP (kD0 hD) hK hN [0] [] ax_X9_cell_2 rfl (by decide +kernel) 0 9 rfl rfl) rfl rfl hl.1 rfl (lv_room (Nat.le_of_ble_eq_true rfl)) dX9_cell_46 ⟨Nat.le_of_ble_eq_true rfl, Nat.le_of_ble_eq_true rfl⟩) hS (fun q _ h => hFc q h) hFc (fun r u t H1 locs ht hvm hw hB hz1 hk1 hS => ?_)
          obtain ⟨l_23, e9⟩ : ∃ z, z = u := ⟨_, rfl⟩
          subst e9
          have hw := Eq.symm hw
          subst hw
          refine Exists.elim hB (fun u_fa_22 hB1 => ?_)
          have h_24 := hB1.1
          have h_25 := hB1.2.1
          have h_26 := hB1.2.2.1
          have hP1 := hB1.2.2.2.1
          have hD1 := hB1.2.2.2.2
          clear hB hB1
          rw [ht] at hP1
          obtain ⟨hP, hD⟩ := va_join (wr := [(so, .inl (c_so, 4, .inl f_so)), (sl, .inl (c_sl, 4, .inl f_sl)), (ce, .inl (c_ce, 240, .inl f_ce))]) (w1 := [(h0, .inr (9, [.int (zI u_fa_22), .int (zI tc), .ref so, .ref sl, .ref ce, .int (zI fn), .ref kd, .ref wd, .ref hs, .ref pf, .ref lt, .int (zI mn), .ref wg, .int (zI ta), .long ck, .int (zI at9), .int (zI rfn), .ref rk, .ref rw, .ref rh, .int (zI cl), .ref sa, .ref fi, .int (zI bo), .ref ch, .ref cn, .int (zI ad), .int (zI ru), .ref kp, .int (zI dn), .ref rfa]))]) hP hD [0] [1, 2, 3] ax_X9_cell_2 ax_X9_cell_3 (by decide +kernel) (by decide +kernel) hk1 hFc hP1 hD1
          have hP := ax_X9_cell_4 hP
          have hD := ax_X9_cell_5 hD
          generalize H1 = H at hP hS ⊢
          have hP : va_P D vwCl [(so, .inl (c_so, 4, .inl f_so)), (sl, .inl (c_sl, 4, .inl f_sl)), (ce, .inl (c_ce, 240, .inl f_ce)), (h0, .inr (9, [.int (zI u_fa_22), .int (zI tc), .ref so, .ref sl, .ref ce, .int (zI fn), .ref kd, .ref wd, .ref hs, .ref pf, .ref lt, .int (zI mn), .ref wg, .int (zI ta), .long ck, .int (zI at9), .int (zI rfn), .ref rk, .ref rw, .ref rh, .int (zI cl), .ref sa, .ref fi, .int (zI bo), .ref ch, .ref cn, .int (zI ad), .int (zI ru), .ref kp, .int (zI dn), .ref rfa]))] H := hP
          have hD : va_D A [(so, .inl (c_so, 4, .inl f_so)), (sl, .inl (c_sl, 4, .inl f_sl)), (ce, .inl (c_ce, 240, .inl f_ce)), (h0, .inr (9, [.int (zI u_fa_22), .int (zI tc), .ref so, .ref sl, .ref ce, .int (zI fn), .ref kd, .ref wd, .ref hs, .ref pf, .ref lt, .int (zI mn), .ref wg, .int (zI ta), .long ck, .int (zI at9), .int (zI rfn), .ref rk, .ref rw, .ref rh, .int (zI cl), .ref sa, .ref fi, .int (zI bo), .ref ch, .ref cn, .int (zI ad), .int (zI ru), .ref kp, .int (zI dn), .ref rfa]))] := hD
          have hP9 := hP.sub (ws' := [(h0, .inr (9, [.int (zI u_fa_22), .int (zI tc), .ref so, .ref sl, .ref ce, .int (zI fn), .ref kd, .ref wd, .ref hs, .ref pf, .ref lt, .int (zI mn), .ref wg, .int (zI ta), .long ck, .int (zI at9), .int (zI rfn), .ref rk, .ref rw, .ref rh, .int (zI cl), .ref sa, .ref fi, .int (zI bo), .ref ch, .ref cn, .int (zI ad), .int (zI ru), .ref kp, .int (zI dn), .ref rfa])), (so, .inl (c_so, 4, .inl f_so)), (sl, .inl (c_sl, 4, .inl f_sl)), (ce, .inl (c_ce, 240, .inl f_ce))]) [3, 0, 1, 2] rfl
          have hD9 := hD.sub (ws' := [(h0, .inr (9, [.int (zI u_fa_22), .int (zI tc), .ref so, .ref sl, .ref ce, .int (zI fn), .ref kd, .ref wd, .ref hs, .ref pf, .ref lt, .int (zI mn), .ref wg, .int (zI ta), .long ck, .int (zI at9), .int (zI rfn), .ref rk, .ref rw, .ref rh, .int (zI cl), .ref sa, .ref fi, .int (zI bo), .ref ch, .ref cn, .int (zI ad), .int (zI ru), .ref kp, .int (zI dn), .ref rfa])), (so, .inl (c_so, 4, .inl f_so)), (sl, .inl (c_sl, 4, .inl f_sl)), (ce, .inl (c_ce, 240, .inl f_ce))]) [3, 0, 1, 2] (by decide +kernel) rfl
          exact W.lret (v := l_23) hx hb hr (fun t ht hW => kQL_of ⟨u_fa_22, h_24, (kCeM_2 (by omega) rz_3 ez_3 (by omega) h_25), (by unfold kCfM; omega), by rw [ht]; exact hP9, hD9⟩ (hS.F ht)) hS.2.2 dX9_cell_49
    · have c_2 : ¬ (0 ≤ y ∧ y ≤ 2) := b01f c_2
      refine lv_ldc2 (v := (-9223372036854775808)) hx hb hown (hts (.constantLong RX9 68 (-9223372036854775808)) mw_X9_cell_1) dX9_cell_19 ?_
      have hP9 := hP.sub (ws' := [(h0, .inr (9, [.int (zI 0), .int (zI tc), .ref so, .ref sl, .ref ce, .int (zI fn), .ref kd, .ref wd, .ref hs, .ref pf, .ref lt, .int (zI mn), .ref wg, .int (zI ta), .long ck, .int (zI at9), .int (zI rfn), .ref rk, .ref rw, .ref rh, .int (zI cl), .ref sa, .ref fi, .int (zI bo), .ref ch, .ref cn, .int (zI ad), .int (zI ru), .ref kp, .int (zI dn), .ref rfa])), (so, .inl (c_so, 4, .inl f_so)), (sl, .inl (c_sl, 4, .inl f_sl)), (ce, .inl (c_ce, 240, .inl f_ce))]) [0, 1, 2, 3] rfl
      have hD9 := hD.sub (ws' := [(h0, .inr (9, [.int (zI 0), .int (zI tc), .ref so, .ref sl, .ref ce, .int (zI fn), .ref kd, .ref wd, .ref hs, .ref pf, .ref lt, .int (zI mn), .ref wg, .int (zI ta), .long ck, .int (zI at9), .int (zI rfn), .ref rk, .ref rw, .ref rh, .int (zI cl), .ref sa, .ref fi, .int (zI bo), .ref ch, .ref cn, .int (zI ad), .int (zI ru), .ref kp, .int (zI dn), .ref rfa])), (so, .inl (c_so, 4, .inl f_so)), (sl, .inl (c_sl, 4, .inl f_sl)), (ce, .inl (c_ce, 240, .inl f_ce))]) [0, 1, 2, 3] (by decide +kernel) rfl
      exact W.lret (v := (-9223372036854775808)) hx hb hr (fun t ht hW => kQL_of ⟨0, (by omega), (kCeM_1 (by omega) rfl), (by unfold kCfM; omega), by rw [ht]; exact hP9, hD9⟩ (hS.F ht)) hS.2.2 dX9_cell_22
theorem dX9_copy_0 : decode cX9_copy 0 = .ok (.aload_n 0, 1) := kqo_2a kbl_X9_copy (pc := 0) rfl
theorem dX9_copy_1 : decode cX9_copy 1 = .ok (.iconst 0, 1) := kqo_03 kbl_X9_copy (pc := 1) rfl
theorem dX9_copy_2 : decode cX9_copy 2 = .ok (.putfield 64, 3) := kqo_b5 (x1 := 0) (x2 := 64) kbl_X9_copy (pc := 2) rfl rfl
theorem dX9_copy_5 : decode cX9_copy 5 = .ok (.iload_n 1, 1) := kqo_1b kbl_X9_copy (pc := 5) rfl
theorem dX9_copy_6 : decode cX9_copy 6 = .ok (.invokestatic 80, 3) := kqo_b8 (x1 := 0) (x2 := 80) kbl_X9_copy (pc := 6) rfl rfl
theorem dX9_copy_9 : decode cX9_copy 9 = .ok (.ifCond .eq 10, 3) := kqo_99 (x1 := 0) (x2 := 10) kbl_X9_copy (pc := 9) rfl rfl
theorem dX9_copy_12 : decode cX9_copy 12 = .ok (.iload_n 3, 1) := kqo_1d kbl_X9_copy (pc := 12) rfl
theorem dX9_copy_13 : decode cX9_copy 13 = .ok (.invokestatic 80, 3) := kqo_b8 (x1 := 0) (x2 := 80) kbl_X9_copy (pc := 13) rfl rfl
theorem dX9_copy_16 : decode cX9_copy 16 = .ok (.ifCond .ne 5, 3) := kqo_9a (x1 := 0) (x2 := 5) kbl_X9_copy (pc := 16) rfl rfl
theorem dX9_copy_19 : decode cX9_copy 19 = .ok (.iconst (-1), 1) := kqo_02 kbl_X9_copy (pc := 19) rfl
theorem dX9_copy_20 : decode cX9_copy 20 = .ok (.ireturn, 1) := kqo_ac kbl_X9_copy (pc := 20) rfl
theorem dX9_copy_21 : decode cX9_copy 21 = .ok (.aload_n 0, 1) := kqo_2a kbl_X9_copy (pc := 21) rfl
theorem dX9_copy_22 : decode cX9_copy 22 = .ok (.getfield 9, 3) := kqo_b4 (x1 := 0) (x2 := 9) kbl_X9_copy (pc := 22) rfl rfl
theorem dX9_copy_25 : decode cX9_copy 25 = .ok (.iload_n 1, 1) := kqo_1b kbl_X9_copy (pc := 25) rfl
theorem dX9_copy_26 : decode cX9_copy 26 = .ok (.iaload, 1) := kqo_2e kbl_X9_copy (pc := 26) rfl
theorem dX9_copy_27 : decode cX9_copy 27 = .ok (.bipush (-9), 2) := kqo_10 (x1 := 247) kbl_X9_copy (pc := 27) rfl rfl
theorem dX9_copy_29 : decode cX9_copy 29 = .ok (.if_icmp .eq 14, 3) := kqo_9f (x1 := 0) (x2 := 14) kbl_X9_copy (pc := 29) rfl rfl
theorem dX9_copy_32 : decode cX9_copy 32 = .ok (.aload_n 0, 1) := kqo_2a kbl_X9_copy (pc := 32) rfl
theorem dX9_copy_33 : decode cX9_copy 33 = .ok (.getfield 9, 3) := kqo_b4 (x1 := 0) (x2 := 9) kbl_X9_copy (pc := 33) rfl rfl
theorem dX9_copy_36 : decode cX9_copy 36 = .ok (.iload_n 3, 1) := kqo_1d kbl_X9_copy (pc := 36) rfl
theorem dX9_copy_37 : decode cX9_copy 37 = .ok (.iaload, 1) := kqo_2e kbl_X9_copy (pc := 37) rfl
theorem dX9_copy_38 : decode cX9_copy 38 = .ok (.bipush (-9), 2) := kqo_10 (x1 := 247) kbl_X9_copy (pc := 38) rfl rfl
theorem dX9_copy_40 : decode cX9_copy 40 = .ok (.if_icmp .ne 9, 3) := kqo_a0 (x1 := 0) (x2 := 9) kbl_X9_copy (pc := 40) rfl rfl
theorem dX9_copy_43 : decode cX9_copy 43 = .ok (.aload_n 0, 1) := kqo_2a kbl_X9_copy (pc := 43) rfl
theorem dX9_copy_44 : decode cX9_copy 44 = .ok (.iconst 1, 1) := kqo_04 kbl_X9_copy (pc := 44) rfl
theorem dX9_copy_45 : decode cX9_copy 45 = .ok (.invokevirtual 91, 3) := kqo_b6 (x1 := 0) (x2 := 91) kbl_X9_copy (pc := 45) rfl rfl
theorem dX9_copy_48 : decode cX9_copy 48 = .ok (.ireturn, 1) := kqo_ac kbl_X9_copy (pc := 48) rfl
theorem dX9_copy_49 : decode cX9_copy 49 = .ok (.aload_n 0, 1) := kqo_2a kbl_X9_copy (pc := 49) rfl
theorem dX9_copy_50 : decode cX9_copy 50 = .ok (.getfield 9, 3) := kqo_b4 (x1 := 0) (x2 := 9) kbl_X9_copy (pc := 50) rfl rfl
theorem dX9_copy_53 : decode cX9_copy 53 = .ok (.iload_n 1, 1) := kqo_1b kbl_X9_copy (pc := 53) rfl
theorem dX9_copy_54 : decode cX9_copy 54 = .ok (.iaload, 1) := kqo_2e kbl_X9_copy (pc := 54) rfl
theorem dX9_copy_55 : decode cX9_copy 55 = .ok (.aload_n 0, 1) := kqo_2a kbl_X9_copy (pc := 55) rfl
theorem dX9_copy_56 : decode cX9_copy 56 = .ok (.getfield 9, 3) := kqo_b4 (x1 := 0) (x2 := 9) kbl_X9_copy (pc := 56) rfl rfl
theorem dX9_copy_59 : decode cX9_copy 59 = .ok (.iload_n 3, 1) := kqo_1d kbl_X9_copy (pc := 59) rfl
theorem dX9_copy_60 : decode cX9_copy 60 = .ok (.iaload, 1) := kqo_2e kbl_X9_copy (pc := 60) rfl
theorem dX9_copy_61 : decode cX9_copy 61 = .ok (.if_icmp .eq 9, 3) := kqo_9f (x1 := 0) (x2 := 9) kbl_X9_copy (pc := 61) rfl rfl
theorem dX9_copy_64 : decode cX9_copy 64 = .ok (.aload_n 0, 1) := kqo_2a kbl_X9_copy (pc := 64) rfl
theorem dX9_copy_65 : decode cX9_copy 65 = .ok (.iconst 2, 1) := kqo_05 kbl_X9_copy (pc := 65) rfl
theorem dX9_copy_66 : decode cX9_copy 66 = .ok (.invokevirtual 91, 3) := kqo_b6 (x1 := 0) (x2 := 91) kbl_X9_copy (pc := 66) rfl rfl
theorem dX9_copy_69 : decode cX9_copy 69 = .ok (.ireturn, 1) := kqo_ac kbl_X9_copy (pc := 69) rfl
theorem dX9_copy_70 : decode cX9_copy 70 = .ok (.iload_n 2, 1) := kqo_1c kbl_X9_copy (pc := 70) rfl
theorem dX9_copy_71 : decode cX9_copy 71 = .ok (.ifCond .lt 38, 3) := kqo_9b (x1 := 0) (x2 := 38) kbl_X9_copy (pc := 71) rfl rfl
theorem dX9_copy_74 : decode cX9_copy 74 = .ok (.iload 4, 2) := kqo_15 (x1 := 4) kbl_X9_copy (pc := 74) rfl rfl
theorem dX9_copy_76 : decode cX9_copy 76 = .ok (.ifCond .lt 33, 3) := kqo_9b (x1 := 0) (x2 := 33) kbl_X9_copy (pc := 76) rfl rfl
theorem dX9_copy_79 : decode cX9_copy 79 = .ok (.iload 5, 2) := kqo_15 (x1 := 5) kbl_X9_copy (pc := 79) rfl rfl
theorem dX9_copy_81 : decode cX9_copy 81 = .ok (.ifCond .lt 28, 3) := kqo_9b (x1 := 0) (x2 := 28) kbl_X9_copy (pc := 81) rfl rfl
theorem dX9_copy_84 : decode cX9_copy 84 = .ok (.iload_n 2, 1) := kqo_1c kbl_X9_copy (pc := 84) rfl
theorem dX9_copy_85 : decode cX9_copy 85 = .ok (.aload_n 0, 1) := kqo_2a kbl_X9_copy (pc := 85) rfl
theorem dX9_copy_86 : decode cX9_copy 86 = .ok (.getfield 13, 3) := kqo_b4 (x1 := 0) (x2 := 13) kbl_X9_copy (pc := 86) rfl rfl
theorem dX9_copy_89 : decode cX9_copy 89 = .ok (.iload_n 1, 1) := kqo_1b kbl_X9_copy (pc := 89) rfl
theorem dX9_copy_90 : decode cX9_copy 90 = .ok (.iaload, 1) := kqo_2e kbl_X9_copy (pc := 90) rfl
theorem dX9_copy_91 : decode cX9_copy 91 = .ok (.if_icmp .gt 18, 3) := kqo_a3 (x1 := 0) (x2 := 18) kbl_X9_copy (pc := 91) rfl rfl
theorem dX9_copy_94 : decode cX9_copy 94 = .ok (.iload 4, 2) := kqo_15 (x1 := 4) kbl_X9_copy (pc := 94) rfl rfl
theorem dX9_copy_96 : decode cX9_copy 96 = .ok (.aload_n 0, 1) := kqo_2a kbl_X9_copy (pc := 96) rfl
theorem dX9_copy_97 : decode cX9_copy 97 = .ok (.getfield 13, 3) := kqo_b4 (x1 := 0) (x2 := 13) kbl_X9_copy (pc := 97) rfl rfl
theorem dX9_copy_100 : decode cX9_copy 100 = .ok (.iload_n 3, 1) := kqo_1d kbl_X9_copy (pc := 100) rfl
theorem dX9_copy_101 : decode cX9_copy 101 = .ok (.iaload, 1) := kqo_2e kbl_X9_copy (pc := 101) rfl
theorem dX9_copy_102 : decode cX9_copy 102 = .ok (.if_icmp .gt 7, 3) := kqo_a3 (x1 := 0) (x2 := 7) kbl_X9_copy (pc := 102) rfl rfl
theorem dX9_copy_105 : decode cX9_copy 105 = .ok (.iconst 1, 1) := kqo_04 kbl_X9_copy (pc := 105) rfl
theorem dX9_copy_106 : decode cX9_copy 106 = .ok (.goto 4, 3) := kqo_a7 (x1 := 0) (x2 := 4) kbl_X9_copy (pc := 106) rfl rfl
theorem dX9_copy_109 : decode cX9_copy 109 = .ok (.iconst 0, 1) := kqo_03 kbl_X9_copy (pc := 109) rfl
theorem dX9_copy_110 : decode cX9_copy 110 = .ok (.istore 6, 2) := kqo_36 (x1 := 6) kbl_X9_copy (pc := 110) rfl rfl
theorem dX9_copy_112 : decode cX9_copy 112 = .ok (.iload 6, 2) := kqo_15 (x1 := 6) kbl_X9_copy (pc := 112) rfl rfl
theorem dX9_copy_114 : decode cX9_copy 114 = .ok (.ifCond .eq 30, 3) := kqo_99 (x1 := 0) (x2 := 30) kbl_X9_copy (pc := 114) rfl rfl
theorem dX9_copy_117 : decode cX9_copy 117 = .ok (.iload 5, 2) := kqo_15 (x1 := 5) kbl_X9_copy (pc := 117) rfl rfl
theorem dX9_copy_119 : decode cX9_copy 119 = .ok (.aload_n 0, 1) := kqo_2a kbl_X9_copy (pc := 119) rfl
theorem dX9_copy_120 : decode cX9_copy 120 = .ok (.getfield 13, 3) := kqo_b4 (x1 := 0) (x2 := 13) kbl_X9_copy (pc := 120) rfl rfl
theorem dX9_copy_123 : decode cX9_copy 123 = .ok (.iload_n 1, 1) := kqo_1b kbl_X9_copy (pc := 123) rfl
theorem dX9_copy_124 : decode cX9_copy 124 = .ok (.iaload, 1) := kqo_2e kbl_X9_copy (pc := 124) rfl
theorem dX9_copy_125 : decode cX9_copy 125 = .ok (.iload_n 2, 1) := kqo_1c kbl_X9_copy (pc := 125) rfl
theorem dX9_copy_126 : decode cX9_copy 126 = .ok (.isub, 1) := kqo_64 kbl_X9_copy (pc := 126) rfl
theorem dX9_copy_127 : decode cX9_copy 127 = .ok (.if_icmp .gt 17, 3) := kqo_a3 (x1 := 0) (x2 := 17) kbl_X9_copy (pc := 127) rfl rfl
theorem dX9_copy_130 : decode cX9_copy 130 = .ok (.iload 5, 2) := kqo_15 (x1 := 5) kbl_X9_copy (pc := 130) rfl rfl
theorem dX9_copy_132 : decode cX9_copy 132 = .ok (.aload_n 0, 1) := kqo_2a kbl_X9_copy (pc := 132) rfl
theorem dX9_copy_133 : decode cX9_copy 133 = .ok (.getfield 13, 3) := kqo_b4 (x1 := 0) (x2 := 13) kbl_X9_copy (pc := 133) rfl rfl
theorem dX9_copy_136 : decode cX9_copy 136 = .ok (.iload_n 3, 1) := kqo_1d kbl_X9_copy (pc := 136) rfl
theorem dX9_copy_137 : decode cX9_copy 137 = .ok (.iaload, 1) := kqo_2e kbl_X9_copy (pc := 137) rfl
theorem dX9_copy_138 : decode cX9_copy 138 = .ok (.iload 4, 2) := kqo_15 (x1 := 4) kbl_X9_copy (pc := 138) rfl rfl
theorem dX9_copy_140 : decode cX9_copy 140 = .ok (.isub, 1) := kqo_64 kbl_X9_copy (pc := 140) rfl
theorem dX9_copy_141 : decode cX9_copy 141 = .ok (.if_icmp .le 9, 3) := kqo_a4 (x1 := 0) (x2 := 9) kbl_X9_copy (pc := 141) rfl rfl
theorem dX9_copy_144 : decode cX9_copy 144 = .ok (.aload_n 0, 1) := kqo_2a kbl_X9_copy (pc := 144) rfl
theorem dX9_copy_145 : decode cX9_copy 145 = .ok (.iconst 3, 1) := kqo_06 kbl_X9_copy (pc := 145) rfl
theorem dX9_copy_146 : decode cX9_copy 146 = .ok (.invokevirtual 91, 3) := kqo_b6 (x1 := 0) (x2 := 91) kbl_X9_copy (pc := 146) rfl rfl
theorem dX9_copy_149 : decode cX9_copy 149 = .ok (.ireturn, 1) := kqo_ac kbl_X9_copy (pc := 149) rfl
theorem dX9_copy_150 : decode cX9_copy 150 = .ok (.iload_n 2, 1) := kqo_1c kbl_X9_copy (pc := 150) rfl
theorem dX9_copy_151 : decode cX9_copy 151 = .ok (.iload 4, 2) := kqo_15 (x1 := 4) kbl_X9_copy (pc := 151) rfl rfl
theorem dX9_copy_153 : decode cX9_copy 153 = .ok (.if_icmp .ge 7, 3) := kqo_a2 (x1 := 0) (x2 := 7) kbl_X9_copy (pc := 153) rfl rfl
theorem dX9_copy_156 : decode cX9_copy 156 = .ok (.iconst 1, 1) := kqo_04 kbl_X9_copy (pc := 156) rfl
theorem dX9_copy_157 : decode cX9_copy 157 = .ok (.goto 4, 3) := kqo_a7 (x1 := 0) (x2 := 4) kbl_X9_copy (pc := 157) rfl rfl
theorem dX9_copy_160 : decode cX9_copy 160 = .ok (.iconst 0, 1) := kqo_03 kbl_X9_copy (pc := 160) rfl
theorem dX9_copy_161 : decode cX9_copy 161 = .ok (.istore 7, 2) := kqo_36 (x1 := 7) kbl_X9_copy (pc := 161) rfl rfl
theorem dX9_copy_163 : decode cX9_copy 163 = .ok (.iconst 0, 1) := kqo_03 kbl_X9_copy (pc := 163) rfl
theorem dX9_copy_164 : decode cX9_copy 164 = .ok (.istore 8, 2) := kqo_36 (x1 := 8) kbl_X9_copy (pc := 164) rfl rfl
theorem dX9_copy_166 : decode cX9_copy 166 = .ok (.iload 8, 2) := kqo_15 (x1 := 8) kbl_X9_copy (pc := 166) rfl rfl
theorem dX9_copy_168 : decode cX9_copy 168 = .ok (.iload 5, 2) := kqo_15 (x1 := 5) kbl_X9_copy (pc := 168) rfl rfl
theorem dX9_copy_170 : decode cX9_copy 170 = .ok (.if_icmp .ge 57, 3) := kqo_a2 (x1 := 0) (x2 := 57) kbl_X9_copy (pc := 170) rfl rfl
theorem dX9_copy_173 : decode cX9_copy 173 = .ok (.iload 7, 2) := kqo_15 (x1 := 7) kbl_X9_copy (pc := 173) rfl rfl
theorem dX9_copy_175 : decode cX9_copy 175 = .ok (.ifCond .eq 13, 3) := kqo_99 (x1 := 0) (x2 := 13) kbl_X9_copy (pc := 175) rfl rfl
theorem dX9_copy_178 : decode cX9_copy 178 = .ok (.iload 5, 2) := kqo_15 (x1 := 5) kbl_X9_copy (pc := 178) rfl rfl
theorem dX9_copy_180 : decode cX9_copy 180 = .ok (.iconst 1, 1) := kqo_04 kbl_X9_copy (pc := 180) rfl
theorem dX9_copy_181 : decode cX9_copy 181 = .ok (.isub, 1) := kqo_64 kbl_X9_copy (pc := 181) rfl
theorem dX9_copy_182 : decode cX9_copy 182 = .ok (.iload 8, 2) := kqo_15 (x1 := 8) kbl_X9_copy (pc := 182) rfl rfl
theorem dX9_copy_184 : decode cX9_copy 184 = .ok (.isub, 1) := kqo_64 kbl_X9_copy (pc := 184) rfl
theorem dX9_copy_185 : decode cX9_copy 185 = .ok (.goto 5, 3) := kqo_a7 (x1 := 0) (x2 := 5) kbl_X9_copy (pc := 185) rfl rfl
theorem dX9_copy_188 : decode cX9_copy 188 = .ok (.iload 8, 2) := kqo_15 (x1 := 8) kbl_X9_copy (pc := 188) rfl rfl
theorem dX9_copy_190 : decode cX9_copy 190 = .ok (.istore 9, 2) := kqo_36 (x1 := 9) kbl_X9_copy (pc := 190) rfl rfl
theorem dX9_copy_192 : decode cX9_copy 192 = .ok (.aload_n 0, 1) := kqo_2a kbl_X9_copy (pc := 192) rfl
theorem dX9_copy_193 : decode cX9_copy 193 = .ok (.getfield 16, 3) := kqo_b4 (x1 := 0) (x2 := 16) kbl_X9_copy (pc := 193) rfl rfl
theorem dX9_copy_196 : decode cX9_copy 196 = .ok (.bipush 60, 2) := kqo_10 (x1 := 60) kbl_X9_copy (pc := 196) rfl rfl
theorem dX9_copy_198 : decode cX9_copy 198 = .ok (.iload_n 3, 1) := kqo_1d kbl_X9_copy (pc := 198) rfl
theorem dX9_copy_199 : decode cX9_copy 199 = .ok (.imul, 1) := kqo_68 kbl_X9_copy (pc := 199) rfl
theorem dX9_copy_200 : decode cX9_copy 200 = .ok (.iload 4, 2) := kqo_15 (x1 := 4) kbl_X9_copy (pc := 200) rfl rfl
theorem dX9_copy_202 : decode cX9_copy 202 = .ok (.iadd, 1) := kqo_60 kbl_X9_copy (pc := 202) rfl
theorem dX9_copy_203 : decode cX9_copy 203 = .ok (.iload 9, 2) := kqo_15 (x1 := 9) kbl_X9_copy (pc := 203) rfl rfl
theorem dX9_copy_205 : decode cX9_copy 205 = .ok (.iadd, 1) := kqo_60 kbl_X9_copy (pc := 205) rfl
theorem dX9_copy_206 : decode cX9_copy 206 = .ok (.aload_n 0, 1) := kqo_2a kbl_X9_copy (pc := 206) rfl
theorem dX9_copy_207 : decode cX9_copy 207 = .ok (.getfield 16, 3) := kqo_b4 (x1 := 0) (x2 := 16) kbl_X9_copy (pc := 207) rfl rfl
theorem dX9_copy_210 : decode cX9_copy 210 = .ok (.bipush 60, 2) := kqo_10 (x1 := 60) kbl_X9_copy (pc := 210) rfl rfl
theorem dX9_copy_212 : decode cX9_copy 212 = .ok (.iload_n 1, 1) := kqo_1b kbl_X9_copy (pc := 212) rfl
theorem dX9_copy_213 : decode cX9_copy 213 = .ok (.imul, 1) := kqo_68 kbl_X9_copy (pc := 213) rfl
theorem dX9_copy_214 : decode cX9_copy 214 = .ok (.iload_n 2, 1) := kqo_1c kbl_X9_copy (pc := 214) rfl
theorem dX9_copy_215 : decode cX9_copy 215 = .ok (.iadd, 1) := kqo_60 kbl_X9_copy (pc := 215) rfl
theorem dX9_copy_216 : decode cX9_copy 216 = .ok (.iload 9, 2) := kqo_15 (x1 := 9) kbl_X9_copy (pc := 216) rfl rfl
theorem dX9_copy_218 : decode cX9_copy 218 = .ok (.iadd, 1) := kqo_60 kbl_X9_copy (pc := 218) rfl
theorem dX9_copy_219 : decode cX9_copy 219 = .ok (.iaload, 1) := kqo_2e kbl_X9_copy (pc := 219) rfl
theorem dX9_copy_220 : decode cX9_copy 220 = .ok (.iastore, 1) := kqo_4f kbl_X9_copy (pc := 220) rfl
theorem dX9_copy_221 : decode cX9_copy 221 = .ok (.iinc 8 1, 3) := kqo_84 (x1 := 8) (x2 := 1) kbl_X9_copy (pc := 221) rfl rfl
theorem dX9_copy_224 : decode cX9_copy 224 = .ok (.goto (-58), 3) := kqo_a7 (x1 := 255) (x2 := 198) kbl_X9_copy (pc := 224) rfl rfl
theorem dX9_copy_227 : decode cX9_copy 227 = .ok (.iload 5, 2) := kqo_15 (x1 := 5) kbl_X9_copy (pc := 227) rfl rfl
theorem dX9_copy_229 : decode cX9_copy 229 = .ok (.ireturn, 1) := kqo_ac kbl_X9_copy (pc := 229) rfl
set_option maxRecDepth 20000 in
theorem ggX9_copy_X9_fails : GoodIn wsX9_copy wsX9_fails := goodIn_4 _ (List.forall_mem_cons.mpr ⟨List.mem_cons_of_mem _ (List.mem_append_left _ (List.mem_of_getElem? (i := 14) rfl)), List.forall_mem_append.mpr ⟨List.forall_mem_cons.mpr ⟨List.mem_cons_of_mem _ (List.mem_append_left _ (List.mem_of_getElem? (i := 0) rfl)), fun _ h9 => absurd h9 List.not_mem_nil⟩, fun w h9 => List.mem_cons_of_mem _ (List.mem_append_right _ (h9))⟩⟩) (by decide +kernel)
set_option maxRecDepth 20000 in
theorem gX9_copy_X9_fails : GoodIn wsX9_copy (wsV RX9 91 RX9 yX9_fails wsX9_fails) := goodIn_app (goodIn_4 _ (List.forall_mem_cons.mpr ⟨List.mem_cons_of_mem _ (List.mem_append_left _ (List.mem_of_getElem? (i := 11) rfl)), List.forall_mem_cons.mpr ⟨List.mem_cons_of_mem _ (List.mem_append_left _ (List.mem_of_getElem? (i := 12) rfl)), List.forall_mem_cons.mpr ⟨List.mem_cons_of_mem _ (List.mem_append_left _ (List.mem_of_getElem? (i := 13) rfl)), List.forall_mem_cons.mpr ⟨List.mem_cons_of_mem _ (List.mem_append_left _ (List.mem_of_getElem? (i := 6) rfl)), fun _ h9 => absurd h9 List.not_mem_nil⟩⟩⟩⟩) (by decide +kernel)) ggX9_copy_X9_fails
set_option maxRecDepth 20000 in
theorem ggX9_copy_X9_isSheet : GoodIn wsX9_copy wsX9_isSheet := goodIn_4 _ (List.forall_mem_cons.mpr ⟨List.mem_cons_of_mem _ (List.mem_append_left _ (List.mem_of_getElem? (i := 7) rfl)), List.forall_mem_cons.mpr ⟨List.mem_cons_of_mem _ (List.mem_append_left _ (List.mem_of_getElem? (i := 8) rfl)), List.forall_mem_cons.mpr ⟨List.mem_cons_of_mem _ (List.mem_append_left _ (List.mem_of_getElem? (i := 9) rfl)), List.forall_mem_cons.mpr ⟨List.mem_cons_of_mem _ (List.mem_append_left _ (List.mem_of_getElem? (i := 6) rfl)), List.forall_mem_cons.mpr ⟨List.mem_cons_of_mem _ (List.mem_append_left _ (List.mem_of_getElem? (i := 10) rfl)), fun _ h9 => absurd h9 List.not_mem_nil⟩⟩⟩⟩⟩) (by decide +kernel)
set_option maxRecDepth 20000 in
theorem gX9_copy_X9_isSheet : GoodIn wsX9_copy (va_wsS RX9 80 yX9_isSheet wsX9_isSheet) := goodIn_app (goodIn_4 _ (List.forall_mem_cons.mpr ⟨List.mem_cons_of_mem _ (List.mem_append_left _ (List.mem_of_getElem? (i := 4) rfl)), List.forall_mem_cons.mpr ⟨List.mem_cons_of_mem _ (List.mem_append_left _ (List.mem_of_getElem? (i := 5) rfl)), List.forall_mem_cons.mpr ⟨List.mem_cons_of_mem _ (List.mem_append_left _ (List.mem_of_getElem? (i := 6) rfl)), fun _ h9 => absurd h9 List.not_mem_nil⟩⟩⟩) (by decide +kernel)) ggX9_copy_X9_isSheet
set_option maxRecDepth 20000 in
theorem mw_X9_copy_0 : (.fieldLink RX9 64 "FontRunsModel" "fault" "I" : Cond) ∈ wsX9_copy := List.mem_cons_of_mem _ (List.mem_append_left _ (List.mem_of_getElem? (i := 0) rfl))
set_option maxRecDepth 20000 in
theorem mw_X9_copy_1 : (.fieldLink RX9 9 "FontRunsModel" "sorts" "[I" : Cond) ∈ wsX9_copy := List.mem_cons_of_mem _ (List.mem_append_left _ (List.mem_of_getElem? (i := 1) rfl))
set_option maxRecDepth 20000 in
theorem mw_X9_copy_2 : (.fieldLink RX9 13 "FontRunsModel" "sheetLong" "[I" : Cond) ∈ wsX9_copy := List.mem_cons_of_mem _ (List.mem_append_left _ (List.mem_of_getElem? (i := 2) rfl))
set_option maxRecDepth 20000 in
theorem mw_X9_copy_3 : (.fieldLink RX9 16 "FontRunsModel" "cells" "[I" : Cond) ∈ wsX9_copy := List.mem_cons_of_mem _ (List.mem_append_left _ (List.mem_of_getElem? (i := 3) rfl))
theorem ax_X9_copy_0 {e0 e1 e2 e3 : Nat × va_E} : ([] : List Nat).map (fun i => ([e0, e1, e2, e3] : va_W)[i]?) = ([] : va_W).map some := rfl
theorem ax_X9_copy_1 {e0 e1 e2 e3 : Nat × va_E} : ([0, 1, 2, 3] : List Nat).map (fun i => ([e0, e1, e2, e3] : va_W)[i]?) = ([e0, e1, e2, e3] : va_W).map some := rfl
theorem ax_X9_copy_2 {e0 e1 e2 e3 : Nat × va_E} : ([0] : List Nat).map (fun i => ([e0, e1, e2, e3] : va_W)[i]?) = ([e0] : va_W).map some := rfl
theorem ax_X9_copy_3 {e0 e1 e2 e3 : Nat × va_E} : ([1, 2, 3] : List Nat).map (fun i => ([e0, e1, e2, e3] : va_W)[i]?) = ([e1, e2, e3] : va_W).map some := rfl
theorem ax_X9_copy_4 {D : va_G} {cl : List vw_C} {H : Heap} {e0 e1 e2 f0 : Nat × va_E} (h : va_P D cl ((([e0, e1, e2] : va_W) ++ ([f0] : va_W))) H) : va_P D cl (([e0, e1, e2, f0] : va_W)) H := h
theorem ax_X9_copy_5 {A : Nat → Prop} {e0 e1 e2 f0 : Nat × va_E} (h : va_D A ((([e0, e1, e2] : va_W) ++ ([f0] : va_W)))) : va_D A (([e0, e1, e2, f0] : va_W)) := h
theorem ax_X9_copy_6 {e0 e1 e2 e3 : Nat × va_E} : ([3, 0, 1, 2] : List Nat).map (fun i => ([e0, e1, e2, e3] : va_W)[i]?) = ([e3, e0, e1, e2] : va_W).map some := rfl
set_option maxHeartbeats 4000000 in
set_option maxRecDepth 100000 in
theorem c_X9_copy (l : Launch) (D : va_G) (sz : Nat) (k : Int) (i : Int) (o9 : Int) (j : Int) (z : Int) (h0 : Nat) (fa : Int) (tc : Int) (so : Nat) (sl : Nat) (ce : Nat) (fn : Int) (kd : Nat) (wd : Nat) (hs : Nat) (pf : Nat) (lt : Nat) (mn : Int) (wg : Nat) (ta : Int) (ck : Int64) (at9 : Int) (rfn : Int) (rk : Nat) (rw : Nat) (rh : Nat) (cl : Int) (sa : Nat) (fi : Nat) (bo : Int) (ch : Nat) (cn : Nat) (ad : Int) (ru : Int) (kp : Nat) (dn : Int) (rfa : Nat) (c_so : ClassId) (f_so : Nat → Int32) (c_sl : ClassId) (f_sl : Nat → Int32) (c_ce : ClassId) (f_ce : Nat → Int32) (q0 : rg k) (q1 : rg i) (q2 : rg o9) (q3 : rg j) (q4 : rg z) (q5 : rg fa) (q6 : kSL f_sl) : Met l yX9_copy wsX9_copy ({ frames := 2, cells := 0, slots := 0, locals := 42 }) (kPre [.ref h0, .int (zI k), .int (zI i), .int (zI o9), .int (zI j), .int (zI z)] D [(h0, .inr (9, [.int (zI fa), .int (zI tc), .ref so, .ref sl, .ref ce, .int (zI fn), .ref kd, .ref wd, .ref hs, .ref pf, .ref lt, .int (zI mn), .ref wg, .int (zI ta), .long ck, .int (zI at9), .int (zI rfn), .ref rk, .ref rw, .ref rh, .int (zI cl), .ref sa, .ref fi, .int (zI bo), .ref ch, .ref cn, .int (zI ad), .int (zI ru), .ref kp, .int (zI dn), .ref rfa])), (so, .inl (c_so, 4, .inl f_so)), (sl, .inl (c_sl, 4, .inl f_sl)), (ce, .inl (c_ce, 240, .inl f_ce))] [(c_so, .int), (c_sl, .int), (c_ce, .int)] sz) (kQS (fun rz t => ∃ (u_fa : Int) (u_f_ce : Nat → Int32), (rg u_fa) ∧ (kCoM k i o9 j z f_so f_sl f_ce u_f_ce rz) ∧ ((rz = -11 ∧ u_fa = 1) ∨ (rz = -12 ∧ u_fa = 2) ∨ (rz = -13 ∧ u_fa = 3) ∨ (rz = -14 ∧ u_fa = 4) ∨ (¬ (-14 ≤ rz ∧ rz ≤ -11) ∧ u_fa = 0)) ∧ va_P D vwCl [(h0, .inr (9, [.int (zI u_fa), .int (zI tc), .ref so, .ref sl, .ref ce, .int (zI fn), .ref kd, .ref wd, .ref hs, .ref pf, .ref lt, .int (zI mn), .ref wg, .int (zI ta), .long ck, .int (zI at9), .int (zI rfn), .ref rk, .ref rw, .ref rh, .int (zI cl), .ref sa, .ref fi, .int (zI bo), .ref ch, .ref cn, .int (zI ad), .int (zI ru), .ref kp, .int (zI dn), .ref rfa])), (so, .inl (c_so, 4, .inl f_so)), (sl, .inl (c_sl, 4, .inl f_sl)), (ce, .inl (c_ce, 240, .inl u_f_ce))] t.heap ∧ va_D (va_A [(h0, .inr (9, [.int (zI fa), .int (zI tc), .ref so, .ref sl, .ref ce, .int (zI fn), .ref kd, .ref wd, .ref hs, .ref pf, .ref lt, .int (zI mn), .ref wg, .int (zI ta), .long ck, .int (zI at9), .int (zI rfn), .ref rk, .ref rw, .ref rh, .int (zI cl), .ref sa, .ref fi, .int (zI bo), .ref ch, .ref cn, .int (zI ad), .int (zI ru), .ref kp, .int (zI dn), .ref rfa])), (so, .inl (c_so, 4, .inl f_so)), (sl, .inl (c_sl, 4, .inl f_sl)), (ce, .inl (c_ce, 240, .inl f_ce))] sz) [(h0, .inr (9, [.int (zI u_fa), .int (zI tc), .ref so, .ref sl, .ref ce, .int (zI fn), .ref kd, .ref wd, .ref hs, .ref pf, .ref lt, .int (zI mn), .ref wg, .int (zI ta), .long ck, .int (zI at9), .int (zI rfn), .ref rk, .ref rw, .ref rh, .int (zI cl), .ref sa, .ref fi, .int (zI bo), .ref ch, .ref cn, .int (zI ad), .int (zI ru), .ref kp, .int (zI dn), .ref rfa])), (so, .inl (c_so, 4, .inl f_so)), (sl, .inl (c_sl, 4, .inl f_sl)), (ce, .inl (c_ce, 240, .inl u_f_ce))]) (va_A [(h0, .inr (9, [.int (zI fa), .int (zI tc), .ref so, .ref sl, .ref ce, .int (zI fn), .ref kd, .ref wd, .ref hs, .ref pf, .ref lt, .int (zI mn), .ref wg, .int (zI ta), .long ck, .int (zI at9), .int (zI rfn), .ref rk, .ref rw, .ref rh, .int (zI cl), .ref sa, .ref fi, .int (zI bo), .ref ch, .ref cn, .int (zI ad), .int (zI ru), .ref kp, .int (zI dn), .ref rfa])), (so, .inl (c_so, 4, .inl f_so)), (sl, .inl (c_sl, 4, .inl f_sl)), (ce, .inl (c_ce, 240, .inl f_ce))] sz)) 0 0 (va_A [(h0, .inr (9, [.int (zI fa), .int (zI tc), .ref so, .ref sl, .ref ce, .int (zI fn), .ref kd, .ref wd, .ref hs, .ref pf, .ref lt, .int (zI mn), .ref wg, .int (zI ta), .long ck, .int (zI at9), .int (zI rfn), .ref rk, .ref rw, .ref rh, .int (zI cl), .ref sa, .ref fi, .int (zI bo), .ref ch, .ref cn, .int (zI ad), .int (zI ru), .ref kp, .int (zI dn), .ref rfa])), (so, .inl (c_so, 4, .inl f_so)), (sl, .inl (c_sl, 4, .inl f_sl)), (ce, .inl (c_ce, 240, .inl f_ce))] sz) := by
  refine Met.ofW (cc := cX9_copy) (maxL := 10) (ret := (some .int)) (by decide) rfl ?_
  intro p e s m args below meth c s₁ B hml hv
  obtain ⟨rfl, hsz, hP, hK, hD0, hN⟩ := hv
  have hx := B.exec
  have hb := B.bytes
  have hr := B.returns
  have hts := atoms_spec (ws := wsX9_copy) B.pre
  have hown : s.vm.findClass RX9 = some m.cls := findClass_of_methodNamed B.named
  have hlocks := B.notSynchronized
  subst hsz
  have hD := hD0.self (sz := s.heap.size)
  generalize hAe : va_A [(h0, .inr (9, [.int (zI fa), .int (zI tc), .ref so, .ref sl, .ref ce, .int (zI fn), .ref kd, .ref wd, .ref hs, .ref pf, .ref lt, .int (zI mn), .ref wg, .int (zI ta), .long ck, .int (zI at9), .int (zI rfn), .ref rk, .ref rw, .ref rh, .int (zI cl), .ref sa, .ref fi, .int (zI bo), .ref ch, .ref cn, .int (zI ad), .int (zI ru), .ref kp, .int (zI dn), .ref rfa])), (so, .inl (c_so, 4, .inl f_so)), (sl, .inl (c_sl, 4, .inl f_sl)), (ce, .inl (c_ce, 240, .inl f_ce))] s.heap.size = A at hD ⊢
  have hA : ∀ q : Nat, s.heap.size ≤ q → A q := fun q h => by rw [← hAe]; exact Or.inr h
  have hS : va_S A s.heap s.heap [] := va_S.rf
  have hP : va_P D vwCl [(h0, .inr (9, [.int (zI fa), .int (zI tc), .ref so, .ref sl, .ref ce, .int (zI fn), .ref kd, .ref wd, .ref hs, .ref pf, .ref lt, .int (zI mn), .ref wg, .int (zI ta), .long ck, .int (zI at9), .int (zI rfn), .ref rk, .ref rw, .ref rh, .int (zI cl), .ref sa, .ref fi, .int (zI bo), .ref ch, .ref cn, .int (zI ad), .int (zI ru), .ref kp, .int (zI dn), .ref rfa])), (so, .inl (c_so, 4, .inl f_so)), (sl, .inl (c_sl, 4, .inl f_sl)), (ce, .inl (c_ce, 240, .inl f_ce))] s.heap := hP
  have hl := lv_entry ([.ref h0, .int (zI k), .int (zI i), .int (zI o9), .int (zI j), .int (zI z)]) (n := 10) (Nat.le_of_ble_eq_true rfl)
  rw [lg_entry_eq]
  generalize (lg_sl ([.ref h0, .int (zI k), .int (zI i), .int (zI o9), .int (zI j), .int (zI z)]) ++ List.replicate (10 - (lg_sl ([.ref h0, .int (zI k), .int (zI i), .int (zI o9), .int (zI j), .int (zI z)])).length) Slot.unset).toArray = ls at hl ⊢
  have hl : lv_has ls 10 [(0, .ref h0), (1, .int (zI k)), (2, .int (zI i)), (3, .int (zI o9)), (4, .int (zI j)), (5, .int (zI z))] := hl
  refine lv_aload_n hx hb dX9_copy_0 rfl (lv_at hl 0 rfl) ?_
  refine lv_iconst (v := zI 0) hx hb dX9_copy_1 rfl ?_
  refine va_put (D := D) (ci := 9) (v := .int (zI 0)) (ty := .int) (C := RX9) (T := TX9) (N := 31) hx hb hts (fun _ h9 => List.mem_cons_of_mem _ (List.mem_append_right _ h9)) tyX9 tyX9_ok nmX9 hown hK hP hD hS 0 rfl rfl 0 (by decide) (hts (.fieldLink RX9 64 "FontRunsModel" "fault" "I") mw_X9_copy_0) (fun _ h9 => h9) rfl (by decide +kernel) rfl rfl (Nat.le_of_ble_eq_true rfl) dX9_copy_2 (fun H locs hP hD hS => ?_)
  have hP : va_P D vwCl [(h0, .inr (9, [.int (zI 0), .int (zI tc), .ref so, .ref sl, .ref ce, .int (zI fn), .ref kd, .ref wd, .ref hs, .ref pf, .ref lt, .int (zI mn), .ref wg, .int (zI ta), .long ck, .int (zI at9), .int (zI rfn), .ref rk, .ref rw, .ref rh, .int (zI cl), .ref sa, .ref fi, .int (zI bo), .ref ch, .ref cn, .int (zI ad), .int (zI ru), .ref kp, .int (zI dn), .ref rfa])), (so, .inl (c_so, 4, .inl f_so)), (sl, .inl (c_sl, 4, .inl f_sl)), (ce, .inl (c_ce, 240, .inl f_ce))] H := hP
  have hD : va_D A [(h0, .inr (9, [.int (zI 0), .int (zI tc), .ref so, .ref sl, .ref ce, .int (zI fn), .ref kd, .ref wd, .ref hs, .ref pf, .ref lt, .int (zI mn), .ref wg, .int (zI ta), .long ck, .int (zI at9), .int (zI rfn), .ref rk, .ref rw, .ref rh, .int (zI cl), .ref sa, .ref fi, .int (zI bo), .ref ch, .ref cn, .int (zI ad), .int (zI ru), .ref kp, .int (zI dn), .ref rfa])), (so, .inl (c_so, 4, .inl f_so)), (sl, .inl (c_sl, 4, .inl f_sl)), (ce, .inl (c_ce, 240, .inl f_ce))] := hD
  refine lv_iload_n hx hb dX9_copy_5 rfl (lv_at hl 1 rfl) ?_
  refine k_callR (va_runS (As := [.int (zI k)]) (rest := []) ⟨hx, hb, hml, hown, hts⟩ (c_X9_isSheet l D H.size (k := k) q0) (va_cwS 1 hts gX9_copy_X9_isSheet rfl rfl rfl (by decide +kernel) ⟨Nat.le_of_ble_eq_true rfl, Nat.le_of_ble_eq_true rfl⟩) (kPreS hP (kD0 hD) hK hN [] [] ax_X9_copy_0 rfl (by decide +kernel)) rfl rfl hl.1 rfl (lv_room (Nat.le_of_ble_eq_true rfl)) dX9_copy_6 ⟨Nat.le_of_ble_eq_true rfl, Nat.le_of_ble_eq_true rfl⟩) ?_
  refine lv_if_eq (tgt := 19) hx hb dX9_copy_9 (by decide) (fun c_1 => ?_) (fun c_1 => ?_)
  · have c_1 : ¬ (0 ≤ k ∧ k ≤ 3) := b01f c_1
    refine lv_iconst (v := zI (-1)) hx hb dX9_copy_19 rfl ?_
    have hP9 := hP.sub (ws' := [(h0, .inr (9, [.int (zI 0), .int (zI tc), .ref so, .ref sl, .ref ce, .int (zI fn), .ref kd, .ref wd, .ref hs, .ref pf, .ref lt, .int (zI mn), .ref wg, .int (zI ta), .long ck, .int (zI at9), .int (zI rfn), .ref rk, .ref rw, .ref rh, .int (zI cl), .ref sa, .ref fi, .int (zI bo), .ref ch, .ref cn, .int (zI ad), .int (zI ru), .ref kp, .int (zI dn), .ref rfa])), (so, .inl (c_so, 4, .inl f_so)), (sl, .inl (c_sl, 4, .inl f_sl)), (ce, .inl (c_ce, 240, .inl f_ce))]) [0, 1, 2, 3] rfl
    have hD9 := hD.sub (ws' := [(h0, .inr (9, [.int (zI 0), .int (zI tc), .ref so, .ref sl, .ref ce, .int (zI fn), .ref kd, .ref wd, .ref hs, .ref pf, .ref lt, .int (zI mn), .ref wg, .int (zI ta), .long ck, .int (zI at9), .int (zI rfn), .ref rk, .ref rw, .ref rh, .int (zI cl), .ref sa, .ref fi, .int (zI bo), .ref ch, .ref cn, .int (zI ad), .int (zI ru), .ref kp, .int (zI dn), .ref rfa])), (so, .inl (c_so, 4, .inl f_so)), (sl, .inl (c_sl, 4, .inl f_sl)), (ce, .inl (c_ce, 240, .inl f_ce))]) [0, 1, 2, 3] (by decide +kernel) rfl
    exact W.iret (v := (zI (-1))) hx hb hr (fun t ht hW => kQS_of (by omega) ⟨0, f_ce, (by omega), (kCoM_1 (by omega) (by omega)), (by omega), by rw [ht]; exact hP9, hD9⟩ (hS.F ht)) hS.2.2 dX9_copy_20
  · have c_1 : 0 ≤ k ∧ k ≤ 3 := b01t c_1
    refine lv_iload_n hx hb dX9_copy_12 rfl (lv_at hl 3 rfl) ?_
    refine k_callR (va_runS (As := [.int (zI o9)]) (rest := []) ⟨hx, hb, hml, hown, hts⟩ (c_X9_isSheet l D H.size (k := o9) q2) (va_cwS 1 hts gX9_copy_X9_isSheet rfl rfl rfl (by decide +kernel) ⟨Nat.le_of_ble_eq_true rfl, Nat.le_of_ble_eq_true rfl⟩) (kPreS hP (kD0 hD) hK hN [] [] ax_X9_copy_0 rfl (by decide +kernel)) rfl rfl hl.1 rfl (lv_room (Nat.le_of_ble_eq_true rfl)) dX9_copy_13 ⟨Nat.le_of_ble_eq_true rfl, Nat.le_of_ble_eq_true rfl⟩) ?_
    refine lv_if_ne (tgt := 21) hx hb dX9_copy_16 (by decide) (fun c_2 => ?_) (fun c_2 => ?_)
    · have c_2 : 0 ≤ o9 ∧ o9 ≤ 3 := b01t c_2
      refine lv_aload_n hx hb dX9_copy_21 rfl (lv_at hl 0 rfl) ?_
      refine va_get (D := D) (ci := 9) (v := .ref so) (C := RX9) (T := TX9) (N := 31) hx hb hts (fun _ h9 => List.mem_cons_of_mem _ (List.mem_append_right _ h9)) hown hK hP 0 rfl rfl 2 (by decide) (hts (.fieldLink RX9 9 "FontRunsModel" "sorts" "[I") mw_X9_copy_1) (fun _ h9 => h9) rfl dX9_copy_22 ?_
      refine lv_iload_n hx hb dX9_copy_25 rfl (lv_at hl 1 rfl) ?_
      refine kz_iald hx hb hK hP 1 0 rfl rfl (by omega) dX9_copy_26 (fun z_3 rz_3 ez_3 => ?_)
      refine lv_bipush (v := zI (-9)) hx hb dX9_copy_27 (by decide) ?_
      refine kz_icmp_eq (tgt := 43) hx hb dX9_copy_29 (by decide) (by omega) (by omega) (fun c_4 => ?_) (fun c_4 => ?_)
      · refine lv_aload_n hx hb dX9_copy_43 rfl (lv_at hl 0 rfl) ?_
        refine lv_iconst (v := zI 1) hx hb dX9_copy_44 rfl ?_
        have hFc := va_free (wc := [(h0, .inr (9, [.int (zI 0), .int (zI tc), .ref so, .ref sl, .ref ce, .int (zI fn), .ref kd, .ref wd, .ref hs, .ref pf, .ref lt, .int (zI mn), .ref wg, .int (zI ta), .long ck, .int (zI at9), .int (zI rfn), .ref rk, .ref rw, .ref rh, .int (zI cl), .ref sa, .ref fi, .int (zI bo), .ref ch, .ref cn, .int (zI ad), .int (zI ru), .ref kp, .int (zI dn), .ref rfa]))]) hD hS hA [0] ax_X9_copy_2
        refine va_calli (va_runV (As := [.int (zI 1)]) (rest := []) ⟨hx, hb, hml, hown, hts⟩ (c_X9_fails_w l D H.size (f := 1) (h0 := h0) (fa := 0) (tc := tc) (so := so) (sl := sl) (ce := ce) (fn := fn) (kd := kd) (wd := wd) (hs := hs) (pf := pf) (lt := lt) (mn := mn) (wg := wg) (ta := ta) (ck := ck) (at9 := at9) (rfn := rfn) (rk := rk) (rw := rw) (rh := rh) (cl := cl) (sa := sa) (fi := fi) (bo := bo) (ch := ch) (cn := cn) (ad := ad) (ru := ru) (kp := kp) (dn := dn) (rfa := rfa) (by omega) (by omega)) (cwV 1 hts gX9_copy_X9_fails rfl rfl rfl (by decide +kernel) ⟨Nat.le_of_ble_eq_true rfl, Nat.le_of_ble_eq_true rfl⟩) (kPreV hP (kD0 hD) hK hN [0] [] ax_X9_copy_2 rfl (by decide +kernel) 0 9 rfl rfl) rfl rfl hl.1 rfl (lv_room (Nat.le_of_ble_eq_true rfl)) dX9_copy_45 ⟨Nat.le_of_ble_eq_true rfl, Nat.le_of_ble_eq_true rfl⟩) hS (fun q _ h => hFc q h) hFc (fun r u t H1 locs ht hvm hw hB hz1 hk1 hS => ?_)
        obtain ⟨z_6, e9⟩ : ∃ z, z = u := ⟨_, rfl⟩
        subst e9
        obtain ⟨rfl, rz_6⟩ := hw
        refine Exists.elim hB (fun u_fa_5 hB1 => ?_)
        have h_7 := hB1.1
        have h_8 := hB1.2.1
        have h_9 := hB1.2.2.1
        have hP1 := hB1.2.2.2.1
        have hD1 := hB1.2.2.2.2
        clear hB hB1
        rw [ht] at hP1
        obtain ⟨hP, hD⟩ := va_join (wr := [(so, .inl (c_so, 4, .inl f_so)), (sl, .inl (c_sl, 4, .inl f_sl)), (ce, .inl (c_ce, 240, .inl f_ce))]) (w1 := [(h0, .inr (9, [.int (zI u_fa_5), .int (zI tc), .ref so, .ref sl, .ref ce, .int (zI fn), .ref kd, .ref wd, .ref hs, .ref pf, .ref lt, .int (zI mn), .ref wg, .int (zI ta), .long ck, .int (zI at9), .int (zI rfn), .ref rk, .ref rw, .ref rh, .int (zI cl), .ref sa, .ref fi, .int (zI bo), .ref ch, .ref cn, .int (zI ad), .int (zI ru), .ref kp, .int (zI dn), .ref rfa]))]) hP hD [0] [1, 2, 3] ax_X9_copy_2 ax_X9_copy_3 (by decide +kernel) (by decide +kernel) hk1 hFc hP1 hD1
        have hP := ax_X9_copy_4 hP
        have hD := ax_X9_copy_5 hD
        generalize H1 = H at hP hS ⊢
        have hP : va_P D vwCl [(so, .inl (c_so, 4, .inl f_so)), (sl, .inl (c_sl, 4, .inl f_sl)), (ce, .inl (c_ce, 240, .inl f_ce)), (h0, .inr (9, [.int (zI u_fa_5), .int (zI tc), .ref so, .ref sl, .ref ce, .int (zI fn), .ref kd, .ref wd, .ref hs, .ref pf, .ref lt, .int (zI mn), .ref wg, .int (zI ta), .long ck, .int (zI at9), .int (zI rfn), .ref rk, .ref rw, .ref rh, .int (zI cl), .ref sa, .ref fi, .int (zI bo), .ref ch, .ref cn, .int (zI ad), .int (zI ru), .ref kp, .int (zI dn), .ref rfa]))] H := hP
        have hD : va_D A [(so, .inl (c_so, 4, .inl f_so)), (sl, .inl (c_sl, 4, .inl f_sl)), (ce, .inl (c_ce, 240, .inl f_ce)), (h0, .inr (9, [.int (zI u_fa_5), .int (zI tc), .ref so, .ref sl, .ref ce, .int (zI fn), .ref kd, .ref wd, .ref hs, .ref pf, .ref lt, .int (zI mn), .ref wg, .int (zI ta), .long ck, .int (zI at9), .int (zI rfn), .ref rk, .ref rw, .ref rh, .int (zI cl), .ref sa, .ref fi, .int (zI bo), .ref ch, .ref cn, .int (zI ad), .int (zI ru), .ref kp, .int (zI dn), .ref rfa]))] := hD
        have hP9 := hP.sub (ws' := [(h0, .inr (9, [.int (zI u_fa_5), .int (zI tc), .ref so, .ref sl, .ref ce, .int (zI fn), .ref kd, .ref wd, .ref hs, .ref pf, .ref lt, .int (zI mn), .ref wg, .int (zI ta), .long ck, .int (zI at9), .int (zI rfn), .ref rk, .ref rw, .ref rh, .int (zI cl), .ref sa, .ref fi, .int (zI bo), .ref ch, .ref cn, .int (zI ad), .int (zI ru), .ref kp, .int (zI dn), .ref rfa])), (so, .inl (c_so, 4, .inl f_so)), (sl, .inl (c_sl, 4, .inl f_sl)), (ce, .inl (c_ce, 240, .inl f_ce))]) [3, 0, 1, 2] rfl
        have hD9 := hD.sub (ws' := [(h0, .inr (9, [.int (zI u_fa_5), .int (zI tc), .ref so, .ref sl, .ref ce, .int (zI fn), .ref kd, .ref wd, .ref hs, .ref pf, .ref lt, .int (zI mn), .ref wg, .int (zI ta), .long ck, .int (zI at9), .int (zI rfn), .ref rk, .ref rw, .ref rh, .int (zI cl), .ref sa, .ref fi, .int (zI bo), .ref ch, .ref cn, .int (zI ad), .int (zI ru), .ref kp, .int (zI dn), .ref rfa])), (so, .inl (c_so, 4, .inl f_so)), (sl, .inl (c_sl, 4, .inl f_sl)), (ce, .inl (c_ce, 240, .inl f_ce))]) [3, 0, 1, 2] (by decide +kernel) rfl
        exact W.iret (v := (zI z_6)) hx hb hr (fun t ht hW => kQS_of (by omega) ⟨u_fa_5, f_ce, h_7, (kCoM_2 (by omega) ez_3 (by omega) (by omega)), (by omega), by rw [ht]; exact hP9, hD9⟩ (hS.F ht)) hS.2.2 dX9_copy_48
      · refine lv_aload_n hx hb dX9_copy_32 rfl (lv_at hl 0 rfl) ?_
        refine va_get (D := D) (ci := 9) (v := .ref so) (C := RX9) (T := TX9) (N := 31) hx hb hts (fun _ h9 => List.mem_cons_of_mem _ (List.mem_append_right _ h9)) hown hK hP 0 rfl rfl 2 (by decide) (hts (.fieldLink RX9 9 "FontRunsModel" "sorts" "[I") mw_X9_copy_1) (fun _ h9 => h9) rfl dX9_copy_33 ?_
        refine lv_iload_n hx hb dX9_copy_36 rfl (lv_at hl 3 rfl) ?_
        refine kz_iald hx hb hK hP 1 0 rfl rfl (by omega) dX9_copy_37 (fun z_10 rz_10 ez_10 => ?_)
        refine lv_bipush (v := zI (-9)) hx hb dX9_copy_38 (by decide) ?_
        refine kz_icmp_ne (tgt := 49) hx hb dX9_copy_40 (by decide) (by omega) (by omega) (fun c_11 => ?_) (fun c_11 => ?_)
        · refine lv_aload_n hx hb dX9_copy_49 rfl (lv_at hl 0 rfl) ?_
          refine va_get (D := D) (ci := 9) (v := .ref so) (C := RX9) (T := TX9) (N := 31) hx hb hts (fun _ h9 => List.mem_cons_of_mem _ (List.mem_append_right _ h9)) hown hK hP 0 rfl rfl 2 (by decide) (hts (.fieldLink RX9 9 "FontRunsModel" "sorts" "[I") mw_X9_copy_1) (fun _ h9 => h9) rfl dX9_copy_50 ?_
          refine lv_iload_n hx hb dX9_copy_53 rfl (lv_at hl 1 rfl) ?_
          refine kz_iald hx hb hK hP 1 0 rfl rfl (by omega) dX9_copy_54 (fun z_12 rz_12 ez_12 => ?_)
          have q9 : z_3 = z_12 := (zI_eq rz_3 rz_12).mp (ez_3.symm.trans ez_12)
          subst q9
          refine lv_aload_n hx hb dX9_copy_55 rfl (lv_at hl 0 rfl) ?_
          refine va_get (D := D) (ci := 9) (v := .ref so) (C := RX9) (T := TX9) (N := 31) hx hb hts (fun _ h9 => List.mem_cons_of_mem _ (List.mem_append_right _ h9)) hown hK hP 0 rfl rfl 2 (by decide) (hts (.fieldLink RX9 9 "FontRunsModel" "sorts" "[I") mw_X9_copy_1) (fun _ h9 => h9) rfl dX9_copy_56 ?_
          refine lv_iload_n hx hb dX9_copy_59 rfl (lv_at hl 3 rfl) ?_
          refine kz_iald hx hb hK hP 1 0 rfl rfl (by omega) dX9_copy_60 (fun z_13 rz_13 ez_13 => ?_)
          have q9 : z_10 = z_13 := (zI_eq rz_10 rz_13).mp (ez_10.symm.trans ez_13)
          subst q9
          refine kz_icmp_eq (tgt := 70) hx hb dX9_copy_61 (by decide) (by omega) (by omega) (fun c_14 => ?_) (fun c_14 => ?_)
          · refine lv_iload_n hx hb dX9_copy_70 rfl (lv_at hl 2 rfl) ?_
            refine kz_if_lt (tgt := 109) hx hb dX9_copy_71 (by decide) (by omega) (fun c_15 => ?_) (fun c_15 => ?_)
            · refine lv_iconst (v := zI 0) hx hb dX9_copy_109 rfl ?_
              refine lv_istore (lv' := [(6, .int (zI 0)), (0, .ref h0), (1, .int (zI k)), (2, .int (zI i)), (3, .int (zI o9)), (4, .int (zI j)), (5, .int (zI z))]) hx hb dX9_copy_110 hl (by decide) rfl (fun ls hl => ?_)
              refine lv_iload hx hb dX9_copy_112 (lv_at hl 0 rfl) ?_
              refine kz_if_eq (tgt := 144) hx hb dX9_copy_114 (by decide) (by omega) (fun c9 => ?_) (fun c9 => by omega)
              refine lv_aload_n hx hb dX9_copy_144 rfl (lv_at hl 1 rfl) ?_
              refine lv_iconst (v := zI 3) hx hb dX9_copy_145 rfl ?_
              have hFc := va_free (wc := [(h0, .inr (9, [.int (zI 0), .int (zI tc), .ref so, .ref sl, .ref ce, .int (zI fn), .ref kd, .ref wd, .ref hs, .ref pf, .ref lt, .int (zI mn), .ref wg, .int (zI ta), .long ck, .int (zI at9), .int (zI rfn), .ref rk, .ref rw, .ref rh, .int (zI cl), .ref sa, .ref fi, .int (zI bo), .ref ch, .ref cn, .int (zI ad), .int (zI ru), .ref kp, .int (zI dn), .ref rfa]))]) hD hS hA [0] ax_X9_copy_2
              refine va_calli (va_runV (As := [.int (zI 3)]) (rest := []) ⟨hx, hb, hml, hown, hts⟩ (c_X9_fails_w l D H.size (f := 3) (h0 := h0) (fa := 0) (tc := tc) (so := so) (sl := sl) (ce := ce) (fn := fn) (kd := kd) (wd := wd) (hs := hs) (pf := pf) (lt := lt) (mn := mn) (wg := wg) (ta := ta) (ck := ck) (at9 := at9) (rfn := rfn) (rk := rk) (rw := rw) (rh := rh) (cl := cl) (sa := sa) (fi := fi) (bo := bo) (ch := ch) (cn := cn) (ad := ad) (ru := ru) (kp := kp) (dn := dn) (rfa := rfa) (by omega) (by omega)) (cwV 1 hts gX9_copy_X9_fails rfl rfl rfl (by decide +kernel) ⟨Nat.le_of_ble_eq_true rfl, Nat.le_of_ble_eq_true rfl⟩) (kPreV hP (kD0 hD) hK hN [0] [] ax_X9_copy_2 rfl (by decide +kernel) 0 9 rfl rfl) rfl rfl hl.1 rfl (lv_room (Nat.le_of_ble_eq_true rfl)) dX9_copy_146 ⟨Nat.le_of_ble_eq_true rfl, Nat.le_of_ble_eq_true rfl⟩) hS (fun q _ h => hFc q h) hFc (fun r u t H1 locs ht hvm hw hB hz1 hk1 hS => ?_)
              obtain ⟨z_17, e9⟩ : ∃ z, z = u := ⟨_, rfl⟩
              subst e9
              obtain ⟨rfl, rz_17⟩ := hw
              refine Exists.elim hB (fun u_fa_16 hB1 => ?_)
              have h_18 := hB1.1
              have h_19 := hB1.2.1
              have h_20 := hB1.2.2.1
              have hP1 := hB1.2.2.2.1
              have hD1 := hB1.2.2.2.2
              clear hB hB1
              rw [ht] at hP1
              obtain ⟨hP, hD⟩ := va_join (wr := [(so, .inl (c_so, 4, .inl f_so)), (sl, .inl (c_sl, 4, .inl f_sl)), (ce, .inl (c_ce, 240, .inl f_ce))]) (w1 := [(h0, .inr (9, [.int (zI u_fa_16), .int (zI tc), .ref so, .ref sl, .ref ce, .int (zI fn), .ref kd, .ref wd, .ref hs, .ref pf, .ref lt, .int (zI mn), .ref wg, .int (zI ta), .long ck, .int (zI at9), .int (zI rfn), .ref rk, .ref rw, .ref rh, .int (zI cl), .ref sa, .ref fi, .int (zI bo), .ref ch, .ref cn, .int (zI ad), .int (zI ru), .ref kp, .int (zI dn), .ref rfa]))]) hP hD [0] [1, 2, 3] ax_X9_copy_2 ax_X9_copy_3 (by decide +kernel) (by decide +kernel) hk1 hFc hP1 hD1
              have hP := ax_X9_copy_4 hP
              have hD := ax_X9_copy_5 hD
              generalize H1 = H at hP hS ⊢
              have hP : va_P D vwCl [(so, .inl (c_so, 4, .inl f_so)), (sl, .inl (c_sl, 4, .inl f_sl)), (ce, .inl (c_ce, 240, .inl f_ce)), (h0, .inr (9, [.int (zI u_fa_16), .int (zI tc), .ref so, .ref sl, .ref ce, .int (zI fn), .ref kd, .ref wd, .ref hs, .ref pf, .ref lt, .int (zI mn), .ref wg, .int (zI ta), .long ck, .int (zI at9), .int (zI rfn), .ref rk, .ref rw, .ref rh, .int (zI cl), .ref sa, .ref fi, .int (zI bo), .ref ch, .ref cn, .int (zI ad), .int (zI ru), .ref kp, .int (zI dn), .ref rfa]))] H := hP
              have hD : va_D A [(so, .inl (c_so, 4, .inl f_so)), (sl, .inl (c_sl, 4, .inl f_sl)), (ce, .inl (c_ce, 240, .inl f_ce)), (h0, .inr (9, [.int (zI u_fa_16), .int (zI tc), .ref so, .ref sl, .ref ce, .int (zI fn), .ref kd, .ref wd, .ref hs, .ref pf, .ref lt, .int (zI mn), .ref wg, .int (zI ta), .long ck, .int (zI at9), .int (zI rfn), .ref rk, .ref rw, .ref rh, .int (zI cl), .ref sa, .ref fi, .int (zI bo), .ref ch, .ref cn, .int (zI ad), .int (zI ru), .ref kp, .int (zI dn), .ref rfa]))] := hD
              have hP9 := hP.sub (ws' := [(h0, .inr (9, [.int (zI u_fa_16), .int (zI tc), .ref so, .ref sl, .ref ce, .int (zI fn), .ref kd, .ref wd, .ref hs, .ref pf, .ref lt, .int (zI mn), .ref wg, .int (zI ta), .long ck, .int (zI at9), .int (zI rfn), .ref rk, .ref rw, .ref rh, .int (zI cl), .ref sa, .ref fi, .int (zI bo), .ref ch, .ref cn, .int (zI ad), .int (zI ru), .ref kp, .int (zI dn), .ref rfa])), (so, .inl (c_so, 4, .inl f_so)), (sl, .inl (c_sl, 4, .inl f_sl)), (ce, .inl (c_ce, 240, .inl f_ce))]) [3, 0, 1, 2] rfl
              have hD9 := hD.sub (ws' := [(h0, .inr (9, [.int (zI u_fa_16), .int (zI tc), .ref so, .ref sl, .ref ce, .int (zI fn), .ref kd, .ref wd, .ref hs, .ref pf, .ref lt, .int (zI mn), .ref wg, .int (zI ta), .long ck, .int (zI at9), .int (zI rfn), .ref rk, .ref rw, .ref rh, .int (zI cl), .ref sa, .ref fi, .int (zI bo), .ref ch, .ref cn, .int (zI ad), .int (zI ru), .ref kp, .int (zI dn), .ref rfa])), (so, .inl (c_so, 4, .inl f_so)), (sl, .inl (c_sl, 4, .inl f_sl)), (ce, .inl (c_ce, 240, .inl f_ce))]) [3, 0, 1, 2] (by decide +kernel) rfl
              exact W.iret (v := (zI z_17)) hx hb hr (fun t ht hW => kQS_of (by omega) ⟨u_fa_16, f_ce, h_18, (kCoM_4 (by omega) rz_3 rz_10 ez_3 ez_10 (by omega) (by omega) (by omega) (fun _ _ r_a9 r_b9 e_a9 e_b9 => by omega) (by omega)), (by omega), by rw [ht]; exact hP9, hD9⟩ (hS.F ht)) hS.2.2 dX9_copy_149
            · refine lv_iload hx hb dX9_copy_74 (lv_at hl 4 rfl) ?_
              refine kz_if_lt (tgt := 109) hx hb dX9_copy_76 (by decide) (by omega) (fun c_21 => ?_) (fun c_21 => ?_)
              · refine lv_iconst (v := zI 0) hx hb dX9_copy_109 rfl ?_
                refine lv_istore (lv' := [(6, .int (zI 0)), (0, .ref h0), (1, .int (zI k)), (2, .int (zI i)), (3, .int (zI o9)), (4, .int (zI j)), (5, .int (zI z))]) hx hb dX9_copy_110 hl (by decide) rfl (fun ls hl => ?_)
                refine lv_iload hx hb dX9_copy_112 (lv_at hl 0 rfl) ?_
                refine kz_if_eq (tgt := 144) hx hb dX9_copy_114 (by decide) (by omega) (fun c9 => ?_) (fun c9 => by omega)
                refine lv_aload_n hx hb dX9_copy_144 rfl (lv_at hl 1 rfl) ?_
                refine lv_iconst (v := zI 3) hx hb dX9_copy_145 rfl ?_
                have hFc := va_free (wc := [(h0, .inr (9, [.int (zI 0), .int (zI tc), .ref so, .ref sl, .ref ce, .int (zI fn), .ref kd, .ref wd, .ref hs, .ref pf, .ref lt, .int (zI mn), .ref wg, .int (zI ta), .long ck, .int (zI at9), .int (zI rfn), .ref rk, .ref rw, .ref rh, .int (zI cl), .ref sa, .ref fi, .int (zI bo), .ref ch, .ref cn, .int (zI ad), .int (zI ru), .ref kp, .int (zI dn), .ref rfa]))]) hD hS hA [0] ax_X9_copy_2
                refine va_calli (va_runV (As := [.int (zI 3)]) (rest := []) ⟨hx, hb, hml, hown, hts⟩ (c_X9_fails_w l D H.size (f := 3) (h0 := h0) (fa := 0) (tc := tc) (so := so) (sl := sl) (ce := ce) (fn := fn) (kd := kd) (wd := wd) (hs := hs) (pf := pf) (lt := lt) (mn := mn) (wg := wg) (ta := ta) (ck := ck) (at9 := at9) (rfn := rfn) (rk := rk) (rw := rw) (rh := rh) (cl := cl) (sa := sa) (fi := fi) (bo := bo) (ch := ch) (cn := cn) (ad := ad) (ru := ru) (kp := kp) (dn := dn) (rfa := rfa) (by omega) (by omega)) (cwV 1 hts gX9_copy_X9_fails rfl rfl rfl (by decide +kernel) ⟨Nat.le_of_ble_eq_true rfl, Nat.le_of_ble_eq_true rfl⟩) (kPreV hP (kD0 hD) hK hN [0] [] ax_X9_copy_2 rfl (by decide +kernel) 0 9 rfl rfl) rfl rfl hl.1 rfl (lv_room (Nat.le_of_ble_eq_true rfl)) dX9_copy_146 ⟨Nat.le_of_ble_eq_true rfl, Nat.le_of_ble_eq_true rfl⟩) hS (fun q _ h => hFc q h) hFc (fun r u t H1 locs ht hvm hw hB hz1 hk1 hS => ?_)
                obtain ⟨z_23, e9⟩ : ∃ z, z = u := ⟨_, rfl⟩
                subst e9
                obtain ⟨rfl, rz_23⟩ := hw
                refine Exists.elim hB (fun u_fa_22 hB1 => ?_)
                have h_24 := hB1.1
                have h_25 := hB1.2.1
                have h_26 := hB1.2.2.1
                have hP1 := hB1.2.2.2.1
                have hD1 := hB1.2.2.2.2
                clear hB hB1
                rw [ht] at hP1
                obtain ⟨hP, hD⟩ := va_join (wr := [(so, .inl (c_so, 4, .inl f_so)), (sl, .inl (c_sl, 4, .inl f_sl)), (ce, .inl (c_ce, 240, .inl f_ce))]) (w1 := [(h0, .inr (9, [.int (zI u_fa_22), .int (zI tc), .ref so, .ref sl, .ref ce, .int (zI fn), .ref kd, .ref wd, .ref hs, .ref pf, .ref lt, .int (zI mn), .ref wg, .int (zI ta), .long ck, .int (zI at9), .int (zI rfn), .ref rk, .ref rw, .ref rh, .int (zI cl), .ref sa, .ref fi, .int (zI bo), .ref ch, .ref cn, .int (zI ad), .int (zI ru), .ref kp, .int (zI dn), .ref rfa]))]) hP hD [0] [1, 2, 3] ax_X9_copy_2 ax_X9_copy_3 (by decide +kernel) (by decide +kernel) hk1 hFc hP1 hD1
                have hP := ax_X9_copy_4 hP
                have hD := ax_X9_copy_5 hD
                generalize H1 = H at hP hS ⊢
                have hP : va_P D vwCl [(so, .inl (c_so, 4, .inl f_so)), (sl, .inl (c_sl, 4, .inl f_sl)), (ce, .inl (c_ce, 240, .inl f_ce)), (h0, .inr (9, [.int (zI u_fa_22), .int (zI tc), .ref so, .ref sl, .ref ce, .int (zI fn), .ref kd, .ref wd, .ref hs, .ref pf, .ref lt, .int (zI mn), .ref wg, .int (zI ta), .long ck, .int (zI at9), .int (zI rfn), .ref rk, .ref rw, .ref rh, .int (zI cl), .ref sa, .ref fi, .int (zI bo), .ref ch, .ref cn, .int (zI ad), .int (zI ru), .ref kp, .int (zI dn), .ref rfa]))] H := hP
                have hD : va_D A [(so, .inl (c_so, 4, .inl f_so)), (sl, .inl (c_sl, 4, .inl f_sl)), (ce, .inl (c_ce, 240, .inl f_ce)), (h0, .inr (9, [.int (zI u_fa_22), .int (zI tc), .ref so, .ref sl, .ref ce, .int (zI fn), .ref kd, .ref wd, .ref hs, .ref pf, .ref lt, .int (zI mn), .ref wg, .int (zI ta), .long ck, .int (zI at9), .int (zI rfn), .ref rk, .ref rw, .ref rh, .int (zI cl), .ref sa, .ref fi, .int (zI bo), .ref ch, .ref cn, .int (zI ad), .int (zI ru), .ref kp, .int (zI dn), .ref rfa]))] := hD
                have hP9 := hP.sub (ws' := [(h0, .inr (9, [.int (zI u_fa_22), .int (zI tc), .ref so, .ref sl, .ref ce, .int (zI fn), .ref kd, .ref wd, .ref hs, .ref pf, .ref lt, .int (zI mn), .ref wg, .int (zI ta), .long ck, .int (zI at9), .int (zI rfn), .ref rk, .ref rw, .ref rh, .int (zI cl), .ref sa, .ref fi, .int (zI bo), .ref ch, .ref cn, .int (zI ad), .int (zI ru), .ref kp, .int (zI dn), .ref rfa])), (so, .inl (c_so, 4, .inl f_so)), (sl, .inl (c_sl, 4, .inl f_sl)), (ce, .inl (c_ce, 240, .inl f_ce))]) [3, 0, 1, 2] rfl
                have hD9 := hD.sub (ws' := [(h0, .inr (9, [.int (zI u_fa_22), .int (zI tc), .ref so, .ref sl, .ref ce, .int (zI fn), .ref kd, .ref wd, .ref hs, .ref pf, .ref lt, .int (zI mn), .ref wg, .int (zI ta), .long ck, .int (zI at9), .int (zI rfn), .ref rk, .ref rw, .ref rh, .int (zI cl), .ref sa, .ref fi, .int (zI bo), .ref ch, .ref cn, .int (zI ad), .int (zI ru), .ref kp, .int (zI dn), .ref rfa])), (so, .inl (c_so, 4, .inl f_so)), (sl, .inl (c_sl, 4, .inl f_sl)), (ce, .inl (c_ce, 240, .inl f_ce))]) [3, 0, 1, 2] (by decide +kernel) rfl
                exact W.iret (v := (zI z_23)) hx hb hr (fun t ht hW => kQS_of (by omega) ⟨u_fa_22, f_ce, h_24, (kCoM_4 (by omega) rz_3 rz_10 ez_3 ez_10 (by omega) (by omega) (by omega) (fun _ _ r_a9 r_b9 e_a9 e_b9 => by omega) (by omega)), (by omega), by rw [ht]; exact hP9, hD9⟩ (hS.F ht)) hS.2.2 dX9_copy_149
              · refine lv_iload hx hb dX9_copy_79 (lv_at hl 5 rfl) ?_
                refine kz_if_lt (tgt := 109) hx hb dX9_copy_81 (by decide) (by omega) (fun c_27 => ?_) (fun c_27 => ?_)
                · refine lv_iconst (v := zI 0) hx hb dX9_copy_109 rfl ?_
                  refine lv_istore (lv' := [(6, .int (zI 0)), (0, .ref h0), (1, .int (zI k)), (2, .int (zI i)), (3, .int (zI o9)), (4, .int (zI j)), (5, .int (zI z))]) hx hb dX9_copy_110 hl (by decide) rfl (fun ls hl => ?_)
                  refine lv_iload hx hb dX9_copy_112 (lv_at hl 0 rfl) ?_
                  refine kz_if_eq (tgt := 144) hx hb dX9_copy_114 (by decide) (by omega) (fun c9 => ?_) (fun c9 => by omega)
                  refine lv_aload_n hx hb dX9_copy_144 rfl (lv_at hl 1 rfl) ?_
                  refine lv_iconst (v := zI 3) hx hb dX9_copy_145 rfl ?_
                  have hFc := va_free (wc := [(h0, .inr (9, [.int (zI 0), .int (zI tc), .ref so, .ref sl, .ref ce, .int (zI fn), .ref kd, .ref wd, .ref hs, .ref pf, .ref lt, .int (zI mn), .ref wg, .int (zI ta), .long ck, .int (zI at9), .int (zI rfn), .ref rk, .ref rw, .ref rh, .int (zI cl), .ref sa, .ref fi, .int (zI bo), .ref ch, .ref cn, .int (zI ad), .int (zI ru), .ref kp, .int (zI dn), .ref rfa]))]) hD hS hA [0] ax_X9_copy_2
                  refine va_calli (va_runV (As := [.int (zI 3)]) (rest := []) ⟨hx, hb, hml, hown, hts⟩ (c_X9_fails_w l D H.size (f := 3) (h0 := h0) (fa := 0) (tc := tc) (so := so) (sl := sl) (ce := ce) (fn := fn) (kd := kd) (wd := wd) (hs := hs) (pf := pf) (lt := lt) (mn := mn) (wg := wg) (ta := ta) (ck := ck) (at9 := at9) (rfn := rfn) (rk := rk) (rw := rw) (rh := rh) (cl := cl) (sa := sa) (fi := fi) (bo := bo) (ch := ch) (cn := cn) (ad := ad) (ru := ru) (kp := kp) (dn := dn) (rfa := rfa) (by omega) (by omega)) (cwV 1 hts gX9_copy_X9_fails rfl rfl rfl (by decide +kernel) ⟨Nat.le_of_ble_eq_true rfl, Nat.le_of_ble_eq_true rfl⟩) (kPreV hP (kD0 hD) hK hN [0] [] ax_X9_copy_2 rfl (by decide +kernel) 0 9 rfl rfl) rfl rfl hl.1 rfl (lv_room (Nat.le_of_ble_eq_true rfl)) dX9_copy_146 ⟨Nat.le_of_ble_eq_true rfl, Nat.le_of_ble_eq_true rfl⟩) hS (fun q _ h => hFc q h) hFc (fun r u t H1 locs ht hvm hw hB hz1 hk1 hS => ?_)
                  obtain ⟨z_29, e9⟩ : ∃ z, z = u := ⟨_, rfl⟩
                  subst e9
                  obtain ⟨rfl, rz_29⟩ := hw
                  refine Exists.elim hB (fun u_fa_28 hB1 => ?_)
                  have h_30 := hB1.1
                  have h_31 := hB1.2.1
                  have h_32 := hB1.2.2.1
                  have hP1 := hB1.2.2.2.1
                  have hD1 := hB1.2.2.2.2
                  clear hB hB1
                  rw [ht] at hP1
                  obtain ⟨hP, hD⟩ := va_join (wr := [(so, .inl (c_so, 4, .inl f_so)), (sl, .inl (c_sl, 4, .inl f_sl)), (ce, .inl (c_ce, 240, .inl f_ce))]) (w1 := [(h0, .inr (9, [.int (zI u_fa_28), .int (zI tc), .ref so, .ref sl, .ref ce, .int (zI fn), .ref kd, .ref wd, .ref hs, .ref pf, .ref lt, .int (zI mn), .ref wg, .int (zI ta), .long ck, .int (zI at9), .int (zI rfn), .ref rk, .ref rw, .ref rh, .int (zI cl), .ref sa, .ref fi, .int (zI bo), .ref ch, .ref cn, .int (zI ad), .int (zI ru), .ref kp, .int (zI dn), .ref rfa]))]) hP hD [0] [1, 2, 3] ax_X9_copy_2 ax_X9_copy_3 (by decide +kernel) (by decide +kernel) hk1 hFc hP1 hD1
                  have hP := ax_X9_copy_4 hP
                  have hD := ax_X9_copy_5 hD
                  generalize H1 = H at hP hS ⊢
                  have hP : va_P D vwCl [(so, .inl (c_so, 4, .inl f_so)), (sl, .inl (c_sl, 4, .inl f_sl)), (ce, .inl (c_ce, 240, .inl f_ce)), (h0, .inr (9, [.int (zI u_fa_28), .int (zI tc), .ref so, .ref sl, .ref ce, .int (zI fn), .ref kd, .ref wd, .ref hs, .ref pf, .ref lt, .int (zI mn), .ref wg, .int (zI ta), .long ck, .int (zI at9), .int (zI rfn), .ref rk, .ref rw, .ref rh, .int (zI cl), .ref sa, .ref fi, .int (zI bo), .ref ch, .ref cn, .int (zI ad), .int (zI ru), .ref kp, .int (zI dn), .ref rfa]))] H := hP
                  have hD : va_D A [(so, .inl (c_so, 4, .inl f_so)), (sl, .inl (c_sl, 4, .inl f_sl)), (ce, .inl (c_ce, 240, .inl f_ce)), (h0, .inr (9, [.int (zI u_fa_28), .int (zI tc), .ref so, .ref sl, .ref ce, .int (zI fn), .ref kd, .ref wd, .ref hs, .ref pf, .ref lt, .int (zI mn), .ref wg, .int (zI ta), .long ck, .int (zI at9), .int (zI rfn), .ref rk, .ref rw, .ref rh, .int (zI cl), .ref sa, .ref fi, .int (zI bo), .ref ch, .ref cn, .int (zI ad), .int (zI ru), .ref kp, .int (zI dn), .ref rfa]))] := hD
                  have hP9 := hP.sub (ws' := [(h0, .inr (9, [.int (zI u_fa_28), .int (zI tc), .ref so, .ref sl, .ref ce, .int (zI fn), .ref kd, .ref wd, .ref hs, .ref pf, .ref lt, .int (zI mn), .ref wg, .int (zI ta), .long ck, .int (zI at9), .int (zI rfn), .ref rk, .ref rw, .ref rh, .int (zI cl), .ref sa, .ref fi, .int (zI bo), .ref ch, .ref cn, .int (zI ad), .int (zI ru), .ref kp, .int (zI dn), .ref rfa])), (so, .inl (c_so, 4, .inl f_so)), (sl, .inl (c_sl, 4, .inl f_sl)), (ce, .inl (c_ce, 240, .inl f_ce))]) [3, 0, 1, 2] rfl
                  have hD9 := hD.sub (ws' := [(h0, .inr (9, [.int (zI u_fa_28), .int (zI tc), .ref so, .ref sl, .ref ce, .int (zI fn), .ref kd, .ref wd, .ref hs, .ref pf, .ref lt, .int (zI mn), .ref wg, .int (zI ta), .long ck, .int (zI at9), .int (zI rfn), .ref rk, .ref rw, .ref rh, .int (zI cl), .ref sa, .ref fi, .int (zI bo), .ref ch, .ref cn, .int (zI ad), .int (zI ru), .ref kp, .int (zI dn), .ref rfa])), (so, .inl (c_so, 4, .inl f_so)), (sl, .inl (c_sl, 4, .inl f_sl)), (ce, .inl (c_ce, 240, .inl f_ce))]) [3, 0, 1, 2] (by decide +kernel) rfl
                  exact W.iret (v := (zI z_29)) hx hb hr (fun t ht hW => kQS_of (by omega) ⟨u_fa_28, f_ce, h_30, (kCoM_4 (by omega) rz_3 rz_10 ez_3 ez_10 (by omega) (by omega) (by omega) (fun _ _ r_a9 r_b9 e_a9 e_b9 => by omega) (by omega)), (by omega), by rw [ht]; exact hP9, hD9⟩ (hS.F ht)) hS.2.2 dX9_copy_149
                · refine lv_iload_n hx hb dX9_copy_84 rfl (lv_at hl 2 rfl) ?_
                  refine lv_aload_n hx hb dX9_copy_85 rfl (lv_at hl 0 rfl) ?_
                  refine va_get (D := D) (ci := 9) (v := .ref sl) (C := RX9) (T := TX9) (N := 31) hx hb hts (fun _ h9 => List.mem_cons_of_mem _ (List.mem_append_right _ h9)) hown hK hP 0 rfl rfl 3 (by decide) (hts (.fieldLink RX9 13 "FontRunsModel" "sheetLong" "[I") mw_X9_copy_2) (fun _ h9 => h9) rfl dX9_copy_86 ?_
                  refine lv_iload_n hx hb dX9_copy_89 rfl (lv_at hl 1 rfl) ?_
                  refine kz_iald hx hb hK hP 2 1 rfl rfl (by omega) dX9_copy_90 (fun z_33 rz_33 ez_33 => ?_)
                  have bz_33 := kSL_at q6 (by omega) rz_33 ez_33
                  refine kz_icmp_gt (tgt := 109) hx hb dX9_copy_91 (by decide) (by omega) (by omega) (fun c_34 => ?_) (fun c_34 => ?_)
                  · refine lv_iconst (v := zI 0) hx hb dX9_copy_109 rfl ?_
                    refine lv_istore (lv' := [(6, .int (zI 0)), (0, .ref h0), (1, .int (zI k)), (2, .int (zI i)), (3, .int (zI o9)), (4, .int (zI j)), (5, .int (zI z))]) hx hb dX9_copy_110 hl (by decide) rfl (fun ls hl => ?_)
                    refine lv_iload hx hb dX9_copy_112 (lv_at hl 0 rfl) ?_
                    refine kz_if_eq (tgt := 144) hx hb dX9_copy_114 (by decide) (by omega) (fun c9 => ?_) (fun c9 => by omega)
                    refine lv_aload_n hx hb dX9_copy_144 rfl (lv_at hl 1 rfl) ?_
                    refine lv_iconst (v := zI 3) hx hb dX9_copy_145 rfl ?_
                    have hFc := va_free (wc := [(h0, .inr (9, [.int (zI 0), .int (zI tc), .ref so, .ref sl, .ref ce, .int (zI fn), .ref kd, .ref wd, .ref hs, .ref pf, .ref lt, .int (zI mn), .ref wg, .int (zI ta), .long ck, .int (zI at9), .int (zI rfn), .ref rk, .ref rw, .ref rh, .int (zI cl), .ref sa, .ref fi, .int (zI bo), .ref ch, .ref cn, .int (zI ad), .int (zI ru), .ref kp, .int (zI dn), .ref rfa]))]) hD hS hA [0] ax_X9_copy_2
                    refine va_calli (va_runV (As := [.int (zI 3)]) (rest := []) ⟨hx, hb, hml, hown, hts⟩ (c_X9_fails_w l D H.size (f := 3) (h0 := h0) (fa := 0) (tc := tc) (so := so) (sl := sl) (ce := ce) (fn := fn) (kd := kd) (wd := wd) (hs := hs) (pf := pf) (lt := lt) (mn := mn) (wg := wg) (ta := ta) (ck := ck) (at9 := at9) (rfn := rfn) (rk := rk) (rw := rw) (rh := rh) (cl := cl) (sa := sa) (fi := fi) (bo := bo) (ch := ch) (cn := cn) (ad := ad) (ru := ru) (kp := kp) (dn := dn) (rfa := rfa) (by omega) (by omega)) (cwV 1 hts gX9_copy_X9_fails rfl rfl rfl (by decide +kernel) ⟨Nat.le_of_ble_eq_true rfl, Nat.le_of_ble_eq_true rfl⟩) (kPreV hP (kD0 hD) hK hN [0] [] ax_X9_copy_2 rfl (by decide +kernel) 0 9 rfl rfl) rfl rfl hl.1 rfl (lv_room (Nat.le_of_ble_eq_true rfl)) dX9_copy_146 ⟨Nat.le_of_ble_eq_true rfl, Nat.le_of_ble_eq_true rfl⟩) hS (fun q _ h => hFc q h) hFc (fun r u t H1 locs ht hvm hw hB hz1 hk1 hS => ?_)
                    obtain ⟨z_36, e9⟩ : ∃ z, z = u := ⟨_, rfl⟩
                    subst e9
                    obtain ⟨rfl, rz_36⟩ := hw
                    refine Exists.elim hB (fun u_fa_35 hB1 => ?_)
                    have h_37 := hB1.1
                    have h_38 := hB1.2.1
                    have h_39 := hB1.2.2.1
                    have hP1 := hB1.2.2.2.1
                    have hD1 := hB1.2.2.2.2
                    clear hB hB1
                    rw [ht] at hP1
                    obtain ⟨hP, hD⟩ := va_join (wr := [(so, .inl (c_so, 4, .inl f_so)), (sl, .inl (c_sl, 4, .inl f_sl)), (ce, .inl (c_ce, 240, .inl f_ce))]) (w1 := [(h0, .inr (9, [.int (zI u_fa_35), .int (zI tc), .ref so, .ref sl, .ref ce, .int (zI fn), .ref kd, .ref wd, .ref hs, .ref pf, .ref lt, .int (zI mn), .ref wg, .int (zI ta), .long ck, .int (zI at9), .int (zI rfn), .ref rk, .ref rw, .ref rh, .int (zI cl), .ref sa, .ref fi, .int (zI bo), .ref ch, .ref cn, .int (zI ad), .int (zI ru), .ref kp, .int (zI dn), .ref rfa]))]) hP hD [0] [1, 2, 3] ax_X9_copy_2 ax_X9_copy_3 (by decide +kernel) (by decide +kernel) hk1 hFc hP1 hD1
                    have hP := ax_X9_copy_4 hP
                    have hD := ax_X9_copy_5 hD
                    generalize H1 = H at hP hS ⊢
                    have hP : va_P D vwCl [(so, .inl (c_so, 4, .inl f_so)), (sl, .inl (c_sl, 4, .inl f_sl)), (ce, .inl (c_ce, 240, .inl f_ce)), (h0, .inr (9, [.int (zI u_fa_35), .int (zI tc), .ref so, .ref sl, .ref ce, .int (zI fn), .ref kd, .ref wd, .ref hs, .ref pf, .ref lt, .int (zI mn), .ref wg, .int (zI ta), .long ck, .int (zI at9), .int (zI rfn), .ref rk, .ref rw, .ref rh, .int (zI cl), .ref sa, .ref fi, .int (zI bo), .ref ch, .ref cn, .int (zI ad), .int (zI ru), .ref kp, .int (zI dn), .ref rfa]))] H := hP
                    have hD : va_D A [(so, .inl (c_so, 4, .inl f_so)), (sl, .inl (c_sl, 4, .inl f_sl)), (ce, .inl (c_ce, 240, .inl f_ce)), (h0, .inr (9, [.int (zI u_fa_35), .int (zI tc), .ref so, .ref sl, .ref ce, .int (zI fn), .ref kd, .ref wd, .ref hs, .ref pf, .ref lt, .int (zI mn), .ref wg, .int (zI ta), .long ck, .int (zI at9), .int (zI rfn), .ref rk, .ref rw, .ref rh, .int (zI cl), .ref sa, .ref fi, .int (zI bo), .ref ch, .ref cn, .int (zI ad), .int (zI ru), .ref kp, .int (zI dn), .ref rfa]))] := hD
                    have hP9 := hP.sub (ws' := [(h0, .inr (9, [.int (zI u_fa_35), .int (zI tc), .ref so, .ref sl, .ref ce, .int (zI fn), .ref kd, .ref wd, .ref hs, .ref pf, .ref lt, .int (zI mn), .ref wg, .int (zI ta), .long ck, .int (zI at9), .int (zI rfn), .ref rk, .ref rw, .ref rh, .int (zI cl), .ref sa, .ref fi, .int (zI bo), .ref ch, .ref cn, .int (zI ad), .int (zI ru), .ref kp, .int (zI dn), .ref rfa])), (so, .inl (c_so, 4, .inl f_so)), (sl, .inl (c_sl, 4, .inl f_sl)), (ce, .inl (c_ce, 240, .inl f_ce))]) [3, 0, 1, 2] rfl
                    have hD9 := hD.sub (ws' := [(h0, .inr (9, [.int (zI u_fa_35), .int (zI tc), .ref so, .ref sl, .ref ce, .int (zI fn), .ref kd, .ref wd, .ref hs, .ref pf, .ref lt, .int (zI mn), .ref wg, .int (zI ta), .long ck, .int (zI at9), .int (zI rfn), .ref rk, .ref rw, .ref rh, .int (zI cl), .ref sa, .ref fi, .int (zI bo), .ref ch, .ref cn, .int (zI ad), .int (zI ru), .ref kp, .int (zI dn), .ref rfa])), (so, .inl (c_so, 4, .inl f_so)), (sl, .inl (c_sl, 4, .inl f_sl)), (ce, .inl (c_ce, 240, .inl f_ce))]) [3, 0, 1, 2] (by decide +kernel) rfl
                    exact W.iret (v := (zI z_36)) hx hb hr (fun t ht hW => kQS_of (by omega) ⟨u_fa_35, f_ce, h_37, (kCoM_4 (by omega) rz_3 rz_10 ez_3 ez_10 (by omega) (by omega) (by omega) (fun _ _ r_a9 r_b9 e_a9 e_b9 => by have q0 := (zI_eq rz_33 r_a9).mp (ez_33.symm.trans e_a9); omega) (by omega)), (by omega), by rw [ht]; exact hP9, hD9⟩ (hS.F ht)) hS.2.2 dX9_copy_149
                  · refine lv_iload hx hb dX9_copy_94 (lv_at hl 4 rfl) ?_
                    refine lv_aload_n hx hb dX9_copy_96 rfl (lv_at hl 0 rfl) ?_
                    refine va_get (D := D) (ci := 9) (v := .ref sl) (C := RX9) (T := TX9) (N := 31) hx hb hts (fun _ h9 => List.mem_cons_of_mem _ (List.mem_append_right _ h9)) hown hK hP 0 rfl rfl 3 (by decide) (hts (.fieldLink RX9 13 "FontRunsModel" "sheetLong" "[I") mw_X9_copy_2) (fun _ h9 => h9) rfl dX9_copy_97 ?_
                    refine lv_iload_n hx hb dX9_copy_100 rfl (lv_at hl 3 rfl) ?_
                    refine kz_iald hx hb hK hP 2 1 rfl rfl (by omega) dX9_copy_101 (fun z_40 rz_40 ez_40 => ?_)
                    have bz_40 := kSL_at q6 (by omega) rz_40 ez_40
                    refine kz_icmp_gt (tgt := 109) hx hb dX9_copy_102 (by decide) (by omega) (by omega) (fun c_41 => ?_) (fun c_41 => ?_)
                    · refine lv_iconst (v := zI 0) hx hb dX9_copy_109 rfl ?_
                      refine lv_istore (lv' := [(6, .int (zI 0)), (0, .ref h0), (1, .int (zI k)), (2, .int (zI i)), (3, .int (zI o9)), (4, .int (zI j)), (5, .int (zI z))]) hx hb dX9_copy_110 hl (by decide) rfl (fun ls hl => ?_)
                      refine lv_iload hx hb dX9_copy_112 (lv_at hl 0 rfl) ?_
                      refine kz_if_eq (tgt := 144) hx hb dX9_copy_114 (by decide) (by omega) (fun c9 => ?_) (fun c9 => by omega)
                      refine lv_aload_n hx hb dX9_copy_144 rfl (lv_at hl 1 rfl) ?_
                      refine lv_iconst (v := zI 3) hx hb dX9_copy_145 rfl ?_
                      have hFc := va_free (wc := [(h0, .inr (9, [.int (zI 0), .int (zI tc), .ref so, .ref sl, .ref ce, .int (zI fn), .ref kd, .ref wd, .ref hs, .ref pf, .ref lt, .int (zI mn), .ref wg, .int (zI ta), .long ck, .int (zI at9), .int (zI rfn), .ref rk, .ref rw, .ref rh, .int (zI cl), .ref sa, .ref fi, .int (zI bo), .ref ch, .ref cn, .int (zI ad), .int (zI ru), .ref kp, .int (zI dn), .ref rfa]))]) hD hS hA [0] ax_X9_copy_2
                      refine va_calli (va_runV (As := [.int (zI 3)]) (rest := []) ⟨hx, hb, hml, hown, hts⟩ (c_X9_fails_w l D H.size (f := 3) (h0 := h0) (fa := 0) (tc := tc) (so := so) (sl := sl) (ce := ce) (fn := fn) (kd := kd) (wd := wd) (hs := hs) (pf := pf) (lt := lt) (mn := mn) (wg := wg) (ta := ta) (ck := ck) (at9 := at9) (rfn := rfn) (rk := rk) (rw := rw) (rh := rh) (cl := cl) (sa := sa) (fi := fi) (bo := bo) (ch := ch) (cn := cn) (ad := ad) (ru := ru) (kp := kp) (dn := dn) (rfa := rfa) (by omega) (by omega)) (cwV 1 hts gX9_copy_X9_fails rfl rfl rfl (by decide +kernel) ⟨Nat.le_of_ble_eq_true rfl, Nat.le_of_ble_eq_true rfl⟩) (kPreV hP (kD0 hD) hK hN [0] [] ax_X9_copy_2 rfl (by decide +kernel) 0 9 rfl rfl) rfl rfl hl.1 rfl (lv_room (Nat.le_of_ble_eq_true rfl)) dX9_copy_146 ⟨Nat.le_of_ble_eq_true rfl, Nat.le_of_ble_eq_true rfl⟩) hS (fun q _ h => hFc q h) hFc (fun r u t H1 locs ht hvm hw hB hz1 hk1 hS => ?_)
                      obtain ⟨z_43, e9⟩ : ∃ z, z = u := ⟨_, rfl⟩
                      subst e9
                      obtain ⟨rfl, rz_43⟩ := hw
                      refine Exists.elim hB (fun u_fa_42 hB1 => ?_)
                      have h_44 := hB1.1
                      have h_45 := hB1.2.1
                      have h_46 := hB1.2.2.1
                      have hP1 := hB1.2.2.2.1
                      have hD1 := hB1.2.2.2.2
                      clear hB hB1
                      rw [ht] at hP1
                      obtain ⟨hP, hD⟩ := va_join (wr := [(so, .inl (c_so, 4, .inl f_so)), (sl, .inl (c_sl, 4, .inl f_sl)), (ce, .inl (c_ce, 240, .inl f_ce))]) (w1 := [(h0, .inr (9, [.int (zI u_fa_42), .int (zI tc), .ref so, .ref sl, .ref ce, .int (zI fn), .ref kd, .ref wd, .ref hs, .ref pf, .ref lt, .int (zI mn), .ref wg, .int (zI ta), .long ck, .int (zI at9), .int (zI rfn), .ref rk, .ref rw, .ref rh, .int (zI cl), .ref sa, .ref fi, .int (zI bo), .ref ch, .ref cn, .int (zI ad), .int (zI ru), .ref kp, .int (zI dn), .ref rfa]))]) hP hD [0] [1, 2, 3] ax_X9_copy_2 ax_X9_copy_3 (by decide +kernel) (by decide +kernel) hk1 hFc hP1 hD1
                      have hP := ax_X9_copy_4 hP
                      have hD := ax_X9_copy_5 hD
                      generalize H1 = H at hP hS ⊢
                      have hP : va_P D vwCl [(so, .inl (c_so, 4, .inl f_so)), (sl, .inl (c_sl, 4, .inl f_sl)), (ce, .inl (c_ce, 240, .inl f_ce)), (h0, .inr (9, [.int (zI u_fa_42), .int (zI tc), .ref so, .ref sl, .ref ce, .int (zI fn), .ref kd, .ref wd, .ref hs, .ref pf, .ref lt, .int (zI mn), .ref wg, .int (zI ta), .long ck, .int (zI at9), .int (zI rfn), .ref rk, .ref rw, .ref rh, .int (zI cl), .ref sa, .ref fi, .int (zI bo), .ref ch, .ref cn, .int (zI ad), .int (zI ru), .ref kp, .int (zI dn), .ref rfa]))] H := hP
                      have hD : va_D A [(so, .inl (c_so, 4, .inl f_so)), (sl, .inl (c_sl, 4, .inl f_sl)), (ce, .inl (c_ce, 240, .inl f_ce)), (h0, .inr (9, [.int (zI u_fa_42), .int (zI tc), .ref so, .ref sl, .ref ce, .int (zI fn), .ref kd, .ref wd, .ref hs, .ref pf, .ref lt, .int (zI mn), .ref wg, .int (zI ta), .long ck, .int (zI at9), .int (zI rfn), .ref rk, .ref rw, .ref rh, .int (zI cl), .ref sa, .ref fi, .int (zI bo), .ref ch, .ref cn, .int (zI ad), .int (zI ru), .ref kp, .int (zI dn), .ref rfa]))] := hD
                      have hP9 := hP.sub (ws' := [(h0, .inr (9, [.int (zI u_fa_42), .int (zI tc), .ref so, .ref sl, .ref ce, .int (zI fn), .ref kd, .ref wd, .ref hs, .ref pf, .ref lt, .int (zI mn), .ref wg, .int (zI ta), .long ck, .int (zI at9), .int (zI rfn), .ref rk, .ref rw, .ref rh, .int (zI cl), .ref sa, .ref fi, .int (zI bo), .ref ch, .ref cn, .int (zI ad), .int (zI ru), .ref kp, .int (zI dn), .ref rfa])), (so, .inl (c_so, 4, .inl f_so)), (sl, .inl (c_sl, 4, .inl f_sl)), (ce, .inl (c_ce, 240, .inl f_ce))]) [3, 0, 1, 2] rfl
                      have hD9 := hD.sub (ws' := [(h0, .inr (9, [.int (zI u_fa_42), .int (zI tc), .ref so, .ref sl, .ref ce, .int (zI fn), .ref kd, .ref wd, .ref hs, .ref pf, .ref lt, .int (zI mn), .ref wg, .int (zI ta), .long ck, .int (zI at9), .int (zI rfn), .ref rk, .ref rw, .ref rh, .int (zI cl), .ref sa, .ref fi, .int (zI bo), .ref ch, .ref cn, .int (zI ad), .int (zI ru), .ref kp, .int (zI dn), .ref rfa])), (so, .inl (c_so, 4, .inl f_so)), (sl, .inl (c_sl, 4, .inl f_sl)), (ce, .inl (c_ce, 240, .inl f_ce))]) [3, 0, 1, 2] (by decide +kernel) rfl
                      exact W.iret (v := (zI z_43)) hx hb hr (fun t ht hW => kQS_of (by omega) ⟨u_fa_42, f_ce, h_44, (kCoM_4 (by omega) rz_3 rz_10 ez_3 ez_10 (by omega) (by omega) (by omega) (fun _ _ r_a9 r_b9 e_a9 e_b9 => by have q0 := (zI_eq rz_33 r_a9).mp (ez_33.symm.trans e_a9); have q1 := (zI_eq rz_40 r_b9).mp (ez_40.symm.trans e_b9); omega) (by omega)), (by omega), by rw [ht]; exact hP9, hD9⟩ (hS.F ht)) hS.2.2 dX9_copy_149
                    · refine lv_iconst (v := zI 1) hx hb dX9_copy_105 rfl ?_
                      refine lv_goto (tgt := 110) hx hb dX9_copy_106 (by decide) ?_
                      refine lv_istore (lv' := [(6, .int (zI 1)), (0, .ref h0), (1, .int (zI k)), (2, .int (zI i)), (3, .int (zI o9)), (4, .int (zI j)), (5, .int (zI z))]) hx hb dX9_copy_110 hl (by decide) rfl (fun ls hl => ?_)
                      refine lv_iload hx hb dX9_copy_112 (lv_at hl 0 rfl) ?_
                      refine kz_if_eq (tgt := 144) hx hb dX9_copy_114 (by decide) (by omega) (fun c9 => by omega) (fun c9 => ?_)
                      refine lv_iload hx hb dX9_copy_117 (lv_at hl 6 rfl) ?_
                      refine lv_aload_n hx hb dX9_copy_119 rfl (lv_at hl 1 rfl) ?_
                      refine va_get (D := D) (ci := 9) (v := .ref sl) (C := RX9) (T := TX9) (N := 31) hx hb hts (fun _ h9 => List.mem_cons_of_mem _ (List.mem_append_right _ h9)) hown hK hP 0 rfl rfl 3 (by decide) (hts (.fieldLink RX9 13 "FontRunsModel" "sheetLong" "[I") mw_X9_copy_2) (fun _ h9 => h9) rfl dX9_copy_120 ?_
                      refine lv_iload_n hx hb dX9_copy_123 rfl (lv_at hl 2 rfl) ?_
                      refine kz_iald hx hb hK hP 2 1 rfl rfl (by omega) dX9_copy_124 (fun z_47 rz_47 ez_47 => ?_)
                      have q9 : z_33 = z_47 := (zI_eq rz_33 rz_47).mp (ez_33.symm.trans ez_47)
                      subst q9
                      refine lv_iload_n hx hb dX9_copy_125 rfl (lv_at hl 3 rfl) ?_
                      refine kz_isub hx hb dX9_copy_126 ?_
                      refine kz_icmp_gt (tgt := 144) hx hb dX9_copy_127 (by decide) (by omega) (by omega) (fun c_48 => ?_) (fun c_48 => ?_)
                      · refine lv_aload_n hx hb dX9_copy_144 rfl (lv_at hl 1 rfl) ?_
                        refine lv_iconst (v := zI 3) hx hb dX9_copy_145 rfl ?_
                        have hFc := va_free (wc := [(h0, .inr (9, [.int (zI 0), .int (zI tc), .ref so, .ref sl, .ref ce, .int (zI fn), .ref kd, .ref wd, .ref hs, .ref pf, .ref lt, .int (zI mn), .ref wg, .int (zI ta), .long ck, .int (zI at9), .int (zI rfn), .ref rk, .ref rw, .ref rh, .int (zI cl), .ref sa, .ref fi, .int (zI bo), .ref ch, .ref cn, .int (zI ad), .int (zI ru), .ref kp, .int (zI dn), .ref rfa]))]) hD hS hA [0] ax_X9_copy_2
                        refine va_calli (va_runV (As := [.int (zI 3)]) (rest := []) ⟨hx, hb, hml, hown, hts⟩ (c_X9_fails_w l D H.size (f := 3) (h0 := h0) (fa := 0) (tc := tc) (so := so) (sl := sl) (ce := ce) (fn := fn) (kd := kd) (wd := wd) (hs := hs) (pf := pf) (lt := lt) (mn := mn) (wg := wg) (ta := ta) (ck := ck) (at9 := at9) (rfn := rfn) (rk := rk) (rw := rw) (rh := rh) (cl := cl) (sa := sa) (fi := fi) (bo := bo) (ch := ch) (cn := cn) (ad := ad) (ru := ru) (kp := kp) (dn := dn) (rfa := rfa) (by omega) (by omega)) (cwV 1 hts gX9_copy_X9_fails rfl rfl rfl (by decide +kernel) ⟨Nat.le_of_ble_eq_true rfl, Nat.le_of_ble_eq_true rfl⟩) (kPreV hP (kD0 hD) hK hN [0] [] ax_X9_copy_2 rfl (by decide +kernel) 0 9 rfl rfl) rfl rfl hl.1 rfl (lv_room (Nat.le_of_ble_eq_true rfl)) dX9_copy_146 ⟨Nat.le_of_ble_eq_true rfl, Nat.le_of_ble_eq_true rfl⟩) hS (fun q _ h => hFc q h) hFc (fun r u t H1 locs ht hvm hw hB hz1 hk1 hS => ?_)
                        obtain ⟨z_50, e9⟩ : ∃ z, z = u := ⟨_, rfl⟩
                        subst e9
                        obtain ⟨rfl, rz_50⟩ := hw
                        refine Exists.elim hB (fun u_fa_49 hB1 => ?_)
                        have h_51 := hB1.1
                        have h_52 := hB1.2.1
                        have h_53 := hB1.2.2.1
                        have hP1 := hB1.2.2.2.1
                        have hD1 := hB1.2.2.2.2
                        clear hB hB1
                        rw [ht] at hP1
                        obtain ⟨hP, hD⟩ := va_join (wr := [(so, .inl (c_so, 4, .inl f_so)), (sl, .inl (c_sl, 4, .inl f_sl)), (ce, .inl (c_ce, 240, .inl f_ce))]) (w1 := [(h0, .inr (9, [.int (zI u_fa_49), .int (zI tc), .ref so, .ref sl, .ref ce, .int (zI fn), .ref kd, .ref wd, .ref hs, .ref pf, .ref lt, .int (zI mn), .ref wg, .int (zI ta), .long ck, .int (zI at9), .int (zI rfn), .ref rk, .ref rw, .ref rh, .int (zI cl), .ref sa, .ref fi, .int (zI bo), .ref ch, .ref cn, .int (zI ad), .int (zI ru), .ref kp, .int (zI dn), .ref rfa]))]) hP hD [0] [1, 2, 3] ax_X9_copy_2 ax_X9_copy_3 (by decide +kernel) (by decide +kernel) hk1 hFc hP1 hD1
                        have hP := ax_X9_copy_4 hP
                        have hD := ax_X9_copy_5 hD
                        generalize H1 = H at hP hS ⊢
                        have hP : va_P D vwCl [(so, .inl (c_so, 4, .inl f_so)), (sl, .inl (c_sl, 4, .inl f_sl)), (ce, .inl (c_ce, 240, .inl f_ce)), (h0, .inr (9, [.int (zI u_fa_49), .int (zI tc), .ref so, .ref sl, .ref ce, .int (zI fn), .ref kd, .ref wd, .ref hs, .ref pf, .ref lt, .int (zI mn), .ref wg, .int (zI ta), .long ck, .int (zI at9), .int (zI rfn), .ref rk, .ref rw, .ref rh, .int (zI cl), .ref sa, .ref fi, .int (zI bo), .ref ch, .ref cn, .int (zI ad), .int (zI ru), .ref kp, .int (zI dn), .ref rfa]))] H := hP
                        have hD : va_D A [(so, .inl (c_so, 4, .inl f_so)), (sl, .inl (c_sl, 4, .inl f_sl)), (ce, .inl (c_ce, 240, .inl f_ce)), (h0, .inr (9, [.int (zI u_fa_49), .int (zI tc), .ref so, .ref sl, .ref ce, .int (zI fn), .ref kd, .ref wd, .ref hs, .ref pf, .ref lt, .int (zI mn), .ref wg, .int (zI ta), .long ck, .int (zI at9), .int (zI rfn), .ref rk, .ref rw, .ref rh, .int (zI cl), .ref sa, .ref fi, .int (zI bo), .ref ch, .ref cn, .int (zI ad), .int (zI ru), .ref kp, .int (zI dn), .ref rfa]))] := hD
                        have hP9 := hP.sub (ws' := [(h0, .inr (9, [.int (zI u_fa_49), .int (zI tc), .ref so, .ref sl, .ref ce, .int (zI fn), .ref kd, .ref wd, .ref hs, .ref pf, .ref lt, .int (zI mn), .ref wg, .int (zI ta), .long ck, .int (zI at9), .int (zI rfn), .ref rk, .ref rw, .ref rh, .int (zI cl), .ref sa, .ref fi, .int (zI bo), .ref ch, .ref cn, .int (zI ad), .int (zI ru), .ref kp, .int (zI dn), .ref rfa])), (so, .inl (c_so, 4, .inl f_so)), (sl, .inl (c_sl, 4, .inl f_sl)), (ce, .inl (c_ce, 240, .inl f_ce))]) [3, 0, 1, 2] rfl
                        have hD9 := hD.sub (ws' := [(h0, .inr (9, [.int (zI u_fa_49), .int (zI tc), .ref so, .ref sl, .ref ce, .int (zI fn), .ref kd, .ref wd, .ref hs, .ref pf, .ref lt, .int (zI mn), .ref wg, .int (zI ta), .long ck, .int (zI at9), .int (zI rfn), .ref rk, .ref rw, .ref rh, .int (zI cl), .ref sa, .ref fi, .int (zI bo), .ref ch, .ref cn, .int (zI ad), .int (zI ru), .ref kp, .int (zI dn), .ref rfa])), (so, .inl (c_so, 4, .inl f_so)), (sl, .inl (c_sl, 4, .inl f_sl)), (ce, .inl (c_ce, 240, .inl f_ce))]) [3, 0, 1, 2] (by decide +kernel) rfl
                        exact W.iret (v := (zI z_50)) hx hb hr (fun t ht hW => kQS_of (by omega) ⟨u_fa_49, f_ce, h_51, (kCoM_4 (by omega) rz_3 rz_10 ez_3 ez_10 (by omega) (by omega) (by omega) (fun _ _ r_a9 r_b9 e_a9 e_b9 => by have q0 := (zI_eq rz_33 r_a9).mp (ez_33.symm.trans e_a9); have q1 := (zI_eq rz_40 r_b9).mp (ez_40.symm.trans e_b9); omega) (by omega)), (by omega), by rw [ht]; exact hP9, hD9⟩ (hS.F ht)) hS.2.2 dX9_copy_149
                      · refine lv_iload hx hb dX9_copy_130 (lv_at hl 6 rfl) ?_
                        refine lv_aload_n hx hb dX9_copy_132 rfl (lv_at hl 1 rfl) ?_
                        refine va_get (D := D) (ci := 9) (v := .ref sl) (C := RX9) (T := TX9) (N := 31) hx hb hts (fun _ h9 => List.mem_cons_of_mem _ (List.mem_append_right _ h9)) hown hK hP 0 rfl rfl 3 (by decide) (hts (.fieldLink RX9 13 "FontRunsModel" "sheetLong" "[I") mw_X9_copy_2) (fun _ h9 => h9) rfl dX9_copy_133 ?_
                        refine lv_iload_n hx hb dX9_copy_136 rfl (lv_at hl 4 rfl) ?_
                        refine kz_iald hx hb hK hP 2 1 rfl rfl (by omega) dX9_copy_137 (fun z_54 rz_54 ez_54 => ?_)
                        have q9 : z_40 = z_54 := (zI_eq rz_40 rz_54).mp (ez_40.symm.trans ez_54)
                        subst q9
                        refine lv_iload hx hb dX9_copy_138 (lv_at hl 5 rfl) ?_
                        refine kz_isub hx hb dX9_copy_140 ?_
                        refine kz_icmp_le (tgt := 150) hx hb dX9_copy_141 (by decide) (by omega) (by omega) (fun c_55 => ?_) (fun c_55 => ?_)
                        · refine lv_iload_n hx hb dX9_copy_150 rfl (lv_at hl 3 rfl) ?_
                          refine lv_iload hx hb dX9_copy_151 (lv_at hl 5 rfl) ?_
                          refine kz_icmp_ge (tgt := 160) hx hb dX9_copy_153 (by decide) (by omega) (by omega) (fun c_56 => ?_) (fun c_56 => ?_)
                          · refine lv_iconst (v := zI 0) hx hb dX9_copy_160 rfl ?_
                            refine lv_istore (lv' := [(7, .int (zI 0)), (6, .int (zI 1)), (0, .ref h0), (1, .int (zI k)), (2, .int (zI i)), (3, .int (zI o9)), (4, .int (zI j)), (5, .int (zI z))]) hx hb dX9_copy_161 hl (by decide) rfl (fun ls hl => ?_)
                            refine lv_iconst (v := zI 0) hx hb dX9_copy_163 rfl ?_
                            refine lv_istore (lv' := [(8, .int (zI 0)), (7, .int (zI 0)), (6, .int (zI 1)), (0, .ref h0), (1, .int (zI k)), (2, .int (zI i)), (3, .int (zI o9)), (4, .int (zI j)), (5, .int (zI z))]) hx hb dX9_copy_164 hl (by decide) rfl (fun ls hl => ?_)
                            refine k_loopM (I := fun n9 H locs ls => ∃ (jq : Int) (ja : Nat → Int32), n9 = (z - jq).toNat ∧ (0 ≤ jq ∧ jq ≤ z) ∧ (kCpL ja f_ce ((60 * k) + i) ((60 * o9) + j) z jq 0) ∧ va_P D vwCl [(h0, .inr (9, [.int (zI 0), .int (zI tc), .ref so, .ref sl, .ref ce, .int (zI fn), .ref kd, .ref wd, .ref hs, .ref pf, .ref lt, .int (zI mn), .ref wg, .int (zI ta), .long ck, .int (zI at9), .int (zI rfn), .ref rk, .ref rw, .ref rh, .int (zI cl), .ref sa, .ref fi, .int (zI bo), .ref ch, .ref cn, .int (zI ad), .int (zI ru), .ref kp, .int (zI dn), .ref rfa])), (so, .inl (c_so, 4, .inl f_so)), (sl, .inl (c_sl, 4, .inl f_sl)), (ce, .inl (c_ce, 240, .inl ja))] H ∧ va_D A [(h0, .inr (9, [.int (zI 0), .int (zI tc), .ref so, .ref sl, .ref ce, .int (zI fn), .ref kd, .ref wd, .ref hs, .ref pf, .ref lt, .int (zI mn), .ref wg, .int (zI ta), .long ck, .int (zI at9), .int (zI rfn), .ref rk, .ref rw, .ref rh, .int (zI cl), .ref sa, .ref fi, .int (zI bo), .ref ch, .ref cn, .int (zI ad), .int (zI ru), .ref kp, .int (zI dn), .ref rfa])), (so, .inl (c_so, 4, .inl f_so)), (sl, .inl (c_sl, 4, .inl f_sl)), (ce, .inl (c_ce, 240, .inl ja))] ∧ va_S A s.heap H locs ∧ lv_has ls 10 [(8, .int (zI jq)), (7, .int (zI 0)), (6, .int (zI 1)), (0, .ref h0), (1, .int (zI k)), (2, .int (zI i)), (3, .int (zI o9)), (4, .int (zI j)), (5, .int (zI z))]) ?_ _ ⟨0, f_ce, rfl, (by omega), kCpL_0, hP, hD, hS, hl⟩
                            intro n166 ih166 H locs ls hI
                            obtain ⟨jq, ja, en166, v_1660, v_1661, hP, hD, hS, hl⟩ := hI
                            refine lv_iload hx hb dX9_copy_166 (lv_at hl 0 rfl) ?_
                            refine lv_iload hx hb dX9_copy_168 (lv_at hl 8 rfl) ?_
                            refine kz_icmp_ge (tgt := 227) hx hb dX9_copy_170 (by decide) (by omega) (by omega) (fun c_57 => ?_) (fun c_57 => ?_)
                            · refine lv_iload hx hb dX9_copy_227 (lv_at hl 8 rfl) ?_
                              have hP9 := hP.sub (ws' := [(h0, .inr (9, [.int (zI 0), .int (zI tc), .ref so, .ref sl, .ref ce, .int (zI fn), .ref kd, .ref wd, .ref hs, .ref pf, .ref lt, .int (zI mn), .ref wg, .int (zI ta), .long ck, .int (zI at9), .int (zI rfn), .ref rk, .ref rw, .ref rh, .int (zI cl), .ref sa, .ref fi, .int (zI bo), .ref ch, .ref cn, .int (zI ad), .int (zI ru), .ref kp, .int (zI dn), .ref rfa])), (so, .inl (c_so, 4, .inl f_so)), (sl, .inl (c_sl, 4, .inl f_sl)), (ce, .inl (c_ce, 240, .inl ja))]) [0, 1, 2, 3] rfl
                              have hD9 := hD.sub (ws' := [(h0, .inr (9, [.int (zI 0), .int (zI tc), .ref so, .ref sl, .ref ce, .int (zI fn), .ref kd, .ref wd, .ref hs, .ref pf, .ref lt, .int (zI mn), .ref wg, .int (zI ta), .long ck, .int (zI at9), .int (zI rfn), .ref rk, .ref rw, .ref rh, .int (zI cl), .ref sa, .ref fi, .int (zI bo), .ref ch, .ref cn, .int (zI ad), .int (zI ru), .ref kp, .int (zI dn), .ref rfa])), (so, .inl (c_so, 4, .inl f_so)), (sl, .inl (c_sl, 4, .inl f_sl)), (ce, .inl (c_ce, 240, .inl ja))]) [0, 1, 2, 3] (by decide +kernel) rfl
                              exact W.iret (v := (zI z)) hx hb hr (fun t ht hW => kQS_of (by omega) ⟨0, ja, (by omega), (kCoM_5 (by omega) rz_3 rz_10 ez_3 ez_10 (by omega) (by omega) (by omega) rz_33 rz_40 ez_33 ez_40 (by omega) (by omega) v_1661 (by omega) (by omega)), (by omega), by rw [ht]; exact hP9, hD9⟩ (hS.F ht)) hS.2.2 dX9_copy_229
                            · refine lv_iload hx hb dX9_copy_173 (lv_at hl 1 rfl) ?_
                              refine kz_if_eq (tgt := 188) hx hb dX9_copy_175 (by decide) (by omega) (fun c9 => ?_) (fun c9 => by omega)
                              refine lv_iload hx hb dX9_copy_188 (lv_at hl 0 rfl) ?_
                              refine lv_istore (lv' := [(9, .int (zI jq)), (8, .int (zI jq)), (7, .int (zI 0)), (6, .int (zI 1)), (0, .ref h0), (1, .int (zI k)), (2, .int (zI i)), (3, .int (zI o9)), (4, .int (zI j)), (5, .int (zI z))]) hx hb dX9_copy_190 hl (by decide) rfl (fun ls hl => ?_)
                              refine lv_aload_n hx hb dX9_copy_192 rfl (lv_at hl 4 rfl) ?_
                              refine va_get (D := D) (ci := 9) (v := .ref ce) (C := RX9) (T := TX9) (N := 31) hx hb hts (fun _ h9 => List.mem_cons_of_mem _ (List.mem_append_right _ h9)) hown hK hP 0 rfl rfl 4 (by decide) (hts (.fieldLink RX9 16 "FontRunsModel" "cells" "[I") mw_X9_copy_3) (fun _ h9 => h9) rfl dX9_copy_193 ?_
                              refine lv_bipush (v := zI 60) hx hb dX9_copy_196 (by decide) ?_
                              refine lv_iload_n hx hb dX9_copy_198 rfl (lv_at hl 7 rfl) ?_
                              refine kz_imul hx hb dX9_copy_199 ?_
                              refine lv_iload hx hb dX9_copy_200 (lv_at hl 8 rfl) ?_
                              refine kz_iadd hx hb dX9_copy_202 ?_
                              refine lv_iload hx hb dX9_copy_203 (lv_at hl 0 rfl) ?_
                              refine kz_iadd hx hb dX9_copy_205 ?_
                              refine lv_aload_n hx hb dX9_copy_206 rfl (lv_at hl 4 rfl) ?_
                              refine va_get (D := D) (ci := 9) (v := .ref ce) (C := RX9) (T := TX9) (N := 31) hx hb hts (fun _ h9 => List.mem_cons_of_mem _ (List.mem_append_right _ h9)) hown hK hP 0 rfl rfl 4 (by decide) (hts (.fieldLink RX9 16 "FontRunsModel" "cells" "[I") mw_X9_copy_3) (fun _ h9 => h9) rfl dX9_copy_207 ?_
                              refine lv_bipush (v := zI 60) hx hb dX9_copy_210 (by decide) ?_
                              refine lv_iload_n hx hb dX9_copy_212 rfl (lv_at hl 5 rfl) ?_
                              refine kz_imul hx hb dX9_copy_213 ?_
                              refine lv_iload_n hx hb dX9_copy_214 rfl (lv_at hl 6 rfl) ?_
                              refine kz_iadd hx hb dX9_copy_215 ?_
                              refine lv_iload hx hb dX9_copy_216 (lv_at hl 0 rfl) ?_
                              refine kz_iadd hx hb dX9_copy_218 ?_
                              refine kz_iald hx hb hK hP 3 2 rfl rfl (by omega) dX9_copy_219 (fun z_58 rz_58 ez_58 => ?_)
                              refine kz_iast hx hb hK hP hD hS 3 2 rfl rfl (by omega) dX9_copy_220 (fun H locs hP hD hS => ?_)
                              have hP : va_P D vwCl [(h0, .inr (9, [.int (zI 0), .int (zI tc), .ref so, .ref sl, .ref ce, .int (zI fn), .ref kd, .ref wd, .ref hs, .ref pf, .ref lt, .int (zI mn), .ref wg, .int (zI ta), .long ck, .int (zI at9), .int (zI rfn), .ref rk, .ref rw, .ref rh, .int (zI cl), .ref sa, .ref fi, .int (zI bo), .ref ch, .ref cn, .int (zI ad), .int (zI ru), .ref kp, .int (zI dn), .ref rfa])), (so, .inl (c_so, 4, .inl f_so)), (sl, .inl (c_sl, 4, .inl f_sl)), (ce, .inl (c_ce, 240, .inl (upd ja (((60 * o9) + j) + jq).toNat (zI z_58))))] H := hP
                              have hD : va_D A [(h0, .inr (9, [.int (zI 0), .int (zI tc), .ref so, .ref sl, .ref ce, .int (zI fn), .ref kd, .ref wd, .ref hs, .ref pf, .ref lt, .int (zI mn), .ref wg, .int (zI ta), .long ck, .int (zI at9), .int (zI rfn), .ref rk, .ref rw, .ref rh, .int (zI cl), .ref sa, .ref fi, .int (zI bo), .ref ch, .ref cn, .int (zI ad), .int (zI ru), .ref kp, .int (zI dn), .ref rfa])), (so, .inl (c_so, 4, .inl f_so)), (sl, .inl (c_sl, 4, .inl f_sl)), (ce, .inl (c_ce, 240, .inl (upd ja (((60 * o9) + j) + jq).toNat (zI z_58))))] := hD
                              generalize ef_59 : upd ja (((60 * o9) + j) + jq).toNat (zI z_58) = f_59 at hP hD
                              refine lv_iinc (v := (zI (jq + 1))) (lv' := [(8, .int (zI (jq + 1))), (9, .int (zI jq)), (7, .int (zI 0)), (6, .int (zI 1)), (0, .ref h0), (1, .int (zI k)), (2, .int (zI i)), (3, .int (zI o9)), (4, .int (zI j)), (5, .int (zI z))]) hx hb dX9_copy_221 hl (k := 1) rfl (kz_inc _ 1) (by decide) rfl (fun ls hl => ?_)
                              refine lv_goto (tgt := 166) hx hb dX9_copy_224 (by decide) ?_
                              exact ih166 _ (by omega) _ _ _ ⟨(jq + 1), f_59, rfl, (by omega), (kCpL_s v_1661 (by omega) (by omega) (by omega) ez_58 ef_59), hP, hD, hS, lv_sub hl [0, 2, 3, 4, 5, 6, 7, 8, 9] rfl⟩
                          · refine lv_iconst (v := zI 1) hx hb dX9_copy_156 rfl ?_
                            refine lv_goto (tgt := 161) hx hb dX9_copy_157 (by decide) ?_
                            refine lv_istore (lv' := [(7, .int (zI 1)), (6, .int (zI 1)), (0, .ref h0), (1, .int (zI k)), (2, .int (zI i)), (3, .int (zI o9)), (4, .int (zI j)), (5, .int (zI z))]) hx hb dX9_copy_161 hl (by decide) rfl (fun ls hl => ?_)
                            refine lv_iconst (v := zI 0) hx hb dX9_copy_163 rfl ?_
                            refine lv_istore (lv' := [(8, .int (zI 0)), (7, .int (zI 1)), (6, .int (zI 1)), (0, .ref h0), (1, .int (zI k)), (2, .int (zI i)), (3, .int (zI o9)), (4, .int (zI j)), (5, .int (zI z))]) hx hb dX9_copy_164 hl (by decide) rfl (fun ls hl => ?_)
                            refine k_loopM (I := fun n9 H locs ls => ∃ (jq : Int) (ja : Nat → Int32), n9 = (z - jq).toNat ∧ (0 ≤ jq ∧ jq ≤ z) ∧ (kCpL ja f_ce ((60 * k) + i) ((60 * o9) + j) z jq 1) ∧ va_P D vwCl [(h0, .inr (9, [.int (zI 0), .int (zI tc), .ref so, .ref sl, .ref ce, .int (zI fn), .ref kd, .ref wd, .ref hs, .ref pf, .ref lt, .int (zI mn), .ref wg, .int (zI ta), .long ck, .int (zI at9), .int (zI rfn), .ref rk, .ref rw, .ref rh, .int (zI cl), .ref sa, .ref fi, .int (zI bo), .ref ch, .ref cn, .int (zI ad), .int (zI ru), .ref kp, .int (zI dn), .ref rfa])), (so, .inl (c_so, 4, .inl f_so)), (sl, .inl (c_sl, 4, .inl f_sl)), (ce, .inl (c_ce, 240, .inl ja))] H ∧ va_D A [(h0, .inr (9, [.int (zI 0), .int (zI tc), .ref so, .ref sl, .ref ce, .int (zI fn), .ref kd, .ref wd, .ref hs, .ref pf, .ref lt, .int (zI mn), .ref wg, .int (zI ta), .long ck, .int (zI at9), .int (zI rfn), .ref rk, .ref rw, .ref rh, .int (zI cl), .ref sa, .ref fi, .int (zI bo), .ref ch, .ref cn, .int (zI ad), .int (zI ru), .ref kp, .int (zI dn), .ref rfa])), (so, .inl (c_so, 4, .inl f_so)), (sl, .inl (c_sl, 4, .inl f_sl)), (ce, .inl (c_ce, 240, .inl ja))] ∧ va_S A s.heap H locs ∧ lv_has ls 10 [(8, .int (zI jq)), (7, .int (zI 1)), (6, .int (zI 1)), (0, .ref h0), (1, .int (zI k)), (2, .int (zI i)), (3, .int (zI o9)), (4, .int (zI j)), (5, .int (zI z))]) ?_ _ ⟨0, f_ce, rfl, (by omega), kCpL_0, hP, hD, hS, hl⟩
                            intro n166 ih166 H locs ls hI
                            obtain ⟨jq, ja, en166, v_1660, v_1661, hP, hD, hS, hl⟩ := hI
                            refine lv_iload hx hb dX9_copy_166 (lv_at hl 0 rfl) ?_
                            refine lv_iload hx hb dX9_copy_168 (lv_at hl 8 rfl) ?_
                            refine kz_icmp_ge (tgt := 227) hx hb dX9_copy_170 (by decide) (by omega) (by omega) (fun c_60 => ?_) (fun c_60 => ?_)
                            · refine lv_iload hx hb dX9_copy_227 (lv_at hl 8 rfl) ?_
                              have hP9 := hP.sub (ws' := [(h0, .inr (9, [.int (zI 0), .int (zI tc), .ref so, .ref sl, .ref ce, .int (zI fn), .ref kd, .ref wd, .ref hs, .ref pf, .ref lt, .int (zI mn), .ref wg, .int (zI ta), .long ck, .int (zI at9), .int (zI rfn), .ref rk, .ref rw, .ref rh, .int (zI cl), .ref sa, .ref fi, .int (zI bo), .ref ch, .ref cn, .int (zI ad), .int (zI ru), .ref kp, .int (zI dn), .ref rfa])), (so, .inl (c_so, 4, .inl f_so)), (sl, .inl (c_sl, 4, .inl f_sl)), (ce, .inl (c_ce, 240, .inl ja))]) [0, 1, 2, 3] rfl
                              have hD9 := hD.sub (ws' := [(h0, .inr (9, [.int (zI 0), .int (zI tc), .ref so, .ref sl, .ref ce, .int (zI fn), .ref kd, .ref wd, .ref hs, .ref pf, .ref lt, .int (zI mn), .ref wg, .int (zI ta), .long ck, .int (zI at9), .int (zI rfn), .ref rk, .ref rw, .ref rh, .int (zI cl), .ref sa, .ref fi, .int (zI bo), .ref ch, .ref cn, .int (zI ad), .int (zI ru), .ref kp, .int (zI dn), .ref rfa])), (so, .inl (c_so, 4, .inl f_so)), (sl, .inl (c_sl, 4, .inl f_sl)), (ce, .inl (c_ce, 240, .inl ja))]) [0, 1, 2, 3] (by decide +kernel) rfl
                              exact W.iret (v := (zI z)) hx hb hr (fun t ht hW => kQS_of (by omega) ⟨0, ja, (by omega), (kCoM_5 (by omega) rz_3 rz_10 ez_3 ez_10 (by omega) (by omega) (by omega) rz_33 rz_40 ez_33 ez_40 (by omega) (by omega) v_1661 (by omega) (by omega)), (by omega), by rw [ht]; exact hP9, hD9⟩ (hS.F ht)) hS.2.2 dX9_copy_229
                            · refine lv_iload hx hb dX9_copy_173 (lv_at hl 1 rfl) ?_
                              refine kz_if_eq (tgt := 188) hx hb dX9_copy_175 (by decide) (by omega) (fun c9 => by omega) (fun c9 => ?_)
                              refine lv_iload hx hb dX9_copy_178 (lv_at hl 8 rfl) ?_
                              refine lv_iconst (v := zI 1) hx hb dX9_copy_180 rfl ?_
                              refine kz_isub hx hb dX9_copy_181 ?_
                              refine lv_iload hx hb dX9_copy_182 (lv_at hl 0 rfl) ?_
                              refine kz_isub hx hb dX9_copy_184 ?_
                              refine lv_goto (tgt := 190) hx hb dX9_copy_185 (by decide) ?_
                              refine lv_istore (lv' := [(9, .int (zI ((z - 1) - jq))), (8, .int (zI jq)), (7, .int (zI 1)), (6, .int (zI 1)), (0, .ref h0), (1, .int (zI k)), (2, .int (zI i)), (3, .int (zI o9)), (4, .int (zI j)), (5, .int (zI z))]) hx hb dX9_copy_190 hl (by decide) rfl (fun ls hl => ?_)
                              refine lv_aload_n hx hb dX9_copy_192 rfl (lv_at hl 4 rfl) ?_
                              refine va_get (D := D) (ci := 9) (v := .ref ce) (C := RX9) (T := TX9) (N := 31) hx hb hts (fun _ h9 => List.mem_cons_of_mem _ (List.mem_append_right _ h9)) hown hK hP 0 rfl rfl 4 (by decide) (hts (.fieldLink RX9 16 "FontRunsModel" "cells" "[I") mw_X9_copy_3) (fun _ h9 => h9) rfl dX9_copy_193 ?_
                              refine lv_bipush (v := zI 60) hx hb dX9_copy_196 (by decide) ?_
                              refine lv_iload_n hx hb dX9_copy_198 rfl (lv_at hl 7 rfl) ?_
                              refine kz_imul hx hb dX9_copy_199 ?_
                              refine lv_iload hx hb dX9_copy_200 (lv_at hl 8 rfl) ?_
                              refine kz_iadd hx hb dX9_copy_202 ?_
                              refine lv_iload hx hb dX9_copy_203 (lv_at hl 0 rfl) ?_
                              refine kz_iadd hx hb dX9_copy_205 ?_
                              refine lv_aload_n hx hb dX9_copy_206 rfl (lv_at hl 4 rfl) ?_
                              refine va_get (D := D) (ci := 9) (v := .ref ce) (C := RX9) (T := TX9) (N := 31) hx hb hts (fun _ h9 => List.mem_cons_of_mem _ (List.mem_append_right _ h9)) hown hK hP 0 rfl rfl 4 (by decide) (hts (.fieldLink RX9 16 "FontRunsModel" "cells" "[I") mw_X9_copy_3) (fun _ h9 => h9) rfl dX9_copy_207 ?_
                              refine lv_bipush (v := zI 60) hx hb dX9_copy_210 (by decide) ?_
                              refine lv_iload_n hx hb dX9_copy_212 rfl (lv_at hl 5 rfl) ?_
                              refine kz_imul hx hb dX9_copy_213 ?_
                              refine lv_iload_n hx hb dX9_copy_214 rfl (lv_at hl 6 rfl) ?_
                              refine kz_iadd hx hb dX9_copy_215 ?_
                              refine lv_iload hx hb dX9_copy_216 (lv_at hl 0 rfl) ?_
                              refine kz_iadd hx hb dX9_copy_218 ?_
                              refine kz_iald hx hb hK hP 3 2 rfl rfl (by omega) dX9_copy_219 (fun z_61 rz_61 ez_61 => ?_)
                              refine kz_iast hx hb hK hP hD hS 3 2 rfl rfl (by omega) dX9_copy_220 (fun H locs hP hD hS => ?_)
                              have hP : va_P D vwCl [(h0, .inr (9, [.int (zI 0), .int (zI tc), .ref so, .ref sl, .ref ce, .int (zI fn), .ref kd, .ref wd, .ref hs, .ref pf, .ref lt, .int (zI mn), .ref wg, .int (zI ta), .long ck, .int (zI at9), .int (zI rfn), .ref rk, .ref rw, .ref rh, .int (zI cl), .ref sa, .ref fi, .int (zI bo), .ref ch, .ref cn, .int (zI ad), .int (zI ru), .ref kp, .int (zI dn), .ref rfa])), (so, .inl (c_so, 4, .inl f_so)), (sl, .inl (c_sl, 4, .inl f_sl)), (ce, .inl (c_ce, 240, .inl (upd ja (((60 * o9) + j) + ((z - 1) - jq)).toNat (zI z_61))))] H := hP
                              have hD : va_D A [(h0, .inr (9, [.int (zI 0), .int (zI tc), .ref so, .ref sl, .ref ce, .int (zI fn), .ref kd, .ref wd, .ref hs, .ref pf, .ref lt, .int (zI mn), .ref wg, .int (zI ta), .long ck, .int (zI at9), .int (zI rfn), .ref rk, .ref rw, .ref rh, .int (zI cl), .ref sa, .ref fi, .int (zI bo), .ref ch, .ref cn, .int (zI ad), .int (zI ru), .ref kp, .int (zI dn), .ref rfa])), (so, .inl (c_so, 4, .inl f_so)), (sl, .inl (c_sl, 4, .inl f_sl)), (ce, .inl (c_ce, 240, .inl (upd ja (((60 * o9) + j) + ((z - 1) - jq)).toNat (zI z_61))))] := hD
                              generalize ef_62 : upd ja (((60 * o9) + j) + ((z - 1) - jq)).toNat (zI z_61) = f_62 at hP hD
                              refine lv_iinc (v := (zI (jq + 1))) (lv' := [(8, .int (zI (jq + 1))), (9, .int (zI ((z - 1) - jq))), (7, .int (zI 1)), (6, .int (zI 1)), (0, .ref h0), (1, .int (zI k)), (2, .int (zI i)), (3, .int (zI o9)), (4, .int (zI j)), (5, .int (zI z))]) hx hb dX9_copy_221 hl (k := 1) rfl (kz_inc _ 1) (by decide) rfl (fun ls hl => ?_)
                              refine lv_goto (tgt := 166) hx hb dX9_copy_224 (by decide) ?_
                              exact ih166 _ (by omega) _ _ _ ⟨(jq + 1), f_62, rfl, (by omega), (kCpL_s v_1661 (by omega) (by omega) (by omega) ez_61 ef_62), hP, hD, hS, lv_sub hl [0, 2, 3, 4, 5, 6, 7, 8, 9] rfl⟩
                        · refine lv_aload_n hx hb dX9_copy_144 rfl (lv_at hl 1 rfl) ?_
                          refine lv_iconst (v := zI 3) hx hb dX9_copy_145 rfl ?_
                          have hFc := va_free (wc := [(h0, .inr (9, [.int (zI 0), .int (zI tc), .ref so, .ref sl, .ref ce, .int (zI fn), .ref kd, .ref wd, .ref hs, .ref pf, .ref lt, .int (zI mn), .ref wg, .int (zI ta), .long ck, .int (zI at9), .int (zI rfn), .ref rk, .ref rw, .ref rh, .int (zI cl), .ref sa, .ref fi, .int (zI bo), .ref ch, .ref cn, .int (zI ad), .int (zI ru), .ref kp, .int (zI dn), .ref rfa]))]) hD hS hA [0] ax_X9_copy_2
                          refine va_calli (va_runV (As := [.int (zI 3)]) (rest := []) ⟨hx, hb, hml, hown, hts⟩ (c_X9_fails_w l D H.size (f := 3) (h0 := h0) (fa := 0) (tc := tc) (so := so) (sl := sl) (ce := ce) (fn := fn) (kd := kd) (wd := wd) (hs := hs) (pf := pf) (lt := lt) (mn := mn) (wg := wg) (ta := ta) (ck := ck) (at9 := at9) (rfn := rfn) (rk := rk) (rw := rw) (rh := rh) (cl := cl) (sa := sa) (fi := fi) (bo := bo) (ch := ch) (cn := cn) (ad := ad) (ru := ru) (kp := kp) (dn := dn) (rfa := rfa) (by omega) (by omega)) (cwV 1 hts gX9_copy_X9_fails rfl rfl rfl (by decide +kernel) ⟨Nat.le_of_ble_eq_true rfl, Nat.le_of_ble_eq_true rfl⟩) (kPreV hP (kD0 hD) hK hN [0] [] ax_X9_copy_2 rfl (by decide +kernel) 0 9 rfl rfl) rfl rfl hl.1 rfl (lv_room (Nat.le_of_ble_eq_true rfl)) dX9_copy_146 ⟨Nat.le_of_ble_eq_true rfl, Nat.le_of_ble_eq_true rfl⟩) hS (fun q _ h => hFc q h) hFc (fun r u t H1 locs ht hvm hw hB hz1 hk1 hS => ?_)
                          obtain ⟨z_64, e9⟩ : ∃ z, z = u := ⟨_, rfl⟩
                          subst e9
                          obtain ⟨rfl, rz_64⟩ := hw
                          refine Exists.elim hB (fun u_fa_63 hB1 => ?_)
                          have h_65 := hB1.1
                          have h_66 := hB1.2.1
                          have h_67 := hB1.2.2.1
                          have hP1 := hB1.2.2.2.1
                          have hD1 := hB1.2.2.2.2
                          clear hB hB1
                          rw [ht] at hP1
                          obtain ⟨hP, hD⟩ := va_join (wr := [(so, .inl (c_so, 4, .inl f_so)), (sl, .inl (c_sl, 4, .inl f_sl)), (ce, .inl (c_ce, 240, .inl f_ce))]) (w1 := [(h0, .inr (9, [.int (zI u_fa_63), .int (zI tc), .ref so, .ref sl, .ref ce, .int (zI fn), .ref kd, .ref wd, .ref hs, .ref pf, .ref lt, .int (zI mn), .ref wg, .int (zI ta), .long ck, .int (zI at9), .int (zI rfn), .ref rk, .ref rw, .ref rh, .int (zI cl), .ref sa, .ref fi, .int (zI bo), .ref ch, .ref cn, .int (zI ad), .int (zI ru), .ref kp, .int (zI dn), .ref rfa]))]) hP hD [0] [1, 2, 3] ax_X9_copy_2 ax_X9_copy_3 (by decide +kernel) (by decide +kernel) hk1 hFc hP1 hD1
                          have hP := ax_X9_copy_4 hP
                          have hD := ax_X9_copy_5 hD
                          generalize H1 = H at hP hS ⊢
                          have hP : va_P D vwCl [(so, .inl (c_so, 4, .inl f_so)), (sl, .inl (c_sl, 4, .inl f_sl)), (ce, .inl (c_ce, 240, .inl f_ce)), (h0, .inr (9, [.int (zI u_fa_63), .int (zI tc), .ref so, .ref sl, .ref ce, .int (zI fn), .ref kd, .ref wd, .ref hs, .ref pf, .ref lt, .int (zI mn), .ref wg, .int (zI ta), .long ck, .int (zI at9), .int (zI rfn), .ref rk, .ref rw, .ref rh, .int (zI cl), .ref sa, .ref fi, .int (zI bo), .ref ch, .ref cn, .int (zI ad), .int (zI ru), .ref kp, .int (zI dn), .ref rfa]))] H := hP
                          have hD : va_D A [(so, .inl (c_so, 4, .inl f_so)), (sl, .inl (c_sl, 4, .inl f_sl)), (ce, .inl (c_ce, 240, .inl f_ce)), (h0, .inr (9, [.int (zI u_fa_63), .int (zI tc), .ref so, .ref sl, .ref ce, .int (zI fn), .ref kd, .ref wd, .ref hs, .ref pf, .ref lt, .int (zI mn), .ref wg, .int (zI ta), .long ck, .int (zI at9), .int (zI rfn), .ref rk, .ref rw, .ref rh, .int (zI cl), .ref sa, .ref fi, .int (zI bo), .ref ch, .ref cn, .int (zI ad), .int (zI ru), .ref kp, .int (zI dn), .ref rfa]))] := hD
                          have hP9 := hP.sub (ws' := [(h0, .inr (9, [.int (zI u_fa_63), .int (zI tc), .ref so, .ref sl, .ref ce, .int (zI fn), .ref kd, .ref wd, .ref hs, .ref pf, .ref lt, .int (zI mn), .ref wg, .int (zI ta), .long ck, .int (zI at9), .int (zI rfn), .ref rk, .ref rw, .ref rh, .int (zI cl), .ref sa, .ref fi, .int (zI bo), .ref ch, .ref cn, .int (zI ad), .int (zI ru), .ref kp, .int (zI dn), .ref rfa])), (so, .inl (c_so, 4, .inl f_so)), (sl, .inl (c_sl, 4, .inl f_sl)), (ce, .inl (c_ce, 240, .inl f_ce))]) [3, 0, 1, 2] rfl
                          have hD9 := hD.sub (ws' := [(h0, .inr (9, [.int (zI u_fa_63), .int (zI tc), .ref so, .ref sl, .ref ce, .int (zI fn), .ref kd, .ref wd, .ref hs, .ref pf, .ref lt, .int (zI mn), .ref wg, .int (zI ta), .long ck, .int (zI at9), .int (zI rfn), .ref rk, .ref rw, .ref rh, .int (zI cl), .ref sa, .ref fi, .int (zI bo), .ref ch, .ref cn, .int (zI ad), .int (zI ru), .ref kp, .int (zI dn), .ref rfa])), (so, .inl (c_so, 4, .inl f_so)), (sl, .inl (c_sl, 4, .inl f_sl)), (ce, .inl (c_ce, 240, .inl f_ce))]) [3, 0, 1, 2] (by decide +kernel) rfl
                          exact W.iret (v := (zI z_64)) hx hb hr (fun t ht hW => kQS_of (by omega) ⟨u_fa_63, f_ce, h_65, (kCoM_4 (by omega) rz_3 rz_10 ez_3 ez_10 (by omega) (by omega) (by omega) (fun _ _ r_a9 r_b9 e_a9 e_b9 => by have q0 := (zI_eq rz_33 r_a9).mp (ez_33.symm.trans e_a9); have q1 := (zI_eq rz_40 r_b9).mp (ez_40.symm.trans e_b9); omega) (by omega)), (by omega), by rw [ht]; exact hP9, hD9⟩ (hS.F ht)) hS.2.2 dX9_copy_149
          · refine lv_aload_n hx hb dX9_copy_64 rfl (lv_at hl 0 rfl) ?_
            refine lv_iconst (v := zI 2) hx hb dX9_copy_65 rfl ?_
            have hFc := va_free (wc := [(h0, .inr (9, [.int (zI 0), .int (zI tc), .ref so, .ref sl, .ref ce, .int (zI fn), .ref kd, .ref wd, .ref hs, .ref pf, .ref lt, .int (zI mn), .ref wg, .int (zI ta), .long ck, .int (zI at9), .int (zI rfn), .ref rk, .ref rw, .ref rh, .int (zI cl), .ref sa, .ref fi, .int (zI bo), .ref ch, .ref cn, .int (zI ad), .int (zI ru), .ref kp, .int (zI dn), .ref rfa]))]) hD hS hA [0] ax_X9_copy_2
            refine va_calli (va_runV (As := [.int (zI 2)]) (rest := []) ⟨hx, hb, hml, hown, hts⟩ (c_X9_fails_w l D H.size (f := 2) (h0 := h0) (fa := 0) (tc := tc) (so := so) (sl := sl) (ce := ce) (fn := fn) (kd := kd) (wd := wd) (hs := hs) (pf := pf) (lt := lt) (mn := mn) (wg := wg) (ta := ta) (ck := ck) (at9 := at9) (rfn := rfn) (rk := rk) (rw := rw) (rh := rh) (cl := cl) (sa := sa) (fi := fi) (bo := bo) (ch := ch) (cn := cn) (ad := ad) (ru := ru) (kp := kp) (dn := dn) (rfa := rfa) (by omega) (by omega)) (cwV 1 hts gX9_copy_X9_fails rfl rfl rfl (by decide +kernel) ⟨Nat.le_of_ble_eq_true rfl, Nat.le_of_ble_eq_true rfl⟩) (kPreV hP (kD0 hD) hK hN [0] [] ax_X9_copy_2 rfl (by decide +kernel) 0 9 rfl rfl) rfl rfl hl.1 rfl (lv_room (Nat.le_of_ble_eq_true rfl)) dX9_copy_66 ⟨Nat.le_of_ble_eq_true rfl, Nat.le_of_ble_eq_true rfl⟩) hS (fun q _ h => hFc q h) hFc (fun r u t H1 locs ht hvm hw hB hz1 hk1 hS => ?_)
            obtain ⟨z_69, e9⟩ : ∃ z, z = u := ⟨_, rfl⟩
            subst e9
            obtain ⟨rfl, rz_69⟩ := hw
            refine Exists.elim hB (fun u_fa_68 hB1 => ?_)
            have h_70 := hB1.1
            have h_71 := hB1.2.1
            have h_72 := hB1.2.2.1
            have hP1 := hB1.2.2.2.1
            have hD1 := hB1.2.2.2.2
            clear hB hB1
            rw [ht] at hP1
            obtain ⟨hP, hD⟩ := va_join (wr := [(so, .inl (c_so, 4, .inl f_so)), (sl, .inl (c_sl, 4, .inl f_sl)), (ce, .inl (c_ce, 240, .inl f_ce))]) (w1 := [(h0, .inr (9, [.int (zI u_fa_68), .int (zI tc), .ref so, .ref sl, .ref ce, .int (zI fn), .ref kd, .ref wd, .ref hs, .ref pf, .ref lt, .int (zI mn), .ref wg, .int (zI ta), .long ck, .int (zI at9), .int (zI rfn), .ref rk, .ref rw, .ref rh, .int (zI cl), .ref sa, .ref fi, .int (zI bo), .ref ch, .ref cn, .int (zI ad), .int (zI ru), .ref kp, .int (zI dn), .ref rfa]))]) hP hD [0] [1, 2, 3] ax_X9_copy_2 ax_X9_copy_3 (by decide +kernel) (by decide +kernel) hk1 hFc hP1 hD1
            have hP := ax_X9_copy_4 hP
            have hD := ax_X9_copy_5 hD
            generalize H1 = H at hP hS ⊢
            have hP : va_P D vwCl [(so, .inl (c_so, 4, .inl f_so)), (sl, .inl (c_sl, 4, .inl f_sl)), (ce, .inl (c_ce, 240, .inl f_ce)), (h0, .inr (9, [.int (zI u_fa_68), .int (zI tc), .ref so, .ref sl, .ref ce, .int (zI fn), .ref kd, .ref wd, .ref hs, .ref pf, .ref lt, .int (zI mn), .ref wg, .int (zI ta), .long ck, .int (zI at9), .int (zI rfn), .ref rk, .ref rw, .ref rh, .int (zI cl), .ref sa, .ref fi, .int (zI bo), .ref ch, .ref cn, .int (zI ad), .int (zI ru), .ref kp, .int (zI dn), .ref rfa]))] H := hP
            have hD : va_D A [(so, .inl (c_so, 4, .inl f_so)), (sl, .inl (c_sl, 4, .inl f_sl)), (ce, .inl (c_ce, 240, .inl f_ce)), (h0, .inr (9, [.int (zI u_fa_68), .int (zI tc), .ref so, .ref sl, .ref ce, .int (zI fn), .ref kd, .ref wd, .ref hs, .ref pf, .ref lt, .int (zI mn), .ref wg, .int (zI ta), .long ck, .int (zI at9), .int (zI rfn), .ref rk, .ref rw, .ref rh, .int (zI cl), .ref sa, .ref fi, .int (zI bo), .ref ch, .ref cn, .int (zI ad), .int (zI ru), .ref kp, .int (zI dn), .ref rfa]))] := hD
            have hP9 := hP.sub (ws' := [(h0, .inr (9, [.int (zI u_fa_68), .int (zI tc), .ref so, .ref sl, .ref ce, .int (zI fn), .ref kd, .ref wd, .ref hs, .ref pf, .ref lt, .int (zI mn), .ref wg, .int (zI ta), .long ck, .int (zI at9), .int (zI rfn), .ref rk, .ref rw, .ref rh, .int (zI cl), .ref sa, .ref fi, .int (zI bo), .ref ch, .ref cn, .int (zI ad), .int (zI ru), .ref kp, .int (zI dn), .ref rfa])), (so, .inl (c_so, 4, .inl f_so)), (sl, .inl (c_sl, 4, .inl f_sl)), (ce, .inl (c_ce, 240, .inl f_ce))]) [3, 0, 1, 2] rfl
            have hD9 := hD.sub (ws' := [(h0, .inr (9, [.int (zI u_fa_68), .int (zI tc), .ref so, .ref sl, .ref ce, .int (zI fn), .ref kd, .ref wd, .ref hs, .ref pf, .ref lt, .int (zI mn), .ref wg, .int (zI ta), .long ck, .int (zI at9), .int (zI rfn), .ref rk, .ref rw, .ref rh, .int (zI cl), .ref sa, .ref fi, .int (zI bo), .ref ch, .ref cn, .int (zI ad), .int (zI ru), .ref kp, .int (zI dn), .ref rfa])), (so, .inl (c_so, 4, .inl f_so)), (sl, .inl (c_sl, 4, .inl f_sl)), (ce, .inl (c_ce, 240, .inl f_ce))]) [3, 0, 1, 2] (by decide +kernel) rfl
            exact W.iret (v := (zI z_69)) hx hb hr (fun t ht hW => kQS_of (by omega) ⟨u_fa_68, f_ce, h_70, (kCoM_3 (by omega) rz_3 rz_10 ez_3 ez_10 (by omega) (by omega) (by omega) (by omega)), (by omega), by rw [ht]; exact hP9, hD9⟩ (hS.F ht)) hS.2.2 dX9_copy_69
        · refine lv_aload_n hx hb dX9_copy_43 rfl (lv_at hl 0 rfl) ?_
          refine lv_iconst (v := zI 1) hx hb dX9_copy_44 rfl ?_
          have hFc := va_free (wc := [(h0, .inr (9, [.int (zI 0), .int (zI tc), .ref so, .ref sl, .ref ce, .int (zI fn), .ref kd, .ref wd, .ref hs, .ref pf, .ref lt, .int (zI mn), .ref wg, .int (zI ta), .long ck, .int (zI at9), .int (zI rfn), .ref rk, .ref rw, .ref rh, .int (zI cl), .ref sa, .ref fi, .int (zI bo), .ref ch, .ref cn, .int (zI ad), .int (zI ru), .ref kp, .int (zI dn), .ref rfa]))]) hD hS hA [0] ax_X9_copy_2
          refine va_calli (va_runV (As := [.int (zI 1)]) (rest := []) ⟨hx, hb, hml, hown, hts⟩ (c_X9_fails_w l D H.size (f := 1) (h0 := h0) (fa := 0) (tc := tc) (so := so) (sl := sl) (ce := ce) (fn := fn) (kd := kd) (wd := wd) (hs := hs) (pf := pf) (lt := lt) (mn := mn) (wg := wg) (ta := ta) (ck := ck) (at9 := at9) (rfn := rfn) (rk := rk) (rw := rw) (rh := rh) (cl := cl) (sa := sa) (fi := fi) (bo := bo) (ch := ch) (cn := cn) (ad := ad) (ru := ru) (kp := kp) (dn := dn) (rfa := rfa) (by omega) (by omega)) (cwV 1 hts gX9_copy_X9_fails rfl rfl rfl (by decide +kernel) ⟨Nat.le_of_ble_eq_true rfl, Nat.le_of_ble_eq_true rfl⟩) (kPreV hP (kD0 hD) hK hN [0] [] ax_X9_copy_2 rfl (by decide +kernel) 0 9 rfl rfl) rfl rfl hl.1 rfl (lv_room (Nat.le_of_ble_eq_true rfl)) dX9_copy_45 ⟨Nat.le_of_ble_eq_true rfl, Nat.le_of_ble_eq_true rfl⟩) hS (fun q _ h => hFc q h) hFc (fun r u t H1 locs ht hvm hw hB hz1 hk1 hS => ?_)
          obtain ⟨z_74, e9⟩ : ∃ z, z = u := ⟨_, rfl⟩
          subst e9
          obtain ⟨rfl, rz_74⟩ := hw
          refine Exists.elim hB (fun u_fa_73 hB1 => ?_)
          have h_75 := hB1.1
          have h_76 := hB1.2.1
          have h_77 := hB1.2.2.1
          have hP1 := hB1.2.2.2.1
          have hD1 := hB1.2.2.2.2
          clear hB hB1
          rw [ht] at hP1
          obtain ⟨hP, hD⟩ := va_join (wr := [(so, .inl (c_so, 4, .inl f_so)), (sl, .inl (c_sl, 4, .inl f_sl)), (ce, .inl (c_ce, 240, .inl f_ce))]) (w1 := [(h0, .inr (9, [.int (zI u_fa_73), .int (zI tc), .ref so, .ref sl, .ref ce, .int (zI fn), .ref kd, .ref wd, .ref hs, .ref pf, .ref lt, .int (zI mn), .ref wg, .int (zI ta), .long ck, .int (zI at9), .int (zI rfn), .ref rk, .ref rw, .ref rh, .int (zI cl), .ref sa, .ref fi, .int (zI bo), .ref ch, .ref cn, .int (zI ad), .int (zI ru), .ref kp, .int (zI dn), .ref rfa]))]) hP hD [0] [1, 2, 3] ax_X9_copy_2 ax_X9_copy_3 (by decide +kernel) (by decide +kernel) hk1 hFc hP1 hD1
          have hP := ax_X9_copy_4 hP
          have hD := ax_X9_copy_5 hD
          generalize H1 = H at hP hS ⊢
          have hP : va_P D vwCl [(so, .inl (c_so, 4, .inl f_so)), (sl, .inl (c_sl, 4, .inl f_sl)), (ce, .inl (c_ce, 240, .inl f_ce)), (h0, .inr (9, [.int (zI u_fa_73), .int (zI tc), .ref so, .ref sl, .ref ce, .int (zI fn), .ref kd, .ref wd, .ref hs, .ref pf, .ref lt, .int (zI mn), .ref wg, .int (zI ta), .long ck, .int (zI at9), .int (zI rfn), .ref rk, .ref rw, .ref rh, .int (zI cl), .ref sa, .ref fi, .int (zI bo), .ref ch, .ref cn, .int (zI ad), .int (zI ru), .ref kp, .int (zI dn), .ref rfa]))] H := hP
          have hD : va_D A [(so, .inl (c_so, 4, .inl f_so)), (sl, .inl (c_sl, 4, .inl f_sl)), (ce, .inl (c_ce, 240, .inl f_ce)), (h0, .inr (9, [.int (zI u_fa_73), .int (zI tc), .ref so, .ref sl, .ref ce, .int (zI fn), .ref kd, .ref wd, .ref hs, .ref pf, .ref lt, .int (zI mn), .ref wg, .int (zI ta), .long ck, .int (zI at9), .int (zI rfn), .ref rk, .ref rw, .ref rh, .int (zI cl), .ref sa, .ref fi, .int (zI bo), .ref ch, .ref cn, .int (zI ad), .int (zI ru), .ref kp, .int (zI dn), .ref rfa]))] := hD
          have hP9 := hP.sub (ws' := [(h0, .inr (9, [.int (zI u_fa_73), .int (zI tc), .ref so, .ref sl, .ref ce, .int (zI fn), .ref kd, .ref wd, .ref hs, .ref pf, .ref lt, .int (zI mn), .ref wg, .int (zI ta), .long ck, .int (zI at9), .int (zI rfn), .ref rk, .ref rw, .ref rh, .int (zI cl), .ref sa, .ref fi, .int (zI bo), .ref ch, .ref cn, .int (zI ad), .int (zI ru), .ref kp, .int (zI dn), .ref rfa])), (so, .inl (c_so, 4, .inl f_so)), (sl, .inl (c_sl, 4, .inl f_sl)), (ce, .inl (c_ce, 240, .inl f_ce))]) [3, 0, 1, 2] rfl
          have hD9 := hD.sub (ws' := [(h0, .inr (9, [.int (zI u_fa_73), .int (zI tc), .ref so, .ref sl, .ref ce, .int (zI fn), .ref kd, .ref wd, .ref hs, .ref pf, .ref lt, .int (zI mn), .ref wg, .int (zI ta), .long ck, .int (zI at9), .int (zI rfn), .ref rk, .ref rw, .ref rh, .int (zI cl), .ref sa, .ref fi, .int (zI bo), .ref ch, .ref cn, .int (zI ad), .int (zI ru), .ref kp, .int (zI dn), .ref rfa])), (so, .inl (c_so, 4, .inl f_so)), (sl, .inl (c_sl, 4, .inl f_sl)), (ce, .inl (c_ce, 240, .inl f_ce))]) [3, 0, 1, 2] (by decide +kernel) rfl
          exact W.iret (v := (zI z_74)) hx hb hr (fun t ht hW => kQS_of (by omega) ⟨u_fa_73, f_ce, h_75, (kCoM_2b (by omega) ez_10 (by omega) (by omega)), (by omega), by rw [ht]; exact hP9, hD9⟩ (hS.F ht)) hS.2.2 dX9_copy_48
    · have c_2 : ¬ (0 ≤ o9 ∧ o9 ≤ 3) := b01f c_2
      refine lv_iconst (v := zI (-1)) hx hb dX9_copy_19 rfl ?_
      have hP9 := hP.sub (ws' := [(h0, .inr (9, [.int (zI 0), .int (zI tc), .ref so, .ref sl, .ref ce, .int (zI fn), .ref kd, .ref wd, .ref hs, .ref pf, .ref lt, .int (zI mn), .ref wg, .int (zI ta), .long ck, .int (zI at9), .int (zI rfn), .ref rk, .ref rw, .ref rh, .int (zI cl), .ref sa, .ref fi, .int (zI bo), .ref ch, .ref cn, .int (zI ad), .int (zI ru), .ref kp, .int (zI dn), .ref rfa])), (so, .inl (c_so, 4, .inl f_so)), (sl, .inl (c_sl, 4, .inl f_sl)), (ce, .inl (c_ce, 240, .inl f_ce))]) [0, 1, 2, 3] rfl
      have hD9 := hD.sub (ws' := [(h0, .inr (9, [.int (zI 0), .int (zI tc), .ref so, .ref sl, .ref ce, .int (zI fn), .ref kd, .ref wd, .ref hs, .ref pf, .ref lt, .int (zI mn), .ref wg, .int (zI ta), .long ck, .int (zI at9), .int (zI rfn), .ref rk, .ref rw, .ref rh, .int (zI cl), .ref sa, .ref fi, .int (zI bo), .ref ch, .ref cn, .int (zI ad), .int (zI ru), .ref kp, .int (zI dn), .ref rfa])), (so, .inl (c_so, 4, .inl f_so)), (sl, .inl (c_sl, 4, .inl f_sl)), (ce, .inl (c_ce, 240, .inl f_ce))]) [0, 1, 2, 3] (by decide +kernel) rfl
      exact W.iret (v := (zI (-1))) hx hb hr (fun t ht hW => kQS_of (by omega) ⟨0, f_ce, (by omega), (kCoM_1 (by omega) (by omega)), (by omega), by rw [ht]; exact hP9, hD9⟩ (hS.F ht)) hS.2.2 dX9_copy_20
