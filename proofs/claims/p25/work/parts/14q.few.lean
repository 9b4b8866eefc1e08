theorem kRn_st {f : Nat → Int32} {k : Int} (h : 1 ≤ k) : kRn f (k + 1).toNat = kRn f k.toNat + (if f k.toNat = f (k - 1).toNat then 0 else 1) := by
  obtain ⟨n, rfl⟩ : ∃ n : Nat, k = n + 1 := ⟨(k - 1).toNat, by omega⟩
  rw [show ((n : Int) + 1 + 1).toNat = n + 2 by omega, show ((n : Int) + 1).toNat = n + 1 by omega, show ((n : Int) + 1 - 1).toNat = n by omega]
  rfl
theorem dX9_runOf_0 : decode cX9_runOf 0 = .ok (.iconst 0, 1) := by decide +kernel
theorem dX9_runOf_1 : decode cX9_runOf 1 = .ok (.istore_n 2, 1) := by decide +kernel
theorem dX9_runOf_2 : decode cX9_runOf 2 = .ok (.iconst 1, 1) := by decide +kernel
theorem dX9_runOf_3 : decode cX9_runOf 3 = .ok (.istore_n 3, 1) := by decide +kernel
theorem dX9_runOf_4 : decode cX9_runOf 4 = .ok (.iload_n 3, 1) := by decide +kernel
theorem dX9_runOf_5 : decode cX9_runOf 5 = .ok (.iload_n 1, 1) := by decide +kernel
theorem dX9_runOf_6 : decode cX9_runOf 6 = .ok (.if_icmp .gt 34, 3) := by decide +kernel
theorem dX9_runOf_9 : decode cX9_runOf 9 = .ok (.iload_n 2, 1) := by decide +kernel
theorem dX9_runOf_10 : decode cX9_runOf 10 = .ok (.aload_n 0, 1) := by decide +kernel
theorem dX9_runOf_11 : decode cX9_runOf 11 = .ok (.getfield 55, 3) := by decide +kernel
theorem dX9_runOf_14 : decode cX9_runOf 14 = .ok (.iload_n 3, 1) := by decide +kernel
theorem dX9_runOf_15 : decode cX9_runOf 15 = .ok (.iaload, 1) := by decide +kernel
theorem dX9_runOf_16 : decode cX9_runOf 16 = .ok (.aload_n 0, 1) := by decide +kernel
theorem dX9_runOf_17 : decode cX9_runOf 17 = .ok (.getfield 55, 3) := by decide +kernel
theorem dX9_runOf_20 : decode cX9_runOf 20 = .ok (.iload_n 3, 1) := by decide +kernel
theorem dX9_runOf_21 : decode cX9_runOf 21 = .ok (.iconst 1, 1) := by decide +kernel
theorem dX9_runOf_22 : decode cX9_runOf 22 = .ok (.isub, 1) := by decide +kernel
theorem dX9_runOf_23 : decode cX9_runOf 23 = .ok (.iaload, 1) := by decide +kernel
theorem dX9_runOf_24 : decode cX9_runOf 24 = .ok (.if_icmp .ne 7, 3) := by decide +kernel
theorem dX9_runOf_27 : decode cX9_runOf 27 = .ok (.iconst 0, 1) := by decide +kernel
theorem dX9_runOf_28 : decode cX9_runOf 28 = .ok (.goto 4, 3) := by decide +kernel
theorem dX9_runOf_31 : decode cX9_runOf 31 = .ok (.iconst 1, 1) := by decide +kernel
theorem dX9_runOf_32 : decode cX9_runOf 32 = .ok (.iadd, 1) := by decide +kernel
theorem dX9_runOf_33 : decode cX9_runOf 33 = .ok (.istore_n 2, 1) := by decide +kernel
theorem dX9_runOf_34 : decode cX9_runOf 34 = .ok (.iinc 3 1, 3) := by decide +kernel
theorem dX9_runOf_37 : decode cX9_runOf 37 = .ok (.goto (-33), 3) := by decide +kernel
theorem dX9_runOf_40 : decode cX9_runOf 40 = .ok (.iload_n 2, 1) := by decide +kernel
theorem dX9_runOf_41 : decode cX9_runOf 41 = .ok (.ireturn, 1) := by decide +kernel
set_option maxRecDepth 20000 in
theorem mw_X9_runOf_0 : (.fieldLink RX9 55 "FontRunsModel" "chosen" "[I" : Cond) ∈ wsX9_runOf := by decide +kernel
set_option maxHeartbeats 4000000 in
set_option maxRecDepth 100000 in
theorem c_X9_runOf (l : Launch) (D : va_G) (sz : Nat) (kc : Int) (h0 : Nat) (fa : Int) (tc : Int) (so : Nat) (sl : Nat) (ce : Nat) (fn : Int) (kd : Nat) (wd : Nat) (hs : Nat) (pf : Nat) (lt : Nat) (mn : Int) (wg : Nat) (ta : Int) (ck : Int64) (at9 : Int) (rfn : Int) (rk : Nat) (rw : Nat) (rh : Nat) (cl : Int) (sa : Nat) (fi : Nat) (bo : Int) (ch : Nat) (cn : Nat) (ad : Int) (ru : Int) (kp : Nat) (dn : Int) (rfa : Nat) (c_cn : ClassId) (f_cn : Nat → Int32) (q0 : 0 ≤ kc ∧ kc ≤ 23) : Met l yX9_runOf wsX9_runOf ({ frames := 0, cells := 0, slots := 0, locals := 0 }) (kPre [.ref h0, .int (zI kc)] D [(h0, .inr (9, [.int (zI fa), .int (zI tc), .ref so, .ref sl, .ref ce, .int (zI fn), .ref kd, .ref wd, .ref hs, .ref pf, .ref lt, .int (zI mn), .ref wg, .int (zI ta), .long ck, .int (zI at9), .int (zI rfn), .ref rk, .ref rw, .ref rh, .int (zI cl), .ref sa, .ref fi, .int (zI bo), .ref ch, .ref cn, .int (zI ad), .int (zI ru), .ref kp, .int (zI dn), .ref rfa])), (cn, .inl (c_cn, 24, .inl f_cn))] [(c_cn, .int)] sz) (QcP (fun rz => rz + 1 = kRn f_cn (kc + 1).toNat ∧ (0 ≤ rz ∧ rz ≤ kc))) 0 0 (fun _ => False) := by
  refine Met.ofW (cc := cX9_runOf) (maxL := 4) (ret := (some .int)) (by decide) rfl ?_
  intro p e s m args below meth c s₁ B hml hv
  obtain ⟨rfl, hsz, hP, hK, hD0, hN⟩ := hv
  have hx := B.exec
  have hb := B.bytes
  have hr := B.returns
  have hts := atoms_spec (ws := wsX9_runOf) B.pre
  have hown : s.vm.findClass RX9 = some m.cls := findClass_of_methodNamed B.named
  have hlocks := B.notSynchronized
  subst hsz
  have hD := hD0
  have hP : va_P D vwCl [(h0, .inr (9, [.int (zI fa), .int (zI tc), .ref so, .ref sl, .ref ce, .int (zI fn), .ref kd, .ref wd, .ref hs, .ref pf, .ref lt, .int (zI mn), .ref wg, .int (zI ta), .long ck, .int (zI at9), .int (zI rfn), .ref rk, .ref rw, .ref rh, .int (zI cl), .ref sa, .ref fi, .int (zI bo), .ref ch, .ref cn, .int (zI ad), .int (zI ru), .ref kp, .int (zI dn), .ref rfa])), (cn, .inl (c_cn, 24, .inl f_cn))] s.heap := hP
  have hl := lv_entry ([.ref h0, .int (zI kc)]) (n := 4) (Nat.le_of_ble_eq_true rfl)
  rw [lg_entry_eq]
  generalize (lg_sl ([.ref h0, .int (zI kc)]) ++ List.replicate (4 - (lg_sl ([.ref h0, .int (zI kc)])).length) Slot.unset).toArray = ls at hl ⊢
  have hl : lv_has ls 4 [(0, .ref h0), (1, .int (zI kc))] := hl
  refine lv_iconst (v := zI 0) hx hb dX9_runOf_0 rfl ?_
  refine lv_istore_n (lv' := [(2, .int (zI 0)), (0, .ref h0), (1, .int (zI kc))]) hx hb dX9_runOf_1 rfl hl (by decide) rfl (fun ls hl => ?_)
  refine lv_iconst (v := zI 1) hx hb dX9_runOf_2 rfl ?_
  refine lv_istore_n (lv' := [(3, .int (zI 1)), (2, .int (zI 0)), (0, .ref h0), (1, .int (zI kc))]) hx hb dX9_runOf_3 rfl hl (by decide) rfl (fun ls hl => ?_)
  refine k_loopM (I := fun n9 H locs ls => ∃ (js : Int) (jk : Int), n9 = (kc + 1 - jk).toNat ∧ (1 ≤ jk ∧ jk ≤ kc + 1) ∧ (0 ≤ js ∧ js ≤ jk - 1) ∧ (js + 1 = kRn f_cn jk.toNat) ∧ H = s.heap ∧ locs = [] ∧ lv_has ls 4 [(3, .int (zI jk)), (2, .int (zI js)), (0, .ref h0), (1, .int (zI kc))]) ?_ _ ⟨0, 1, rfl, (by omega), (by omega), rfl, rfl, rfl, hl⟩
  intro n4 ih4 H locs ls hI
  obtain ⟨js, jk, en4, v_40, v_41, v_42, eH, eL, hl⟩ := hI
  subst eH
  subst eL
  refine lv_iload_n hx hb dX9_runOf_4 rfl (lv_at hl 0 rfl) ?_
  refine lv_iload_n hx hb dX9_runOf_5 rfl (lv_at hl 3 rfl) ?_
  refine kz_icmp_gt (tgt := 40) hx hb dX9_runOf_6 (by decide) (by omega) (by omega) (fun c_1 => ?_) (fun c_1 => ?_)
  · refine lv_iload_n hx hb dX9_runOf_40 rfl (lv_at hl 1 rfl) ?_
    exact W.iret (v := (zI js)) hx hb hr (fun t ht hW => QcP_of (by omega) ⟨(show jk = kc + 1 by omega) ▸ v_42, by omega⟩ ht) (fun _ h9 => by cases h9) dX9_runOf_41
  · refine lv_iload_n hx hb dX9_runOf_9 rfl (lv_at hl 1 rfl) ?_
    refine lv_aload_n hx hb dX9_runOf_10 rfl (lv_at hl 2 rfl) ?_
    refine va_get (D := D) (ci := 9) (v := .ref cn) (C := RX9) (T := TX9) (N := 31) hx hb hts (fun _ h9 => List.mem_cons_of_mem _ (List.mem_append_right _ h9)) hown hK hP 0 rfl rfl 25 (by decide) (hts (.fieldLink RX9 55 "FontRunsModel" "chosen" "[I") mw_X9_runOf_0) (fun _ h9 => h9) rfl dX9_runOf_11 ?_
    refine lv_iload_n hx hb dX9_runOf_14 rfl (lv_at hl 0 rfl) ?_
    refine kz_iald hx hb hK hP 1 0 rfl rfl (by omega) dX9_runOf_15 (fun z_2 rz_2 ez_2 => ?_)
    refine lv_aload_n hx hb dX9_runOf_16 rfl (lv_at hl 2 rfl) ?_
    refine va_get (D := D) (ci := 9) (v := .ref cn) (C := RX9) (T := TX9) (N := 31) hx hb hts (fun _ h9 => List.mem_cons_of_mem _ (List.mem_append_right _ h9)) hown hK hP 0 rfl rfl 25 (by decide) (hts (.fieldLink RX9 55 "FontRunsModel" "chosen" "[I") mw_X9_runOf_0) (fun _ h9 => h9) rfl dX9_runOf_17 ?_
    refine lv_iload_n hx hb dX9_runOf_20 rfl (lv_at hl 0 rfl) ?_
    refine lv_iconst (v := zI 1) hx hb dX9_runOf_21 rfl ?_
    refine kz_isub hx hb dX9_runOf_22 ?_
    refine kz_iald hx hb hK hP 1 0 rfl rfl (by omega) dX9_runOf_23 (fun z_3 rz_3 ez_3 => ?_)
    refine kz_icmp_ne (tgt := 31) hx hb dX9_runOf_24 (by decide) (by omega) (by omega) (fun c_4 => ?_) (fun c_4 => ?_)
    · refine lv_iconst (v := zI 1) hx hb dX9_runOf_31 rfl ?_
      refine kz_iadd hx hb dX9_runOf_32 ?_
      refine lv_istore_n (lv' := [(2, .int (zI (js + 1))), (3, .int (zI jk)), (0, .ref h0), (1, .int (zI kc))]) hx hb dX9_runOf_33 rfl hl (by decide) rfl (fun ls hl => ?_)
      refine lv_iinc (v := (zI (jk + 1))) (lv' := [(3, .int (zI (jk + 1))), (2, .int (zI (js + 1))), (0, .ref h0), (1, .int (zI kc))]) hx hb dX9_runOf_34 hl (k := 1) rfl (kz_inc _ 1) (by decide) rfl (fun ls hl => ?_)
      refine lv_goto (tgt := 4) hx hb dX9_runOf_37 (by decide) ?_
      exact ih4 _ (by omega) _ _ _ ⟨(js + 1), (jk + 1), rfl, (by omega), (by omega), (by rw [kRn_st (by omega), ← v_42, if_neg (by rw [ez_2, ez_3, zI_eq rz_2 rz_3]; exact c_4)] <;> omega), rfl, rfl, lv_sub hl [0, 1, 2, 3] rfl⟩
    · refine lv_iconst (v := zI 0) hx hb dX9_runOf_27 rfl ?_
      refine lv_goto (tgt := 32) hx hb dX9_runOf_28 (by decide) ?_
      refine kz_iadd hx hb dX9_runOf_32 ?_
      refine lv_istore_n (lv' := [(2, .int (zI (js + 0))), (3, .int (zI jk)), (0, .ref h0), (1, .int (zI kc))]) hx hb dX9_runOf_33 rfl hl (by decide) rfl (fun ls hl => ?_)
      refine lv_iinc (v := (zI (jk + 1))) (lv' := [(3, .int (zI (jk + 1))), (2, .int (zI (js + 0))), (0, .ref h0), (1, .int (zI kc))]) hx hb dX9_runOf_34 hl (k := 1) rfl (kz_inc _ 1) (by decide) rfl (fun ls hl => ?_)
      refine lv_goto (tgt := 4) hx hb dX9_runOf_37 (by decide) ?_
      exact ih4 _ (by omega) _ _ _ ⟨(js + 0), (jk + 1), rfl, (by omega), (by omega), (by rw [kRn_st (by omega), ← v_42, if_pos (by rw [ez_2, ez_3, c_4])] <;> omega), rfl, rfl, lv_sub hl [0, 1, 2, 3] rfl⟩
theorem dX9_tell_0 : decode cX9_tell 0 = .ok (.aload_n 0, 1) := by decide +kernel
theorem dX9_tell_1 : decode cX9_tell 1 = .ok (.iload_n 1, 1) := by decide +kernel
theorem dX9_tell_2 : decode cX9_tell 2 = .ok (.invokevirtual 120, 3) := by decide +kernel
theorem dX9_tell_5 : decode cX9_tell 5 = .ok (.ifCond .ne 5, 3) := by decide +kernel
theorem dX9_tell_8 : decode cX9_tell 8 = .ok (.iconst (-1), 1) := by decide +kernel
theorem dX9_tell_9 : decode cX9_tell 9 = .ok (.ireturn, 1) := by decide +kernel
theorem dX9_tell_10 : decode cX9_tell 10 = .ok (.aload_n 0, 1) := by decide +kernel
theorem dX9_tell_11 : decode cX9_tell 11 = .ok (.getfield 22, 3) := by decide +kernel
theorem dX9_tell_14 : decode cX9_tell 14 = .ok (.iload_n 1, 1) := by decide +kernel
theorem dX9_tell_15 : decode cX9_tell 15 = .ok (.iaload, 1) := by decide +kernel
theorem dX9_tell_16 : decode cX9_tell 16 = .ok (.istore_n 2, 1) := by decide +kernel
theorem dX9_tell_17 : decode cX9_tell 17 = .ok (.aload_n 0, 1) := by decide +kernel
theorem dX9_tell_18 : decode cX9_tell 18 = .ok (.getfield 19, 3) := by decide +kernel
theorem dX9_tell_21 : decode cX9_tell 21 = .ok (.iload_n 1, 1) := by decide +kernel
theorem dX9_tell_22 : decode cX9_tell 22 = .ok (.iaload, 1) := by decide +kernel
theorem dX9_tell_23 : decode cX9_tell 23 = .ok (.lookupswitch 67 #[(1, 25), (2, 40)], 25) := by decide +kernel
theorem dX9_tell_48 : decode cX9_tell 48 = .ok (.aload_n 0, 1) := by decide +kernel
theorem dX9_tell_49 : decode cX9_tell 49 = .ok (.iconst 2, 1) := by decide +kernel
theorem dX9_tell_50 : decode cX9_tell 50 = .ok (.invokevirtual 213, 3) := by decide +kernel
theorem dX9_tell_53 : decode cX9_tell 53 = .ok (.aload_n 0, 1) := by decide +kernel
theorem dX9_tell_54 : decode cX9_tell 54 = .ok (.iconst 1, 1) := by decide +kernel
theorem dX9_tell_55 : decode cX9_tell 55 = .ok (.invokevirtual 213, 3) := by decide +kernel
theorem dX9_tell_58 : decode cX9_tell 58 = .ok (.iload_n 2, 1) := by decide +kernel
theorem dX9_tell_59 : decode cX9_tell 59 = .ok (.bipush 100, 2) := by decide +kernel
theorem dX9_tell_61 : decode cX9_tell 61 = .ok (.iadd, 1) := by decide +kernel
theorem dX9_tell_62 : decode cX9_tell 62 = .ok (.ireturn, 1) := by decide +kernel
theorem dX9_tell_63 : decode cX9_tell 63 = .ok (.aload_n 0, 1) := by decide +kernel
theorem dX9_tell_64 : decode cX9_tell 64 = .ok (.iconst 3, 1) := by decide +kernel
theorem dX9_tell_65 : decode cX9_tell 65 = .ok (.invokevirtual 213, 3) := by decide +kernel
theorem dX9_tell_68 : decode cX9_tell 68 = .ok (.aload_n 0, 1) := by decide +kernel
theorem dX9_tell_69 : decode cX9_tell 69 = .ok (.iconst 2, 1) := by decide +kernel
theorem dX9_tell_70 : decode cX9_tell 70 = .ok (.invokevirtual 213, 3) := by decide +kernel
theorem dX9_tell_73 : decode cX9_tell 73 = .ok (.aload_n 0, 1) := by decide +kernel
theorem dX9_tell_74 : decode cX9_tell 74 = .ok (.iconst 1, 1) := by decide +kernel
theorem dX9_tell_75 : decode cX9_tell 75 = .ok (.invokevirtual 213, 3) := by decide +kernel
theorem dX9_tell_78 : decode cX9_tell 78 = .ok (.aload_n 0, 1) := by decide +kernel
theorem dX9_tell_79 : decode cX9_tell 79 = .ok (.iconst 1, 1) := by decide +kernel
theorem dX9_tell_80 : decode cX9_tell 80 = .ok (.invokevirtual 213, 3) := by decide +kernel
theorem dX9_tell_83 : decode cX9_tell 83 = .ok (.iconst 2, 1) := by decide +kernel
theorem dX9_tell_84 : decode cX9_tell 84 = .ok (.iload_n 2, 1) := by decide +kernel
theorem dX9_tell_85 : decode cX9_tell 85 = .ok (.imul, 1) := by decide +kernel
theorem dX9_tell_86 : decode cX9_tell 86 = .ok (.bipush 100, 2) := by decide +kernel
theorem dX9_tell_88 : decode cX9_tell 88 = .ok (.iadd, 1) := by decide +kernel
theorem dX9_tell_89 : decode cX9_tell 89 = .ok (.ireturn, 1) := by decide +kernel
theorem dX9_tell_90 : decode cX9_tell 90 = .ok (.aload_n 0, 1) := by decide +kernel
theorem dX9_tell_91 : decode cX9_tell 91 = .ok (.iconst 1, 1) := by decide +kernel
theorem dX9_tell_92 : decode cX9_tell 92 = .ok (.invokevirtual 213, 3) := by decide +kernel
theorem dX9_tell_95 : decode cX9_tell 95 = .ok (.iload_n 2, 1) := by decide +kernel
theorem dX9_tell_96 : decode cX9_tell 96 = .ok (.ireturn, 1) := by decide +kernel
set_option maxRecDepth 20000 in
theorem ggX9_tell_X9_begins : GoodIn wsX9_tell wsX9_begins := goodIn_r _ [12, 13, 14, 15, 16, 17, 18, 19, 20, 21, 22, 23, 24, 25, 26, 27, 28, 29, 30, 31, 32, 33, 34, 35, 36, 37, 38, 39, 40, 41, 42, 43, 44] (by decide +kernel) (by decide +kernel)
set_option maxRecDepth 20000 in
theorem gX9_tell_X9_begins : GoodIn wsX9_tell (wsV RX9 213 RX9 yX9_begins wsX9_begins) := goodIn_app (goodIn_of _ (by decide +kernel)) ggX9_tell_X9_begins
set_option maxRecDepth 20000 in
theorem ggX9_tell_X9_isFont : GoodIn wsX9_tell wsX9_isFont := goodIn_r _ [7, 8, 14, 15, 16, 17, 18, 19, 20, 21, 22, 23, 24, 25, 26, 27, 28, 29, 30, 31, 32, 33, 34, 35, 36, 37, 38, 39, 40, 41, 42, 43, 44] (by decide +kernel) (by decide +kernel)
set_option maxRecDepth 20000 in
theorem gX9_tell_X9_isFont : GoodIn wsX9_tell (wsV RX9 120 RX9 yX9_isFont wsX9_isFont) := goodIn_app (goodIn_of _ (by decide +kernel)) ggX9_tell_X9_isFont
set_option maxRecDepth 20000 in
theorem mw_X9_tell_0 : (.fieldLink RX9 22 "FontRunsModel" "width" "[I" : Cond) ∈ wsX9_tell := by decide +kernel
set_option maxRecDepth 20000 in
theorem mw_X9_tell_1 : (.fieldLink RX9 19 "FontRunsModel" "kind" "[I" : Cond) ∈ wsX9_tell := by decide +kernel
theorem ax_X9_tell_0 {e0 e1 e2 : Nat × va_E} : ([0] : List Nat).map (fun i => ([e0, e1, e2] : va_W)[i]?) = ([e0] : va_W).map some := rfl
theorem ax_X9_tell_1 {e0 e1 e2 : Nat × va_E} : ([1, 2] : List Nat).map (fun i => ([e0, e1, e2] : va_W)[i]?) = ([e1, e2] : va_W).map some := rfl
theorem ax_X9_tell_2 {D : va_G} {cl : List vw_C} {H : Heap} {e0 e1 f0 : Nat × va_E} (h : va_P D cl ((([e0, e1] : va_W) ++ ([f0] : va_W))) H) : va_P D cl (([e0, e1, f0] : va_W)) H := h
theorem ax_X9_tell_3 {A : Nat → Prop} {e0 e1 f0 : Nat × va_E} (h : va_D A ((([e0, e1] : va_W) ++ ([f0] : va_W)))) : va_D A (([e0, e1, f0] : va_W)) := h
theorem ax_X9_tell_4 {e0 e1 e2 : Nat × va_E} : ([2] : List Nat).map (fun i => ([e0, e1, e2] : va_W)[i]?) = ([e2] : va_W).map some := rfl
theorem ax_X9_tell_5 {e0 e1 e2 : Nat × va_E} : ([0, 1] : List Nat).map (fun i => ([e0, e1, e2] : va_W)[i]?) = ([e0, e1] : va_W).map some := rfl
theorem ax_X9_tell_6 {e0 e1 e2 : Nat × va_E} : ([2, 0, 1] : List Nat).map (fun i => ([e0, e1, e2] : va_W)[i]?) = ([e2, e0, e1] : va_W).map some := rfl
theorem ax_X9_tell_7 {e0 e1 e2 : Nat × va_E} : ([0, 1, 2] : List Nat).map (fun i => ([e0, e1, e2] : va_W)[i]?) = ([e0, e1, e2] : va_W).map some := rfl
set_option maxHeartbeats 4000000 in
set_option maxRecDepth 100000 in
theorem c_X9_tell (l : Launch) (D : va_G) (sz : Nat) (f : Int) (h0 : Nat) (fa : Int) (tc : Int) (so : Nat) (sl : Nat) (ce : Nat) (fn : Int) (kd : Nat) (wd : Nat) (hs : Nat) (pf : Nat) (lt : Nat) (mn : Int) (wg : Nat) (ta : Int) (ck : Int64) (at9 : Int) (rfn : Int) (rk : Nat) (rw : Nat) (rh : Nat) (cl : Int) (sa : Nat) (fi : Nat) (bo : Int) (ch : Nat) (cn : Nat) (ad : Int) (ru : Int) (kp : Nat) (dn : Int) (rfa : Nat) (c_kd : ClassId) (f_kd : Nat → Int32) (c_wd : ClassId) (f_wd : Nat → Int32) (q0 : rg f) (q1 : rg tc) (q2 : 0 ≤ fn ∧ fn ≤ 4) : Met l yX9_tell wsX9_tell ({ frames := 1, cells := 0, slots := 0, locals := 21 }) (kPre [.ref h0, .int (zI f)] D [(h0, .inr (9, [.int (zI fa), .int (zI tc), .ref so, .ref sl, .ref ce, .int (zI fn), .ref kd, .ref wd, .ref hs, .ref pf, .ref lt, .int (zI mn), .ref wg, .int (zI ta), .long ck, .int (zI at9), .int (zI rfn), .ref rk, .ref rw, .ref rh, .int (zI cl), .ref sa, .ref fi, .int (zI bo), .ref ch, .ref cn, .int (zI ad), .int (zI ru), .ref kp, .int (zI dn), .ref rfa])), (kd, .inl (c_kd, 4, .inl f_kd)), (wd, .inl (c_wd, 4, .inl f_wd))] [(c_kd, .int), (c_wd, .int)] sz) (kQS (fun rz t => ∃ (u_tc : Int), (rg u_tc) ∧ va_P D vwCl [(h0, .inr (9, [.int (zI fa), .int (zI u_tc), .ref so, .ref sl, .ref ce, .int (zI fn), .ref kd, .ref wd, .ref hs, .ref pf, .ref lt, .int (zI mn), .ref wg, .int (zI ta), .long ck, .int (zI at9), .int (zI rfn), .ref rk, .ref rw, .ref rh, .int (zI cl), .ref sa, .ref fi, .int (zI bo), .ref ch, .ref cn, .int (zI ad), .int (zI ru), .ref kp, .int (zI dn), .ref rfa])), (kd, .inl (c_kd, 4, .inl f_kd)), (wd, .inl (c_wd, 4, .inl f_wd))] t.heap ∧ va_D (va_A [(h0, .inr (9, [.int (zI fa), .int (zI tc), .ref so, .ref sl, .ref ce, .int (zI fn), .ref kd, .ref wd, .ref hs, .ref pf, .ref lt, .int (zI mn), .ref wg, .int (zI ta), .long ck, .int (zI at9), .int (zI rfn), .ref rk, .ref rw, .ref rh, .int (zI cl), .ref sa, .ref fi, .int (zI bo), .ref ch, .ref cn, .int (zI ad), .int (zI ru), .ref kp, .int (zI dn), .ref rfa])), (kd, .inl (c_kd, 4, .inl f_kd)), (wd, .inl (c_wd, 4, .inl f_wd))] sz) [(h0, .inr (9, [.int (zI fa), .int (zI u_tc), .ref so, .ref sl, .ref ce, .int (zI fn), .ref kd, .ref wd, .ref hs, .ref pf, .ref lt, .int (zI mn), .ref wg, .int (zI ta), .long ck, .int (zI at9), .int (zI rfn), .ref rk, .ref rw, .ref rh, .int (zI cl), .ref sa, .ref fi, .int (zI bo), .ref ch, .ref cn, .int (zI ad), .int (zI ru), .ref kp, .int (zI dn), .ref rfa])), (kd, .inl (c_kd, 4, .inl f_kd)), (wd, .inl (c_wd, 4, .inl f_wd))]) (va_A [(h0, .inr (9, [.int (zI fa), .int (zI tc), .ref so, .ref sl, .ref ce, .int (zI fn), .ref kd, .ref wd, .ref hs, .ref pf, .ref lt, .int (zI mn), .ref wg, .int (zI ta), .long ck, .int (zI at9), .int (zI rfn), .ref rk, .ref rw, .ref rh, .int (zI cl), .ref sa, .ref fi, .int (zI bo), .ref ch, .ref cn, .int (zI ad), .int (zI ru), .ref kp, .int (zI dn), .ref rfa])), (kd, .inl (c_kd, 4, .inl f_kd)), (wd, .inl (c_wd, 4, .inl f_wd))] sz)) 0 0 (va_A [(h0, .inr (9, [.int (zI fa), .int (zI tc), .ref so, .ref sl, .ref ce, .int (zI fn), .ref kd, .ref wd, .ref hs, .ref pf, .ref lt, .int (zI mn), .ref wg, .int (zI ta), .long ck, .int (zI at9), .int (zI rfn), .ref rk, .ref rw, .ref rh, .int (zI cl), .ref sa, .ref fi, .int (zI bo), .ref ch, .ref cn, .int (zI ad), .int (zI ru), .ref kp, .int (zI dn), .ref rfa])), (kd, .inl (c_kd, 4, .inl f_kd)), (wd, .inl (c_wd, 4, .inl f_wd))] sz) := by
  refine Met.ofW (cc := cX9_tell) (maxL := 3) (ret := (some .int)) (by decide) rfl ?_
  intro p e s m args below meth c s₁ B hml hv
  obtain ⟨rfl, hsz, hP, hK, hD0, hN⟩ := hv
  have hx := B.exec
  have hb := B.bytes
  have hr := B.returns
  have hts := atoms_spec (ws := wsX9_tell) B.pre
  have hown : s.vm.findClass RX9 = some m.cls := findClass_of_methodNamed B.named
  have hlocks := B.notSynchronized
  subst hsz
  have hD := hD0.self (sz := s.heap.size)
  generalize hAe : va_A [(h0, .inr (9, [.int (zI fa), .int (zI tc), .ref so, .ref sl, .ref ce, .int (zI fn), .ref kd, .ref wd, .ref hs, .ref pf, .ref lt, .int (zI mn), .ref wg, .int (zI ta), .long ck, .int (zI at9), .int (zI rfn), .ref rk, .ref rw, .ref rh, .int (zI cl), .ref sa, .ref fi, .int (zI bo), .ref ch, .ref cn, .int (zI ad), .int (zI ru), .ref kp, .int (zI dn), .ref rfa])), (kd, .inl (c_kd, 4, .inl f_kd)), (wd, .inl (c_wd, 4, .inl f_wd))] s.heap.size = A at hD ⊢
  have hA : ∀ q : Nat, s.heap.size ≤ q → A q := fun q h => by rw [← hAe]; exact Or.inr h
  have hS : va_S A s.heap s.heap [] := va_S.rf
  have hP : va_P D vwCl [(h0, .inr (9, [.int (zI fa), .int (zI tc), .ref so, .ref sl, .ref ce, .int (zI fn), .ref kd, .ref wd, .ref hs, .ref pf, .ref lt, .int (zI mn), .ref wg, .int (zI ta), .long ck, .int (zI at9), .int (zI rfn), .ref rk, .ref rw, .ref rh, .int (zI cl), .ref sa, .ref fi, .int (zI bo), .ref ch, .ref cn, .int (zI ad), .int (zI ru), .ref kp, .int (zI dn), .ref rfa])), (kd, .inl (c_kd, 4, .inl f_kd)), (wd, .inl (c_wd, 4, .inl f_wd))] s.heap := hP
  have hl := lv_entry ([.ref h0, .int (zI f)]) (n := 3) (Nat.le_of_ble_eq_true rfl)
  rw [lg_entry_eq]
  generalize (lg_sl ([.ref h0, .int (zI f)]) ++ List.replicate (3 - (lg_sl ([.ref h0, .int (zI f)])).length) Slot.unset).toArray = ls at hl ⊢
  have hl : lv_has ls 3 [(0, .ref h0), (1, .int (zI f))] := hl
  refine lv_aload_n hx hb dX9_tell_0 rfl (lv_at hl 0 rfl) ?_
  refine lv_iload_n hx hb dX9_tell_1 rfl (lv_at hl 1 rfl) ?_
  refine k_callR (va_runV (As := [.int (zI f)]) (rest := []) ⟨hx, hb, hml, hown, hts⟩ (c_X9_isFont l D s.heap.size (f := f) (h0 := h0) (fa := fa) (tc := tc) (so := so) (sl := sl) (ce := ce) (fn := fn) (kd := kd) (wd := wd) (hs := hs) (pf := pf) (lt := lt) (mn := mn) (wg := wg) (ta := ta) (ck := ck) (at9 := at9) (rfn := rfn) (rk := rk) (rw := rw) (rh := rh) (cl := cl) (sa := sa) (fi := fi) (bo := bo) (ch := ch) (cn := cn) (ad := ad) (ru := ru) (kp := kp) (dn := dn) (rfa := rfa) q0 q2) (cwV 1 hts gX9_tell_X9_isFont rfl rfl rfl (by decide +kernel) ⟨Nat.le_of_ble_eq_true rfl, Nat.le_of_ble_eq_true rfl⟩) (kPreV hP (kD0 hD) hK hN [0] [] ax_X9_tell_0 rfl (by decide +kernel) 0 9 rfl rfl) rfl rfl hl.1 rfl (lv_room (Nat.le_of_ble_eq_true rfl)) dX9_tell_2 ⟨Nat.le_of_ble_eq_true rfl, Nat.le_of_ble_eq_true rfl⟩) ?_
  refine lv_if_ne (tgt := 10) hx hb dX9_tell_5 (by decide) (fun c_1 => ?_) (fun c_1 => ?_)
  · have c_1 : 0 ≤ f ∧ f < fn := b01t c_1
    refine lv_aload_n hx hb dX9_tell_10 rfl (lv_at hl 0 rfl) ?_
    refine va_get (D := D) (ci := 9) (v := .ref wd) (C := RX9) (T := TX9) (N := 31) hx hb hts (fun _ h9 => List.mem_cons_of_mem _ (List.mem_append_right _ h9)) hown hK hP 0 rfl rfl 7 (by decide) (hts (.fieldLink RX9 22 "FontRunsModel" "width" "[I") mw_X9_tell_0) (fun _ h9 => h9) rfl dX9_tell_11 ?_
    refine lv_iload_n hx hb dX9_tell_14 rfl (lv_at hl 1 rfl) ?_
    refine kz_iald hx hb hK hP 2 1 rfl rfl (by omega) dX9_tell_15 (fun z_2 rz_2 ez_2 => ?_)
    refine lv_istore_n (lv' := [(2, .int (zI z_2)), (0, .ref h0), (1, .int (zI f))]) hx hb dX9_tell_16 rfl hl (by decide) rfl (fun ls hl => ?_)
    refine lv_aload_n hx hb dX9_tell_17 rfl (lv_at hl 1 rfl) ?_
    refine va_get (D := D) (ci := 9) (v := .ref kd) (C := RX9) (T := TX9) (N := 31) hx hb hts (fun _ h9 => List.mem_cons_of_mem _ (List.mem_append_right _ h9)) hown hK hP 0 rfl rfl 6 (by decide) (hts (.fieldLink RX9 19 "FontRunsModel" "kind" "[I") mw_X9_tell_1) (fun _ h9 => h9) rfl dX9_tell_18 ?_
    refine lv_iload_n hx hb dX9_tell_21 rfl (lv_at hl 2 rfl) ?_
    refine kz_iald hx hb hK hP 1 0 rfl rfl (by omega) dX9_tell_22 (fun z_3 rz_3 ez_3 => ?_)
    rcases (show z_3 = 1 ∨ z_3 = 2 ∨ (¬ z_3 = 1 ∧ ¬ z_3 = 2) from by omega) with c_4 | c_4 | c_4
    · refine kz_look (tgt := 48) (off := 25) hx hb dX9_tell_23 (by decide) (by omega) (by show Op.lookupswitch.offset [(1, 25), (2, 40)] 67 z_3 = 25; rw [Op.lookupswitch.offset_cons, Op.lookupswitch.offset_cons, Op.lookupswitch.offset_nil]; (repeat' split) <;> omega) (by decide) ?_
      refine lv_aload_n hx hb dX9_tell_48 rfl (lv_at hl 1 rfl) ?_
      refine lv_iconst (v := zI 2) hx hb dX9_tell_49 rfl ?_
      have hFc := va_free (wc := [(h0, .inr (9, [.int (zI fa), .int (zI tc), .ref so, .ref sl, .ref ce, .int (zI fn), .ref kd, .ref wd, .ref hs, .ref pf, .ref lt, .int (zI mn), .ref wg, .int (zI ta), .long ck, .int (zI at9), .int (zI rfn), .ref rk, .ref rw, .ref rh, .int (zI cl), .ref sa, .ref fi, .int (zI bo), .ref ch, .ref cn, .int (zI ad), .int (zI ru), .ref kp, .int (zI dn), .ref rfa]))]) hD hS hA [0] ax_X9_tell_0
      refine va_callv (va_runV (As := [.int (zI 2)]) (rest := []) ⟨hx, hb, hml, hown, hts⟩ (c_X9_begins l D s.heap.size (x := 2) (h0 := h0) (fa := fa) (tc := tc) (so := so) (sl := sl) (ce := ce) (fn := fn) (kd := kd) (wd := wd) (hs := hs) (pf := pf) (lt := lt) (mn := mn) (wg := wg) (ta := ta) (ck := ck) (at9 := at9) (rfn := rfn) (rk := rk) (rw := rw) (rh := rh) (cl := cl) (sa := sa) (fi := fi) (bo := bo) (ch := ch) (cn := cn) (ad := ad) (ru := ru) (kp := kp) (dn := dn) (rfa := rfa) (by omega) q1) (cwV 1 hts gX9_tell_X9_begins rfl rfl rfl (by decide +kernel) ⟨Nat.le_of_ble_eq_true rfl, Nat.le_of_ble_eq_true rfl⟩) (kPreV hP (kD0 hD) hK hN [0] [] ax_X9_tell_0 rfl (by decide +kernel) 0 9 rfl rfl) rfl rfl hl.1 rfl (lv_room (Nat.le_of_ble_eq_true rfl)) dX9_tell_50 ⟨Nat.le_of_ble_eq_true rfl, Nat.le_of_ble_eq_true rfl⟩) hS (fun q _ h => hFc q h) hFc (fun u t H1 locs ht hvm hw hB hz1 hk1 hS => ?_)
      refine Exists.elim hB (fun u_tc_5 hB1 => ?_)
      have h_6 := hB1.1
      have hP1 := hB1.2.1
      have hD1 := hB1.2.2
      clear hB hB1
      rw [ht] at hP1
      obtain ⟨hP, hD⟩ := va_join (wr := [(kd, .inl (c_kd, 4, .inl f_kd)), (wd, .inl (c_wd, 4, .inl f_wd))]) (w1 := [(h0, .inr (9, [.int (zI fa), .int (zI u_tc_5), .ref so, .ref sl, .ref ce, .int (zI fn), .ref kd, .ref wd, .ref hs, .ref pf, .ref lt, .int (zI mn), .ref wg, .int (zI ta), .long ck, .int (zI at9), .int (zI rfn), .ref rk, .ref rw, .ref rh, .int (zI cl), .ref sa, .ref fi, .int (zI bo), .ref ch, .ref cn, .int (zI ad), .int (zI ru), .ref kp, .int (zI dn), .ref rfa]))]) hP hD [0] [1, 2] ax_X9_tell_0 ax_X9_tell_1 (by decide +kernel) (by decide +kernel) hk1 hFc hP1 hD1
      have hP := ax_X9_tell_2 hP
      have hD := ax_X9_tell_3 hD
      generalize H1 = H at hP hS ⊢
      have hP : va_P D vwCl [(kd, .inl (c_kd, 4, .inl f_kd)), (wd, .inl (c_wd, 4, .inl f_wd)), (h0, .inr (9, [.int (zI fa), .int (zI u_tc_5), .ref so, .ref sl, .ref ce, .int (zI fn), .ref kd, .ref wd, .ref hs, .ref pf, .ref lt, .int (zI mn), .ref wg, .int (zI ta), .long ck, .int (zI at9), .int (zI rfn), .ref rk, .ref rw, .ref rh, .int (zI cl), .ref sa, .ref fi, .int (zI bo), .ref ch, .ref cn, .int (zI ad), .int (zI ru), .ref kp, .int (zI dn), .ref rfa]))] H := hP
      have hD : va_D A [(kd, .inl (c_kd, 4, .inl f_kd)), (wd, .inl (c_wd, 4, .inl f_wd)), (h0, .inr (9, [.int (zI fa), .int (zI u_tc_5), .ref so, .ref sl, .ref ce, .int (zI fn), .ref kd, .ref wd, .ref hs, .ref pf, .ref lt, .int (zI mn), .ref wg, .int (zI ta), .long ck, .int (zI at9), .int (zI rfn), .ref rk, .ref rw, .ref rh, .int (zI cl), .ref sa, .ref fi, .int (zI bo), .ref ch, .ref cn, .int (zI ad), .int (zI ru), .ref kp, .int (zI dn), .ref rfa]))] := hD
      refine lv_aload_n hx hb dX9_tell_53 rfl (lv_at hl 1 rfl) ?_
      refine lv_iconst (v := zI 1) hx hb dX9_tell_54 rfl ?_
      have hFc := va_free (wc := [(h0, .inr (9, [.int (zI fa), .int (zI u_tc_5), .ref so, .ref sl, .ref ce, .int (zI fn), .ref kd, .ref wd, .ref hs, .ref pf, .ref lt, .int (zI mn), .ref wg, .int (zI ta), .long ck, .int (zI at9), .int (zI rfn), .ref rk, .ref rw, .ref rh, .int (zI cl), .ref sa, .ref fi, .int (zI bo), .ref ch, .ref cn, .int (zI ad), .int (zI ru), .ref kp, .int (zI dn), .ref rfa]))]) hD hS hA [2] ax_X9_tell_4
      refine va_callv (va_runV (As := [.int (zI 1)]) (rest := []) ⟨hx, hb, hml, hown, hts⟩ (c_X9_begins l D H.size (x := 1) (h0 := h0) (fa := fa) (tc := u_tc_5) (so := so) (sl := sl) (ce := ce) (fn := fn) (kd := kd) (wd := wd) (hs := hs) (pf := pf) (lt := lt) (mn := mn) (wg := wg) (ta := ta) (ck := ck) (at9 := at9) (rfn := rfn) (rk := rk) (rw := rw) (rh := rh) (cl := cl) (sa := sa) (fi := fi) (bo := bo) (ch := ch) (cn := cn) (ad := ad) (ru := ru) (kp := kp) (dn := dn) (rfa := rfa) (by omega) h_6) (cwV 1 hts gX9_tell_X9_begins rfl rfl rfl (by decide +kernel) ⟨Nat.le_of_ble_eq_true rfl, Nat.le_of_ble_eq_true rfl⟩) (kPreV hP (kD0 hD) hK hN [2] [] ax_X9_tell_4 rfl (by decide +kernel) 2 9 rfl rfl) rfl rfl hl.1 rfl (lv_room (Nat.le_of_ble_eq_true rfl)) dX9_tell_55 ⟨Nat.le_of_ble_eq_true rfl, Nat.le_of_ble_eq_true rfl⟩) hS (fun q _ h => hFc q h) hFc (fun u t H1 locs ht hvm hw hB hz1 hk1 hS => ?_)
      refine Exists.elim hB (fun u_tc_7 hB1 => ?_)
      have h_8 := hB1.1
      have hP1 := hB1.2.1
      have hD1 := hB1.2.2
      clear hB hB1
      rw [ht] at hP1
      obtain ⟨hP, hD⟩ := va_join (wr := [(kd, .inl (c_kd, 4, .inl f_kd)), (wd, .inl (c_wd, 4, .inl f_wd))]) (w1 := [(h0, .inr (9, [.int (zI fa), .int (zI u_tc_7), .ref so, .ref sl, .ref ce, .int (zI fn), .ref kd, .ref wd, .ref hs, .ref pf, .ref lt, .int (zI mn), .ref wg, .int (zI ta), .long ck, .int (zI at9), .int (zI rfn), .ref rk, .ref rw, .ref rh, .int (zI cl), .ref sa, .ref fi, .int (zI bo), .ref ch, .ref cn, .int (zI ad), .int (zI ru), .ref kp, .int (zI dn), .ref rfa]))]) hP hD [2] [0, 1] ax_X9_tell_4 ax_X9_tell_5 (by decide +kernel) (by decide +kernel) hk1 hFc hP1 hD1
      have hP := ax_X9_tell_2 hP
      have hD := ax_X9_tell_3 hD
      generalize H1 = H at hP hS ⊢
      have hP : va_P D vwCl [(kd, .inl (c_kd, 4, .inl f_kd)), (wd, .inl (c_wd, 4, .inl f_wd)), (h0, .inr (9, [.int (zI fa), .int (zI u_tc_7), .ref so, .ref sl, .ref ce, .int (zI fn), .ref kd, .ref wd, .ref hs, .ref pf, .ref lt, .int (zI mn), .ref wg, .int (zI ta), .long ck, .int (zI at9), .int (zI rfn), .ref rk, .ref rw, .ref rh, .int (zI cl), .ref sa, .ref fi, .int (zI bo), .ref ch, .ref cn, .int (zI ad), .int (zI ru), .ref kp, .int (zI dn), .ref rfa]))] H := hP
      have hD : va_D A [(kd, .inl (c_kd, 4, .inl f_kd)), (wd, .inl (c_wd, 4, .inl f_wd)), (h0, .inr (9, [.int (zI fa), .int (zI u_tc_7), .ref so, .ref sl, .ref ce, .int (zI fn), .ref kd, .ref wd, .ref hs, .ref pf, .ref lt, .int (zI mn), .ref wg, .int (zI ta), .long ck, .int (zI at9), .int (zI rfn), .ref rk, .ref rw, .ref rh, .int (zI cl), .ref sa, .ref fi, .int (zI bo), .ref ch, .ref cn, .int (zI ad), .int (zI ru), .ref kp, .int (zI dn), .ref rfa]))] := hD
      refine lv_iload_n hx hb dX9_tell_58 rfl (lv_at hl 0 rfl) ?_
      refine lv_bipush (v := zI 100) hx hb dX9_tell_59 (by decide) ?_
      refine kz_iadd hx hb dX9_tell_61 ?_
      refine kz_any (fun z_9 rz_9 ez_9 => ?_)
      have hP9 := hP.sub (ws' := [(h0, .inr (9, [.int (zI fa), .int (zI u_tc_7), .ref so, .ref sl, .ref ce, .int (zI fn), .ref kd, .ref wd, .ref hs, .ref pf, .ref lt, .int (zI mn), .ref wg, .int (zI ta), .long ck, .int (zI at9), .int (zI rfn), .ref rk, .ref rw, .ref rh, .int (zI cl), .ref sa, .ref fi, .int (zI bo), .ref ch, .ref cn, .int (zI ad), .int (zI ru), .ref kp, .int (zI dn), .ref rfa])), (kd, .inl (c_kd, 4, .inl f_kd)), (wd, .inl (c_wd, 4, .inl f_wd))]) [2, 0, 1] rfl
      have hD9 := hD.sub (ws' := [(h0, .inr (9, [.int (zI fa), .int (zI u_tc_7), .ref so, .ref sl, .ref ce, .int (zI fn), .ref kd, .ref wd, .ref hs, .ref pf, .ref lt, .int (zI mn), .ref wg, .int (zI ta), .long ck, .int (zI at9), .int (zI rfn), .ref rk, .ref rw, .ref rh, .int (zI cl), .ref sa, .ref fi, .int (zI bo), .ref ch, .ref cn, .int (zI ad), .int (zI ru), .ref kp, .int (zI dn), .ref rfa])), (kd, .inl (c_kd, 4, .inl f_kd)), (wd, .inl (c_wd, 4, .inl f_wd))]) [2, 0, 1] (by decide +kernel) rfl
      exact W.iret (v := (zI z_9)) hx hb hr (fun t ht hW => kQS_of (by omega) ⟨u_tc_7, h_8, by rw [ht]; exact hP9, hD9⟩ (hS.F ht)) hS.2.2 dX9_tell_62
    · refine kz_look (tgt := 63) (off := 40) hx hb dX9_tell_23 (by decide) (by omega) (by show Op.lookupswitch.offset [(1, 25), (2, 40)] 67 z_3 = 40; rw [Op.lookupswitch.offset_cons, Op.lookupswitch.offset_cons, Op.lookupswitch.offset_nil]; (repeat' split) <;> omega) (by decide) ?_
      refine lv_aload_n hx hb dX9_tell_63 rfl (lv_at hl 1 rfl) ?_
      refine lv_iconst (v := zI 3) hx hb dX9_tell_64 rfl ?_
      have hFc := va_free (wc := [(h0, .inr (9, [.int (zI fa), .int (zI tc), .ref so, .ref sl, .ref ce, .int (zI fn), .ref kd, .ref wd, .ref hs, .ref pf, .ref lt, .int (zI mn), .ref wg, .int (zI ta), .long ck, .int (zI at9), .int (zI rfn), .ref rk, .ref rw, .ref rh, .int (zI cl), .ref sa, .ref fi, .int (zI bo), .ref ch, .ref cn, .int (zI ad), .int (zI ru), .ref kp, .int (zI dn), .ref rfa]))]) hD hS hA [0] ax_X9_tell_0
      refine va_callv (va_runV (As := [.int (zI 3)]) (rest := []) ⟨hx, hb, hml, hown, hts⟩ (c_X9_begins l D s.heap.size (x := 3) (h0 := h0) (fa := fa) (tc := tc) (so := so) (sl := sl) (ce := ce) (fn := fn) (kd := kd) (wd := wd) (hs := hs) (pf := pf) (lt := lt) (mn := mn) (wg := wg) (ta := ta) (ck := ck) (at9 := at9) (rfn := rfn) (rk := rk) (rw := rw) (rh := rh) (cl := cl) (sa := sa) (fi := fi) (bo := bo) (ch := ch) (cn := cn) (ad := ad) (ru := ru) (kp := kp) (dn := dn) (rfa := rfa) (by omega) q1) (cwV 1 hts gX9_tell_X9_begins rfl rfl rfl (by decide +kernel) ⟨Nat.le_of_ble_eq_true rfl, Nat.le_of_ble_eq_true rfl⟩) (kPreV hP (kD0 hD) hK hN [0] [] ax_X9_tell_0 rfl (by decide +kernel) 0 9 rfl rfl) rfl rfl hl.1 rfl (lv_room (Nat.le_of_ble_eq_true rfl)) dX9_tell_65 ⟨Nat.le_of_ble_eq_true rfl, Nat.le_of_ble_eq_true rfl⟩) hS (fun q _ h => hFc q h) hFc (fun u t H1 locs ht hvm hw hB hz1 hk1 hS => ?_)
      refine Exists.elim hB (fun u_tc_10 hB1 => ?_)
      have h_11 := hB1.1
      have hP1 := hB1.2.1
      have hD1 := hB1.2.2
      clear hB hB1
      rw [ht] at hP1
      obtain ⟨hP, hD⟩ := va_join (wr := [(kd, .inl (c_kd, 4, .inl f_kd)), (wd, .inl (c_wd, 4, .inl f_wd))]) (w1 := [(h0, .inr (9, [.int (zI fa), .int (zI u_tc_10), .ref so, .ref sl, .ref ce, .int (zI fn), .ref kd, .ref wd, .ref hs, .ref pf, .ref lt, .int (zI mn), .ref wg, .int (zI ta), .long ck, .int (zI at9), .int (zI rfn), .ref rk, .ref rw, .ref rh, .int (zI cl), .ref sa, .ref fi, .int (zI bo), .ref ch, .ref cn, .int (zI ad), .int (zI ru), .ref kp, .int (zI dn), .ref rfa]))]) hP hD [0] [1, 2] ax_X9_tell_0 ax_X9_tell_1 (by decide +kernel) (by decide +kernel) hk1 hFc hP1 hD1
      have hP := ax_X9_tell_2 hP
      have hD := ax_X9_tell_3 hD
      generalize H1 = H at hP hS ⊢
      have hP : va_P D vwCl [(kd, .inl (c_kd, 4, .inl f_kd)), (wd, .inl (c_wd, 4, .inl f_wd)), (h0, .inr (9, [.int (zI fa), .int (zI u_tc_10), .ref so, .ref sl, .ref ce, .int (zI fn), .ref kd, .ref wd, .ref hs, .ref pf, .ref lt, .int (zI mn), .ref wg, .int (zI ta), .long ck, .int (zI at9), .int (zI rfn), .ref rk, .ref rw, .ref rh, .int (zI cl), .ref sa, .ref fi, .int (zI bo), .ref ch, .ref cn, .int (zI ad), .int (zI ru), .ref kp, .int (zI dn), .ref rfa]))] H := hP
      have hD : va_D A [(kd, .inl (c_kd, 4, .inl f_kd)), (wd, .inl (c_wd, 4, .inl f_wd)), (h0, .inr (9, [.int (zI fa), .int (zI u_tc_10), .ref so, .ref sl, .ref ce, .int (zI fn), .ref kd, .ref wd, .ref hs, .ref pf, .ref lt, .int (zI mn), .ref wg, .int (zI ta), .long ck, .int (zI at9), .int (zI rfn), .ref rk, .ref rw, .ref rh, .int (zI cl), .ref sa, .ref fi, .int (zI bo), .ref ch, .ref cn, .int (zI ad), .int (zI ru), .ref kp, .int (zI dn), .ref rfa]))] := hD
      refine lv_aload_n hx hb dX9_tell_68 rfl (lv_at hl 1 rfl) ?_
      refine lv_iconst (v := zI 2) hx hb dX9_tell_69 rfl ?_
      have hFc := va_free (wc := [(h0, .inr (9, [.int (zI fa), .int (zI u_tc_10), .ref so, .ref sl, .ref ce, .int (zI fn), .ref kd, .ref wd, .ref hs, .ref pf, .ref lt, .int (zI mn), .ref wg, .int (zI ta), .long ck, .int (zI at9), .int (zI rfn), .ref rk, .ref rw, .ref rh, .int (zI cl), .ref sa, .ref fi, .int (zI bo), .ref ch, .ref cn, .int (zI ad), .int (zI ru), .ref kp, .int (zI dn), .ref rfa]))]) hD hS hA [2] ax_X9_tell_4
      refine va_callv (va_runV (As := [.int (zI 2)]) (rest := []) ⟨hx, hb, hml, hown, hts⟩ (c_X9_begins l D H.size (x := 2) (h0 := h0) (fa := fa) (tc := u_tc_10) (so := so) (sl := sl) (ce := ce) (fn := fn) (kd := kd) (wd := wd) (hs := hs) (pf := pf) (lt := lt) (mn := mn) (wg := wg) (ta := ta) (ck := ck) (at9 := at9) (rfn := rfn) (rk := rk) (rw := rw) (rh := rh) (cl := cl) (sa := sa) (fi := fi) (bo := bo) (ch := ch) (cn := cn) (ad := ad) (ru := ru) (kp := kp) (dn := dn) (rfa := rfa) (by omega) h_11) (cwV 1 hts gX9_tell_X9_begins rfl rfl rfl (by decide +kernel) ⟨Nat.le_of_ble_eq_true rfl, Nat.le_of_ble_eq_true rfl⟩) (kPreV hP (kD0 hD) hK hN [2] [] ax_X9_tell_4 rfl (by decide +kernel) 2 9 rfl rfl) rfl rfl hl.1 rfl (lv_room (Nat.le_of_ble_eq_true rfl)) dX9_tell_70 ⟨Nat.le_of_ble_eq_true rfl, Nat.le_of_ble_eq_true rfl⟩) hS (fun q _ h => hFc q h) hFc (fun u t H1 locs ht hvm hw hB hz1 hk1 hS => ?_)
      refine Exists.elim hB (fun u_tc_12 hB1 => ?_)
      have h_13 := hB1.1
      have hP1 := hB1.2.1
      have hD1 := hB1.2.2
      clear hB hB1
      rw [ht] at hP1
      obtain ⟨hP, hD⟩ := va_join (wr := [(kd, .inl (c_kd, 4, .inl f_kd)), (wd, .inl (c_wd, 4, .inl f_wd))]) (w1 := [(h0, .inr (9, [.int (zI fa), .int (zI u_tc_12), .ref so, .ref sl, .ref ce, .int (zI fn), .ref kd, .ref wd, .ref hs, .ref pf, .ref lt, .int (zI mn), .ref wg, .int (zI ta), .long ck, .int (zI at9), .int (zI rfn), .ref rk, .ref rw, .ref rh, .int (zI cl), .ref sa, .ref fi, .int (zI bo), .ref ch, .ref cn, .int (zI ad), .int (zI ru), .ref kp, .int (zI dn), .ref rfa]))]) hP hD [2] [0, 1] ax_X9_tell_4 ax_X9_tell_5 (by decide +kernel) (by decide +kernel) hk1 hFc hP1 hD1
      have hP := ax_X9_tell_2 hP
      have hD := ax_X9_tell_3 hD
      generalize H1 = H at hP hS ⊢
      have hP : va_P D vwCl [(kd, .inl (c_kd, 4, .inl f_kd)), (wd, .inl (c_wd, 4, .inl f_wd)), (h0, .inr (9, [.int (zI fa), .int (zI u_tc_12), .ref so, .ref sl, .ref ce, .int (zI fn), .ref kd, .ref wd, .ref hs, .ref pf, .ref lt, .int (zI mn), .ref wg, .int (zI ta), .long ck, .int (zI at9), .int (zI rfn), .ref rk, .ref rw, .ref rh, .int (zI cl), .ref sa, .ref fi, .int (zI bo), .ref ch, .ref cn, .int (zI ad), .int (zI ru), .ref kp, .int (zI dn), .ref rfa]))] H := hP
      have hD : va_D A [(kd, .inl (c_kd, 4, .inl f_kd)), (wd, .inl (c_wd, 4, .inl f_wd)), (h0, .inr (9, [.int (zI fa), .int (zI u_tc_12), .ref so, .ref sl, .ref ce, .int (zI fn), .ref kd, .ref wd, .ref hs, .ref pf, .ref lt, .int (zI mn), .ref wg, .int (zI ta), .long ck, .int (zI at9), .int (zI rfn), .ref rk, .ref rw, .ref rh, .int (zI cl), .ref sa, .ref fi, .int (zI bo), .ref ch, .ref cn, .int (zI ad), .int (zI ru), .ref kp, .int (zI dn), .ref rfa]))] := hD
      refine lv_aload_n hx hb dX9_tell_73 rfl (lv_at hl 1 rfl) ?_
      refine lv_iconst (v := zI 1) hx hb dX9_tell_74 rfl ?_
      have hFc := va_free (wc := [(h0, .inr (9, [.int (zI fa), .int (zI u_tc_12), .ref so, .ref sl, .ref ce, .int (zI fn), .ref kd, .ref wd, .ref hs, .ref pf, .ref lt, .int (zI mn), .ref wg, .int (zI ta), .long ck, .int (zI at9), .int (zI rfn), .ref rk, .ref rw, .ref rh, .int (zI cl), .ref sa, .ref fi, .int (zI bo), .ref ch, .ref cn, .int (zI ad), .int (zI ru), .ref kp, .int (zI dn), .ref rfa]))]) hD hS hA [2] ax_X9_tell_4
      refine va_callv (va_runV (As := [.int (zI 1)]) (rest := []) ⟨hx, hb, hml, hown, hts⟩ (c_X9_begins l D H.size (x := 1) (h0 := h0) (fa := fa) (tc := u_tc_12) (so := so) (sl := sl) (ce := ce) (fn := fn) (kd := kd) (wd := wd) (hs := hs) (pf := pf) (lt := lt) (mn := mn) (wg := wg) (ta := ta) (ck := ck) (at9 := at9) (rfn := rfn) (rk := rk) (rw := rw) (rh := rh) (cl := cl) (sa := sa) (fi := fi) (bo := bo) (ch := ch) (cn := cn) (ad := ad) (ru := ru) (kp := kp) (dn := dn) (rfa := rfa) (by omega) h_13) (cwV 1 hts gX9_tell_X9_begins rfl rfl rfl (by decide +kernel) ⟨Nat.le_of_ble_eq_true rfl, Nat.le_of_ble_eq_true rfl⟩) (kPreV hP (kD0 hD) hK hN [2] [] ax_X9_tell_4 rfl (by decide +kernel) 2 9 rfl rfl) rfl rfl hl.1 rfl (lv_room (Nat.le_of_ble_eq_true rfl)) dX9_tell_75 ⟨Nat.le_of_ble_eq_true rfl, Nat.le_of_ble_eq_true rfl⟩) hS (fun q _ h => hFc q h) hFc (fun u t H1 locs ht hvm hw hB hz1 hk1 hS => ?_)
      refine Exists.elim hB (fun u_tc_14 hB1 => ?_)
      have h_15 := hB1.1
      have hP1 := hB1.2.1
      have hD1 := hB1.2.2
      clear hB hB1
      rw [ht] at hP1
      obtain ⟨hP, hD⟩ := va_join (wr := [(kd, .inl (c_kd, 4, .inl f_kd)), (wd, .inl (c_wd, 4, .inl f_wd))]) (w1 := [(h0, .inr (9, [.int (zI fa), .int (zI u_tc_14), .ref so, .ref sl, .ref ce, .int (zI fn), .ref kd, .ref wd, .ref hs, .ref pf, .ref lt, .int (zI mn), .ref wg, .int (zI ta), .long ck, .int (zI at9), .int (zI rfn), .ref rk, .ref rw, .ref rh, .int (zI cl), .ref sa, .ref fi, .int (zI bo), .ref ch, .ref cn, .int (zI ad), .int (zI ru), .ref kp, .int (zI dn), .ref rfa]))]) hP hD [2] [0, 1] ax_X9_tell_4 ax_X9_tell_5 (by decide +kernel) (by decide +kernel) hk1 hFc hP1 hD1
      have hP := ax_X9_tell_2 hP
      have hD := ax_X9_tell_3 hD
      generalize H1 = H at hP hS ⊢
      have hP : va_P D vwCl [(kd, .inl (c_kd, 4, .inl f_kd)), (wd, .inl (c_wd, 4, .inl f_wd)), (h0, .inr (9, [.int (zI fa), .int (zI u_tc_14), .ref so, .ref sl, .ref ce, .int (zI fn), .ref kd, .ref wd, .ref hs, .ref pf, .ref lt, .int (zI mn), .ref wg, .int (zI ta), .long ck, .int (zI at9), .int (zI rfn), .ref rk, .ref rw, .ref rh, .int (zI cl), .ref sa, .ref fi, .int (zI bo), .ref ch, .ref cn, .int (zI ad), .int (zI ru), .ref kp, .int (zI dn), .ref rfa]))] H := hP
      have hD : va_D A [(kd, .inl (c_kd, 4, .inl f_kd)), (wd, .inl (c_wd, 4, .inl f_wd)), (h0, .inr (9, [.int (zI fa), .int (zI u_tc_14), .ref so, .ref sl, .ref ce, .int (zI fn), .ref kd, .ref wd, .ref hs, .ref pf, .ref lt, .int (zI mn), .ref wg, .int (zI ta), .long ck, .int (zI at9), .int (zI rfn), .ref rk, .ref rw, .ref rh, .int (zI cl), .ref sa, .ref fi, .int (zI bo), .ref ch, .ref cn, .int (zI ad), .int (zI ru), .ref kp, .int (zI dn), .ref rfa]))] := hD
      refine lv_aload_n hx hb dX9_tell_78 rfl (lv_at hl 1 rfl) ?_
      refine lv_iconst (v := zI 1) hx hb dX9_tell_79 rfl ?_
      have hFc := va_free (wc := [(h0, .inr (9, [.int (zI fa), .int (zI u_tc_14), .ref so, .ref sl, .ref ce, .int (zI fn), .ref kd, .ref wd, .ref hs, .ref pf, .ref lt, .int (zI mn), .ref wg, .int (zI ta), .long ck, .int (zI at9), .int (zI rfn), .ref rk, .ref rw, .ref rh, .int (zI cl), .ref sa, .ref fi, .int (zI bo), .ref ch, .ref cn, .int (zI ad), .int (zI ru), .ref kp, .int (zI dn), .ref rfa]))]) hD hS hA [2] ax_X9_tell_4
      refine va_callv (va_runV (As := [.int (zI 1)]) (rest := []) ⟨hx, hb, hml, hown, hts⟩ (c_X9_begins l D H.size (x := 1) (h0 := h0) (fa := fa) (tc := u_tc_14) (so := so) (sl := sl) (ce := ce) (fn := fn) (kd := kd) (wd := wd) (hs := hs) (pf := pf) (lt := lt) (mn := mn) (wg := wg) (ta := ta) (ck := ck) (at9 := at9) (rfn := rfn) (rk := rk) (rw := rw) (rh := rh) (cl := cl) (sa := sa) (fi := fi) (bo := bo) (ch := ch) (cn := cn) (ad := ad) (ru := ru) (kp := kp) (dn := dn) (rfa := rfa) (by omega) h_15) (cwV 1 hts gX9_tell_X9_begins rfl rfl rfl (by decide +kernel) ⟨Nat.le_of_ble_eq_true rfl, Nat.le_of_ble_eq_true rfl⟩) (kPreV hP (kD0 hD) hK hN [2] [] ax_X9_tell_4 rfl (by decide +kernel) 2 9 rfl rfl) rfl rfl hl.1 rfl (lv_room (Nat.le_of_ble_eq_true rfl)) dX9_tell_80 ⟨Nat.le_of_ble_eq_true rfl, Nat.le_of_ble_eq_true rfl⟩) hS (fun q _ h => hFc q h) hFc (fun u t H1 locs ht hvm hw hB hz1 hk1 hS => ?_)
      refine Exists.elim hB (fun u_tc_16 hB1 => ?_)
      have h_17 := hB1.1
      have hP1 := hB1.2.1
      have hD1 := hB1.2.2
      clear hB hB1
      rw [ht] at hP1
      obtain ⟨hP, hD⟩ := va_join (wr := [(kd, .inl (c_kd, 4, .inl f_kd)), (wd, .inl (c_wd, 4, .inl f_wd))]) (w1 := [(h0, .inr (9, [.int (zI fa), .int (zI u_tc_16), .ref so, .ref sl, .ref ce, .int (zI fn), .ref kd, .ref wd, .ref hs, .ref pf, .ref lt, .int (zI mn), .ref wg, .int (zI ta), .long ck, .int (zI at9), .int (zI rfn), .ref rk, .ref rw, .ref rh, .int (zI cl), .ref sa, .ref fi, .int (zI bo), .ref ch, .ref cn, .int (zI ad), .int (zI ru), .ref kp, .int (zI dn), .ref rfa]))]) hP hD [2] [0, 1] ax_X9_tell_4 ax_X9_tell_5 (by decide +kernel) (by decide +kernel) hk1 hFc hP1 hD1
      have hP := ax_X9_tell_2 hP
      have hD := ax_X9_tell_3 hD
      generalize H1 = H at hP hS ⊢
      have hP : va_P D vwCl [(kd, .inl (c_kd, 4, .inl f_kd)), (wd, .inl (c_wd, 4, .inl f_wd)), (h0, .inr (9, [.int (zI fa), .int (zI u_tc_16), .ref so, .ref sl, .ref ce, .int (zI fn), .ref kd, .ref wd, .ref hs, .ref pf, .ref lt, .int (zI mn), .ref wg, .int (zI ta), .long ck, .int (zI at9), .int (zI rfn), .ref rk, .ref rw, .ref rh, .int (zI cl), .ref sa, .ref fi, .int (zI bo), .ref ch, .ref cn, .int (zI ad), .int (zI ru), .ref kp, .int (zI dn), .ref rfa]))] H := hP
      have hD : va_D A [(kd, .inl (c_kd, 4, .inl f_kd)), (wd, .inl (c_wd, 4, .inl f_wd)), (h0, .inr (9, [.int (zI fa), .int (zI u_tc_16), .ref so, .ref sl, .ref ce, .int (zI fn), .ref kd, .ref wd, .ref hs, .ref pf, .ref lt, .int (zI mn), .ref wg, .int (zI ta), .long ck, .int (zI at9), .int (zI rfn), .ref rk, .ref rw, .ref rh, .int (zI cl), .ref sa, .ref fi, .int (zI bo), .ref ch, .ref cn, .int (zI ad), .int (zI ru), .ref kp, .int (zI dn), .ref rfa]))] := hD
      refine lv_iconst (v := zI 2) hx hb dX9_tell_83 rfl ?_
      refine lv_iload_n hx hb dX9_tell_84 rfl (lv_at hl 0 rfl) ?_
      refine kz_imul hx hb dX9_tell_85 ?_
      refine lv_bipush (v := zI 100) hx hb dX9_tell_86 (by decide) ?_
      refine kz_iadd hx hb dX9_tell_88 ?_
      refine kz_any (fun z_18 rz_18 ez_18 => ?_)
      have hP9 := hP.sub (ws' := [(h0, .inr (9, [.int (zI fa), .int (zI u_tc_16), .ref so, .ref sl, .ref ce, .int (zI fn), .ref kd, .ref wd, .ref hs, .ref pf, .ref lt, .int (zI mn), .ref wg, .int (zI ta), .long ck, .int (zI at9), .int (zI rfn), .ref rk, .ref rw, .ref rh, .int (zI cl), .ref sa, .ref fi, .int (zI bo), .ref ch, .ref cn, .int (zI ad), .int (zI ru), .ref kp, .int (zI dn), .ref rfa])), (kd, .inl (c_kd, 4, .inl f_kd)), (wd, .inl (c_wd, 4, .inl f_wd))]) [2, 0, 1] rfl
      have hD9 := hD.sub (ws' := [(h0, .inr (9, [.int (zI fa), .int (zI u_tc_16), .ref so, .ref sl, .ref ce, .int (zI fn), .ref kd, .ref wd, .ref hs, .ref pf, .ref lt, .int (zI mn), .ref wg, .int (zI ta), .long ck, .int (zI at9), .int (zI rfn), .ref rk, .ref rw, .ref rh, .int (zI cl), .ref sa, .ref fi, .int (zI bo), .ref ch, .ref cn, .int (zI ad), .int (zI ru), .ref kp, .int (zI dn), .ref rfa])), (kd, .inl (c_kd, 4, .inl f_kd)), (wd, .inl (c_wd, 4, .inl f_wd))]) [2, 0, 1] (by decide +kernel) rfl
      exact W.iret (v := (zI z_18)) hx hb hr (fun t ht hW => kQS_of (by omega) ⟨u_tc_16, h_17, by rw [ht]; exact hP9, hD9⟩ (hS.F ht)) hS.2.2 dX9_tell_89
    · refine kz_look (tgt := 90) (off := 67) hx hb dX9_tell_23 (by decide) (by omega) (by show Op.lookupswitch.offset [(1, 25), (2, 40)] 67 z_3 = 67; rw [Op.lookupswitch.offset_cons, Op.lookupswitch.offset_cons, Op.lookupswitch.offset_nil]; (repeat' split) <;> omega) (by decide) ?_
      refine lv_aload_n hx hb dX9_tell_90 rfl (lv_at hl 1 rfl) ?_
      refine lv_iconst (v := zI 1) hx hb dX9_tell_91 rfl ?_
      have hFc := va_free (wc := [(h0, .inr (9, [.int (zI fa), .int (zI tc), .ref so, .ref sl, .ref ce, .int (zI fn), .ref kd, .ref wd, .ref hs, .ref pf, .ref lt, .int (zI mn), .ref wg, .int (zI ta), .long ck, .int (zI at9), .int (zI rfn), .ref rk, .ref rw, .ref rh, .int (zI cl), .ref sa, .ref fi, .int (zI bo), .ref ch, .ref cn, .int (zI ad), .int (zI ru), .ref kp, .int (zI dn), .ref rfa]))]) hD hS hA [0] ax_X9_tell_0
      refine va_callv (va_runV (As := [.int (zI 1)]) (rest := []) ⟨hx, hb, hml, hown, hts⟩ (c_X9_begins l D s.heap.size (x := 1) (h0 := h0) (fa := fa) (tc := tc) (so := so) (sl := sl) (ce := ce) (fn := fn) (kd := kd) (wd := wd) (hs := hs) (pf := pf) (lt := lt) (mn := mn) (wg := wg) (ta := ta) (ck := ck) (at9 := at9) (rfn := rfn) (rk := rk) (rw := rw) (rh := rh) (cl := cl) (sa := sa) (fi := fi) (bo := bo) (ch := ch) (cn := cn) (ad := ad) (ru := ru) (kp := kp) (dn := dn) (rfa := rfa) (by omega) q1) (cwV 1 hts gX9_tell_X9_begins rfl rfl rfl (by decide +kernel) ⟨Nat.le_of_ble_eq_true rfl, Nat.le_of_ble_eq_true rfl⟩) (kPreV hP (kD0 hD) hK hN [0] [] ax_X9_tell_0 rfl (by decide +kernel) 0 9 rfl rfl) rfl rfl hl.1 rfl (lv_room (Nat.le_of_ble_eq_true rfl)) dX9_tell_92 ⟨Nat.le_of_ble_eq_true rfl, Nat.le_of_ble_eq_true rfl⟩) hS (fun q _ h => hFc q h) hFc (fun u t H1 locs ht hvm hw hB hz1 hk1 hS => ?_)
      refine Exists.elim hB (fun u_tc_19 hB1 => ?_)
      have h_20 := hB1.1
      have hP1 := hB1.2.1
      have hD1 := hB1.2.2
      clear hB hB1
      rw [ht] at hP1
      obtain ⟨hP, hD⟩ := va_join (wr := [(kd, .inl (c_kd, 4, .inl f_kd)), (wd, .inl (c_wd, 4, .inl f_wd))]) (w1 := [(h0, .inr (9, [.int (zI fa), .int (zI u_tc_19), .ref so, .ref sl, .ref ce, .int (zI fn), .ref kd, .ref wd, .ref hs, .ref pf, .ref lt, .int (zI mn), .ref wg, .int (zI ta), .long ck, .int (zI at9), .int (zI rfn), .ref rk, .ref rw, .ref rh, .int (zI cl), .ref sa, .ref fi, .int (zI bo), .ref ch, .ref cn, .int (zI ad), .int (zI ru), .ref kp, .int (zI dn), .ref rfa]))]) hP hD [0] [1, 2] ax_X9_tell_0 ax_X9_tell_1 (by decide +kernel) (by decide +kernel) hk1 hFc hP1 hD1
      have hP := ax_X9_tell_2 hP
      have hD := ax_X9_tell_3 hD
      generalize H1 = H at hP hS ⊢
      have hP : va_P D vwCl [(kd, .inl (c_kd, 4, .inl f_kd)), (wd, .inl (c_wd, 4, .inl f_wd)), (h0, .inr (9, [.int (zI fa), .int (zI u_tc_19), .ref so, .ref sl, .ref ce, .int (zI fn), .ref kd, .ref wd, .ref hs, .ref pf, .ref lt, .int (zI mn), .ref wg, .int (zI ta), .long ck, .int (zI at9), .int (zI rfn), .ref rk, .ref rw, .ref rh, .int (zI cl), .ref sa, .ref fi, .int (zI bo), .ref ch, .ref cn, .int (zI ad), .int (zI ru), .ref kp, .int (zI dn), .ref rfa]))] H := hP
      have hD : va_D A [(kd, .inl (c_kd, 4, .inl f_kd)), (wd, .inl (c_wd, 4, .inl f_wd)), (h0, .inr (9, [.int (zI fa), .int (zI u_tc_19), .ref so, .ref sl, .ref ce, .int (zI fn), .ref kd, .ref wd, .ref hs, .ref pf, .ref lt, .int (zI mn), .ref wg, .int (zI ta), .long ck, .int (zI at9), .int (zI rfn), .ref rk, .ref rw, .ref rh, .int (zI cl), .ref sa, .ref fi, .int (zI bo), .ref ch, .ref cn, .int (zI ad), .int (zI ru), .ref kp, .int (zI dn), .ref rfa]))] := hD
      refine lv_iload_n hx hb dX9_tell_95 rfl (lv_at hl 0 rfl) ?_
      refine kz_any (fun z_21 rz_21 ez_21 => ?_)
      have hP9 := hP.sub (ws' := [(h0, .inr (9, [.int (zI fa), .int (zI u_tc_19), .ref so, .ref sl, .ref ce, .int (zI fn), .ref kd, .ref wd, .ref hs, .ref pf, .ref lt, .int (zI mn), .ref wg, .int (zI ta), .long ck, .int (zI at9), .int (zI rfn), .ref rk, .ref rw, .ref rh, .int (zI cl), .ref sa, .ref fi, .int (zI bo), .ref ch, .ref cn, .int (zI ad), .int (zI ru), .ref kp, .int (zI dn), .ref rfa])), (kd, .inl (c_kd, 4, .inl f_kd)), (wd, .inl (c_wd, 4, .inl f_wd))]) [2, 0, 1] rfl
      have hD9 := hD.sub (ws' := [(h0, .inr (9, [.int (zI fa), .int (zI u_tc_19), .ref so, .ref sl, .ref ce, .int (zI fn), .ref kd, .ref wd, .ref hs, .ref pf, .ref lt, .int (zI mn), .ref wg, .int (zI ta), .long ck, .int (zI at9), .int (zI rfn), .ref rk, .ref rw, .ref rh, .int (zI cl), .ref sa, .ref fi, .int (zI bo), .ref ch, .ref cn, .int (zI ad), .int (zI ru), .ref kp, .int (zI dn), .ref rfa])), (kd, .inl (c_kd, 4, .inl f_kd)), (wd, .inl (c_wd, 4, .inl f_wd))]) [2, 0, 1] (by decide +kernel) rfl
      exact W.iret (v := (zI z_21)) hx hb hr (fun t ht hW => kQS_of (by omega) ⟨u_tc_19, h_20, by rw [ht]; exact hP9, hD9⟩ (hS.F ht)) hS.2.2 dX9_tell_96
  · have c_1 : ¬ (0 ≤ f ∧ f < fn) := b01f c_1
    refine lv_iconst (v := zI (-1)) hx hb dX9_tell_8 rfl ?_
    have hP9 := hP.sub (ws' := [(h0, .inr (9, [.int (zI fa), .int (zI tc), .ref so, .ref sl, .ref ce, .int (zI fn), .ref kd, .ref wd, .ref hs, .ref pf, .ref lt, .int (zI mn), .ref wg, .int (zI ta), .long ck, .int (zI at9), .int (zI rfn), .ref rk, .ref rw, .ref rh, .int (zI cl), .ref sa, .ref fi, .int (zI bo), .ref ch, .ref cn, .int (zI ad), .int (zI ru), .ref kp, .int (zI dn), .ref rfa])), (kd, .inl (c_kd, 4, .inl f_kd)), (wd, .inl (c_wd, 4, .inl f_wd))]) [0, 1, 2] rfl
    have hD9 := hD.sub (ws' := [(h0, .inr (9, [.int (zI fa), .int (zI tc), .ref so, .ref sl, .ref ce, .int (zI fn), .ref kd, .ref wd, .ref hs, .ref pf, .ref lt, .int (zI mn), .ref wg, .int (zI ta), .long ck, .int (zI at9), .int (zI rfn), .ref rk, .ref rw, .ref rh, .int (zI cl), .ref sa, .ref fi, .int (zI bo), .ref ch, .ref cn, .int (zI ad), .int (zI ru), .ref kp, .int (zI dn), .ref rfa])), (kd, .inl (c_kd, 4, .inl f_kd)), (wd, .inl (c_wd, 4, .inl f_wd))]) [0, 1, 2] (by decide +kernel) rfl
    exact W.iret (v := (zI (-1))) hx hb hr (fun t ht hW => kQS_of (by omega) ⟨tc, q1, by rw [ht]; exact hP9, hD9⟩ (hS.F ht)) hS.2.2 dX9_tell_9
theorem dX9_sample_0 : decode cX9_sample 0 = .ok (.aload_n 0, 1) := by decide +kernel
theorem dX9_sample_1 : decode cX9_sample 1 = .ok (.iload_n 1, 1) := by decide +kernel
theorem dX9_sample_2 : decode cX9_sample 2 = .ok (.invokevirtual 120, 3) := by decide +kernel
theorem dX9_sample_5 : decode cX9_sample 5 = .ok (.ifCond .ne 5, 3) := by decide +kernel
theorem dX9_sample_8 : decode cX9_sample 8 = .ok (.iconst (-1), 1) := by decide +kernel
theorem dX9_sample_9 : decode cX9_sample 9 = .ok (.ireturn, 1) := by decide +kernel
theorem dX9_sample_10 : decode cX9_sample 10 = .ok (.aload_n 0, 1) := by decide +kernel
theorem dX9_sample_11 : decode cX9_sample 11 = .ok (.aload_n 0, 1) := by decide +kernel
theorem dX9_sample_12 : decode cX9_sample 12 = .ok (.getfield 19, 3) := by decide +kernel
theorem dX9_sample_15 : decode cX9_sample 15 = .ok (.iload_n 1, 1) := by decide +kernel
theorem dX9_sample_16 : decode cX9_sample 16 = .ok (.iaload, 1) := by decide +kernel
theorem dX9_sample_17 : decode cX9_sample 17 = .ok (.iconst 2, 1) := by decide +kernel
theorem dX9_sample_18 : decode cX9_sample 18 = .ok (.if_icmp .ne 7, 3) := by decide +kernel
theorem dX9_sample_21 : decode cX9_sample 21 = .ok (.iconst 5, 1) := by decide +kernel
theorem dX9_sample_22 : decode cX9_sample 22 = .ok (.goto 4, 3) := by decide +kernel
theorem dX9_sample_25 : decode cX9_sample 25 = .ok (.iconst 4, 1) := by decide +kernel
theorem dX9_sample_26 : decode cX9_sample 26 = .ok (.invokevirtual 213, 3) := by decide +kernel
theorem dX9_sample_29 : decode cX9_sample 29 = .ok (.aload_n 0, 1) := by decide +kernel
theorem dX9_sample_30 : decode cX9_sample 30 = .ok (.getfield 19, 3) := by decide +kernel
theorem dX9_sample_33 : decode cX9_sample 33 = .ok (.iload_n 1, 1) := by decide +kernel
theorem dX9_sample_34 : decode cX9_sample 34 = .ok (.iaload, 1) := by decide +kernel
theorem dX9_sample_35 : decode cX9_sample 35 = .ok (.iconst 2, 1) := by decide +kernel
theorem dX9_sample_36 : decode cX9_sample 36 = .ok (.if_icmp .ne 8, 3) := by decide +kernel
theorem dX9_sample_39 : decode cX9_sample 39 = .ok (.bipush 50, 2) := by decide +kernel
theorem dX9_sample_41 : decode cX9_sample 41 = .ok (.goto 12, 3) := by decide +kernel
theorem dX9_sample_44 : decode cX9_sample 44 = .ok (.aload_n 0, 1) := by decide +kernel
theorem dX9_sample_45 : decode cX9_sample 45 = .ok (.getfield 25, 3) := by decide +kernel
theorem dX9_sample_48 : decode cX9_sample 48 = .ok (.iload_n 1, 1) := by decide +kernel
theorem dX9_sample_49 : decode cX9_sample 49 = .ok (.iaload, 1) := by decide +kernel
theorem dX9_sample_50 : decode cX9_sample 50 = .ok (.invokestatic 114, 3) := by decide +kernel
theorem dX9_sample_53 : decode cX9_sample 53 = .ok (.ireturn, 1) := by decide +kernel
set_option maxRecDepth 20000 in
theorem ggX9_sample_X9_begins : GoodIn wsX9_sample wsX9_begins := goodIn_r _ [12, 13, 17, 18, 19, 20, 21, 22, 23, 24, 25, 26, 27, 28, 29, 30, 31, 32, 33, 34, 35, 36, 37, 38, 39, 40, 41, 42, 43, 44, 45, 46, 47] (by decide +kernel) (by decide +kernel)
set_option maxRecDepth 20000 in
theorem gX9_sample_X9_begins : GoodIn wsX9_sample (wsV RX9 213 RX9 yX9_begins wsX9_begins) := goodIn_app (goodIn_of _ (by decide +kernel)) ggX9_sample_X9_begins
set_option maxRecDepth 20000 in
theorem ggX9_sample_X9_isFont : GoodIn wsX9_sample wsX9_isFont := goodIn_r _ [7, 8, 17, 18, 19, 20, 21, 22, 23, 24, 25, 26, 27, 28, 29, 30, 31, 32, 33, 34, 35, 36, 37, 38, 39, 40, 41, 42, 43, 44, 45, 46, 47] (by decide +kernel) (by decide +kernel)
set_option maxRecDepth 20000 in
theorem gX9_sample_X9_isFont : GoodIn wsX9_sample (wsV RX9 120 RX9 yX9_isFont wsX9_isFont) := goodIn_app (goodIn_of _ (by decide +kernel)) ggX9_sample_X9_isFont
set_option maxRecDepth 20000 in
theorem ggX9_sample_X9_size : GoodIn wsX9_sample wsX9_size := goodIn_r _ [16] (by decide +kernel) (by decide +kernel)
set_option maxRecDepth 20000 in
theorem gX9_sample_X9_size : GoodIn wsX9_sample (va_wsS RX9 114 yX9_size wsX9_size) := goodIn_app (goodIn_of _ (by decide +kernel)) ggX9_sample_X9_size
set_option maxRecDepth 20000 in
theorem mw_X9_sample_0 : (.fieldLink RX9 19 "FontRunsModel" "kind" "[I" : Cond) ∈ wsX9_sample := by decide +kernel
set_option maxRecDepth 20000 in
theorem mw_X9_sample_1 : (.fieldLink RX9 25 "FontRunsModel" "has" "[I" : Cond) ∈ wsX9_sample := by decide +kernel
theorem ax_X9_sample_0 {e0 e1 e2 : Nat × va_E} : ([0] : List Nat).map (fun i => ([e0, e1, e2] : va_W)[i]?) = ([e0] : va_W).map some := rfl
theorem ax_X9_sample_1 {e0 e1 e2 : Nat × va_E} : ([1, 2] : List Nat).map (fun i => ([e0, e1, e2] : va_W)[i]?) = ([e1, e2] : va_W).map some := rfl
theorem ax_X9_sample_2 {D : va_G} {cl : List vw_C} {H : Heap} {e0 e1 f0 : Nat × va_E} (h : va_P D cl ((([e0, e1] : va_W) ++ ([f0] : va_W))) H) : va_P D cl (([e0, e1, f0] : va_W)) H := h
theorem ax_X9_sample_3 {A : Nat → Prop} {e0 e1 f0 : Nat × va_E} (h : va_D A ((([e0, e1] : va_W) ++ ([f0] : va_W)))) : va_D A (([e0, e1, f0] : va_W)) := h
theorem ax_X9_sample_4 {e0 e1 e2 : Nat × va_E} : ([] : List Nat).map (fun i => ([e0, e1, e2] : va_W)[i]?) = ([] : va_W).map some := rfl
theorem ax_X9_sample_5 {e0 e1 e2 : Nat × va_E} : ([2, 0, 1] : List Nat).map (fun i => ([e0, e1, e2] : va_W)[i]?) = ([e2, e0, e1] : va_W).map some := rfl
theorem ax_X9_sample_6 {e0 e1 e2 : Nat × va_E} : ([0, 1, 2] : List Nat).map (fun i => ([e0, e1, e2] : va_W)[i]?) = ([e0, e1, e2] : va_W).map some := rfl
set_option maxHeartbeats 4000000 in
set_option maxRecDepth 100000 in
theorem c_X9_sample (l : Launch) (D : va_G) (sz : Nat) (f : Int) (h0 : Nat) (fa : Int) (tc : Int) (so : Nat) (sl : Nat) (ce : Nat) (fn : Int) (kd : Nat) (wd : Nat) (hs : Nat) (pf : Nat) (lt : Nat) (mn : Int) (wg : Nat) (ta : Int) (ck : Int64) (at9 : Int) (rfn : Int) (rk : Nat) (rw : Nat) (rh : Nat) (cl : Int) (sa : Nat) (fi : Nat) (bo : Int) (ch : Nat) (cn : Nat) (ad : Int) (ru : Int) (kp : Nat) (dn : Int) (rfa : Nat) (c_kd : ClassId) (f_kd : Nat → Int32) (c_hs : ClassId) (f_hs : Nat → Int32) (q0 : rg f) (q1 : rg tc) (q2 : 0 ≤ fn ∧ fn ≤ 4) : Met l yX9_sample wsX9_sample ({ frames := 1, cells := 0, slots := 0, locals := 22 }) (kPre [.ref h0, .int (zI f)] D [(h0, .inr (9, [.int (zI fa), .int (zI tc), .ref so, .ref sl, .ref ce, .int (zI fn), .ref kd, .ref wd, .ref hs, .ref pf, .ref lt, .int (zI mn), .ref wg, .int (zI ta), .long ck, .int (zI at9), .int (zI rfn), .ref rk, .ref rw, .ref rh, .int (zI cl), .ref sa, .ref fi, .int (zI bo), .ref ch, .ref cn, .int (zI ad), .int (zI ru), .ref kp, .int (zI dn), .ref rfa])), (kd, .inl (c_kd, 4, .inl f_kd)), (hs, .inl (c_hs, 4, .inl f_hs))] [(c_kd, .int), (c_hs, .int)] sz) (kQS (fun rz t => ∃ (u_tc : Int), (rg u_tc) ∧ va_P D vwCl [(h0, .inr (9, [.int (zI fa), .int (zI u_tc), .ref so, .ref sl, .ref ce, .int (zI fn), .ref kd, .ref wd, .ref hs, .ref pf, .ref lt, .int (zI mn), .ref wg, .int (zI ta), .long ck, .int (zI at9), .int (zI rfn), .ref rk, .ref rw, .ref rh, .int (zI cl), .ref sa, .ref fi, .int (zI bo), .ref ch, .ref cn, .int (zI ad), .int (zI ru), .ref kp, .int (zI dn), .ref rfa])), (kd, .inl (c_kd, 4, .inl f_kd)), (hs, .inl (c_hs, 4, .inl f_hs))] t.heap ∧ va_D (va_A [(h0, .inr (9, [.int (zI fa), .int (zI tc), .ref so, .ref sl, .ref ce, .int (zI fn), .ref kd, .ref wd, .ref hs, .ref pf, .ref lt, .int (zI mn), .ref wg, .int (zI ta), .long ck, .int (zI at9), .int (zI rfn), .ref rk, .ref rw, .ref rh, .int (zI cl), .ref sa, .ref fi, .int (zI bo), .ref ch, .ref cn, .int (zI ad), .int (zI ru), .ref kp, .int (zI dn), .ref rfa])), (kd, .inl (c_kd, 4, .inl f_kd)), (hs, .inl (c_hs, 4, .inl f_hs))] sz) [(h0, .inr (9, [.int (zI fa), .int (zI u_tc), .ref so, .ref sl, .ref ce, .int (zI fn), .ref kd, .ref wd, .ref hs, .ref pf, .ref lt, .int (zI mn), .ref wg, .int (zI ta), .long ck, .int (zI at9), .int (zI rfn), .ref rk, .ref rw, .ref rh, .int (zI cl), .ref sa, .ref fi, .int (zI bo), .ref ch, .ref cn, .int (zI ad), .int (zI ru), .ref kp, .int (zI dn), .ref rfa])), (kd, .inl (c_kd, 4, .inl f_kd)), (hs, .inl (c_hs, 4, .inl f_hs))]) (va_A [(h0, .inr (9, [.int (zI fa), .int (zI tc), .ref so, .ref sl, .ref ce, .int (zI fn), .ref kd, .ref wd, .ref hs, .ref pf, .ref lt, .int (zI mn), .ref wg, .int (zI ta), .long ck, .int (zI at9), .int (zI rfn), .ref rk, .ref rw, .ref rh, .int (zI cl), .ref sa, .ref fi, .int (zI bo), .ref ch, .ref cn, .int (zI ad), .int (zI ru), .ref kp, .int (zI dn), .ref rfa])), (kd, .inl (c_kd, 4, .inl f_kd)), (hs, .inl (c_hs, 4, .inl f_hs))] sz)) 0 0 (va_A [(h0, .inr (9, [.int (zI fa), .int (zI tc), .ref so, .ref sl, .ref ce, .int (zI fn), .ref kd, .ref wd, .ref hs, .ref pf, .ref lt, .int (zI mn), .ref wg, .int (zI ta), .long ck, .int (zI at9), .int (zI rfn), .ref rk, .ref rw, .ref rh, .int (zI cl), .ref sa, .ref fi, .int (zI bo), .ref ch, .ref cn, .int (zI ad), .int (zI ru), .ref kp, .int (zI dn), .ref rfa])), (kd, .inl (c_kd, 4, .inl f_kd)), (hs, .inl (c_hs, 4, .inl f_hs))] sz) := by
  refine Met.ofW (cc := cX9_sample) (maxL := 2) (ret := (some .int)) (by decide) rfl ?_
  intro p e s m args below meth c s₁ B hml hv
  obtain ⟨rfl, hsz, hP, hK, hD0, hN⟩ := hv
  have hx := B.exec
  have hb := B.bytes
  have hr := B.returns
  have hts := atoms_spec (ws := wsX9_sample) B.pre
  have hown : s.vm.findClass RX9 = some m.cls := findClass_of_methodNamed B.named
  have hlocks := B.notSynchronized
  subst hsz
  have hD := hD0.self (sz := s.heap.size)
  generalize hAe : va_A [(h0, .inr (9, [.int (zI fa), .int (zI tc), .ref so, .ref sl, .ref ce, .int (zI fn), .ref kd, .ref wd, .ref hs, .ref pf, .ref lt, .int (zI mn), .ref wg, .int (zI ta), .long ck, .int (zI at9), .int (zI rfn), .ref rk, .ref rw, .ref rh, .int (zI cl), .ref sa, .ref fi, .int (zI bo), .ref ch, .ref cn, .int (zI ad), .int (zI ru), .ref kp, .int (zI dn), .ref rfa])), (kd, .inl (c_kd, 4, .inl f_kd)), (hs, .inl (c_hs, 4, .inl f_hs))] s.heap.size = A at hD ⊢
  have hA : ∀ q : Nat, s.heap.size ≤ q → A q := fun q h => by rw [← hAe]; exact Or.inr h
  have hS : va_S A s.heap s.heap [] := va_S.rf
  have hP : va_P D vwCl [(h0, .inr (9, [.int (zI fa), .int (zI tc), .ref so, .ref sl, .ref ce, .int (zI fn), .ref kd, .ref wd, .ref hs, .ref pf, .ref lt, .int (zI mn), .ref wg, .int (zI ta), .long ck, .int (zI at9), .int (zI rfn), .ref rk, .ref rw, .ref rh, .int (zI cl), .ref sa, .ref fi, .int (zI bo), .ref ch, .ref cn, .int (zI ad), .int (zI ru), .ref kp, .int (zI dn), .ref rfa])), (kd, .inl (c_kd, 4, .inl f_kd)), (hs, .inl (c_hs, 4, .inl f_hs))] s.heap := hP
  have hl := lv_entry ([.ref h0, .int (zI f)]) (n := 2) (Nat.le_of_ble_eq_true rfl)
  rw [lg_entry_eq]
  generalize (lg_sl ([.ref h0, .int (zI f)]) ++ List.replicate (2 - (lg_sl ([.ref h0, .int (zI f)])).length) Slot.unset).toArray = ls at hl ⊢
  have hl : lv_has ls 2 [(0, .ref h0), (1, .int (zI f))] := hl
  refine lv_aload_n hx hb dX9_sample_0 rfl (lv_at hl 0 rfl) ?_
  refine lv_iload_n hx hb dX9_sample_1 rfl (lv_at hl 1 rfl) ?_
  refine k_callR (va_runV (As := [.int (zI f)]) (rest := []) ⟨hx, hb, hml, hown, hts⟩ (c_X9_isFont l D s.heap.size (f := f) (h0 := h0) (fa := fa) (tc := tc) (so := so) (sl := sl) (ce := ce) (fn := fn) (kd := kd) (wd := wd) (hs := hs) (pf := pf) (lt := lt) (mn := mn) (wg := wg) (ta := ta) (ck := ck) (at9 := at9) (rfn := rfn) (rk := rk) (rw := rw) (rh := rh) (cl := cl) (sa := sa) (fi := fi) (bo := bo) (ch := ch) (cn := cn) (ad := ad) (ru := ru) (kp := kp) (dn := dn) (rfa := rfa) q0 q2) (cwV 1 hts gX9_sample_X9_isFont rfl rfl rfl (by decide +kernel) ⟨Nat.le_of_ble_eq_true rfl, Nat.le_of_ble_eq_true rfl⟩) (kPreV hP (kD0 hD) hK hN [0] [] ax_X9_sample_0 rfl (by decide +kernel) 0 9 rfl rfl) rfl rfl hl.1 rfl (lv_room (Nat.le_of_ble_eq_true rfl)) dX9_sample_2 ⟨Nat.le_of_ble_eq_true rfl, Nat.le_of_ble_eq_true rfl⟩) ?_
  refine lv_if_ne (tgt := 10) hx hb dX9_sample_5 (by decide) (fun c_1 => ?_) (fun c_1 => ?_)
  · have c_1 : 0 ≤ f ∧ f < fn := b01t c_1
    refine lv_aload_n hx hb dX9_sample_10 rfl (lv_at hl 0 rfl) ?_
    refine lv_aload_n hx hb dX9_sample_11 rfl (lv_at hl 0 rfl) ?_
    refine va_get (D := D) (ci := 9) (v := .ref kd) (C := RX9) (T := TX9) (N := 31) hx hb hts (fun _ h9 => List.mem_cons_of_mem _ (List.mem_append_right _ h9)) hown hK hP 0 rfl rfl 6 (by decide) (hts (.fieldLink RX9 19 "FontRunsModel" "kind" "[I") mw_X9_sample_0) (fun _ h9 => h9) rfl dX9_sample_12 ?_
    refine lv_iload_n hx hb dX9_sample_15 rfl (lv_at hl 1 rfl) ?_
    refine kz_iald hx hb hK hP 1 0 rfl rfl (by omega) dX9_sample_16 (fun z_2 rz_2 ez_2 => ?_)
    refine lv_iconst (v := zI 2) hx hb dX9_sample_17 rfl ?_
    refine kz_icmp_ne (tgt := 25) hx hb dX9_sample_18 (by decide) (by omega) (by omega) (fun c_3 => ?_) (fun c_3 => ?_)
    · refine lv_iconst (v := zI 4) hx hb dX9_sample_25 rfl ?_
      have hFc := va_free (wc := [(h0, .inr (9, [.int (zI fa), .int (zI tc), .ref so, .ref sl, .ref ce, .int (zI fn), .ref kd, .ref wd, .ref hs, .ref pf, .ref lt, .int (zI mn), .ref wg, .int (zI ta), .long ck, .int (zI at9), .int (zI rfn), .ref rk, .ref rw, .ref rh, .int (zI cl), .ref sa, .ref fi, .int (zI bo), .ref ch, .ref cn, .int (zI ad), .int (zI ru), .ref kp, .int (zI dn), .ref rfa]))]) hD hS hA [0] ax_X9_sample_0
      refine va_callv (va_runV (As := [.int (zI 4)]) (rest := []) ⟨hx, hb, hml, hown, hts⟩ (c_X9_begins l D s.heap.size (x := 4) (h0 := h0) (fa := fa) (tc := tc) (so := so) (sl := sl) (ce := ce) (fn := fn) (kd := kd) (wd := wd) (hs := hs) (pf := pf) (lt := lt) (mn := mn) (wg := wg) (ta := ta) (ck := ck) (at9 := at9) (rfn := rfn) (rk := rk) (rw := rw) (rh := rh) (cl := cl) (sa := sa) (fi := fi) (bo := bo) (ch := ch) (cn := cn) (ad := ad) (ru := ru) (kp := kp) (dn := dn) (rfa := rfa) (by omega) q1) (cwV 1 hts gX9_sample_X9_begins rfl rfl rfl (by decide +kernel) ⟨Nat.le_of_ble_eq_true rfl, Nat.le_of_ble_eq_true rfl⟩) (kPreV hP (kD0 hD) hK hN [0] [] ax_X9_sample_0 rfl (by decide +kernel) 0 9 rfl rfl) rfl rfl hl.1 rfl (lv_room (Nat.le_of_ble_eq_true rfl)) dX9_sample_26 ⟨Nat.le_of_ble_eq_true rfl, Nat.le_of_ble_eq_true rfl⟩) hS (fun q _ h => hFc q h) hFc (fun u t H1 locs ht hvm hw hB hz1 hk1 hS => ?_)
      refine Exists.elim hB (fun u_tc_4 hB1 => ?_)
      have h_5 := hB1.1
      have hP1 := hB1.2.1
      have hD1 := hB1.2.2
      clear hB hB1
      rw [ht] at hP1
      obtain ⟨hP, hD⟩ := va_join (wr := [(kd, .inl (c_kd, 4, .inl f_kd)), (hs, .inl (c_hs, 4, .inl f_hs))]) (w1 := [(h0, .inr (9, [.int (zI fa), .int (zI u_tc_4), .ref so, .ref sl, .ref ce, .int (zI fn), .ref kd, .ref wd, .ref hs, .ref pf, .ref lt, .int (zI mn), .ref wg, .int (zI ta), .long ck, .int (zI at9), .int (zI rfn), .ref rk, .ref rw, .ref rh, .int (zI cl), .ref sa, .ref fi, .int (zI bo), .ref ch, .ref cn, .int (zI ad), .int (zI ru), .ref kp, .int (zI dn), .ref rfa]))]) hP hD [0] [1, 2] ax_X9_sample_0 ax_X9_sample_1 (by decide +kernel) (by decide +kernel) hk1 hFc hP1 hD1
      have hP := ax_X9_sample_2 hP
      have hD := ax_X9_sample_3 hD
      generalize H1 = H at hP hS ⊢
      have hP : va_P D vwCl [(kd, .inl (c_kd, 4, .inl f_kd)), (hs, .inl (c_hs, 4, .inl f_hs)), (h0, .inr (9, [.int (zI fa), .int (zI u_tc_4), .ref so, .ref sl, .ref ce, .int (zI fn), .ref kd, .ref wd, .ref hs, .ref pf, .ref lt, .int (zI mn), .ref wg, .int (zI ta), .long ck, .int (zI at9), .int (zI rfn), .ref rk, .ref rw, .ref rh, .int (zI cl), .ref sa, .ref fi, .int (zI bo), .ref ch, .ref cn, .int (zI ad), .int (zI ru), .ref kp, .int (zI dn), .ref rfa]))] H := hP
      have hD : va_D A [(kd, .inl (c_kd, 4, .inl f_kd)), (hs, .inl (c_hs, 4, .inl f_hs)), (h0, .inr (9, [.int (zI fa), .int (zI u_tc_4), .ref so, .ref sl, .ref ce, .int (zI fn), .ref kd, .ref wd, .ref hs, .ref pf, .ref lt, .int (zI mn), .ref wg, .int (zI ta), .long ck, .int (zI at9), .int (zI rfn), .ref rk, .ref rw, .ref rh, .int (zI cl), .ref sa, .ref fi, .int (zI bo), .ref ch, .ref cn, .int (zI ad), .int (zI ru), .ref kp, .int (zI dn), .ref rfa]))] := hD
      refine lv_aload_n hx hb dX9_sample_29 rfl (lv_at hl 0 rfl) ?_
      refine va_get (D := D) (ci := 9) (v := .ref kd) (C := RX9) (T := TX9) (N := 31) hx hb hts (fun _ h9 => List.mem_cons_of_mem _ (List.mem_append_right _ h9)) hown hK hP 2 rfl rfl 6 (by decide) (hts (.fieldLink RX9 19 "FontRunsModel" "kind" "[I") mw_X9_sample_0) (fun _ h9 => h9) rfl dX9_sample_30 ?_
      refine lv_iload_n hx hb dX9_sample_33 rfl (lv_at hl 1 rfl) ?_
      refine kz_iald hx hb hK hP 0 0 rfl rfl (by omega) dX9_sample_34 (fun z_6 rz_6 ez_6 => ?_)
      have q9 : z_2 = z_6 := (zI_eq rz_2 rz_6).mp (ez_2.symm.trans ez_6)
      subst q9
      refine lv_iconst (v := zI 2) hx hb dX9_sample_35 rfl ?_
      refine kz_icmp_ne (tgt := 44) hx hb dX9_sample_36 (by decide) (by omega) (by omega) (fun c9 => ?_) (fun c9 => by omega)
      refine lv_aload_n hx hb dX9_sample_44 rfl (lv_at hl 0 rfl) ?_
      refine va_get (D := D) (ci := 9) (v := .ref hs) (C := RX9) (T := TX9) (N := 31) hx hb hts (fun _ h9 => List.mem_cons_of_mem _ (List.mem_append_right _ h9)) hown hK hP 2 rfl rfl 8 (by decide) (hts (.fieldLink RX9 25 "FontRunsModel" "has" "[I") mw_X9_sample_1) (fun _ h9 => h9) rfl dX9_sample_45 ?_
      refine lv_iload_n hx hb dX9_sample_48 rfl (lv_at hl 1 rfl) ?_
      refine kz_iald hx hb hK hP 1 1 rfl rfl (by omega) dX9_sample_49 (fun z_7 rz_7 ez_7 => ?_)
      refine k_callP (va_runS (As := [.int (zI z_7)]) (rest := []) ⟨hx, hb, hml, hown, hts⟩ (c_X9_size l D H.size (x := z_7) (by omega)) (va_cwS 1 hts gX9_sample_X9_size rfl rfl rfl (by decide +kernel) ⟨Nat.le_of_ble_eq_true rfl, Nat.le_of_ble_eq_true rfl⟩) (kPreS hP (kD0 hD) hK hN [] [] ax_X9_sample_4 rfl (by decide +kernel)) rfl rfl hl.1 rfl (lv_room (Nat.le_of_ble_eq_true rfl)) dX9_sample_50 ⟨Nat.le_of_ble_eq_true rfl, Nat.le_of_ble_eq_true rfl⟩) (fun z_8 rz_8 h_9 => ?_)
      have hP9 := hP.sub (ws' := [(h0, .inr (9, [.int (zI fa), .int (zI u_tc_4), .ref so, .ref sl, .ref ce, .int (zI fn), .ref kd, .ref wd, .ref hs, .ref pf, .ref lt, .int (zI mn), .ref wg, .int (zI ta), .long ck, .int (zI at9), .int (zI rfn), .ref rk, .ref rw, .ref rh, .int (zI cl), .ref sa, .ref fi, .int (zI bo), .ref ch, .ref cn, .int (zI ad), .int (zI ru), .ref kp, .int (zI dn), .ref rfa])), (kd, .inl (c_kd, 4, .inl f_kd)), (hs, .inl (c_hs, 4, .inl f_hs))]) [2, 0, 1] rfl
      have hD9 := hD.sub (ws' := [(h0, .inr (9, [.int (zI fa), .int (zI u_tc_4), .ref so, .ref sl, .ref ce, .int (zI fn), .ref kd, .ref wd, .ref hs, .ref pf, .ref lt, .int (zI mn), .ref wg, .int (zI ta), .long ck, .int (zI at9), .int (zI rfn), .ref rk, .ref rw, .ref rh, .int (zI cl), .ref sa, .ref fi, .int (zI bo), .ref ch, .ref cn, .int (zI ad), .int (zI ru), .ref kp, .int (zI dn), .ref rfa])), (kd, .inl (c_kd, 4, .inl f_kd)), (hs, .inl (c_hs, 4, .inl f_hs))]) [2, 0, 1] (by decide +kernel) rfl
      exact W.iret (v := (zI z_8)) hx hb hr (fun t ht hW => kQS_of (by omega) ⟨u_tc_4, h_5, by rw [ht]; exact hP9, hD9⟩ (hS.F ht)) hS.2.2 dX9_sample_53
    · refine lv_iconst (v := zI 5) hx hb dX9_sample_21 rfl ?_
      refine lv_goto (tgt := 26) hx hb dX9_sample_22 (by decide) ?_
      have hFc := va_free (wc := [(h0, .inr (9, [.int (zI fa), .int (zI tc), .ref so, .ref sl, .ref ce, .int (zI fn), .ref kd, .ref wd, .ref hs, .ref pf, .ref lt, .int (zI mn), .ref wg, .int (zI ta), .long ck, .int (zI at9), .int (zI rfn), .ref rk, .ref rw, .ref rh, .int (zI cl), .ref sa, .ref fi, .int (zI bo), .ref ch, .ref cn, .int (zI ad), .int (zI ru), .ref kp, .int (zI dn), .ref rfa]))]) hD hS hA [0] ax_X9_sample_0
      refine va_callv (va_runV (As := [.int (zI 5)]) (rest := []) ⟨hx, hb, hml, hown, hts⟩ (c_X9_begins l D s.heap.size (x := 5) (h0 := h0) (fa := fa) (tc := tc) (so := so) (sl := sl) (ce := ce) (fn := fn) (kd := kd) (wd := wd) (hs := hs) (pf := pf) (lt := lt) (mn := mn) (wg := wg) (ta := ta) (ck := ck) (at9 := at9) (rfn := rfn) (rk := rk) (rw := rw) (rh := rh) (cl := cl) (sa := sa) (fi := fi) (bo := bo) (ch := ch) (cn := cn) (ad := ad) (ru := ru) (kp := kp) (dn := dn) (rfa := rfa) (by omega) q1) (cwV 1 hts gX9_sample_X9_begins rfl rfl rfl (by decide +kernel) ⟨Nat.le_of_ble_eq_true rfl, Nat.le_of_ble_eq_true rfl⟩) (kPreV hP (kD0 hD) hK hN [0] [] ax_X9_sample_0 rfl (by decide +kernel) 0 9 rfl rfl) rfl rfl hl.1 rfl (lv_room (Nat.le_of_ble_eq_true rfl)) dX9_sample_26 ⟨Nat.le_of_ble_eq_true rfl, Nat.le_of_ble_eq_true rfl⟩) hS (fun q _ h => hFc q h) hFc (fun u t H1 locs ht hvm hw hB hz1 hk1 hS => ?_)
      refine Exists.elim hB (fun u_tc_10 hB1 => ?_)
      have h_11 := hB1.1
      have hP1 := hB1.2.1
      have hD1 := hB1.2.2
      clear hB hB1
      rw [ht] at hP1
      obtain ⟨hP, hD⟩ := va_join (wr := [(kd, .inl (c_kd, 4, .inl f_kd)), (hs, .inl (c_hs, 4, .inl f_hs))]) (w1 := [(h0, .inr (9, [.int (zI fa), .int (zI u_tc_10), .ref so, .ref sl, .ref ce, .int (zI fn), .ref kd, .ref wd, .ref hs, .ref pf, .ref lt, .int (zI mn), .ref wg, .int (zI ta), .long ck, .int (zI at9), .int (zI rfn), .ref rk, .ref rw, .ref rh, .int (zI cl), .ref sa, .ref fi, .int (zI bo), .ref ch, .ref cn, .int (zI ad), .int (zI ru), .ref kp, .int (zI dn), .ref rfa]))]) hP hD [0] [1, 2] ax_X9_sample_0 ax_X9_sample_1 (by decide +kernel) (by decide +kernel) hk1 hFc hP1 hD1
      have hP := ax_X9_sample_2 hP
      have hD := ax_X9_sample_3 hD
      generalize H1 = H at hP hS ⊢
      have hP : va_P D vwCl [(kd, .inl (c_kd, 4, .inl f_kd)), (hs, .inl (c_hs, 4, .inl f_hs)), (h0, .inr (9, [.int (zI fa), .int (zI u_tc_10), .ref so, .ref sl, .ref ce, .int (zI fn), .ref kd, .ref wd, .ref hs, .ref pf, .ref lt, .int (zI mn), .ref wg, .int (zI ta), .long ck, .int (zI at9), .int (zI rfn), .ref rk, .ref rw, .ref rh, .int (zI cl), .ref sa, .ref fi, .int (zI bo), .ref ch, .ref cn, .int (zI ad), .int (zI ru), .ref kp, .int (zI dn), .ref rfa]))] H := hP
      have hD : va_D A [(kd, .inl (c_kd, 4, .inl f_kd)), (hs, .inl (c_hs, 4, .inl f_hs)), (h0, .inr (9, [.int (zI fa), .int (zI u_tc_10), .ref so, .ref sl, .ref ce, .int (zI fn), .ref kd, .ref wd, .ref hs, .ref pf, .ref lt, .int (zI mn), .ref wg, .int (zI ta), .long ck, .int (zI at9), .int (zI rfn), .ref rk, .ref rw, .ref rh, .int (zI cl), .ref sa, .ref fi, .int (zI bo), .ref ch, .ref cn, .int (zI ad), .int (zI ru), .ref kp, .int (zI dn), .ref rfa]))] := hD
      refine lv_aload_n hx hb dX9_sample_29 rfl (lv_at hl 0 rfl) ?_
      refine va_get (D := D) (ci := 9) (v := .ref kd) (C := RX9) (T := TX9) (N := 31) hx hb hts (fun _ h9 => List.mem_cons_of_mem _ (List.mem_append_right _ h9)) hown hK hP 2 rfl rfl 6 (by decide) (hts (.fieldLink RX9 19 "FontRunsModel" "kind" "[I") mw_X9_sample_0) (fun _ h9 => h9) rfl dX9_sample_30 ?_
      refine lv_iload_n hx hb dX9_sample_33 rfl (lv_at hl 1 rfl) ?_
      refine kz_iald hx hb hK hP 0 0 rfl rfl (by omega) dX9_sample_34 (fun z_12 rz_12 ez_12 => ?_)
      have q9 : z_2 = z_12 := (zI_eq rz_2 rz_12).mp (ez_2.symm.trans ez_12)
      subst q9
      refine lv_iconst (v := zI 2) hx hb dX9_sample_35 rfl ?_
      refine kz_icmp_ne (tgt := 44) hx hb dX9_sample_36 (by decide) (by omega) (by omega) (fun c9 => by omega) (fun c9 => ?_)
      refine lv_bipush (v := zI 50) hx hb dX9_sample_39 (by decide) ?_
      refine lv_goto (tgt := 53) hx hb dX9_sample_41 (by decide) ?_
      have hP9 := hP.sub (ws' := [(h0, .inr (9, [.int (zI fa), .int (zI u_tc_10), .ref so, .ref sl, .ref ce, .int (zI fn), .ref kd, .ref wd, .ref hs, .ref pf, .ref lt, .int (zI mn), .ref wg, .int (zI ta), .long ck, .int (zI at9), .int (zI rfn), .ref rk, .ref rw, .ref rh, .int (zI cl), .ref sa, .ref fi, .int (zI bo), .ref ch, .ref cn, .int (zI ad), .int (zI ru), .ref kp, .int (zI dn), .ref rfa])), (kd, .inl (c_kd, 4, .inl f_kd)), (hs, .inl (c_hs, 4, .inl f_hs))]) [2, 0, 1] rfl
      have hD9 := hD.sub (ws' := [(h0, .inr (9, [.int (zI fa), .int (zI u_tc_10), .ref so, .ref sl, .ref ce, .int (zI fn), .ref kd, .ref wd, .ref hs, .ref pf, .ref lt, .int (zI mn), .ref wg, .int (zI ta), .long ck, .int (zI at9), .int (zI rfn), .ref rk, .ref rw, .ref rh, .int (zI cl), .ref sa, .ref fi, .int (zI bo), .ref ch, .ref cn, .int (zI ad), .int (zI ru), .ref kp, .int (zI dn), .ref rfa])), (kd, .inl (c_kd, 4, .inl f_kd)), (hs, .inl (c_hs, 4, .inl f_hs))]) [2, 0, 1] (by decide +kernel) rfl
      exact W.iret (v := (zI 50)) hx hb hr (fun t ht hW => kQS_of (by omega) ⟨u_tc_10, h_11, by rw [ht]; exact hP9, hD9⟩ (hS.F ht)) hS.2.2 dX9_sample_53
  · have c_1 : ¬ (0 ≤ f ∧ f < fn) := b01f c_1
    refine lv_iconst (v := zI (-1)) hx hb dX9_sample_8 rfl ?_
    have hP9 := hP.sub (ws' := [(h0, .inr (9, [.int (zI fa), .int (zI tc), .ref so, .ref sl, .ref ce, .int (zI fn), .ref kd, .ref wd, .ref hs, .ref pf, .ref lt, .int (zI mn), .ref wg, .int (zI ta), .long ck, .int (zI at9), .int (zI rfn), .ref rk, .ref rw, .ref rh, .int (zI cl), .ref sa, .ref fi, .int (zI bo), .ref ch, .ref cn, .int (zI ad), .int (zI ru), .ref kp, .int (zI dn), .ref rfa])), (kd, .inl (c_kd, 4, .inl f_kd)), (hs, .inl (c_hs, 4, .inl f_hs))]) [0, 1, 2] rfl
    have hD9 := hD.sub (ws' := [(h0, .inr (9, [.int (zI fa), .int (zI tc), .ref so, .ref sl, .ref ce, .int (zI fn), .ref kd, .ref wd, .ref hs, .ref pf, .ref lt, .int (zI mn), .ref wg, .int (zI ta), .long ck, .int (zI at9), .int (zI rfn), .ref rk, .ref rw, .ref rh, .int (zI cl), .ref sa, .ref fi, .int (zI bo), .ref ch, .ref cn, .int (zI ad), .int (zI ru), .ref kp, .int (zI dn), .ref rfa])), (kd, .inl (c_kd, 4, .inl f_kd)), (hs, .inl (c_hs, 4, .inl f_hs))]) [0, 1, 2] (by decide +kernel) rfl
    exact W.iret (v := (zI (-1))) hx hb hr (fun t ht hW => kQS_of (by omega) ⟨tc, q1, by rw [ht]; exact hP9, hD9⟩ (hS.F ht)) hS.2.2 dX9_sample_9
theorem dX9_as_0 : decode cX9_as 0 = .ok (.aload_n 0, 1) := by decide +kernel
theorem dX9_as_1 : decode cX9_as 1 = .ok (.iconst 0, 1) := by decide +kernel
theorem dX9_as_2 : decode cX9_as 2 = .ok (.putfield 64, 3) := by decide +kernel
theorem dX9_as_5 : decode cX9_as 5 = .ok (.aload_n 0, 1) := by decide +kernel
theorem dX9_as_6 : decode cX9_as 6 = .ok (.iload_n 1, 1) := by decide +kernel
theorem dX9_as_7 : decode cX9_as 7 = .ok (.invokevirtual 120, 3) := by decide +kernel
theorem dX9_as_10 : decode cX9_as 10 = .ok (.ifCond .ne 5, 3) := by decide +kernel
theorem dX9_as_13 : decode cX9_as 13 = .ok (.iconst (-1), 1) := by decide +kernel
theorem dX9_as_14 : decode cX9_as 14 = .ok (.ireturn, 1) := by decide +kernel
theorem dX9_as_15 : decode cX9_as 15 = .ok (.iload_n 2, 1) := by decide +kernel
theorem dX9_as_16 : decode cX9_as 16 = .ok (.iconst 0, 1) := by decide +kernel
theorem dX9_as_17 : decode cX9_as 17 = .ok (.iconst 2, 1) := by decide +kernel
theorem dX9_as_18 : decode cX9_as 18 = .ok (.invokestatic 70, 3) := by decide +kernel
theorem dX9_as_21 : decode cX9_as 21 = .ok (.ifCond .ne 6, 3) := by decide +kernel
theorem dX9_as_24 : decode cX9_as 24 = .ok (.bipush (-2), 2) := by decide +kernel
theorem dX9_as_26 : decode cX9_as 26 = .ok (.ireturn, 1) := by decide +kernel
theorem dX9_as_27 : decode cX9_as 27 = .ok (.aload_n 0, 1) := by decide +kernel
theorem dX9_as_28 : decode cX9_as 28 = .ok (.getfield 19, 3) := by decide +kernel
theorem dX9_as_31 : decode cX9_as 31 = .ok (.iload_n 1, 1) := by decide +kernel
theorem dX9_as_32 : decode cX9_as 32 = .ok (.iaload, 1) := by decide +kernel
theorem dX9_as_33 : decode cX9_as 33 = .ok (.iload_n 2, 1) := by decide +kernel
theorem dX9_as_34 : decode cX9_as 34 = .ok (.if_icmp .lt 7, 3) := by decide +kernel
theorem dX9_as_37 : decode cX9_as 37 = .ok (.iconst 1, 1) := by decide +kernel
theorem dX9_as_38 : decode cX9_as 38 = .ok (.goto 8, 3) := by decide +kernel
theorem dX9_as_41 : decode cX9_as 41 = .ok (.aload_n 0, 1) := by decide +kernel
theorem dX9_as_42 : decode cX9_as 42 = .ok (.iconst 2, 1) := by decide +kernel
theorem dX9_as_43 : decode cX9_as 43 = .ok (.invokevirtual 91, 3) := by decide +kernel
theorem dX9_as_46 : decode cX9_as 46 = .ok (.ireturn, 1) := by decide +kernel
set_option maxRecDepth 20000 in
theorem ggX9_as_X9_fails : GoodIn wsX9_as wsX9_fails := goodIn_r _ [15, 1, 16, 17, 18, 19, 20, 21, 22, 23, 24, 25, 26, 27, 28, 29, 30, 31, 32, 33, 34, 35, 36, 37, 38, 39, 40, 41, 42, 43, 44, 45, 46] (by decide +kernel) (by decide +kernel)
set_option maxRecDepth 20000 in
theorem gX9_as_X9_fails : GoodIn wsX9_as (wsV RX9 91 RX9 yX9_fails wsX9_fails) := goodIn_app (goodIn_of _ (by decide +kernel)) ggX9_as_X9_fails
set_option maxRecDepth 20000 in
theorem ggX9_as_X9_isFont : GoodIn wsX9_as wsX9_isFont := goodIn_r _ [7, 8, 16, 17, 18, 19, 20, 21, 22, 23, 24, 25, 26, 27, 28, 29, 30, 31, 32, 33, 34, 35, 36, 37, 38, 39, 40, 41, 42, 43, 44, 45, 46] (by decide +kernel) (by decide +kernel)
set_option maxRecDepth 20000 in
theorem gX9_as_X9_isFont : GoodIn wsX9_as (wsV RX9 120 RX9 yX9_isFont wsX9_isFont) := goodIn_app (goodIn_of _ (by decide +kernel)) ggX9_as_X9_isFont
set_option maxRecDepth 20000 in
theorem ggX9_as_X9_within : GoodIn wsX9_as wsX9_within := goodIn_r _ [11] (by decide +kernel) (by decide +kernel)
set_option maxRecDepth 20000 in
theorem gX9_as_X9_within : GoodIn wsX9_as (va_wsS RX9 70 yX9_within wsX9_within) := goodIn_app (goodIn_of _ (by decide +kernel)) ggX9_as_X9_within
set_option maxRecDepth 20000 in
theorem mw_X9_as_0 : (.fieldLink RX9 64 "FontRunsModel" "fault" "I" : Cond) ∈ wsX9_as := by decide +kernel
set_option maxRecDepth 20000 in
theorem mw_X9_as_1 : (.fieldLink RX9 19 "FontRunsModel" "kind" "[I" : Cond) ∈ wsX9_as := by decide +kernel
theorem ax_X9_as_0 {e0 e1 : Nat × va_E} : ([0] : List Nat).map (fun i => ([e0, e1] : va_W)[i]?) = ([e0] : va_W).map some := rfl
theorem ax_X9_as_1 {e0 e1 : Nat × va_E} : ([] : List Nat).map (fun i => ([e0, e1] : va_W)[i]?) = ([] : va_W).map some := rfl
theorem ax_X9_as_2 {e0 e1 : Nat × va_E} : ([1] : List Nat).map (fun i => ([e0, e1] : va_W)[i]?) = ([e1] : va_W).map some := rfl
theorem ax_X9_as_3 {D : va_G} {cl : List vw_C} {H : Heap} {e0 f0 : Nat × va_E} (h : va_P D cl ((([e0] : va_W) ++ ([f0] : va_W))) H) : va_P D cl (([e0, f0] : va_W)) H := h
theorem ax_X9_as_4 {A : Nat → Prop} {e0 f0 : Nat × va_E} (h : va_D A ((([e0] : va_W) ++ ([f0] : va_W)))) : va_D A (([e0, f0] : va_W)) := h
theorem ax_X9_as_5 {e0 e1 : Nat × va_E} : ([1, 0] : List Nat).map (fun i => ([e0, e1] : va_W)[i]?) = ([e1, e0] : va_W).map some := rfl
theorem ax_X9_as_6 {e0 e1 : Nat × va_E} : ([0, 1] : List Nat).map (fun i => ([e0, e1] : va_W)[i]?) = ([e0, e1] : va_W).map some := rfl
set_option maxHeartbeats 4000000 in
set_option maxRecDepth 100000 in
theorem c_X9_as (l : Launch) (D : va_G) (sz : Nat) (f : Int) (x : Int) (h0 : Nat) (fa : Int) (tc : Int) (so : Nat) (sl : Nat) (ce : Nat) (fn : Int) (kd : Nat) (wd : Nat) (hs : Nat) (pf : Nat) (lt : Nat) (mn : Int) (wg : Nat) (ta : Int) (ck : Int64) (at9 : Int) (rfn : Int) (rk : Nat) (rw : Nat) (rh : Nat) (cl : Int) (sa : Nat) (fi : Nat) (bo : Int) (ch : Nat) (cn : Nat) (ad : Int) (ru : Int) (kp : Nat) (dn : Int) (rfa : Nat) (c_kd : ClassId) (f_kd : Nat → Int32) (q0 : rg f) (q1 : rg x) (q2 : rg fa) (q3 : 0 ≤ fn ∧ fn ≤ 4) : Met l yX9_as wsX9_as ({ frames := 1, cells := 0, slots := 0, locals := 22 }) (kPre [.ref h0, .int (zI f), .int (zI x)] D [(h0, .inr (9, [.int (zI fa), .int (zI tc), .ref so, .ref sl, .ref ce, .int (zI fn), .ref kd, .ref wd, .ref hs, .ref pf, .ref lt, .int (zI mn), .ref wg, .int (zI ta), .long ck, .int (zI at9), .int (zI rfn), .ref rk, .ref rw, .ref rh, .int (zI cl), .ref sa, .ref fi, .int (zI bo), .ref ch, .ref cn, .int (zI ad), .int (zI ru), .ref kp, .int (zI dn), .ref rfa])), (kd, .inl (c_kd, 4, .inl f_kd))] [(c_kd, .int)] sz) (kQS (fun rz t => ∃ (u_fa : Int), (rg u_fa) ∧ va_P D vwCl [(h0, .inr (9, [.int (zI u_fa), .int (zI tc), .ref so, .ref sl, .ref ce, .int (zI fn), .ref kd, .ref wd, .ref hs, .ref pf, .ref lt, .int (zI mn), .ref wg, .int (zI ta), .long ck, .int (zI at9), .int (zI rfn), .ref rk, .ref rw, .ref rh, .int (zI cl), .ref sa, .ref fi, .int (zI bo), .ref ch, .ref cn, .int (zI ad), .int (zI ru), .ref kp, .int (zI dn), .ref rfa])), (kd, .inl (c_kd, 4, .inl f_kd))] t.heap ∧ va_D (va_A [(h0, .inr (9, [.int (zI fa), .int (zI tc), .ref so, .ref sl, .ref ce, .int (zI fn), .ref kd, .ref wd, .ref hs, .ref pf, .ref lt, .int (zI mn), .ref wg, .int (zI ta), .long ck, .int (zI at9), .int (zI rfn), .ref rk, .ref rw, .ref rh, .int (zI cl), .ref sa, .ref fi, .int (zI bo), .ref ch, .ref cn, .int (zI ad), .int (zI ru), .ref kp, .int (zI dn), .ref rfa])), (kd, .inl (c_kd, 4, .inl f_kd))] sz) [(h0, .inr (9, [.int (zI u_fa), .int (zI tc), .ref so, .ref sl, .ref ce, .int (zI fn), .ref kd, .ref wd, .ref hs, .ref pf, .ref lt, .int (zI mn), .ref wg, .int (zI ta), .long ck, .int (zI at9), .int (zI rfn), .ref rk, .ref rw, .ref rh, .int (zI cl), .ref sa, .ref fi, .int (zI bo), .ref ch, .ref cn, .int (zI ad), .int (zI ru), .ref kp, .int (zI dn), .ref rfa])), (kd, .inl (c_kd, 4, .inl f_kd))]) (va_A [(h0, .inr (9, [.int (zI fa), .int (zI tc), .ref so, .ref sl, .ref ce, .int (zI fn), .ref kd, .ref wd, .ref hs, .ref pf, .ref lt, .int (zI mn), .ref wg, .int (zI ta), .long ck, .int (zI at9), .int (zI rfn), .ref rk, .ref rw, .ref rh, .int (zI cl), .ref sa, .ref fi, .int (zI bo), .ref ch, .ref cn, .int (zI ad), .int (zI ru), .ref kp, .int (zI dn), .ref rfa])), (kd, .inl (c_kd, 4, .inl f_kd))] sz)) 0 0 (va_A [(h0, .inr (9, [.int (zI fa), .int (zI tc), .ref so, .ref sl, .ref ce, .int (zI fn), .ref kd, .ref wd, .ref hs, .ref pf, .ref lt, .int (zI mn), .ref wg, .int (zI ta), .long ck, .int (zI at9), .int (zI rfn), .ref rk, .ref rw, .ref rh, .int (zI cl), .ref sa, .ref fi, .int (zI bo), .ref ch, .ref cn, .int (zI ad), .int (zI ru), .ref kp, .int (zI dn), .ref rfa])), (kd, .inl (c_kd, 4, .inl f_kd))] sz) := by
  refine Met.ofW (cc := cX9_as) (maxL := 3) (ret := (some .int)) (by decide) rfl ?_
  intro p e s m args below meth c s₁ B hml hv
  obtain ⟨rfl, hsz, hP, hK, hD0, hN⟩ := hv
  have hx := B.exec
  have hb := B.bytes
  have hr := B.returns
  have hts := atoms_spec (ws := wsX9_as) B.pre
  have hown : s.vm.findClass RX9 = some m.cls := findClass_of_methodNamed B.named
  have hlocks := B.notSynchronized
  subst hsz
  have hD := hD0.self (sz := s.heap.size)
  generalize hAe : va_A [(h0, .inr (9, [.int (zI fa), .int (zI tc), .ref so, .ref sl, .ref ce, .int (zI fn), .ref kd, .ref wd, .ref hs, .ref pf, .ref lt, .int (zI mn), .ref wg, .int (zI ta), .long ck, .int (zI at9), .int (zI rfn), .ref rk, .ref rw, .ref rh, .int (zI cl), .ref sa, .ref fi, .int (zI bo), .ref ch, .ref cn, .int (zI ad), .int (zI ru), .ref kp, .int (zI dn), .ref rfa])), (kd, .inl (c_kd, 4, .inl f_kd))] s.heap.size = A at hD ⊢
  have hA : ∀ q : Nat, s.heap.size ≤ q → A q := fun q h => by rw [← hAe]; exact Or.inr h
  have hS : va_S A s.heap s.heap [] := va_S.rf
  have hP : va_P D vwCl [(h0, .inr (9, [.int (zI fa), .int (zI tc), .ref so, .ref sl, .ref ce, .int (zI fn), .ref kd, .ref wd, .ref hs, .ref pf, .ref lt, .int (zI mn), .ref wg, .int (zI ta), .long ck, .int (zI at9), .int (zI rfn), .ref rk, .ref rw, .ref rh, .int (zI cl), .ref sa, .ref fi, .int (zI bo), .ref ch, .ref cn, .int (zI ad), .int (zI ru), .ref kp, .int (zI dn), .ref rfa])), (kd, .inl (c_kd, 4, .inl f_kd))] s.heap := hP
  have hl := lv_entry ([.ref h0, .int (zI f), .int (zI x)]) (n := 3) (Nat.le_of_ble_eq_true rfl)
  rw [lg_entry_eq]
  generalize (lg_sl ([.ref h0, .int (zI f), .int (zI x)]) ++ List.replicate (3 - (lg_sl ([.ref h0, .int (zI f), .int (zI x)])).length) Slot.unset).toArray = ls at hl ⊢
  have hl : lv_has ls 3 [(0, .ref h0), (1, .int (zI f)), (2, .int (zI x))] := hl
  refine lv_aload_n hx hb dX9_as_0 rfl (lv_at hl 0 rfl) ?_
  refine lv_iconst (v := zI 0) hx hb dX9_as_1 rfl ?_
  refine va_put (D := D) (ci := 9) (v := .int (zI 0)) (ty := .int) (C := RX9) (T := TX9) (N := 31) hx hb hts (fun _ h9 => List.mem_cons_of_mem _ (List.mem_append_right _ h9)) tyX9 tyX9_ok nmX9 hown hK hP hD hS 0 rfl rfl 0 (by decide) (hts (.fieldLink RX9 64 "FontRunsModel" "fault" "I") mw_X9_as_0) (fun _ h9 => h9) rfl (by decide +kernel) rfl rfl (Nat.le_of_ble_eq_true rfl) dX9_as_2 (fun H locs hP hD hS => ?_)
  have hP : va_P D vwCl [(h0, .inr (9, [.int (zI 0), .int (zI tc), .ref so, .ref sl, .ref ce, .int (zI fn), .ref kd, .ref wd, .ref hs, .ref pf, .ref lt, .int (zI mn), .ref wg, .int (zI ta), .long ck, .int (zI at9), .int (zI rfn), .ref rk, .ref rw, .ref rh, .int (zI cl), .ref sa, .ref fi, .int (zI bo), .ref ch, .ref cn, .int (zI ad), .int (zI ru), .ref kp, .int (zI dn), .ref rfa])), (kd, .inl (c_kd, 4, .inl f_kd))] H := hP
  have hD : va_D A [(h0, .inr (9, [.int (zI 0), .int (zI tc), .ref so, .ref sl, .ref ce, .int (zI fn), .ref kd, .ref wd, .ref hs, .ref pf, .ref lt, .int (zI mn), .ref wg, .int (zI ta), .long ck, .int (zI at9), .int (zI rfn), .ref rk, .ref rw, .ref rh, .int (zI cl), .ref sa, .ref fi, .int (zI bo), .ref ch, .ref cn, .int (zI ad), .int (zI ru), .ref kp, .int (zI dn), .ref rfa])), (kd, .inl (c_kd, 4, .inl f_kd))] := hD
  refine lv_aload_n hx hb dX9_as_5 rfl (lv_at hl 0 rfl) ?_
  refine lv_iload_n hx hb dX9_as_6 rfl (lv_at hl 1 rfl) ?_
  refine k_callR (va_runV (As := [.int (zI f)]) (rest := []) ⟨hx, hb, hml, hown, hts⟩ (c_X9_isFont l D H.size (f := f) (h0 := h0) (fa := 0) (tc := tc) (so := so) (sl := sl) (ce := ce) (fn := fn) (kd := kd) (wd := wd) (hs := hs) (pf := pf) (lt := lt) (mn := mn) (wg := wg) (ta := ta) (ck := ck) (at9 := at9) (rfn := rfn) (rk := rk) (rw := rw) (rh := rh) (cl := cl) (sa := sa) (fi := fi) (bo := bo) (ch := ch) (cn := cn) (ad := ad) (ru := ru) (kp := kp) (dn := dn) (rfa := rfa) q0 q3) (cwV 1 hts gX9_as_X9_isFont rfl rfl rfl (by decide +kernel) ⟨Nat.le_of_ble_eq_true rfl, Nat.le_of_ble_eq_true rfl⟩) (kPreV hP (kD0 hD) hK hN [0] [] ax_X9_as_0 rfl (by decide +kernel) 0 9 rfl rfl) rfl rfl hl.1 rfl (lv_room (Nat.le_of_ble_eq_true rfl)) dX9_as_7 ⟨Nat.le_of_ble_eq_true rfl, Nat.le_of_ble_eq_true rfl⟩) ?_
  refine lv_if_ne (tgt := 15) hx hb dX9_as_10 (by decide) (fun c_1 => ?_) (fun c_1 => ?_)
  · have c_1 : 0 ≤ f ∧ f < fn := b01t c_1
    refine lv_iload_n hx hb dX9_as_15 rfl (lv_at hl 2 rfl) ?_
    refine lv_iconst (v := zI 0) hx hb dX9_as_16 rfl ?_
    refine lv_iconst (v := zI 2) hx hb dX9_as_17 rfl ?_
    refine k_callR (va_runS (As := [.int (zI x), .int (zI 0), .int (zI 2)]) (rest := []) ⟨hx, hb, hml, hown, hts⟩ (c_X9_within l D H.size (v := x) (a := 0) (b := 2) q1 (by omega) (by omega)) (va_cwS 3 hts gX9_as_X9_within rfl rfl rfl (by decide +kernel) ⟨Nat.le_of_ble_eq_true rfl, Nat.le_of_ble_eq_true rfl⟩) (kPreS hP (kD0 hD) hK hN [] [] ax_X9_as_1 rfl (by decide +kernel)) rfl rfl hl.1 rfl (lv_room (Nat.le_of_ble_eq_true rfl)) dX9_as_18 ⟨Nat.le_of_ble_eq_true rfl, Nat.le_of_ble_eq_true rfl⟩) ?_
    refine lv_if_ne (tgt := 27) hx hb dX9_as_21 (by decide) (fun c_2 => ?_) (fun c_2 => ?_)
    · have c_2 : 0 ≤ x ∧ x ≤ 2 := b01t c_2
      refine lv_aload_n hx hb dX9_as_27 rfl (lv_at hl 0 rfl) ?_
      refine va_get (D := D) (ci := 9) (v := .ref kd) (C := RX9) (T := TX9) (N := 31) hx hb hts (fun _ h9 => List.mem_cons_of_mem _ (List.mem_append_right _ h9)) hown hK hP 0 rfl rfl 6 (by decide) (hts (.fieldLink RX9 19 "FontRunsModel" "kind" "[I") mw_X9_as_1) (fun _ h9 => h9) rfl dX9_as_28 ?_
      refine lv_iload_n hx hb dX9_as_31 rfl (lv_at hl 1 rfl) ?_
      refine kz_iald hx hb hK hP 1 0 rfl rfl (by omega) dX9_as_32 (fun z_3 rz_3 ez_3 => ?_)
      refine lv_iload_n hx hb dX9_as_33 rfl (lv_at hl 2 rfl) ?_
      refine kz_icmp_lt (tgt := 41) hx hb dX9_as_34 (by decide) (by omega) (by omega) (fun c_4 => ?_) (fun c_4 => ?_)
      · refine lv_aload_n hx hb dX9_as_41 rfl (lv_at hl 0 rfl) ?_
        refine lv_iconst (v := zI 2) hx hb dX9_as_42 rfl ?_
        have hFc := va_free (wc := [(h0, .inr (9, [.int (zI 0), .int (zI tc), .ref so, .ref sl, .ref ce, .int (zI fn), .ref kd, .ref wd, .ref hs, .ref pf, .ref lt, .int (zI mn), .ref wg, .int (zI ta), .long ck, .int (zI at9), .int (zI rfn), .ref rk, .ref rw, .ref rh, .int (zI cl), .ref sa, .ref fi, .int (zI bo), .ref ch, .ref cn, .int (zI ad), .int (zI ru), .ref kp, .int (zI dn), .ref rfa]))]) hD hS hA [0] ax_X9_as_0
        refine va_calli (va_runV (As := [.int (zI 2)]) (rest := []) ⟨hx, hb, hml, hown, hts⟩ (c_X9_fails l D H.size (f := 2) (h0 := h0) (fa := 0) (tc := tc) (so := so) (sl := sl) (ce := ce) (fn := fn) (kd := kd) (wd := wd) (hs := hs) (pf := pf) (lt := lt) (mn := mn) (wg := wg) (ta := ta) (ck := ck) (at9 := at9) (rfn := rfn) (rk := rk) (rw := rw) (rh := rh) (cl := cl) (sa := sa) (fi := fi) (bo := bo) (ch := ch) (cn := cn) (ad := ad) (ru := ru) (kp := kp) (dn := dn) (rfa := rfa) (by omega) (by omega)) (cwV 1 hts gX9_as_X9_fails rfl rfl rfl (by decide +kernel) ⟨Nat.le_of_ble_eq_true rfl, Nat.le_of_ble_eq_true rfl⟩) (kPreV hP (kD0 hD) hK hN [0] [] ax_X9_as_0 rfl (by decide +kernel) 0 9 rfl rfl) rfl rfl hl.1 rfl (lv_room (Nat.le_of_ble_eq_true rfl)) dX9_as_43 ⟨Nat.le_of_ble_eq_true rfl, Nat.le_of_ble_eq_true rfl⟩) hS (fun q _ h => hFc q h) hFc (fun r u t H1 locs ht hvm hw hB hz1 hk1 hS => ?_)
        obtain ⟨z_6, e9⟩ : ∃ z, z = u := ⟨_, rfl⟩
        subst e9
        obtain ⟨rfl, rz_6⟩ := hw
        refine Exists.elim hB (fun u_fa_5 hB1 => ?_)
        have h_7 := hB1.1
        have h_8 := hB1.2.1
        have hP1 := hB1.2.2.1
        have hD1 := hB1.2.2.2
        clear hB hB1
        rw [ht] at hP1
        obtain ⟨hP, hD⟩ := va_join (wr := [(kd, .inl (c_kd, 4, .inl f_kd))]) (w1 := [(h0, .inr (9, [.int (zI u_fa_5), .int (zI tc), .ref so, .ref sl, .ref ce, .int (zI fn), .ref kd, .ref wd, .ref hs, .ref pf, .ref lt, .int (zI mn), .ref wg, .int (zI ta), .long ck, .int (zI at9), .int (zI rfn), .ref rk, .ref rw, .ref rh, .int (zI cl), .ref sa, .ref fi, .int (zI bo), .ref ch, .ref cn, .int (zI ad), .int (zI ru), .ref kp, .int (zI dn), .ref rfa]))]) hP hD [0] [1] ax_X9_as_0 ax_X9_as_2 (by decide +kernel) (by decide +kernel) hk1 hFc hP1 hD1
        have hP := ax_X9_as_3 hP
        have hD := ax_X9_as_4 hD
        generalize H1 = H at hP hS ⊢
        have hP : va_P D vwCl [(kd, .inl (c_kd, 4, .inl f_kd)), (h0, .inr (9, [.int (zI u_fa_5), .int (zI tc), .ref so, .ref sl, .ref ce, .int (zI fn), .ref kd, .ref wd, .ref hs, .ref pf, .ref lt, .int (zI mn), .ref wg, .int (zI ta), .long ck, .int (zI at9), .int (zI rfn), .ref rk, .ref rw, .ref rh, .int (zI cl), .ref sa, .ref fi, .int (zI bo), .ref ch, .ref cn, .int (zI ad), .int (zI ru), .ref kp, .int (zI dn), .ref rfa]))] H := hP
        have hD : va_D A [(kd, .inl (c_kd, 4, .inl f_kd)), (h0, .inr (9, [.int (zI u_fa_5), .int (zI tc), .ref so, .ref sl, .ref ce, .int (zI fn), .ref kd, .ref wd, .ref hs, .ref pf, .ref lt, .int (zI mn), .ref wg, .int (zI ta), .long ck, .int (zI at9), .int (zI rfn), .ref rk, .ref rw, .ref rh, .int (zI cl), .ref sa, .ref fi, .int (zI bo), .ref ch, .ref cn, .int (zI ad), .int (zI ru), .ref kp, .int (zI dn), .ref rfa]))] := hD
        have hP9 := hP.sub (ws' := [(h0, .inr (9, [.int (zI u_fa_5), .int (zI tc), .ref so, .ref sl, .ref ce, .int (zI fn), .ref kd, .ref wd, .ref hs, .ref pf, .ref lt, .int (zI mn), .ref wg, .int (zI ta), .long ck, .int (zI at9), .int (zI rfn), .ref rk, .ref rw, .ref rh, .int (zI cl), .ref sa, .ref fi, .int (zI bo), .ref ch, .ref cn, .int (zI ad), .int (zI ru), .ref kp, .int (zI dn), .ref rfa])), (kd, .inl (c_kd, 4, .inl f_kd))]) [1, 0] rfl
        have hD9 := hD.sub (ws' := [(h0, .inr (9, [.int (zI u_fa_5), .int (zI tc), .ref so, .ref sl, .ref ce, .int (zI fn), .ref kd, .ref wd, .ref hs, .ref pf, .ref lt, .int (zI mn), .ref wg, .int (zI ta), .long ck, .int (zI at9), .int (zI rfn), .ref rk, .ref rw, .ref rh, .int (zI cl), .ref sa, .ref fi, .int (zI bo), .ref ch, .ref cn, .int (zI ad), .int (zI ru), .ref kp, .int (zI dn), .ref rfa])), (kd, .inl (c_kd, 4, .inl f_kd))]) [1, 0] (by decide +kernel) rfl
        exact W.iret (v := (zI z_6)) hx hb hr (fun t ht hW => kQS_of (by omega) ⟨u_fa_5, h_7, by rw [ht]; exact hP9, hD9⟩ (hS.F ht)) hS.2.2 dX9_as_46
      · refine lv_iconst (v := zI 1) hx hb dX9_as_37 rfl ?_
        refine lv_goto (tgt := 46) hx hb dX9_as_38 (by decide) ?_
        have hP9 := hP.sub (ws' := [(h0, .inr (9, [.int (zI 0), .int (zI tc), .ref so, .ref sl, .ref ce, .int (zI fn), .ref kd, .ref wd, .ref hs, .ref pf, .ref lt, .int (zI mn), .ref wg, .int (zI ta), .long ck, .int (zI at9), .int (zI rfn), .ref rk, .ref rw, .ref rh, .int (zI cl), .ref sa, .ref fi, .int (zI bo), .ref ch, .ref cn, .int (zI ad), .int (zI ru), .ref kp, .int (zI dn), .ref rfa])), (kd, .inl (c_kd, 4, .inl f_kd))]) [0, 1] rfl
        have hD9 := hD.sub (ws' := [(h0, .inr (9, [.int (zI 0), .int (zI tc), .ref so, .ref sl, .ref ce, .int (zI fn), .ref kd, .ref wd, .ref hs, .ref pf, .ref lt, .int (zI mn), .ref wg, .int (zI ta), .long ck, .int (zI at9), .int (zI rfn), .ref rk, .ref rw, .ref rh, .int (zI cl), .ref sa, .ref fi, .int (zI bo), .ref ch, .ref cn, .int (zI ad), .int (zI ru), .ref kp, .int (zI dn), .ref rfa])), (kd, .inl (c_kd, 4, .inl f_kd))]) [0, 1] (by decide +kernel) rfl
        exact W.iret (v := (zI 1)) hx hb hr (fun t ht hW => kQS_of (by omega) ⟨0, (by omega), by rw [ht]; exact hP9, hD9⟩ (hS.F ht)) hS.2.2 dX9_as_46
    · have c_2 : ¬ (0 ≤ x ∧ x ≤ 2) := b01f c_2
      refine lv_bipush (v := zI (-2)) hx hb dX9_as_24 (by decide) ?_
      have hP9 := hP.sub (ws' := [(h0, .inr (9, [.int (zI 0), .int (zI tc), .ref so, .ref sl, .ref ce, .int (zI fn), .ref kd, .ref wd, .ref hs, .ref pf, .ref lt, .int (zI mn), .ref wg, .int (zI ta), .long ck, .int (zI at9), .int (zI rfn), .ref rk, .ref rw, .ref rh, .int (zI cl), .ref sa, .ref fi, .int (zI bo), .ref ch, .ref cn, .int (zI ad), .int (zI ru), .ref kp, .int (zI dn), .ref rfa])), (kd, .inl (c_kd, 4, .inl f_kd))]) [0, 1] rfl
      have hD9 := hD.sub (ws' := [(h0, .inr (9, [.int (zI 0), .int (zI tc), .ref so, .ref sl, .ref ce, .int (zI fn), .ref kd, .ref wd, .ref hs, .ref pf, .ref lt, .int (zI mn), .ref wg, .int (zI ta), .long ck, .int (zI at9), .int (zI rfn), .ref rk, .ref rw, .ref rh, .int (zI cl), .ref sa, .ref fi, .int (zI bo), .ref ch, .ref cn, .int (zI ad), .int (zI ru), .ref kp, .int (zI dn), .ref rfa])), (kd, .inl (c_kd, 4, .inl f_kd))]) [0, 1] (by decide +kernel) rfl
      exact W.iret (v := (zI (-2))) hx hb hr (fun t ht hW => kQS_of (by omega) ⟨0, (by omega), by rw [ht]; exact hP9, hD9⟩ (hS.F ht)) hS.2.2 dX9_as_26
  · have c_1 : ¬ (0 ≤ f ∧ f < fn) := b01f c_1
    refine lv_iconst (v := zI (-1)) hx hb dX9_as_13 rfl ?_
    have hP9 := hP.sub (ws' := [(h0, .inr (9, [.int (zI 0), .int (zI tc), .ref so, .ref sl, .ref ce, .int (zI fn), .ref kd, .ref wd, .ref hs, .ref pf, .ref lt, .int (zI mn), .ref wg, .int (zI ta), .long ck, .int (zI at9), .int (zI rfn), .ref rk, .ref rw, .ref rh, .int (zI cl), .ref sa, .ref fi, .int (zI bo), .ref ch, .ref cn, .int (zI ad), .int (zI ru), .ref kp, .int (zI dn), .ref rfa])), (kd, .inl (c_kd, 4, .inl f_kd))]) [0, 1] rfl
    have hD9 := hD.sub (ws' := [(h0, .inr (9, [.int (zI 0), .int (zI tc), .ref so, .ref sl, .ref ce, .int (zI fn), .ref kd, .ref wd, .ref hs, .ref pf, .ref lt, .int (zI mn), .ref wg, .int (zI ta), .long ck, .int (zI at9), .int (zI rfn), .ref rk, .ref rw, .ref rh, .int (zI cl), .ref sa, .ref fi, .int (zI bo), .ref ch, .ref cn, .int (zI ad), .int (zI ru), .ref kp, .int (zI dn), .ref rfa])), (kd, .inl (c_kd, 4, .inl f_kd))]) [0, 1] (by decide +kernel) rfl
    exact W.iret (v := (zI (-1))) hx hb hr (fun t ht hW => kQS_of (by omega) ⟨0, (by omega), by rw [ht]; exact hP9, hD9⟩ (hS.F ht)) hS.2.2 dX9_as_14
