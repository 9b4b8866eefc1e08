theorem kRn_st {f : Nat → Int32} {k : Int} (h : 1 ≤ k) : kRn f (k + 1).toNat = kRn f k.toNat + (if f k.toNat = f (k - 1).toNat then 0 else 1) := by
  obtain ⟨n, rfl⟩ : ∃ n : Nat, k = n + 1 := ⟨(k - 1).toNat, by omega⟩
  rw [show ((n : Int) + 1 + 1).toNat = n + 2 by omega, show ((n : Int) + 1).toNat = n + 1 by omega, show ((n : Int) + 1 - 1).toNat = n by omega]
  rfl
theorem dX9_runOf_0 : decode cX9_runOf 0 = .ok (.iconst 0, 1) := by decide +kernel
theorem dX9_runOf_1 : decode cX9_runOf 1 = .ok (.istore_n 2, 1) := by decide +kernel
theorem dX9_runOf_2 : decode cX9_runOf 2 = .ok (.iconst 1, 1) := by decide +kernel
theorem dX9_runOf_3 : decode cX9_runOf 3 = .ok (.istore_n 3, 1) := by decide +kernel
theorem dX9_runOf_4 : decode cX9_runOf 4 = .ok (.iload_n 3, 1) := by decide +kernel
theorem dX9_runOf_5 : decode cX9_runOf 5 = .ok (.iload_n 1, 1) := by decide +kernel
theorem dX9_runOf_6 : decode cX9_runOf 6 = .ok (.if_icmp .gt 34, 3) := by decide +kernel
theorem dX9_runOf_9 : decode cX9_runOf 9 = .ok (.iload_n 2, 1) := by decide +kernel
theorem dX9_runOf_10 : decode cX9_runOf 10 = .ok (.aload_n 0, 1) := by decide +kernel
theorem dX9_runOf_11 : decode cX9_runOf 11 = .ok (.getfield 55, 3) := by decide +kernel
theorem dX9_runOf_14 : decode cX9_runOf 14 = .ok (.iload_n 3, 1) := by decide +kernel
theorem dX9_runOf_15 : decode cX9_runOf 15 = .ok (.iaload, 1) := by decide +kernel
theorem dX9_runOf_16 : decode cX9_runOf 16 = .ok (.aload_n 0, 1) := by decide +kernel
theorem dX9_runOf_17 : decode cX9_runOf 17 = .ok (.getfield 55, 3) := by decide +kernel
theorem dX9_runOf_20 : decode cX9_runOf 20 = .ok (.iload_n 3, 1) := by decide +kernel
theorem dX9_runOf_21 : decode cX9_runOf 21 = .ok (.iconst 1, 1) := by decide +kernel
theorem dX9_runOf_22 : decode cX9_runOf 22 = .ok (.isub, 1) := by decide +kernel
theorem dX9_runOf_23 : decode cX9_runOf 23 = .ok (.iaload, 1) := by decide +kernel
theorem dX9_runOf_24 : decode cX9_runOf 24 = .ok (.if_icmp .ne 7, 3) := by decide +kernel
theorem dX9_runOf_27 : decode cX9_runOf 27 = .ok (.iconst 0, 1) := by decide +kernel
theorem dX9_runOf_28 : decode cX9_runOf 28 = .ok (.goto 4, 3) := by decide +kernel
theorem dX9_runOf_31 : decode cX9_runOf 31 = .ok (.iconst 1, 1) := by decide +kernel
theorem dX9_runOf_32 : decode cX9_runOf 32 = .ok (.iadd, 1) := by decide +kernel
theorem dX9_runOf_33 : decode cX9_runOf 33 = .ok (.istore_n 2, 1) := by decide +kernel
theorem dX9_runOf_34 : decode cX9_runOf 34 = .ok (.iinc 3 1, 3) := by decide +kernel
theorem dX9_runOf_37 : decode cX9_runOf 37 = .ok (.goto (-33), 3) := by decide +kernel
theorem dX9_runOf_40 : decode cX9_runOf 40 = .ok (.iload_n 2, 1) := by decide +kernel
theorem dX9_runOf_41 : decode cX9_runOf 41 = .ok (.ireturn, 1) := by decide +kernel
set_option maxRecDepth 20000 in
theorem mw_X9_runOf_0 : (.fieldLink RX9 55 "FontRunsModel" "chosen" "[I" : Cond) ∈ wsX9_runOf := List.mem_cons_of_mem _ (List.mem_append_left _ (List.mem_of_getElem? (i := 0) rfl))
set_option maxHeartbeats 4000000 in
set_option maxRecDepth 100000 in
theorem c_X9_runOf (l : Launch) (D : va_G) (sz : Nat) (kc : Int) (h0 : Nat) (fa : Int) (tc : Int) (so : Nat) (sl : Nat) (ce : Nat) (fn : Int) (kd : Nat) (wd : Nat) (hs : Nat) (pf : Nat) (lt : Nat) (mn : Int) (wg : Nat) (ta : Int) (ck : Int64) (at9 : Int) (rfn : Int) (rk : Nat) (rw : Nat) (rh : Nat) (cl : Int) (sa : Nat) (fi : Nat) (bo : Int) (ch : Nat) (cn : Nat) (ad : Int) (ru : Int) (kp : Nat) (dn : Int) (rfa : Nat) (c_cn : ClassId) (f_cn : Nat → Int32) (q0 : 0 ≤ kc ∧ kc ≤ 23) : Met l yX9_runOf wsX9_runOf ({ frames := 0, cells := 0, slots := 0, locals := 0 }) (kPre [.ref h0, .int (zI kc)] D [(h0, .inr (9, [.int (zI fa), .int (zI tc), .ref so, .ref sl, .ref ce, .int (zI fn), .ref kd, .ref wd, .ref hs, .ref pf, .ref lt, .int (zI mn), .ref wg, .int (zI ta), .long ck, .int (zI at9), .int (zI rfn), .ref rk, .ref rw, .ref rh, .int (zI cl), .ref sa, .ref fi, .int (zI bo), .ref ch, .ref cn, .int (zI ad), .int (zI ru), .ref kp, .int (zI dn), .ref rfa])), (cn, .inl (c_cn, 24, .inl f_cn))] [(c_cn, .int)] sz) (QcP (fun rz => rz + 1 = kRn f_cn (kc + 1).toNat ∧ (0 ≤ rz ∧ rz ≤ kc))) 0 0 (fun _ => False) := by
  refine Met.ofW (cc := cX9_runOf) (maxL := 4) (ret := (some .int)) (by decide) rfl ?_
  intro p e s m args below meth c s₁ B hml hv
  obtain ⟨rfl, hsz, hP, hK, hD0, hN⟩ := hv
  have hx := B.exec
  have hb := B.bytes
  have hr := B.returns
  have hts := atoms_spec (ws := wsX9_runOf) B.pre
  have hown : s.vm.findClass RX9 = some m.cls := findClass_of_methodNamed B.named
  have hlocks := B.notSynchronized
  subst hsz
  have hD := hD0
  have hP : va_P D vwCl [(h0, .inr (9, [.int (zI fa), .int (zI tc), .ref so, .ref sl, .ref ce, .int (zI fn), .ref kd, .ref wd, .ref hs, .ref pf, .ref lt, .int (zI mn), .ref wg, .int (zI ta), .long ck, .int (zI at9), .int (zI rfn), .ref rk, .ref rw, .ref rh, .int (zI cl), .ref sa, .ref fi, .int (zI bo), .ref ch, .ref cn, .int (zI ad), .int (zI ru), .ref kp, .int (zI dn), .ref rfa])), (cn, .inl (c_cn, 24, .inl f_cn))] s.heap := hP
  have hl := lv_entry ([.ref h0, .int (zI kc)]) (n := 4) (Nat.le_of_ble_eq_true rfl)
  rw [lg_entry_eq]
  generalize (lg_sl ([.ref h0, .int (zI kc)]) ++ List.replicate (4 - (lg_sl ([.ref h0, .int (zI kc)])).length) Slot.unset).toArray = ls at hl ⊢
  have hl : lv_has ls 4 [(0, .ref h0), (1, .int (zI kc))] := hl
  refine lv_iconst (v := zI 0) hx hb dX9_runOf_0 rfl ?_
  refine lv_istore_n (lv' := [(2, .int (zI 0)), (0, .ref h0), (1, .int (zI kc))]) hx hb dX9_runOf_1 rfl hl (by decide) rfl (fun ls hl => ?_)
  refine lv_iconst (v := zI 1) hx hb dX9_runOf_2 rfl ?_
  refine lv_istore_n (lv' := [(3, .int (zI 1)), (2, .int (zI 0)), (0, .ref h0), (1, .int (zI kc))]) hx hb dX9_runOf_3 rfl hl (by decide) rfl (fun ls hl => ?_)
  refine k_loopM (I := fun n9 H locs ls => ∃ (js : Int) (jk : Int), n9 = (kc + 1 - jk).toNat ∧ (1 ≤ jk ∧ jk ≤ kc + 1) ∧ (0 ≤ js ∧ js ≤ jk - 1) ∧ (js + 1 = kRn f_cn jk.toNat) ∧ H = s.heap ∧ locs = [] ∧ lv_has ls 4 [(3, .int (zI jk)), (2, .int (zI js)), (0, .ref h0), (1, .int (zI kc))]) ?_ _ ⟨0, 1, rfl, (by omega), (by omega), rfl, rfl, rfl, hl⟩
  intro n4 ih4 H locs ls hI
  obtain ⟨js, jk, en4, v_40, v_41, v_42, eH, eL, hl⟩ := hI
  subst eH
  subst eL
  refine lv_iload_n hx hb dX9_runOf_4 rfl (lv_at hl 0 rfl) ?_
  refine lv_iload_n hx hb dX9_runOf_5 rfl (lv_at hl 3 rfl) ?_
  refine kz_icmp_gt (tgt := 40) hx hb dX9_runOf_6 (by decide) (by omega) (by omega) (fun c_1 => ?_) (fun c_1 => ?_)
  · refine lv_iload_n hx hb dX9_runOf_40 rfl (lv_at hl 1 rfl) ?_
    exact W.iret (v := (zI js)) hx hb hr (fun t ht hW => QcP_of (by omega) ⟨(show jk = kc + 1 by omega) ▸ v_42, by omega⟩ ht) (fun _ h9 => by cases h9) dX9_runOf_41
  · refine lv_iload_n hx hb dX9_runOf_9 rfl (lv_at hl 1 rfl) ?_
    refine lv_aload_n hx hb dX9_runOf_10 rfl (lv_at hl 2 rfl) ?_
    refine va_get (D := D) (ci := 9) (v := .ref cn) (C := RX9) (T := TX9) (N := 31) hx hb hts (fun _ h9 => List.mem_cons_of_mem _ (List.mem_append_right _ h9)) hown hK hP 0 rfl rfl 25 (by decide) (hts (.fieldLink RX9 55 "FontRunsModel" "chosen" "[I") mw_X9_runOf_0) (fun _ h9 => h9) rfl dX9_runOf_11 ?_
    refine lv_iload_n hx hb dX9_runOf_14 rfl (lv_at hl 0 rfl) ?_
    refine kz_iald hx hb hK hP 1 0 rfl rfl (by omega) dX9_runOf_15 (fun z_2 rz_2 ez_2 => ?_)
    refine lv_aload_n hx hb dX9_runOf_16 rfl (lv_at hl 2 rfl) ?_
    refine va_get (D := D) (ci := 9) (v := .ref cn) (C := RX9) (T := TX9) (N := 31) hx hb hts (fun _ h9 => List.mem_cons_of_mem _ (List.mem_append_right _ h9)) hown hK hP 0 rfl rfl 25 (by decide) (hts (.fieldLink RX9 55 "FontRunsModel" "chosen" "[I") mw_X9_runOf_0) (fun _ h9 => h9) rfl dX9_runOf_17 ?_
    refine lv_iload_n hx hb dX9_runOf_20 rfl (lv_at hl 0 rfl) ?_
    refine lv_iconst (v := zI 1) hx hb dX9_runOf_21 rfl ?_
    refine kz_isub hx hb dX9_runOf_22 ?_
    refine kz_iald hx hb hK hP 1 0 rfl rfl (by omega) dX9_runOf_23 (fun z_3 rz_3 ez_3 => ?_)
    refine kz_icmp_ne (tgt := 31) hx hb dX9_runOf_24 (by decide) (by omega) (by omega) (fun c_4 => ?_) (fun c_4 => ?_)
    · refine lv_iconst (v := zI 1) hx hb dX9_runOf_31 rfl ?_
      refine kz_iadd hx hb dX9_runOf_32 ?_
      refine lv_istore_n (lv' := [(2, .int (zI (js + 1))), (3, .int (zI jk)), (0, .ref h0), (1, .int (zI kc))]) hx hb dX9_runOf_33 rfl hl (by decide) rfl (fun ls hl => ?_)
      refine lv_iinc (v := (zI (jk + 1))) (lv' := [(3, .int (zI (jk + 1))), (2, .int (zI (js + 1))), (0, .ref h0), (1, .int (zI kc))]) hx hb dX9_runOf_34 hl (k := 1) rfl (kz_inc _ 1) (by decide) rfl (fun ls hl => ?_)
      refine lv_goto (tgt := 4) hx hb dX9_runOf_37 (by decide) ?_
      exact ih4 _ (by omega) _ _ _ ⟨(js + 1), (jk + 1), rfl, (by omega), (by omega), (by rw [kRn_st (by omega), ← v_42, if_neg (by rw [ez_2, ez_3, zI_eq rz_2 rz_3]; exact c_4)] <;> omega), rfl, rfl, lv_sub hl [0, 1, 2, 3] rfl⟩
    · refine lv_iconst (v := zI 0) hx hb dX9_runOf_27 rfl ?_
      refine lv_goto (tgt := 32) hx hb dX9_runOf_28 (by decide) ?_
      refine kz_iadd hx hb dX9_runOf_32 ?_
      refine lv_istore_n (lv' := [(2, .int (zI (js + 0))), (3, .int (zI jk)), (0, .ref h0), (1, .int (zI kc))]) hx hb dX9_runOf_33 rfl hl (by decide) rfl (fun ls hl => ?_)
      refine lv_iinc (v := (zI (jk + 1))) (lv' := [(3, .int (zI (jk + 1))), (2, .int (zI (js + 0))), (0, .ref h0), (1, .int (zI kc))]) hx hb dX9_runOf_34 hl (k := 1) rfl (kz_inc _ 1) (by decide) rfl (fun ls hl => ?_)
      refine lv_goto (tgt := 4) hx hb dX9_runOf_37 (by decide) ?_
      exact ih4 _ (by omega) _ _ _ ⟨(js + 0), (jk + 1), rfl, (by omega), (by omega), (by rw [kRn_st (by omega), ← v_42, if_pos (by rw [ez_2, ez_3, c_4])] <;> omega), rfl, rfl, lv_sub hl [0, 1, 2, 3] rfl⟩



