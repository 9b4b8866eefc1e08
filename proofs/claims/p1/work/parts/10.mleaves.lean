theorem kif {f n : Int32} (h1 : ¬ f < 0) (h2 : ¬ n ≤ f) : 0 ≤ f ∧ f < n := by rw [klt] at h1; rw [kle] at h2; rw [kle, klt]; omega
theorem kif1 {f n : Int32} (h : f < 0) : ¬ (0 ≤ f ∧ f < n) := by rw [klt] at h; rw [kle, klt]; omega
theorem kif2 {f n : Int32} (h : n ≤ f) : ¬ (0 ≤ f ∧ f < n) := by rw [kle] at h; rw [kle, klt]; omega
theorem knf {f : Int32} : ¬ (0 ≤ f ∧ f < (0 : Int32)) := by rw [kle, klt]; omega
theorem dX9_isFont_0 : decode cX9_isFont 0 = .ok (.iload_n 1, 1) := by decide +kernel
theorem dX9_isFont_1 : decode cX9_isFont 1 = .ok (.ifCond .lt 15, 3) := by decide +kernel
theorem dX9_isFont_4 : decode cX9_isFont 4 = .ok (.iload_n 1, 1) := by decide +kernel
theorem dX9_isFont_5 : decode cX9_isFont 5 = .ok (.aload_n 0, 1) := by decide +kernel
theorem dX9_isFont_6 : decode cX9_isFont 6 = .ok (.getfield 74, 3) := by decide +kernel
theorem dX9_isFont_9 : decode cX9_isFont 9 = .ok (.if_icmp .ge 7, 3) := by decide +kernel
theorem dX9_isFont_12 : decode cX9_isFont 12 = .ok (.iconst 1, 1) := by decide +kernel
theorem dX9_isFont_13 : decode cX9_isFont 13 = .ok (.goto 4, 3) := by decide +kernel
theorem dX9_isFont_16 : decode cX9_isFont 16 = .ok (.iconst 0, 1) := by decide +kernel
theorem dX9_isFont_17 : decode cX9_isFont 17 = .ok (.ireturn, 1) := by decide +kernel
set_option maxHeartbeats 4000000 in
set_option maxRecDepth 100000 in
theorem c_X9_isFont (l : Launch) (D : va_G) (sz : Nat) (f : Int32) (h0 : Nat) (fa : Int32) (tc : Int32) (so : Nat) (sl : Nat) (ce : Nat) (n : Int32) (kd : Nat) (wd : Nat) (hs : Nat) (pr : Nat) (la : Nat) (wg : Nat) (ta : Int32) (ck : Int64) (at9 : Int32) (rfn : Int32) (rk : Nat) (rw : Nat) (rh : Nat) (cl : Int32) (sa : Nat) (fi : Nat) (bo : Int32) (ch : Nat) (cn : Nat) (ad : Int32) (ru : Int32) (kp : Nat) (rfa : Nat) : Met l yX9_isFont wsX9_isFont ({ frames := 0, cells := 0, slots := 0, locals := 0 }) (kPre [.ref h0, .int f] D [(h0, .inr (9, [.int fa, .int tc, .ref so, .ref sl, .ref ce, .int n, .ref kd, .ref wd, .ref hs, .ref pr, .ref la, .int 0, .ref wg, .int ta, .long ck, .int at9, .int rfn, .ref rk, .ref rw, .ref rh, .int cl, .ref sa, .ref fi, .int bo, .ref ch, .ref cn, .int ad, .int ru, .ref kp, .int 0, .ref rfa]))] [] sz) (QcRead (if (0 ≤ f ∧ f < n) then 1 else 0)) 0 0 (fun _ => False) := by
  refine Met.ofW (cc := cX9_isFont) (maxL := 2) (ret := (some .boolean)) (by decide) rfl ?_
  intro p e s m args below meth c s₁ B hml hv
  obtain ⟨rfl, hsz, hP, hK, hD0, hN⟩ := hv
  have hx := B.exec
  have hb := B.bytes
  have hr := B.returns
  have hts := atoms_spec (ws := wsX9_isFont) B.pre
  have hown : s.vm.findClass RX9 = some m.cls := findClass_of_methodNamed B.named
  have hlocks := B.notSynchronized
  subst hsz
  have hD := hD0
  have hP : va_P D vwCl [(h0, .inr (9, [.int fa, .int tc, .ref so, .ref sl, .ref ce, .int n, .ref kd, .ref wd, .ref hs, .ref pr, .ref la, .int 0, .ref wg, .int ta, .long ck, .int at9, .int rfn, .ref rk, .ref rw, .ref rh, .int cl, .ref sa, .ref fi, .int bo, .ref ch, .ref cn, .int ad, .int ru, .ref kp, .int 0, .ref rfa]))] s.heap := hP
  have hl := lv_entry ([.ref h0, .int f]) (n := 2) (Nat.le_of_ble_eq_true rfl)
  rw [lg_entry_eq]
  generalize (lg_sl ([.ref h0, .int f]) ++ List.replicate (2 - (lg_sl ([.ref h0, .int f])).length) Slot.unset).toArray = ls at hl ⊢
  have hl : lv_has ls 2 [(0, .ref h0), (1, .int f)] := hl
  refine lv_iload_n hx hb dX9_isFont_0 rfl (lv_at hl 1 rfl) ?_
  refine lv_if_lt (tgt := 16) hx hb dX9_isFont_1 (by decide) (fun c_1 => ?_) (fun c_1 => ?_)
  · refine lv_iconst (v := 0) hx hb dX9_isFont_16 (by decide) ?_
    exact W.zret (v := 0) hx hb hr rfl (fun t ht hW => kRd (by first | exact (if_pos (kif c_1 c_2)).symm | exact (if_neg (kif1 c_1)).symm | exact (if_neg (kif2 c_2)).symm) ht) (fun _ h9 => by cases h9) dX9_isFont_17
  · refine lv_iload_n hx hb dX9_isFont_4 rfl (lv_at hl 1 rfl) ?_
    refine lv_aload_n hx hb dX9_isFont_5 rfl (lv_at hl 0 rfl) ?_
    refine va_get (D := D) (ci := 9) (v := .int n) (C := RX9) (T := TX9) (N := 31) hx hb hts (fun _ h9 => List.mem_cons_of_mem _ (List.mem_append_right _ h9)) hown hK hP 0 rfl rfl 5 (by decide) (hts (.fieldLink RX9 74 "FontRunsModel" "fonts" "I") (by decide +kernel)) (fun _ h9 => h9) rfl dX9_isFont_6 ?_
    refine lv_icmp_ge (tgt := 16) hx hb dX9_isFont_9 (by decide) (fun c_2 => ?_) (fun c_2 => ?_)
    · refine lv_iconst (v := 0) hx hb dX9_isFont_16 (by decide) ?_
      exact W.zret (v := 0) hx hb hr rfl (fun t ht hW => kRd (by first | exact (if_pos (kif c_1 c_2)).symm | exact (if_neg (kif1 c_1)).symm | exact (if_neg (kif2 c_2)).symm) ht) (fun _ h9 => by cases h9) dX9_isFont_17
    · refine lv_iconst (v := 1) hx hb dX9_isFont_12 (by decide) ?_
      refine lv_goto (tgt := 17) hx hb dX9_isFont_13 (by decide) ?_
      exact W.zret (v := 1) hx hb hr rfl (fun t ht hW => kRd (by first | exact (if_pos (kif c_1 c_2)).symm | exact (if_neg (kif1 c_1)).symm | exact (if_neg (kif2 c_2)).symm) ht) (fun _ h9 => by cases h9) dX9_isFont_17
theorem dX9_fails_0 : decode cX9_fails 0 = .ok (.aload_n 0, 1) := by decide +kernel
theorem dX9_fails_1 : decode cX9_fails 1 = .ok (.iload_n 1, 1) := by decide +kernel
theorem dX9_fails_2 : decode cX9_fails 2 = .ok (.putfield 64, 3) := by decide +kernel
theorem dX9_fails_5 : decode cX9_fails 5 = .ok (.bipush (-10), 2) := by decide +kernel
theorem dX9_fails_7 : decode cX9_fails 7 = .ok (.iload_n 1, 1) := by decide +kernel
theorem dX9_fails_8 : decode cX9_fails 8 = .ok (.isub, 1) := by decide +kernel
theorem dX9_fails_9 : decode cX9_fails 9 = .ok (.ireturn, 1) := by decide +kernel
set_option maxHeartbeats 4000000 in
set_option maxRecDepth 100000 in
theorem c_X9_fails (l : Launch) (D : va_G) (sz : Nat) (f : Int32) (h0 : Nat) (fa : Int32) (tc : Int32) (so : Nat) (sl : Nat) (ce : Nat) (kd : Nat) (wd : Nat) (hs : Nat) (pr : Nat) (la : Nat) (wg : Nat) (ta : Int32) (ck : Int64) (at9 : Int32) (rfn : Int32) (rk : Nat) (rw : Nat) (rh : Nat) (cl : Int32) (sa : Nat) (fi : Nat) (bo : Int32) (ch : Nat) (cn : Nat) (ad : Int32) (ru : Int32) (kp : Nat) (rfa : Nat) : Met l yX9_fails wsX9_fails ({ frames := 0, cells := 0, slots := 0, locals := 0 }) (kPre [.ref h0, .int f] D [(h0, .inr (9, [.int fa, .int tc, .ref so, .ref sl, .ref ce, .int 0, .ref kd, .ref wd, .ref hs, .ref pr, .ref la, .int 0, .ref wg, .int ta, .long ck, .int at9, .int rfn, .ref rk, .ref rw, .ref rh, .int cl, .ref sa, .ref fi, .int bo, .ref ch, .ref cn, .int ad, .int ru, .ref kp, .int 0, .ref rfa]))] [] sz) (kQi ((-10) - f) (va_A [(h0, .inr (9, [.int fa, .int tc, .ref so, .ref sl, .ref ce, .int 0, .ref kd, .ref wd, .ref hs, .ref pr, .ref la, .int 0, .ref wg, .int ta, .long ck, .int at9, .int rfn, .ref rk, .ref rw, .ref rh, .int cl, .ref sa, .ref fi, .int bo, .ref ch, .ref cn, .int ad, .int ru, .ref kp, .int 0, .ref rfa]))] sz)) 0 0 (va_A [(h0, .inr (9, [.int fa, .int tc, .ref so, .ref sl, .ref ce, .int 0, .ref kd, .ref wd, .ref hs, .ref pr, .ref la, .int 0, .ref wg, .int ta, .long ck, .int at9, .int rfn, .ref rk, .ref rw, .ref rh, .int cl, .ref sa, .ref fi, .int bo, .ref ch, .ref cn, .int ad, .int ru, .ref kp, .int 0, .ref rfa]))] sz) := by
  refine Met.ofW (cc := cX9_fails) (maxL := 2) (ret := (some .int)) (by decide) rfl ?_
  intro p e s m args below meth c s₁ B hml hv
  obtain ⟨rfl, hsz, hP, hK, hD0, hN⟩ := hv
  have hx := B.exec
  have hb := B.bytes
  have hr := B.returns
  have hts := atoms_spec (ws := wsX9_fails) B.pre
  have hown : s.vm.findClass RX9 = some m.cls := findClass_of_methodNamed B.named
  have hlocks := B.notSynchronized
  subst hsz
  have hD := hD0.self (sz := s.heap.size)
  generalize hAe : va_A [(h0, .inr (9, [.int fa, .int tc, .ref so, .ref sl, .ref ce, .int 0, .ref kd, .ref wd, .ref hs, .ref pr, .ref la, .int 0, .ref wg, .int ta, .long ck, .int at9, .int rfn, .ref rk, .ref rw, .ref rh, .int cl, .ref sa, .ref fi, .int bo, .ref ch, .ref cn, .int ad, .int ru, .ref kp, .int 0, .ref rfa]))] s.heap.size = A at hD ⊢
  have hA : ∀ q : Nat, s.heap.size ≤ q → A q := fun q h => by rw [← hAe]; exact Or.inr h
  have hS : va_S A s.heap s.heap [] := va_S.rf
  have hP : va_P D vwCl [(h0, .inr (9, [.int fa, .int tc, .ref so, .ref sl, .ref ce, .int 0, .ref kd, .ref wd, .ref hs, .ref pr, .ref la, .int 0, .ref wg, .int ta, .long ck, .int at9, .int rfn, .ref rk, .ref rw, .ref rh, .int cl, .ref sa, .ref fi, .int bo, .ref ch, .ref cn, .int ad, .int ru, .ref kp, .int 0, .ref rfa]))] s.heap := hP
  have hl := lv_entry ([.ref h0, .int f]) (n := 2) (Nat.le_of_ble_eq_true rfl)
  rw [lg_entry_eq]
  generalize (lg_sl ([.ref h0, .int f]) ++ List.replicate (2 - (lg_sl ([.ref h0, .int f])).length) Slot.unset).toArray = ls at hl ⊢
  have hl : lv_has ls 2 [(0, .ref h0), (1, .int f)] := hl
  refine lv_aload_n hx hb dX9_fails_0 rfl (lv_at hl 0 rfl) ?_
  refine lv_iload_n hx hb dX9_fails_1 rfl (lv_at hl 1 rfl) ?_
  refine va_put (D := D) (ci := 9) (v := .int f) (ty := .int) (C := RX9) (T := TX9) (N := 31) hx hb hts (fun _ h9 => List.mem_cons_of_mem _ (List.mem_append_right _ h9)) tyX9 tyX9_ok nmX9 hown hK hP hD hS 0 rfl rfl 0 (by decide) (hts (.fieldLink RX9 64 "FontRunsModel" "fault" "I") (by decide +kernel)) (fun _ h9 => h9) rfl (by decide +kernel) rfl rfl (Nat.le_of_ble_eq_true rfl) dX9_fails_2 (fun H locs hP hD hS => ?_)
  have hP : va_P D vwCl [(h0, .inr (9, [.int f, .int tc, .ref so, .ref sl, .ref ce, .int 0, .ref kd, .ref wd, .ref hs, .ref pr, .ref la, .int 0, .ref wg, .int ta, .long ck, .int at9, .int rfn, .ref rk, .ref rw, .ref rh, .int cl, .ref sa, .ref fi, .int bo, .ref ch, .ref cn, .int ad, .int ru, .ref kp, .int 0, .ref rfa]))] H := hP
  have hD : va_D A [(h0, .inr (9, [.int f, .int tc, .ref so, .ref sl, .ref ce, .int 0, .ref kd, .ref wd, .ref hs, .ref pr, .ref la, .int 0, .ref wg, .int ta, .long ck, .int at9, .int rfn, .ref rk, .ref rw, .ref rh, .int cl, .ref sa, .ref fi, .int bo, .ref ch, .ref cn, .int ad, .int ru, .ref kp, .int 0, .ref rfa]))] := hD
  refine lv_bipush (v := (-10)) hx hb dX9_fails_5 (by decide) ?_
  refine lv_iload_n hx hb dX9_fails_7 rfl (lv_at hl 1 rfl) ?_
  refine lv_isub hx hb dX9_fails_8 ?_
  exact W.iret (v := ((-10) - f)) hx hb hr (fun t ht hW => kQi_of rfl (hS.F ht)) hS.2.2 dX9_fails_9
theorem dX9_lost_0 : decode cX9_lost 0 = .ok (.aload_n 0, 1) := by decide +kernel
theorem dX9_lost_1 : decode cX9_lost 1 = .ok (.iload_n 1, 1) := by decide +kernel
theorem dX9_lost_2 : decode cX9_lost 2 = .ok (.putfield 64, 3) := by decide +kernel
theorem dX9_lost_5 : decode cX9_lost 5 = .ok (.ldc2_w 68, 3) := by decide +kernel
theorem dX9_lost_8 : decode cX9_lost 8 = .ok (.lreturn, 1) := by decide +kernel
set_option maxHeartbeats 4000000 in
set_option maxRecDepth 100000 in
theorem c_X9_lost (l : Launch) (D : va_G) (sz : Nat) (f : Int32) (h0 : Nat) (fa : Int32) (tc : Int32) (so : Nat) (sl : Nat) (ce : Nat) (kd : Nat) (wd : Nat) (hs : Nat) (pr : Nat) (la : Nat) (wg : Nat) (ta : Int32) (ck : Int64) (at9 : Int32) (rfn : Int32) (rk : Nat) (rw : Nat) (rh : Nat) (cl : Int32) (sa : Nat) (fi : Nat) (bo : Int32) (ch : Nat) (cn : Nat) (ad : Int32) (ru : Int32) (kp : Nat) (rfa : Nat) : Met l yX9_lost wsX9_lost ({ frames := 0, cells := 0, slots := 0, locals := 0 }) (kPre [.ref h0, .int f] D [(h0, .inr (9, [.int fa, .int tc, .ref so, .ref sl, .ref ce, .int 0, .ref kd, .ref wd, .ref hs, .ref pr, .ref la, .int 0, .ref wg, .int ta, .long ck, .int at9, .int rfn, .ref rk, .ref rw, .ref rh, .int cl, .ref sa, .ref fi, .int bo, .ref ch, .ref cn, .int ad, .int ru, .ref kp, .int 0, .ref rfa]))] [] sz) (kQl (-9223372036854775808) (va_A [(h0, .inr (9, [.int fa, .int tc, .ref so, .ref sl, .ref ce, .int 0, .ref kd, .ref wd, .ref hs, .ref pr, .ref la, .int 0, .ref wg, .int ta, .long ck, .int at9, .int rfn, .ref rk, .ref rw, .ref rh, .int cl, .ref sa, .ref fi, .int bo, .ref ch, .ref cn, .int ad, .int ru, .ref kp, .int 0, .ref rfa]))] sz)) 0 0 (va_A [(h0, .inr (9, [.int fa, .int tc, .ref so, .ref sl, .ref ce, .int 0, .ref kd, .ref wd, .ref hs, .ref pr, .ref la, .int 0, .ref wg, .int ta, .long ck, .int at9, .int rfn, .ref rk, .ref rw, .ref rh, .int cl, .ref sa, .ref fi, .int bo, .ref ch, .ref cn, .int ad, .int ru, .ref kp, .int 0, .ref rfa]))] sz) := by
  refine Met.ofW (cc := cX9_lost) (maxL := 2) (ret := (some .long)) (by decide) rfl ?_
  intro p e s m args below meth c s₁ B hml hv
  obtain ⟨rfl, hsz, hP, hK, hD0, hN⟩ := hv
  have hx := B.exec
  have hb := B.bytes
  have hr := B.returns
  have hts := atoms_spec (ws := wsX9_lost) B.pre
  have hown : s.vm.findClass RX9 = some m.cls := findClass_of_methodNamed B.named
  have hlocks := B.notSynchronized
  subst hsz
  have hD := hD0.self (sz := s.heap.size)
  generalize hAe : va_A [(h0, .inr (9, [.int fa, .int tc, .ref so, .ref sl, .ref ce, .int 0, .ref kd, .ref wd, .ref hs, .ref pr, .ref la, .int 0, .ref wg, .int ta, .long ck, .int at9, .int rfn, .ref rk, .ref rw, .ref rh, .int cl, .ref sa, .ref fi, .int bo, .ref ch, .ref cn, .int ad, .int ru, .ref kp, .int 0, .ref rfa]))] s.heap.size = A at hD ⊢
  have hA : ∀ q : Nat, s.heap.size ≤ q → A q := fun q h => by rw [← hAe]; exact Or.inr h
  have hS : va_S A s.heap s.heap [] := va_S.rf
  have hP : va_P D vwCl [(h0, .inr (9, [.int fa, .int tc, .ref so, .ref sl, .ref ce, .int 0, .ref kd, .ref wd, .ref hs, .ref pr, .ref la, .int 0, .ref wg, .int ta, .long ck, .int at9, .int rfn, .ref rk, .ref rw, .ref rh, .int cl, .ref sa, .ref fi, .int bo, .ref ch, .ref cn, .int ad, .int ru, .ref kp, .int 0, .ref rfa]))] s.heap := hP
  have hl := lv_entry ([.ref h0, .int f]) (n := 2) (Nat.le_of_ble_eq_true rfl)
  rw [lg_entry_eq]
  generalize (lg_sl ([.ref h0, .int f]) ++ List.replicate (2 - (lg_sl ([.ref h0, .int f])).length) Slot.unset).toArray = ls at hl ⊢
  have hl : lv_has ls 2 [(0, .ref h0), (1, .int f)] := hl
  refine lv_aload_n hx hb dX9_lost_0 rfl (lv_at hl 0 rfl) ?_
  refine lv_iload_n hx hb dX9_lost_1 rfl (lv_at hl 1 rfl) ?_
  refine va_put (D := D) (ci := 9) (v := .int f) (ty := .int) (C := RX9) (T := TX9) (N := 31) hx hb hts (fun _ h9 => List.mem_cons_of_mem _ (List.mem_append_right _ h9)) tyX9 tyX9_ok nmX9 hown hK hP hD hS 0 rfl rfl 0 (by decide) (hts (.fieldLink RX9 64 "FontRunsModel" "fault" "I") (by decide +kernel)) (fun _ h9 => h9) rfl (by decide +kernel) rfl rfl (Nat.le_of_ble_eq_true rfl) dX9_lost_2 (fun H locs hP hD hS => ?_)
  have hP : va_P D vwCl [(h0, .inr (9, [.int f, .int tc, .ref so, .ref sl, .ref ce, .int 0, .ref kd, .ref wd, .ref hs, .ref pr, .ref la, .int 0, .ref wg, .int ta, .long ck, .int at9, .int rfn, .ref rk, .ref rw, .ref rh, .int cl, .ref sa, .ref fi, .int bo, .ref ch, .ref cn, .int ad, .int ru, .ref kp, .int 0, .ref rfa]))] H := hP
  have hD : va_D A [(h0, .inr (9, [.int f, .int tc, .ref so, .ref sl, .ref ce, .int 0, .ref kd, .ref wd, .ref hs, .ref pr, .ref la, .int 0, .ref wg, .int ta, .long ck, .int at9, .int rfn, .ref rk, .ref rw, .ref rh, .int cl, .ref sa, .ref fi, .int bo, .ref ch, .ref cn, .int ad, .int ru, .ref kp, .int 0, .ref rfa]))] := hD
  refine lv_ldc2 (v := (-9223372036854775808)) hx hb hown (hts (.constantLong RX9 68 (-9223372036854775808)) (by decide +kernel)) dX9_lost_5 ?_
  exact W.lret (v := (-9223372036854775808)) hx hb hr (fun t ht hW => kQl_of rfl (hS.F ht)) hS.2.2 dX9_lost_8
theorem dX9_against_0 : decode cX9_against 0 = .ok (.aload_n 0, 1) := by decide +kernel
theorem dX9_against_1 : decode cX9_against 1 = .ok (.getfield 9, 3) := by decide +kernel
theorem dX9_against_4 : decode cX9_against 4 = .ok (.iload_n 1, 1) := by decide +kernel
theorem dX9_against_5 : decode cX9_against 5 = .ok (.iaload, 1) := by decide +kernel
theorem dX9_against_6 : decode cX9_against 6 = .ok (.bipush (-9), 2) := by decide +kernel
theorem dX9_against_8 : decode cX9_against 8 = .ok (.if_icmp .eq 15, 3) := by decide +kernel
theorem dX9_against_23 : decode cX9_against 23 = .ok (.aload_n 0, 1) := by decide +kernel
theorem dX9_against_24 : decode cX9_against 24 = .ok (.getfield 9, 3) := by decide +kernel
theorem dX9_against_27 : decode cX9_against 27 = .ok (.iload_n 1, 1) := by decide +kernel
theorem dX9_against_28 : decode cX9_against 28 = .ok (.iaload, 1) := by decide +kernel
theorem dX9_against_29 : decode cX9_against 29 = .ok (.bipush (-9), 2) := by decide +kernel
theorem dX9_against_31 : decode cX9_against 31 = .ok (.if_icmp .ne 5, 3) := by decide +kernel
theorem dX9_against_34 : decode cX9_against 34 = .ok (.iconst 1, 1) := by decide +kernel
theorem dX9_against_35 : decode cX9_against 35 = .ok (.ireturn, 1) := by decide +kernel
set_option maxHeartbeats 4000000 in
set_option maxRecDepth 100000 in
theorem c_X9_against (l : Launch) (D : va_G) (sz : Nat) (k : Int32) (n : Int32) (i : Int32) (z : Int32) (h0 : Nat) (fa : Int32) (tc : Int32) (so : Nat) (sl : Nat) (ce : Nat) (kd : Nat) (wd : Nat) (hs : Nat) (pr : Nat) (la : Nat) (wg : Nat) (ta : Int32) (ck : Int64) (at9 : Int32) (rfn : Int32) (rk : Nat) (rw : Nat) (rh : Nat) (cl : Int32) (sa : Nat) (fi : Nat) (bo : Int32) (ch : Nat) (cn : Nat) (ad : Int32) (ru : Int32) (kp : Nat) (rfa : Nat) (cso : ClassId) (h4 : 0 ≤ k ∧ k ≤ 3) : Met l yX9_against wsX9_against ({ frames := 0, cells := 0, slots := 0, locals := 0 }) (kPre [.ref h0, .int k, .int n, .int i, .int z] D [(h0, .inr (9, [.int fa, .int tc, .ref so, .ref sl, .ref ce, .int 0, .ref kd, .ref wd, .ref hs, .ref pr, .ref la, .int 0, .ref wg, .int ta, .long ck, .int at9, .int rfn, .ref rk, .ref rw, .ref rh, .int cl, .ref sa, .ref fi, .int bo, .ref ch, .ref cn, .int ad, .int ru, .ref kp, .int 0, .ref rfa])), (so, .inl (cso, 4, .inl kSO))] [(cso, .int)] sz) (QcRead 1) 0 0 (fun _ => False) := by
  refine Met.ofW (cc := cX9_against) (maxL := 5) (ret := (some .int)) (by decide) rfl ?_
  intro p e s m args below meth c s₁ B hml hv
  obtain ⟨rfl, hsz, hP, hK, hD0, hN⟩ := hv
  have hx := B.exec
  have hb := B.bytes
  have hr := B.returns
  have hts := atoms_spec (ws := wsX9_against) B.pre
  have hown : s.vm.findClass RX9 = some m.cls := findClass_of_methodNamed B.named
  have hlocks := B.notSynchronized
  subst hsz
  have hD := hD0
  have hP : va_P D vwCl [(h0, .inr (9, [.int fa, .int tc, .ref so, .ref sl, .ref ce, .int 0, .ref kd, .ref wd, .ref hs, .ref pr, .ref la, .int 0, .ref wg, .int ta, .long ck, .int at9, .int rfn, .ref rk, .ref rw, .ref rh, .int cl, .ref sa, .ref fi, .int bo, .ref ch, .ref cn, .int ad, .int ru, .ref kp, .int 0, .ref rfa])), (so, .inl (cso, 4, .inl kSO))] s.heap := hP
  have hl := lv_entry ([.ref h0, .int k, .int n, .int i, .int z]) (n := 5) (Nat.le_of_ble_eq_true rfl)
  rw [lg_entry_eq]
  generalize (lg_sl ([.ref h0, .int k, .int n, .int i, .int z]) ++ List.replicate (5 - (lg_sl ([.ref h0, .int k, .int n, .int i, .int z])).length) Slot.unset).toArray = ls at hl ⊢
  have hl : lv_has ls 5 [(0, .ref h0), (1, .int k), (2, .int n), (3, .int i), (4, .int z)] := hl
  refine lv_aload_n hx hb dX9_against_0 rfl (lv_at hl 0 rfl) ?_
  refine va_get (D := D) (ci := 9) (v := .ref so) (C := RX9) (T := TX9) (N := 31) hx hb hts (fun _ h9 => List.mem_cons_of_mem _ (List.mem_append_right _ h9)) hown hK hP 0 rfl rfl 2 (by decide) (hts (.fieldLink RX9 9 "FontRunsModel" "sorts" "[I") (by decide +kernel)) (fun _ h9 => h9) rfl dX9_against_1 ?_
  refine lv_iload_n hx hb dX9_against_4 rfl (lv_at hl 1 rfl) ?_
  refine va_iald hx hb hK hP 1 0 rfl rfl (k4in h4) dX9_against_5 ?_
  refine kn_i (-9) (kso h4) ?_
  refine lv_bipush (v := (-9)) hx hb dX9_against_6 (by decide) ?_
  refine lv_icmp_eq (tgt := 23) hx hb dX9_against_8 (by decide) (fun _ => ?_) (fun c9 => absurd (by decide) c9)
  refine lv_aload_n hx hb dX9_against_23 rfl (lv_at hl 0 rfl) ?_
  refine va_get (D := D) (ci := 9) (v := .ref so) (C := RX9) (T := TX9) (N := 31) hx hb hts (fun _ h9 => List.mem_cons_of_mem _ (List.mem_append_right _ h9)) hown hK hP 0 rfl rfl 2 (by decide) (hts (.fieldLink RX9 9 "FontRunsModel" "sorts" "[I") (by decide +kernel)) (fun _ h9 => h9) rfl dX9_against_24 ?_
  refine lv_iload_n hx hb dX9_against_27 rfl (lv_at hl 1 rfl) ?_
  refine va_iald hx hb hK hP 1 0 rfl rfl (k4in h4) dX9_against_28 ?_
  refine kn_i (-9) (kso h4) ?_
  refine lv_bipush (v := (-9)) hx hb dX9_against_29 (by decide) ?_
  refine lv_icmp_ne (tgt := 36) hx hb dX9_against_31 (by decide) (fun c9 => absurd (by decide) c9) (fun _ => ?_)
  refine lv_iconst (v := 1) hx hb dX9_against_34 (by decide) ?_
  exact W.iret (v := 1) hx hb hr (fun t ht hW => kRd rfl ht) (fun _ h9 => by cases h9) dX9_against_35
