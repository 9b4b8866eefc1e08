theorem dX9_findClusters_0 : decode cX9_findClusters 0 = .ok (.aload_n 0, 1) := by decide +kernel
theorem dX9_findClusters_1 : decode cX9_findClusters 1 = .ok (.iconst 0, 1) := by decide +kernel
theorem dX9_findClusters_2 : decode cX9_findClusters 2 = .ok (.putfield 138, 3) := by decide +kernel
theorem dX9_findClusters_5 : decode cX9_findClusters 5 = .ok (.aload_n 0, 1) := by decide +kernel
theorem dX9_findClusters_6 : decode cX9_findClusters 6 = .ok (.iconst 0, 1) := by decide +kernel
theorem dX9_findClusters_7 : decode cX9_findClusters 7 = .ok (.putfield 141, 3) := by decide +kernel
theorem dX9_findClusters_10 : decode cX9_findClusters 10 = .ok (.iconst 0, 1) := by decide +kernel
theorem dX9_findClusters_11 : decode cX9_findClusters 11 = .ok (.istore_n 2, 1) := by decide +kernel
theorem dX9_findClusters_12 : decode cX9_findClusters 12 = .ok (.iload_n 2, 1) := by decide +kernel
theorem dX9_findClusters_13 : decode cX9_findClusters 13 = .ok (.aload_n 0, 1) := by decide +kernel
theorem dX9_findClusters_14 : decode cX9_findClusters 14 = .ok (.getfield 101, 3) := by decide +kernel
theorem dX9_findClusters_17 : decode cX9_findClusters 17 = .ok (.if_icmp .ge 44, 3) := by decide +kernel
theorem dX9_findClusters_61 : decode cX9_findClusters 61 = .ok (.aload_n 0, 1) := by decide +kernel
theorem dX9_findClusters_62 : decode cX9_findClusters 62 = .ok (.getfield 46, 3) := by decide +kernel
theorem dX9_findClusters_65 : decode cX9_findClusters 65 = .ok (.aload_n 0, 1) := by decide +kernel
theorem dX9_findClusters_66 : decode cX9_findClusters 66 = .ok (.getfield 138, 3) := by decide +kernel
theorem dX9_findClusters_69 : decode cX9_findClusters 69 = .ok (.aload_n 0, 1) := by decide +kernel
theorem dX9_findClusters_70 : decode cX9_findClusters 70 = .ok (.getfield 101, 3) := by decide +kernel
theorem dX9_findClusters_73 : decode cX9_findClusters 73 = .ok (.iastore, 1) := by decide +kernel
theorem dX9_findClusters_74 : decode cX9_findClusters 74 = .ok (.iconst 0, 1) := by decide +kernel
theorem dX9_findClusters_75 : decode cX9_findClusters 75 = .ok (.istore_n 2, 1) := by decide +kernel
theorem dX9_findClusters_76 : decode cX9_findClusters 76 = .ok (.iload_n 2, 1) := by decide +kernel
theorem dX9_findClusters_77 : decode cX9_findClusters 77 = .ok (.aload_n 0, 1) := by decide +kernel
theorem dX9_findClusters_78 : decode cX9_findClusters 78 = .ok (.getfield 138, 3) := by decide +kernel
theorem dX9_findClusters_81 : decode cX9_findClusters 81 = .ok (.if_icmp .ge 135, 3) := by decide +kernel
theorem dX9_findClusters_216 : decode cX9_findClusters 216 = .ok (.return_, 1) := by decide +kernel
set_option maxHeartbeats 4000000 in
set_option maxRecDepth 100000 in
theorem c_X9_findClusters (l : Launch) (D : va_G) (sz : Nat) (wo : Int32) (h0 : Nat) (fa : Int32) (tc : Int32) (so : Nat) (sl : Nat) (ce : Nat) (kd : Nat) (wd : Nat) (hs : Nat) (pr : Nat) (la : Nat) (wg : Nat) (ta : Int32) (ck : Int64) (at9 : Int32) (rfn : Int32) (rk : Nat) (rw : Nat) (rh : Nat) (cl : Int32) (sa : Nat) (fi : Nat) (bo : Int32) (ch : Nat) (cn : Nat) (ad : Int32) (ru : Int32) (kp : Nat) (rfa : Nat) (csa : ClassId) (fsa : Nat → Int32) : Met l yX9_findClusters wsX9_findClusters ({ frames := 0, cells := 0, slots := 0, locals := 0 }) (kPre [.ref h0, .int wo] D [(h0, .inr (9, [.int fa, .int tc, .ref so, .ref sl, .ref ce, .int 0, .ref kd, .ref wd, .ref hs, .ref pr, .ref la, .int 0, .ref wg, .int ta, .long ck, .int at9, .int rfn, .ref rk, .ref rw, .ref rh, .int cl, .ref sa, .ref fi, .int bo, .ref ch, .ref cn, .int ad, .int ru, .ref kp, .int 0, .ref rfa])), (sa, .inl (csa, 25, .inl fsa))] [(csa, .int)] sz) (kQvW D [(h0, .inr (9, [.int fa, .int tc, .ref so, .ref sl, .ref ce, .int 0, .ref kd, .ref wd, .ref hs, .ref pr, .ref la, .int 0, .ref wg, .int ta, .long ck, .int at9, .int rfn, .ref rk, .ref rw, .ref rh, .int 0, .ref sa, .ref fi, .int 0, .ref ch, .ref cn, .int ad, .int ru, .ref kp, .int 0, .ref rfa]))] (va_A [(h0, .inr (9, [.int fa, .int tc, .ref so, .ref sl, .ref ce, .int 0, .ref kd, .ref wd, .ref hs, .ref pr, .ref la, .int 0, .ref wg, .int ta, .long ck, .int at9, .int rfn, .ref rk, .ref rw, .ref rh, .int cl, .ref sa, .ref fi, .int bo, .ref ch, .ref cn, .int ad, .int ru, .ref kp, .int 0, .ref rfa])), (sa, .inl (csa, 25, .inl fsa))] sz)) 0 0 (va_A [(h0, .inr (9, [.int fa, .int tc, .ref so, .ref sl, .ref ce, .int 0, .ref kd, .ref wd, .ref hs, .ref pr, .ref la, .int 0, .ref wg, .int ta, .long ck, .int at9, .int rfn, .ref rk, .ref rw, .ref rh, .int cl, .ref sa, .ref fi, .int bo, .ref ch, .ref cn, .int ad, .int ru, .ref kp, .int 0, .ref rfa])), (sa, .inl (csa, 25, .inl fsa))] sz) := by
  refine Met.ofW (cc := cX9_findClusters) (maxL := 5) (ret := none) (by decide) rfl ?_
  intro p e s m args below meth c s₁ B hml hv
  obtain ⟨rfl, hsz, hP, hK, hD0, hN⟩ := hv
  have hx := B.exec
  have hb := B.bytes
  have hr := B.returns
  have hts := atoms_spec (ws := wsX9_findClusters) B.pre
  have hown : s.vm.findClass RX9 = some m.cls := findClass_of_methodNamed B.named
  have hlocks := B.notSynchronized
  subst hsz
  have hD := hD0.self (sz := s.heap.size)
  generalize hAe : va_A [(h0, .inr (9, [.int fa, .int tc, .ref so, .ref sl, .ref ce, .int 0, .ref kd, .ref wd, .ref hs, .ref pr, .ref la, .int 0, .ref wg, .int ta, .long ck, .int at9, .int rfn, .ref rk, .ref rw, .ref rh, .int cl, .ref sa, .ref fi, .int bo, .ref ch, .ref cn, .int ad, .int ru, .ref kp, .int 0, .ref rfa])), (sa, .inl (csa, 25, .inl fsa))] s.heap.size = A at hD ⊢
  have hA : ∀ q : Nat, s.heap.size ≤ q → A q := fun q h => by rw [← hAe]; exact Or.inr h
  have hS : va_S A s.heap s.heap [] := va_S.rf
  have hP : va_P D vwCl [(h0, .inr (9, [.int fa, .int tc, .ref so, .ref sl, .ref ce, .int 0, .ref kd, .ref wd, .ref hs, .ref pr, .ref la, .int 0, .ref wg, .int ta, .long ck, .int at9, .int rfn, .ref rk, .ref rw, .ref rh, .int cl, .ref sa, .ref fi, .int bo, .ref ch, .ref cn, .int ad, .int ru, .ref kp, .int 0, .ref rfa])), (sa, .inl (csa, 25, .inl fsa))] s.heap := hP
  have hl := lv_entry ([.ref h0, .int wo]) (n := 5) (Nat.le_of_ble_eq_true rfl)
  rw [lg_entry_eq]
  generalize (lg_sl ([.ref h0, .int wo]) ++ List.replicate (5 - (lg_sl ([.ref h0, .int wo])).length) Slot.unset).toArray = ls at hl ⊢
  have hl : lv_has ls 5 [(0, .ref h0), (1, .int wo)] := hl
  refine lv_aload_n hx hb dX9_findClusters_0 rfl (lv_at hl 0 rfl) ?_
  refine lv_iconst (v := 0) hx hb dX9_findClusters_1 (by decide) ?_
  refine va_put (D := D) (ci := 9) (v := .int 0) (ty := .int) (C := RX9) (T := TX9) (N := 31) hx hb hts (fun _ h9 => List.mem_cons_of_mem _ (List.mem_append_right _ h9)) tyX9 tyX9_ok nmX9 hown hK hP hD hS 0 rfl rfl 20 (by decide) (hts (.fieldLink RX9 138 "FontRunsModel" "clusters" "I") (by decide +kernel)) (fun _ h9 => h9) rfl (by decide +kernel) rfl rfl (Nat.le_of_ble_eq_true rfl) dX9_findClusters_2 (fun H locs hP hD hS => ?_)
  have hP : va_P D vwCl [(h0, .inr (9, [.int fa, .int tc, .ref so, .ref sl, .ref ce, .int 0, .ref kd, .ref wd, .ref hs, .ref pr, .ref la, .int 0, .ref wg, .int ta, .long ck, .int at9, .int rfn, .ref rk, .ref rw, .ref rh, .int 0, .ref sa, .ref fi, .int bo, .ref ch, .ref cn, .int ad, .int ru, .ref kp, .int 0, .ref rfa])), (sa, .inl (csa, 25, .inl fsa))] H := hP
  have hD : va_D A [(h0, .inr (9, [.int fa, .int tc, .ref so, .ref sl, .ref ce, .int 0, .ref kd, .ref wd, .ref hs, .ref pr, .ref la, .int 0, .ref wg, .int ta, .long ck, .int at9, .int rfn, .ref rk, .ref rw, .ref rh, .int 0, .ref sa, .ref fi, .int bo, .ref ch, .ref cn, .int ad, .int ru, .ref kp, .int 0, .ref rfa])), (sa, .inl (csa, 25, .inl fsa))] := hD
  refine lv_aload_n hx hb dX9_findClusters_5 rfl (lv_at hl 0 rfl) ?_
  refine lv_iconst (v := 0) hx hb dX9_findClusters_6 (by decide) ?_
  refine va_put (D := D) (ci := 9) (v := .int 0) (ty := .int) (C := RX9) (T := TX9) (N := 31) hx hb hts (fun _ h9 => List.mem_cons_of_mem _ (List.mem_append_right _ h9)) tyX9 tyX9_ok nmX9 hown hK hP hD hS 0 rfl rfl 23 (by decide) (hts (.fieldLink RX9 141 "FontRunsModel" "boxes" "I") (by decide +kernel)) (fun _ h9 => h9) rfl (by decide +kernel) rfl rfl (Nat.le_of_ble_eq_true rfl) dX9_findClusters_7 (fun H locs hP hD hS => ?_)
  have hP : va_P D vwCl [(h0, .inr (9, [.int fa, .int tc, .ref so, .ref sl, .ref ce, .int 0, .ref kd, .ref wd, .ref hs, .ref pr, .ref la, .int 0, .ref wg, .int ta, .long ck, .int at9, .int rfn, .ref rk, .ref rw, .ref rh, .int 0, .ref sa, .ref fi, .int 0, .ref ch, .ref cn, .int ad, .int ru, .ref kp, .int 0, .ref rfa])), (sa, .inl (csa, 25, .inl fsa))] H := hP
  have hD : va_D A [(h0, .inr (9, [.int fa, .int tc, .ref so, .ref sl, .ref ce, .int 0, .ref kd, .ref wd, .ref hs, .ref pr, .ref la, .int 0, .ref wg, .int ta, .long ck, .int at9, .int rfn, .ref rk, .ref rw, .ref rh, .int 0, .ref sa, .ref fi, .int 0, .ref ch, .ref cn, .int ad, .int ru, .ref kp, .int 0, .ref rfa])), (sa, .inl (csa, 25, .inl fsa))] := hD
  refine lv_iconst (v := 0) hx hb dX9_findClusters_10 (by decide) ?_
  refine lv_istore_n (lv' := [(2, .int 0), (0, .ref h0), (1, .int wo)]) hx hb dX9_findClusters_11 rfl hl (by decide) rfl (fun ls hl => ?_)
  refine lv_iload_n hx hb dX9_findClusters_12 rfl (lv_at hl 0 rfl) ?_
  refine lv_aload_n hx hb dX9_findClusters_13 rfl (lv_at hl 1 rfl) ?_
  refine va_get (D := D) (ci := 9) (v := .int 0) (C := RX9) (T := TX9) (N := 31) hx hb hts (fun _ h9 => List.mem_cons_of_mem _ (List.mem_append_right _ h9)) hown hK hP 0 rfl rfl 11 (by decide) (hts (.fieldLink RX9 101 "FontRunsModel" "many" "I") (by decide +kernel)) (fun _ h9 => h9) rfl dX9_findClusters_14 ?_
  refine lv_icmp_ge (tgt := 61) hx hb dX9_findClusters_17 (by decide) (fun _ => ?_) (fun c9 => absurd (by decide) c9)
  refine lv_aload_n hx hb dX9_findClusters_61 rfl (lv_at hl 1 rfl) ?_
  refine va_get (D := D) (ci := 9) (v := .ref sa) (C := RX9) (T := TX9) (N := 31) hx hb hts (fun _ h9 => List.mem_cons_of_mem _ (List.mem_append_right _ h9)) hown hK hP 0 rfl rfl 21 (by decide) (hts (.fieldLink RX9 46 "FontRunsModel" "start" "[I") (by decide +kernel)) (fun _ h9 => h9) rfl dX9_findClusters_62 ?_
  refine lv_aload_n hx hb dX9_findClusters_65 rfl (lv_at hl 1 rfl) ?_
  refine va_get (D := D) (ci := 9) (v := .int 0) (C := RX9) (T := TX9) (N := 31) hx hb hts (fun _ h9 => List.mem_cons_of_mem _ (List.mem_append_right _ h9)) hown hK hP 0 rfl rfl 20 (by decide) (hts (.fieldLink RX9 138 "FontRunsModel" "clusters" "I") (by decide +kernel)) (fun _ h9 => h9) rfl dX9_findClusters_66 ?_
  refine lv_aload_n hx hb dX9_findClusters_69 rfl (lv_at hl 1 rfl) ?_
  refine va_get (D := D) (ci := 9) (v := .int 0) (C := RX9) (T := TX9) (N := 31) hx hb hts (fun _ h9 => List.mem_cons_of_mem _ (List.mem_append_right _ h9)) hown hK hP 0 rfl rfl 11 (by decide) (hts (.fieldLink RX9 101 "FontRunsModel" "many" "I") (by decide +kernel)) (fun _ h9 => h9) rfl dX9_findClusters_70 ?_
  refine va_iast hx hb hK hP hD hS 1 0 rfl rfl (by unfold vp_in; decide) dX9_findClusters_73 (fun H locs hP hD hS => ?_)
  have hP : va_P D vwCl [(h0, .inr (9, [.int fa, .int tc, .ref so, .ref sl, .ref ce, .int 0, .ref kd, .ref wd, .ref hs, .ref pr, .ref la, .int 0, .ref wg, .int ta, .long ck, .int at9, .int rfn, .ref rk, .ref rw, .ref rh, .int 0, .ref sa, .ref fi, .int 0, .ref ch, .ref cn, .int ad, .int ru, .ref kp, .int 0, .ref rfa])), (sa, .inl (csa, 25, .inl (upd (fsa) 0 0)))] H := hP
  have hD : va_D A [(h0, .inr (9, [.int fa, .int tc, .ref so, .ref sl, .ref ce, .int 0, .ref kd, .ref wd, .ref hs, .ref pr, .ref la, .int 0, .ref wg, .int ta, .long ck, .int at9, .int rfn, .ref rk, .ref rw, .ref rh, .int 0, .ref sa, .ref fi, .int 0, .ref ch, .ref cn, .int ad, .int ru, .ref kp, .int 0, .ref rfa])), (sa, .inl (csa, 25, .inl (upd (fsa) 0 0)))] := hD
  refine lv_iconst (v := 0) hx hb dX9_findClusters_74 (by decide) ?_
  refine lv_istore_n (lv' := [(2, .int 0), (0, .ref h0), (1, .int wo)]) hx hb dX9_findClusters_75 rfl hl (by decide) rfl (fun ls hl => ?_)
  refine lv_iload_n hx hb dX9_findClusters_76 rfl (lv_at hl 0 rfl) ?_
  refine lv_aload_n hx hb dX9_findClusters_77 rfl (lv_at hl 1 rfl) ?_
  refine va_get (D := D) (ci := 9) (v := .int 0) (C := RX9) (T := TX9) (N := 31) hx hb hts (fun _ h9 => List.mem_cons_of_mem _ (List.mem_append_right _ h9)) hown hK hP 0 rfl rfl 20 (by decide) (hts (.fieldLink RX9 138 "FontRunsModel" "clusters" "I") (by decide +kernel)) (fun _ h9 => h9) rfl dX9_findClusters_78 ?_
  refine lv_icmp_ge (tgt := 216) hx hb dX9_findClusters_81 (by decide) (fun _ => ?_) (fun c9 => absurd (by decide) c9)
  have hP9 := hP.sub (ws' := [(h0, .inr (9, [.int fa, .int tc, .ref so, .ref sl, .ref ce, .int 0, .ref kd, .ref wd, .ref hs, .ref pr, .ref la, .int 0, .ref wg, .int ta, .long ck, .int at9, .int rfn, .ref rk, .ref rw, .ref rh, .int 0, .ref sa, .ref fi, .int 0, .ref ch, .ref cn, .int ad, .int ru, .ref kp, .int 0, .ref rfa]))]) [0] rfl
  have hD9 := hD.sub (ws' := [(h0, .inr (9, [.int fa, .int tc, .ref so, .ref sl, .ref ce, .int 0, .ref kd, .ref wd, .ref hs, .ref pr, .ref la, .int 0, .ref wg, .int ta, .long ck, .int at9, .int rfn, .ref rk, .ref rw, .ref rh, .int 0, .ref sa, .ref fi, .int 0, .ref ch, .ref cn, .int ad, .int ru, .ref kp, .int 0, .ref rfa]))]) [0] (by decide) rfl
  exact W.vret hx hb hr (fun t ht hW => kQvW_of (by rw [ht]; exact hP9) hD9 (hS.F ht)) hS.2.2 dX9_findClusters_216
theorem dX9_findChanges_0 : decode cX9_findChanges 0 = .ok (.aload_n 0, 1) := by decide +kernel
theorem dX9_findChanges_1 : decode cX9_findChanges 1 = .ok (.iload_n 1, 1) := by decide +kernel
theorem dX9_findChanges_2 : decode cX9_findChanges 2 = .ok (.invokevirtual 147, 3) := by decide +kernel
theorem dX9_findChanges_5 : decode cX9_findChanges 5 = .ok (.aload_n 0, 1) := by decide +kernel
theorem dX9_findChanges_6 : decode cX9_findChanges 6 = .ok (.getfield 138, 3) := by decide +kernel
theorem dX9_findChanges_9 : decode cX9_findChanges 9 = .ok (.iconst 1, 1) := by decide +kernel
theorem dX9_findChanges_10 : decode cX9_findChanges 10 = .ok (.isub, 1) := by decide +kernel
theorem dX9_findChanges_11 : decode cX9_findChanges 11 = .ok (.istore_n 2, 1) := by decide +kernel
theorem dX9_findChanges_12 : decode cX9_findChanges 12 = .ok (.iload_n 2, 1) := by decide +kernel
theorem dX9_findChanges_13 : decode cX9_findChanges 13 = .ok (.ifCond .lt 42, 3) := by decide +kernel
theorem dX9_findChanges_55 : decode cX9_findChanges 55 = .ok (.aload_n 0, 1) := by decide +kernel
theorem dX9_findChanges_56 : decode cX9_findChanges 56 = .ok (.getfield 138, 3) := by decide +kernel
theorem dX9_findChanges_59 : decode cX9_findChanges 59 = .ok (.ifCond .ne 7, 3) := by decide +kernel
theorem dX9_findChanges_62 : decode cX9_findChanges 62 = .ok (.iconst 0, 1) := by decide +kernel
theorem dX9_findChanges_63 : decode cX9_findChanges 63 = .ok (.goto 5, 3) := by decide +kernel
theorem dX9_findChanges_68 : decode cX9_findChanges 68 = .ok (.istore_n 2, 1) := by decide +kernel
theorem dX9_findChanges_69 : decode cX9_findChanges 69 = .ok (.iconst 0, 1) := by decide +kernel
theorem dX9_findChanges_70 : decode cX9_findChanges 70 = .ok (.istore_n 3, 1) := by decide +kernel
theorem dX9_findChanges_71 : decode cX9_findChanges 71 = .ok (.iload_n 3, 1) := by decide +kernel
theorem dX9_findChanges_72 : decode cX9_findChanges 72 = .ok (.aload_n 0, 1) := by decide +kernel
theorem dX9_findChanges_73 : decode cX9_findChanges 73 = .ok (.getfield 74, 3) := by decide +kernel
theorem dX9_findChanges_76 : decode cX9_findChanges 76 = .ok (.if_icmp .ge 47, 3) := by decide +kernel
theorem dX9_findChanges_123 : decode cX9_findChanges 123 = .ok (.iload_n 2, 1) := by decide +kernel
theorem dX9_findChanges_124 : decode cX9_findChanges 124 = .ok (.ireturn, 1) := by decide +kernel
set_option maxRecDepth 20000 in
theorem ggX9_findChanges_X9_findClusters : GoodIn wsX9_findChanges wsX9_findClusters := goodIn_r _ [8, 1, 9, 10, 11, 12, 13, 2, 14, 26, 27, 28, 29, 30, 31, 32, 33, 34, 35, 36, 37, 38, 39, 40, 41, 42, 43, 44, 45, 46, 47, 48, 49, 50, 51, 52, 53, 54, 55, 56] (by decide +kernel) (by decide +kernel)
set_option maxRecDepth 20000 in
theorem gX9_findChanges_X9_findClusters : GoodIn wsX9_findChanges (wsV RX9 147 RX9 yX9_findClusters wsX9_findClusters) := goodIn_app (goodIn_of _ (by decide +kernel)) ggX9_findChanges_X9_findClusters
set_option maxHeartbeats 4000000 in
set_option maxRecDepth 100000 in
theorem c_X9_findChanges (l : Launch) (D : va_G) (sz : Nat) (wo : Int32) (h0 : Nat) (fa : Int32) (tc : Int32) (so : Nat) (sl : Nat) (ce : Nat) (kd : Nat) (wd : Nat) (hs : Nat) (pr : Nat) (la : Nat) (wg : Nat) (ta : Int32) (ck : Int64) (at9 : Int32) (rfn : Int32) (rk : Nat) (rw : Nat) (rh : Nat) (cl : Int32) (sa : Nat) (fi : Nat) (bo : Int32) (ch : Nat) (cn : Nat) (ad : Int32) (ru : Int32) (kp : Nat) (rfa : Nat) (csa : ClassId) (fsa : Nat → Int32) : Met l yX9_findChanges wsX9_findChanges ({ frames := 1, cells := 0, slots := 0, locals := 24 }) (kPre [.ref h0, .int wo] D [(h0, .inr (9, [.int fa, .int tc, .ref so, .ref sl, .ref ce, .int 0, .ref kd, .ref wd, .ref hs, .ref pr, .ref la, .int 0, .ref wg, .int ta, .long ck, .int at9, .int rfn, .ref rk, .ref rw, .ref rh, .int cl, .ref sa, .ref fi, .int bo, .ref ch, .ref cn, .int ad, .int ru, .ref kp, .int 0, .ref rfa])), (sa, .inl (csa, 25, .inl fsa))] [(csa, .int)] sz) (kQiW 0 D [(h0, .inr (9, [.int fa, .int tc, .ref so, .ref sl, .ref ce, .int 0, .ref kd, .ref wd, .ref hs, .ref pr, .ref la, .int 0, .ref wg, .int ta, .long ck, .int at9, .int rfn, .ref rk, .ref rw, .ref rh, .int 0, .ref sa, .ref fi, .int 0, .ref ch, .ref cn, .int ad, .int ru, .ref kp, .int 0, .ref rfa]))] (va_A [(h0, .inr (9, [.int fa, .int tc, .ref so, .ref sl, .ref ce, .int 0, .ref kd, .ref wd, .ref hs, .ref pr, .ref la, .int 0, .ref wg, .int ta, .long ck, .int at9, .int rfn, .ref rk, .ref rw, .ref rh, .int cl, .ref sa, .ref fi, .int bo, .ref ch, .ref cn, .int ad, .int ru, .ref kp, .int 0, .ref rfa])), (sa, .inl (csa, 25, .inl fsa))] sz)) 0 0 (va_A [(h0, .inr (9, [.int fa, .int tc, .ref so, .ref sl, .ref ce, .int 0, .ref kd, .ref wd, .ref hs, .ref pr, .ref la, .int 0, .ref wg, .int ta, .long ck, .int at9, .int rfn, .ref rk, .ref rw, .ref rh, .int cl, .ref sa, .ref fi, .int bo, .ref ch, .ref cn, .int ad, .int ru, .ref kp, .int 0, .ref rfa])), (sa, .inl (csa, 25, .inl fsa))] sz) := by
  refine Met.ofW (cc := cX9_findChanges) (maxL := 4) (ret := (some .int)) (by decide) rfl ?_
  intro p e s m args below meth c s₁ B hml hv
  obtain ⟨rfl, hsz, hP, hK, hD0, hN⟩ := hv
  have hx := B.exec
  have hb := B.bytes
  have hr := B.returns
  have hts := atoms_spec (ws := wsX9_findChanges) B.pre
  have hown : s.vm.findClass RX9 = some m.cls := findClass_of_methodNamed B.named
  have hlocks := B.notSynchronized
  subst hsz
  have hD := hD0.self (sz := s.heap.size)
  generalize hAe : va_A [(h0, .inr (9, [.int fa, .int tc, .ref so, .ref sl, .ref ce, .int 0, .ref kd, .ref wd, .ref hs, .ref pr, .ref la, .int 0, .ref wg, .int ta, .long ck, .int at9, .int rfn, .ref rk, .ref rw, .ref rh, .int cl, .ref sa, .ref fi, .int bo, .ref ch, .ref cn, .int ad, .int ru, .ref kp, .int 0, .ref rfa])), (sa, .inl (csa, 25, .inl fsa))] s.heap.size = A at hD ⊢
  have hA : ∀ q : Nat, s.heap.size ≤ q → A q := fun q h => by rw [← hAe]; exact Or.inr h
  have hS : va_S A s.heap s.heap [] := va_S.rf
  have hP : va_P D vwCl [(h0, .inr (9, [.int fa, .int tc, .ref so, .ref sl, .ref ce, .int 0, .ref kd, .ref wd, .ref hs, .ref pr, .ref la, .int 0, .ref wg, .int ta, .long ck, .int at9, .int rfn, .ref rk, .ref rw, .ref rh, .int cl, .ref sa, .ref fi, .int bo, .ref ch, .ref cn, .int ad, .int ru, .ref kp, .int 0, .ref rfa])), (sa, .inl (csa, 25, .inl fsa))] s.heap := hP
  have hl := lv_entry ([.ref h0, .int wo]) (n := 4) (Nat.le_of_ble_eq_true rfl)
  rw [lg_entry_eq]
  generalize (lg_sl ([.ref h0, .int wo]) ++ List.replicate (4 - (lg_sl ([.ref h0, .int wo])).length) Slot.unset).toArray = ls at hl ⊢
  have hl : lv_has ls 4 [(0, .ref h0), (1, .int wo)] := hl
  refine lv_aload_n hx hb dX9_findChanges_0 rfl (lv_at hl 0 rfl) ?_
  refine lv_iload_n hx hb dX9_findChanges_1 rfl (lv_at hl 1 rfl) ?_
  have hFc := va_free (wc := [(h0, .inr (9, [.int fa, .int tc, .ref so, .ref sl, .ref ce, .int 0, .ref kd, .ref wd, .ref hs, .ref pr, .ref la, .int 0, .ref wg, .int ta, .long ck, .int at9, .int rfn, .ref rk, .ref rw, .ref rh, .int cl, .ref sa, .ref fi, .int bo, .ref ch, .ref cn, .int ad, .int ru, .ref kp, .int 0, .ref rfa])), (sa, .inl (csa, 25, .inl fsa))]) hD hS hA [0, 1] rfl
  refine va_callv (va_runV (As := [.int wo]) (rest := []) ⟨hx, hb, hml, hown, hts⟩ (c_X9_findClusters l D s.heap.size (wo := wo) (h0 := h0) (fa := fa) (tc := tc) (so := so) (sl := sl) (ce := ce) (kd := kd) (wd := wd) (hs := hs) (pr := pr) (la := la) (wg := wg) (ta := ta) (ck := ck) (at9 := at9) (rfn := rfn) (rk := rk) (rw := rw) (rh := rh) (cl := cl) (sa := sa) (fi := fi) (bo := bo) (ch := ch) (cn := cn) (ad := ad) (ru := ru) (kp := kp) (rfa := rfa) (csa := csa) (fsa := fsa)) (cwV 1 hts gX9_findChanges_X9_findClusters rfl rfl rfl (by decide +kernel) ⟨Nat.le_of_ble_eq_true rfl, Nat.le_of_ble_eq_true rfl⟩) (kPreV hP (kD0 hD) hK hN [0, 1] [0] rfl rfl (by decide) 0 9 rfl rfl) rfl rfl hl.1 rfl (lv_room (Nat.le_of_ble_eq_true rfl)) dX9_findChanges_2 ⟨Nat.le_of_ble_eq_true rfl, Nat.le_of_ble_eq_true rfl⟩) hS (fun q _ h => hFc q h) hFc (fun  u t H1 locs ht hvm hw hB hz1 hk1 hS => ?_)
  obtain ⟨hP1, hD1⟩ := hB
  rw [ht] at hP1
  obtain ⟨hP, hD⟩ := va_join (wr := []) (w1 := [(h0, .inr (9, [.int fa, .int tc, .ref so, .ref sl, .ref ce, .int 0, .ref kd, .ref wd, .ref hs, .ref pr, .ref la, .int 0, .ref wg, .int ta, .long ck, .int at9, .int rfn, .ref rk, .ref rw, .ref rh, .int 0, .ref sa, .ref fi, .int 0, .ref ch, .ref cn, .int ad, .int ru, .ref kp, .int 0, .ref rfa]))]) hP hD [0, 1] [] rfl rfl (by decide) (by decide) hk1 hFc hP1 hD1
  generalize H1 = H at hP hS ⊢
  have hP : va_P D vwCl [(h0, .inr (9, [.int fa, .int tc, .ref so, .ref sl, .ref ce, .int 0, .ref kd, .ref wd, .ref hs, .ref pr, .ref la, .int 0, .ref wg, .int ta, .long ck, .int at9, .int rfn, .ref rk, .ref rw, .ref rh, .int 0, .ref sa, .ref fi, .int 0, .ref ch, .ref cn, .int ad, .int ru, .ref kp, .int 0, .ref rfa]))] H := hP
  have hD : va_D A [(h0, .inr (9, [.int fa, .int tc, .ref so, .ref sl, .ref ce, .int 0, .ref kd, .ref wd, .ref hs, .ref pr, .ref la, .int 0, .ref wg, .int ta, .long ck, .int at9, .int rfn, .ref rk, .ref rw, .ref rh, .int 0, .ref sa, .ref fi, .int 0, .ref ch, .ref cn, .int ad, .int ru, .ref kp, .int 0, .ref rfa]))] := hD
  refine lv_aload_n hx hb dX9_findChanges_5 rfl (lv_at hl 0 rfl) ?_
  refine va_get (D := D) (ci := 9) (v := .int 0) (C := RX9) (T := TX9) (N := 31) hx hb hts (fun _ h9 => List.mem_cons_of_mem _ (List.mem_append_right _ h9)) hown hK hP 0 rfl rfl 20 (by decide) (hts (.fieldLink RX9 138 "FontRunsModel" "clusters" "I") (by decide +kernel)) (fun _ h9 => h9) rfl dX9_findChanges_6 ?_
  refine lv_iconst (v := 1) hx hb dX9_findChanges_9 (by decide) ?_
  refine lv_isub hx hb dX9_findChanges_10 ?_
  refine kn_i (-1) (by decide) ?_
  refine lv_istore_n (lv' := [(2, .int (-1)), (0, .ref h0), (1, .int wo)]) hx hb dX9_findChanges_11 rfl hl (by decide) rfl (fun ls hl => ?_)
  refine lv_iload_n hx hb dX9_findChanges_12 rfl (lv_at hl 0 rfl) ?_
  refine lv_if_lt (tgt := 55) hx hb dX9_findChanges_13 (by decide) (fun _ => ?_) (fun c9 => absurd (by decide) c9)
  refine lv_aload_n hx hb dX9_findChanges_55 rfl (lv_at hl 1 rfl) ?_
  refine va_get (D := D) (ci := 9) (v := .int 0) (C := RX9) (T := TX9) (N := 31) hx hb hts (fun _ h9 => List.mem_cons_of_mem _ (List.mem_append_right _ h9)) hown hK hP 0 rfl rfl 20 (by decide) (hts (.fieldLink RX9 138 "FontRunsModel" "clusters" "I") (by decide +kernel)) (fun _ h9 => h9) rfl dX9_findChanges_56 ?_
  refine lv_if_ne (tgt := 66) hx hb dX9_findChanges_59 (by decide) (fun c9 => absurd (by decide) c9) (fun _ => ?_)
  refine lv_iconst (v := 0) hx hb dX9_findChanges_62 (by decide) ?_
  refine lv_goto (tgt := 68) hx hb dX9_findChanges_63 (by decide) ?_
  refine lv_istore_n (lv' := [(2, .int 0), (0, .ref h0), (1, .int wo)]) hx hb dX9_findChanges_68 rfl hl (by decide) rfl (fun ls hl => ?_)
  refine lv_iconst (v := 0) hx hb dX9_findChanges_69 (by decide) ?_
  refine lv_istore_n (lv' := [(3, .int 0), (2, .int 0), (0, .ref h0), (1, .int wo)]) hx hb dX9_findChanges_70 rfl hl (by decide) rfl (fun ls hl => ?_)
  refine lv_iload_n hx hb dX9_findChanges_71 rfl (lv_at hl 0 rfl) ?_
  refine lv_aload_n hx hb dX9_findChanges_72 rfl (lv_at hl 2 rfl) ?_
  refine va_get (D := D) (ci := 9) (v := .int 0) (C := RX9) (T := TX9) (N := 31) hx hb hts (fun _ h9 => List.mem_cons_of_mem _ (List.mem_append_right _ h9)) hown hK hP 0 rfl rfl 5 (by decide) (hts (.fieldLink RX9 74 "FontRunsModel" "fonts" "I") (by decide +kernel)) (fun _ h9 => h9) rfl dX9_findChanges_73 ?_
  refine lv_icmp_ge (tgt := 123) hx hb dX9_findChanges_76 (by decide) (fun _ => ?_) (fun c9 => absurd (by decide) c9)
  refine lv_iload_n hx hb dX9_findChanges_123 rfl (lv_at hl 1 rfl) ?_
  have hP9 := hP.sub (ws' := [(h0, .inr (9, [.int fa, .int tc, .ref so, .ref sl, .ref ce, .int 0, .ref kd, .ref wd, .ref hs, .ref pr, .ref la, .int 0, .ref wg, .int ta, .long ck, .int at9, .int rfn, .ref rk, .ref rw, .ref rh, .int 0, .ref sa, .ref fi, .int 0, .ref ch, .ref cn, .int ad, .int ru, .ref kp, .int 0, .ref rfa]))]) [0] rfl
  have hD9 := hD.sub (ws' := [(h0, .inr (9, [.int fa, .int tc, .ref so, .ref sl, .ref ce, .int 0, .ref kd, .ref wd, .ref hs, .ref pr, .ref la, .int 0, .ref wg, .int ta, .long ck, .int at9, .int rfn, .ref rk, .ref rw, .ref rh, .int 0, .ref sa, .ref fi, .int 0, .ref ch, .ref cn, .int ad, .int ru, .ref kp, .int 0, .ref rfa]))]) [0] (by decide) rfl
  exact W.iret (v := 0) hx hb hr (fun t ht hW => kQiW_of rfl (by rw [ht]; exact hP9) hD9 (hS.F ht)) hS.2.2 dX9_findChanges_124
theorem dX9_findBest_0 : decode cX9_findBest 0 = .ok (.aload_n 0, 1) := by decide +kernel
theorem dX9_findBest_1 : decode cX9_findBest 1 = .ok (.bipush (-9), 2) := by decide +kernel
theorem dX9_findBest_3 : decode cX9_findBest 3 = .ok (.invokevirtual 155, 3) := by decide +kernel
theorem dX9_findBest_6 : decode cX9_findBest 6 = .ok (.istore_n 1, 1) := by decide +kernel
theorem dX9_findBest_7 : decode cX9_findBest 7 = .ok (.iload_n 1, 1) := by decide +kernel
theorem dX9_findBest_8 : decode cX9_findBest 8 = .ok (.istore_n 2, 1) := by decide +kernel
theorem dX9_findBest_9 : decode cX9_findBest 9 = .ok (.aload_n 0, 1) := by decide +kernel
theorem dX9_findBest_10 : decode cX9_findBest 10 = .ok (.iconst 0, 1) := by decide +kernel
theorem dX9_findBest_11 : decode cX9_findBest 11 = .ok (.putfield 158, 3) := by decide +kernel
theorem dX9_findBest_14 : decode cX9_findBest 14 = .ok (.aload_n 0, 1) := by decide +kernel
theorem dX9_findBest_15 : decode cX9_findBest 15 = .ok (.iconst 0, 1) := by decide +kernel
theorem dX9_findBest_16 : decode cX9_findBest 16 = .ok (.putfield 161, 3) := by decide +kernel
theorem dX9_findBest_19 : decode cX9_findBest 19 = .ok (.iconst 0, 1) := by decide +kernel
theorem dX9_findBest_20 : decode cX9_findBest 20 = .ok (.istore_n 3, 1) := by decide +kernel
theorem dX9_findBest_21 : decode cX9_findBest 21 = .ok (.iload_n 3, 1) := by decide +kernel
theorem dX9_findBest_22 : decode cX9_findBest 22 = .ok (.aload_n 0, 1) := by decide +kernel
theorem dX9_findBest_23 : decode cX9_findBest 23 = .ok (.getfield 138, 3) := by decide +kernel
theorem dX9_findBest_26 : decode cX9_findBest 26 = .ok (.if_icmp .ge 130, 3) := by decide +kernel
theorem dX9_findBest_156 : decode cX9_findBest 156 = .ok (.iload_n 1, 1) := by decide +kernel
theorem dX9_findBest_157 : decode cX9_findBest 157 = .ok (.ireturn, 1) := by decide +kernel
set_option maxRecDepth 20000 in
theorem ggX9_findBest_X9_findChanges : GoodIn wsX9_findBest wsX9_findChanges := goodIn_r _ [10, 3, 11, 12, 13, 14, 15, 9, 16, 17, 18, 19, 20, 21, 22, 23, 24, 25, 26, 27, 28, 29, 30, 31, 32, 33, 44, 45, 46, 47, 48, 49, 50, 51, 52, 53, 54, 55, 56, 57, 58, 59, 60, 61, 62, 63, 64, 65, 66, 67, 68, 69, 70, 71, 72, 73, 74] (by decide +kernel) (by decide +kernel)
set_option maxRecDepth 20000 in
theorem gX9_findBest_X9_findChanges : GoodIn wsX9_findBest (wsV RX9 155 RX9 yX9_findChanges wsX9_findChanges) := goodIn_app (goodIn_of _ (by decide +kernel)) ggX9_findBest_X9_findChanges
set_option maxHeartbeats 4000000 in
set_option maxRecDepth 100000 in
theorem c_X9_findBest (l : Launch) (D : va_G) (sz : Nat) (h0 : Nat) (fa : Int32) (tc : Int32) (so : Nat) (sl : Nat) (ce : Nat) (kd : Nat) (wd : Nat) (hs : Nat) (pr : Nat) (la : Nat) (wg : Nat) (ta : Int32) (ck : Int64) (at9 : Int32) (rfn : Int32) (rk : Nat) (rw : Nat) (rh : Nat) (cl : Int32) (sa : Nat) (fi : Nat) (bo : Int32) (ch : Nat) (cn : Nat) (ad : Int32) (ru : Int32) (kp : Nat) (rfa : Nat) (csa : ClassId) (fsa : Nat → Int32) : Met l yX9_findBest wsX9_findBest ({ frames := 2, cells := 0, slots := 0, locals := 47 }) (kPre [.ref h0] D [(h0, .inr (9, [.int fa, .int tc, .ref so, .ref sl, .ref ce, .int 0, .ref kd, .ref wd, .ref hs, .ref pr, .ref la, .int 0, .ref wg, .int ta, .long ck, .int at9, .int rfn, .ref rk, .ref rw, .ref rh, .int cl, .ref sa, .ref fi, .int bo, .ref ch, .ref cn, .int ad, .int ru, .ref kp, .int 0, .ref rfa])), (sa, .inl (csa, 25, .inl fsa))] [(csa, .int)] sz) (kQiW 0 D [(h0, .inr (9, [.int fa, .int tc, .ref so, .ref sl, .ref ce, .int 0, .ref kd, .ref wd, .ref hs, .ref pr, .ref la, .int 0, .ref wg, .int ta, .long ck, .int at9, .int rfn, .ref rk, .ref rw, .ref rh, .int 0, .ref sa, .ref fi, .int 0, .ref ch, .ref cn, .int 0, .int 0, .ref kp, .int 0, .ref rfa]))] (va_A [(h0, .inr (9, [.int fa, .int tc, .ref so, .ref sl, .ref ce, .int 0, .ref kd, .ref wd, .ref hs, .ref pr, .ref la, .int 0, .ref wg, .int ta, .long ck, .int at9, .int rfn, .ref rk, .ref rw, .ref rh, .int cl, .ref sa, .ref fi, .int bo, .ref ch, .ref cn, .int ad, .int ru, .ref kp, .int 0, .ref rfa])), (sa, .inl (csa, 25, .inl fsa))] sz)) 0 0 (va_A [(h0, .inr (9, [.int fa, .int tc, .ref so, .ref sl, .ref ce, .int 0, .ref kd, .ref wd, .ref hs, .ref pr, .ref la, .int 0, .ref wg, .int ta, .long ck, .int at9, .int rfn, .ref rk, .ref rw, .ref rh, .int cl, .ref sa, .ref fi, .int bo, .ref ch, .ref cn, .int ad, .int ru, .ref kp, .int 0, .ref rfa])), (sa, .inl (csa, 25, .inl fsa))] sz) := by
  refine Met.ofW (cc := cX9_findBest) (maxL := 6) (ret := (some .int)) (by decide) rfl ?_
  intro p e s m args below meth c s₁ B hml hv
  obtain ⟨rfl, hsz, hP, hK, hD0, hN⟩ := hv
  have hx := B.exec
  have hb := B.bytes
  have hr := B.returns
  have hts := atoms_spec (ws := wsX9_findBest) B.pre
  have hown : s.vm.findClass RX9 = some m.cls := findClass_of_methodNamed B.named
  have hlocks := B.notSynchronized
  subst hsz
  have hD := hD0.self (sz := s.heap.size)
  generalize hAe : va_A [(h0, .inr (9, [.int fa, .int tc, .ref so, .ref sl, .ref ce, .int 0, .ref kd, .ref wd, .ref hs, .ref pr, .ref la, .int 0, .ref wg, .int ta, .long ck, .int at9, .int rfn, .ref rk, .ref rw, .ref rh, .int cl, .ref sa, .ref fi, .int bo, .ref ch, .ref cn, .int ad, .int ru, .ref kp, .int 0, .ref rfa])), (sa, .inl (csa, 25, .inl fsa))] s.heap.size = A at hD ⊢
  have hA : ∀ q : Nat, s.heap.size ≤ q → A q := fun q h => by rw [← hAe]; exact Or.inr h
  have hS : va_S A s.heap s.heap [] := va_S.rf
  have hP : va_P D vwCl [(h0, .inr (9, [.int fa, .int tc, .ref so, .ref sl, .ref ce, .int 0, .ref kd, .ref wd, .ref hs, .ref pr, .ref la, .int 0, .ref wg, .int ta, .long ck, .int at9, .int rfn, .ref rk, .ref rw, .ref rh, .int cl, .ref sa, .ref fi, .int bo, .ref ch, .ref cn, .int ad, .int ru, .ref kp, .int 0, .ref rfa])), (sa, .inl (csa, 25, .inl fsa))] s.heap := hP
  have hl := lv_entry ([.ref h0]) (n := 6) (Nat.le_of_ble_eq_true rfl)
  rw [lg_entry_eq]
  generalize (lg_sl ([.ref h0]) ++ List.replicate (6 - (lg_sl ([.ref h0])).length) Slot.unset).toArray = ls at hl ⊢
  have hl : lv_has ls 6 [(0, .ref h0)] := hl
  refine lv_aload_n hx hb dX9_findBest_0 rfl (lv_at hl 0 rfl) ?_
  refine lv_bipush (v := (-9)) hx hb dX9_findBest_1 (by decide) ?_
  have hFc := va_free (wc := [(h0, .inr (9, [.int fa, .int tc, .ref so, .ref sl, .ref ce, .int 0, .ref kd, .ref wd, .ref hs, .ref pr, .ref la, .int 0, .ref wg, .int ta, .long ck, .int at9, .int rfn, .ref rk, .ref rw, .ref rh, .int cl, .ref sa, .ref fi, .int bo, .ref ch, .ref cn, .int ad, .int ru, .ref kp, .int 0, .ref rfa])), (sa, .inl (csa, 25, .inl fsa))]) hD hS hA [0, 1] rfl
  refine va_calli (va_runV (As := [.int (-9)]) (rest := []) ⟨hx, hb, hml, hown, hts⟩ (c_X9_findChanges l D s.heap.size (wo := (-9)) (h0 := h0) (fa := fa) (tc := tc) (so := so) (sl := sl) (ce := ce) (kd := kd) (wd := wd) (hs := hs) (pr := pr) (la := la) (wg := wg) (ta := ta) (ck := ck) (at9 := at9) (rfn := rfn) (rk := rk) (rw := rw) (rh := rh) (cl := cl) (sa := sa) (fi := fi) (bo := bo) (ch := ch) (cn := cn) (ad := ad) (ru := ru) (kp := kp) (rfa := rfa) (csa := csa) (fsa := fsa)) (cwV 1 hts gX9_findBest_X9_findChanges rfl rfl rfl (by decide +kernel) ⟨Nat.le_of_ble_eq_true rfl, Nat.le_of_ble_eq_true rfl⟩) (kPreV hP (kD0 hD) hK hN [0, 1] [0] rfl rfl (by decide) 0 9 rfl rfl) rfl rfl hl.1 rfl (lv_room (Nat.le_of_ble_eq_true rfl)) dX9_findBest_3 ⟨Nat.le_of_ble_eq_true rfl, Nat.le_of_ble_eq_true rfl⟩) hS (fun q _ h => hFc q h) hFc (fun r_1 u t H1 locs ht hvm hw hB hz1 hk1 hS => ?_)
  obtain ⟨hP1, hD1⟩ := hB
  rw [ht] at hP1
  obtain ⟨hP, hD⟩ := va_join (wr := []) (w1 := [(h0, .inr (9, [.int fa, .int tc, .ref so, .ref sl, .ref ce, .int 0, .ref kd, .ref wd, .ref hs, .ref pr, .ref la, .int 0, .ref wg, .int ta, .long ck, .int at9, .int rfn, .ref rk, .ref rw, .ref rh, .int 0, .ref sa, .ref fi, .int 0, .ref ch, .ref cn, .int ad, .int ru, .ref kp, .int 0, .ref rfa]))]) hP hD [0, 1] [] rfl rfl (by decide) (by decide) hk1 hFc hP1 hD1
  generalize H1 = H at hP hS ⊢
  have hP : va_P D vwCl [(h0, .inr (9, [.int fa, .int tc, .ref so, .ref sl, .ref ce, .int 0, .ref kd, .ref wd, .ref hs, .ref pr, .ref la, .int 0, .ref wg, .int ta, .long ck, .int at9, .int rfn, .ref rk, .ref rw, .ref rh, .int 0, .ref sa, .ref fi, .int 0, .ref ch, .ref cn, .int ad, .int ru, .ref kp, .int 0, .ref rfa]))] H := hP
  have hD : va_D A [(h0, .inr (9, [.int fa, .int tc, .ref so, .ref sl, .ref ce, .int 0, .ref kd, .ref wd, .ref hs, .ref pr, .ref la, .int 0, .ref wg, .int ta, .long ck, .int at9, .int rfn, .ref rk, .ref rw, .ref rh, .int 0, .ref sa, .ref fi, .int 0, .ref ch, .ref cn, .int ad, .int ru, .ref kp, .int 0, .ref rfa]))] := hD
  refine kn_i 0 hw ?_
  refine lv_istore_n (lv' := [(1, .int 0), (0, .ref h0)]) hx hb dX9_findBest_6 rfl hl (by decide) rfl (fun ls hl => ?_)
  refine lv_iload_n hx hb dX9_findBest_7 rfl (lv_at hl 0 rfl) ?_
  refine lv_istore_n (lv' := [(2, .int 0), (1, .int 0), (0, .ref h0)]) hx hb dX9_findBest_8 rfl hl (by decide) rfl (fun ls hl => ?_)
  refine lv_aload_n hx hb dX9_findBest_9 rfl (lv_at hl 2 rfl) ?_
  refine lv_iconst (v := 0) hx hb dX9_findBest_10 (by decide) ?_
  refine va_put (D := D) (ci := 9) (v := .int 0) (ty := .int) (C := RX9) (T := TX9) (N := 31) hx hb hts (fun _ h9 => List.mem_cons_of_mem _ (List.mem_append_right _ h9)) tyX9 tyX9_ok nmX9 hown hK hP hD hS 0 rfl rfl 26 (by decide) (hts (.fieldLink RX9 158 "FontRunsModel" "advance" "I") (by decide +kernel)) (fun _ h9 => h9) rfl (by decide +kernel) rfl rfl (Nat.le_of_ble_eq_true rfl) dX9_findBest_11 (fun H locs hP hD hS => ?_)
  have hP : va_P D vwCl [(h0, .inr (9, [.int fa, .int tc, .ref so, .ref sl, .ref ce, .int 0, .ref kd, .ref wd, .ref hs, .ref pr, .ref la, .int 0, .ref wg, .int ta, .long ck, .int at9, .int rfn, .ref rk, .ref rw, .ref rh, .int 0, .ref sa, .ref fi, .int 0, .ref ch, .ref cn, .int 0, .int ru, .ref kp, .int 0, .ref rfa]))] H := hP
  have hD : va_D A [(h0, .inr (9, [.int fa, .int tc, .ref so, .ref sl, .ref ce, .int 0, .ref kd, .ref wd, .ref hs, .ref pr, .ref la, .int 0, .ref wg, .int ta, .long ck, .int at9, .int rfn, .ref rk, .ref rw, .ref rh, .int 0, .ref sa, .ref fi, .int 0, .ref ch, .ref cn, .int 0, .int ru, .ref kp, .int 0, .ref rfa]))] := hD
  refine lv_aload_n hx hb dX9_findBest_14 rfl (lv_at hl 2 rfl) ?_
  refine lv_iconst (v := 0) hx hb dX9_findBest_15 (by decide) ?_
  refine va_put (D := D) (ci := 9) (v := .int 0) (ty := .int) (C := RX9) (T := TX9) (N := 31) hx hb hts (fun _ h9 => List.mem_cons_of_mem _ (List.mem_append_right _ h9)) tyX9 tyX9_ok nmX9 hown hK hP hD hS 0 rfl rfl 27 (by decide) (hts (.fieldLink RX9 161 "FontRunsModel" "runs" "I") (by decide +kernel)) (fun _ h9 => h9) rfl (by decide +kernel) rfl rfl (Nat.le_of_ble_eq_true rfl) dX9_findBest_16 (fun H locs hP hD hS => ?_)
  have hP : va_P D vwCl [(h0, .inr (9, [.int fa, .int tc, .ref so, .ref sl, .ref ce, .int 0, .ref kd, .ref wd, .ref hs, .ref pr, .ref la, .int 0, .ref wg, .int ta, .long ck, .int at9, .int rfn, .ref rk, .ref rw, .ref rh, .int 0, .ref sa, .ref fi, .int 0, .ref ch, .ref cn, .int 0, .int 0, .ref kp, .int 0, .ref rfa]))] H := hP
  have hD : va_D A [(h0, .inr (9, [.int fa, .int tc, .ref so, .ref sl, .ref ce, .int 0, .ref kd, .ref wd, .ref hs, .ref pr, .ref la, .int 0, .ref wg, .int ta, .long ck, .int at9, .int rfn, .ref rk, .ref rw, .ref rh, .int 0, .ref sa, .ref fi, .int 0, .ref ch, .ref cn, .int 0, .int 0, .ref kp, .int 0, .ref rfa]))] := hD
  refine lv_iconst (v := 0) hx hb dX9_findBest_19 (by decide) ?_
  refine lv_istore_n (lv' := [(3, .int 0), (2, .int 0), (1, .int 0), (0, .ref h0)]) hx hb dX9_findBest_20 rfl hl (by decide) rfl (fun ls hl => ?_)
  refine lv_iload_n hx hb dX9_findBest_21 rfl (lv_at hl 0 rfl) ?_
  refine lv_aload_n hx hb dX9_findBest_22 rfl (lv_at hl 3 rfl) ?_
  refine va_get (D := D) (ci := 9) (v := .int 0) (C := RX9) (T := TX9) (N := 31) hx hb hts (fun _ h9 => List.mem_cons_of_mem _ (List.mem_append_right _ h9)) hown hK hP 0 rfl rfl 20 (by decide) (hts (.fieldLink RX9 138 "FontRunsModel" "clusters" "I") (by decide +kernel)) (fun _ h9 => h9) rfl dX9_findBest_23 ?_
  refine lv_icmp_ge (tgt := 156) hx hb dX9_findBest_26 (by decide) (fun _ => ?_) (fun c9 => absurd (by decide) c9)
  refine lv_iload_n hx hb dX9_findBest_156 rfl (lv_at hl 2 rfl) ?_
  have hP9 := hP.sub (ws' := [(h0, .inr (9, [.int fa, .int tc, .ref so, .ref sl, .ref ce, .int 0, .ref kd, .ref wd, .ref hs, .ref pr, .ref la, .int 0, .ref wg, .int ta, .long ck, .int at9, .int rfn, .ref rk, .ref rw, .ref rh, .int 0, .ref sa, .ref fi, .int 0, .ref ch, .ref cn, .int 0, .int 0, .ref kp, .int 0, .ref rfa]))]) [0] rfl
  have hD9 := hD.sub (ws' := [(h0, .inr (9, [.int fa, .int tc, .ref so, .ref sl, .ref ce, .int 0, .ref kd, .ref wd, .ref hs, .ref pr, .ref la, .int 0, .ref wg, .int ta, .long ck, .int at9, .int rfn, .ref rk, .ref rw, .ref rh, .int 0, .ref sa, .ref fi, .int 0, .ref ch, .ref cn, .int 0, .int 0, .ref kp, .int 0, .ref rfa]))]) [0] (by decide) rfl
  exact W.iret (v := 0) hx hb hr (fun t ht hW => kQiW_of rfl (by rw [ht]; exact hP9) hD9 (hS.F ht)) hS.2.2 dX9_findBest_157
theorem dX9_fonts_0 : decode cX9_fonts 0 = .ok (.aload_n 0, 1) := by decide +kernel
theorem dX9_fonts_1 : decode cX9_fonts 1 = .ok (.iconst 0, 1) := by decide +kernel
theorem dX9_fonts_2 : decode cX9_fonts 2 = .ok (.putfield 64, 3) := by decide +kernel
theorem dX9_fonts_5 : decode cX9_fonts 5 = .ok (.iload_n 1, 1) := by decide +kernel
theorem dX9_fonts_6 : decode cX9_fonts 6 = .ok (.invokestatic 80, 3) := by decide +kernel
theorem dX9_fonts_9 : decode cX9_fonts 9 = .ok (.ifCond .ne 5, 3) := by decide +kernel
theorem dX9_fonts_12 : decode cX9_fonts 12 = .ok (.iconst (-1), 1) := by decide +kernel
theorem dX9_fonts_13 : decode cX9_fonts 13 = .ok (.ireturn, 1) := by decide +kernel
theorem dX9_fonts_14 : decode cX9_fonts 14 = .ok (.iload_n 2, 1) := by decide +kernel
theorem dX9_fonts_15 : decode cX9_fonts 15 = .ok (.invokestatic 84, 3) := by decide +kernel
theorem dX9_fonts_18 : decode cX9_fonts 18 = .ok (.ifCond .ne 6, 3) := by decide +kernel
theorem dX9_fonts_21 : decode cX9_fonts 21 = .ok (.bipush (-2), 2) := by decide +kernel
theorem dX9_fonts_23 : decode cX9_fonts 23 = .ok (.ireturn, 1) := by decide +kernel
theorem dX9_fonts_24 : decode cX9_fonts 24 = .ok (.aload_n 0, 1) := by decide +kernel
theorem dX9_fonts_25 : decode cX9_fonts 25 = .ok (.iload_n 1, 1) := by decide +kernel
theorem dX9_fonts_26 : decode cX9_fonts 26 = .ok (.iload_n 2, 1) := by decide +kernel
theorem dX9_fonts_27 : decode cX9_fonts 27 = .ok (.iload_n 3, 1) := by decide +kernel
theorem dX9_fonts_28 : decode cX9_fonts 28 = .ok (.iload 4, 2) := by decide +kernel
theorem dX9_fonts_30 : decode cX9_fonts 30 = .ok (.invokevirtual 87, 3) := by decide +kernel
theorem dX9_fonts_33 : decode cX9_fonts 33 = .ok (.istore 5, 2) := by decide +kernel
theorem dX9_fonts_35 : decode cX9_fonts 35 = .ok (.iload 5, 2) := by decide +kernel
theorem dX9_fonts_37 : decode cX9_fonts 37 = .ok (.ifCond .eq 10, 3) := by decide +kernel
theorem dX9_fonts_40 : decode cX9_fonts 40 = .ok (.aload_n 0, 1) := by decide +kernel
theorem dX9_fonts_41 : decode cX9_fonts 41 = .ok (.iload 5, 2) := by decide +kernel
theorem dX9_fonts_43 : decode cX9_fonts 43 = .ok (.invokevirtual 91, 3) := by decide +kernel
theorem dX9_fonts_46 : decode cX9_fonts 46 = .ok (.ireturn, 1) := by decide +kernel
set_option maxRecDepth 20000 in
theorem ggX9_fonts_X9_against : GoodIn wsX9_fonts wsX9_against := goodIn_r _ [28, 29, 30, 54, 55, 56, 57, 58, 59, 60, 61, 62, 63, 64, 65, 66, 67, 68, 69, 70, 71, 72, 73, 74, 75, 76, 77, 78, 79, 80, 81, 82, 83, 84] (by decide +kernel) (by decide +kernel)
set_option maxRecDepth 20000 in
theorem gX9_fonts_X9_against : GoodIn wsX9_fonts (wsV RX9 87 RX9 yX9_against wsX9_against) := goodIn_app (goodIn_of _ (by decide +kernel)) ggX9_fonts_X9_against
set_option maxRecDepth 20000 in
theorem ggX9_fonts_X9_fails : GoodIn wsX9_fonts wsX9_fails := goodIn_r _ [34, 1, 54, 55, 56, 57, 58, 59, 60, 61, 62, 63, 64, 65, 66, 67, 68, 69, 70, 71, 72, 73, 74, 75, 76, 77, 78, 79, 80, 81, 82, 83, 84] (by decide +kernel) (by decide +kernel)
set_option maxRecDepth 20000 in
theorem gX9_fonts_X9_fails : GoodIn wsX9_fonts (wsV RX9 91 RX9 yX9_fails wsX9_fails) := goodIn_app (goodIn_of _ (by decide +kernel)) ggX9_fonts_X9_fails
set_option maxRecDepth 20000 in
theorem ggX9_fonts_X9_isSheet : GoodIn wsX9_fonts wsX9_isSheet := goodIn_r _ [18, 19, 20, 17, 21] (by decide +kernel) (by decide +kernel)
set_option maxRecDepth 20000 in
theorem gX9_fonts_X9_isSheet : GoodIn wsX9_fonts (va_wsS RX9 80 yX9_isSheet wsX9_isSheet) := goodIn_app (goodIn_of _ (by decide +kernel)) ggX9_fonts_X9_isSheet
set_option maxRecDepth 20000 in
theorem ggX9_fonts_X9_isSort : GoodIn wsX9_fonts wsX9_isSort := goodIn_r _ [24, 19, 20, 17, 21] (by decide +kernel) (by decide +kernel)
set_option maxRecDepth 20000 in
theorem gX9_fonts_X9_isSort : GoodIn wsX9_fonts (va_wsS RX9 84 yX9_isSort wsX9_isSort) := goodIn_app (goodIn_of _ (by decide +kernel)) ggX9_fonts_X9_isSort
set_option maxHeartbeats 4000000 in
set_option maxRecDepth 100000 in
theorem c_X9_fonts (l : Launch) (D : va_G) (sz : Nat) (k : Int32) (n : Int32) (i : Int32) (z : Int32) (h0 : Nat) (fa : Int32) (tc : Int32) (so : Nat) (sl : Nat) (ce : Nat) (kd : Nat) (wd : Nat) (hs : Nat) (pr : Nat) (la : Nat) (wg : Nat) (ta : Int32) (ck : Int64) (at9 : Int32) (rfn : Int32) (rk : Nat) (rw : Nat) (rh : Nat) (cl : Int32) (sa : Nat) (fi : Nat) (bo : Int32) (ch : Nat) (cn : Nat) (ad : Int32) (ru : Int32) (kp : Nat) (rfa : Nat) (cso : ClassId) : Met l yX9_fonts wsX9_fonts ({ frames := 2, cells := 0, slots := 0, locals := 42 }) (kPre [.ref h0, .int k, .int n, .int i, .int z] D [(h0, .inr (9, [.int fa, .int tc, .ref so, .ref sl, .ref ce, .int 0, .ref kd, .ref wd, .ref hs, .ref pr, .ref la, .int 0, .ref wg, .int ta, .long ck, .int at9, .int rfn, .ref rk, .ref rw, .ref rh, .int cl, .ref sa, .ref fi, .int bo, .ref ch, .ref cn, .int ad, .int ru, .ref kp, .int 0, .ref rfa])), (so, .inl (cso, 4, .inl kSO))] [(cso, .int)] sz) (kQi (sp_fonts k n) (va_A [(h0, .inr (9, [.int fa, .int tc, .ref so, .ref sl, .ref ce, .int 0, .ref kd, .ref wd, .ref hs, .ref pr, .ref la, .int 0, .ref wg, .int ta, .long ck, .int at9, .int rfn, .ref rk, .ref rw, .ref rh, .int cl, .ref sa, .ref fi, .int bo, .ref ch, .ref cn, .int ad, .int ru, .ref kp, .int 0, .ref rfa])), (so, .inl (cso, 4, .inl kSO))] sz)) 0 0 (va_A [(h0, .inr (9, [.int fa, .int tc, .ref so, .ref sl, .ref ce, .int 0, .ref kd, .ref wd, .ref hs, .ref pr, .ref la, .int 0, .ref wg, .int ta, .long ck, .int at9, .int rfn, .ref rk, .ref rw, .ref rh, .int cl, .ref sa, .ref fi, .int bo, .ref ch, .ref cn, .int ad, .int ru, .ref kp, .int 0, .ref rfa])), (so, .inl (cso, 4, .inl kSO))] sz) := by
  refine Met.ofW (cc := cX9_fonts) (maxL := 8) (ret := (some .int)) (by decide) rfl ?_
  intro p e s m args below meth c s₁ B hml hv
  obtain ⟨rfl, hsz, hP, hK, hD0, hN⟩ := hv
  have hx := B.exec
  have hb := B.bytes
  have hr := B.returns
  have hts := atoms_spec (ws := wsX9_fonts) B.pre
  have hown : s.vm.findClass RX9 = some m.cls := findClass_of_methodNamed B.named
  have hlocks := B.notSynchronized
  subst hsz
  have hD := hD0.self (sz := s.heap.size)
  generalize hAe : va_A [(h0, .inr (9, [.int fa, .int tc, .ref so, .ref sl, .ref ce, .int 0, .ref kd, .ref wd, .ref hs, .ref pr, .ref la, .int 0, .ref wg, .int ta, .long ck, .int at9, .int rfn, .ref rk, .ref rw, .ref rh, .int cl, .ref sa, .ref fi, .int bo, .ref ch, .ref cn, .int ad, .int ru, .ref kp, .int 0, .ref rfa])), (so, .inl (cso, 4, .inl kSO))] s.heap.size = A at hD ⊢
  have hA : ∀ q : Nat, s.heap.size ≤ q → A q := fun q h => by rw [← hAe]; exact Or.inr h
  have hS : va_S A s.heap s.heap [] := va_S.rf
  have hP : va_P D vwCl [(h0, .inr (9, [.int fa, .int tc, .ref so, .ref sl, .ref ce, .int 0, .ref kd, .ref wd, .ref hs, .ref pr, .ref la, .int 0, .ref wg, .int ta, .long ck, .int at9, .int rfn, .ref rk, .ref rw, .ref rh, .int cl, .ref sa, .ref fi, .int bo, .ref ch, .ref cn, .int ad, .int ru, .ref kp, .int 0, .ref rfa])), (so, .inl (cso, 4, .inl kSO))] s.heap := hP
  have hl := lv_entry ([.ref h0, .int k, .int n, .int i, .int z]) (n := 8) (Nat.le_of_ble_eq_true rfl)
  rw [lg_entry_eq]
  generalize (lg_sl ([.ref h0, .int k, .int n, .int i, .int z]) ++ List.replicate (8 - (lg_sl ([.ref h0, .int k, .int n, .int i, .int z])).length) Slot.unset).toArray = ls at hl ⊢
  have hl : lv_has ls 8 [(0, .ref h0), (1, .int k), (2, .int n), (3, .int i), (4, .int z)] := hl
  refine lv_aload_n hx hb dX9_fonts_0 rfl (lv_at hl 0 rfl) ?_
  refine lv_iconst (v := 0) hx hb dX9_fonts_1 (by decide) ?_
  refine va_put (D := D) (ci := 9) (v := .int 0) (ty := .int) (C := RX9) (T := TX9) (N := 31) hx hb hts (fun _ h9 => List.mem_cons_of_mem _ (List.mem_append_right _ h9)) tyX9 tyX9_ok nmX9 hown hK hP hD hS 0 rfl rfl 0 (by decide) (hts (.fieldLink RX9 64 "FontRunsModel" "fault" "I") (by decide +kernel)) (fun _ h9 => h9) rfl (by decide +kernel) rfl rfl (Nat.le_of_ble_eq_true rfl) dX9_fonts_2 (fun H locs hP hD hS => ?_)
  have hP : va_P D vwCl [(h0, .inr (9, [.int 0, .int tc, .ref so, .ref sl, .ref ce, .int 0, .ref kd, .ref wd, .ref hs, .ref pr, .ref la, .int 0, .ref wg, .int ta, .long ck, .int at9, .int rfn, .ref rk, .ref rw, .ref rh, .int cl, .ref sa, .ref fi, .int bo, .ref ch, .ref cn, .int ad, .int ru, .ref kp, .int 0, .ref rfa])), (so, .inl (cso, 4, .inl kSO))] H := hP
  have hD : va_D A [(h0, .inr (9, [.int 0, .int tc, .ref so, .ref sl, .ref ce, .int 0, .ref kd, .ref wd, .ref hs, .ref pr, .ref la, .int 0, .ref wg, .int ta, .long ck, .int at9, .int rfn, .ref rk, .ref rw, .ref rh, .int cl, .ref sa, .ref fi, .int bo, .ref ch, .ref cn, .int ad, .int ru, .ref kp, .int 0, .ref rfa])), (so, .inl (cso, 4, .inl kSO))] := hD
  refine lv_iload_n hx hb dX9_fonts_5 rfl (lv_at hl 1 rfl) ?_
  refine k_callR (va_runS (As := [.int k]) (rest := []) ⟨hx, hb, hml, hown, hts⟩ (c_X9_isSheet l D H.size (k := k)) (va_cwS 1 hts gX9_fonts_X9_isSheet rfl rfl rfl (by decide +kernel) ⟨Nat.le_of_ble_eq_true rfl, Nat.le_of_ble_eq_true rfl⟩) (kPreS hP (kD0 hD) hK hN [] [] rfl rfl (by decide)) rfl rfl hl.1 rfl (lv_room (Nat.le_of_ble_eq_true rfl)) dX9_fonts_6 ⟨Nat.le_of_ble_eq_true rfl, Nat.le_of_ble_eq_true rfl⟩) ?_
  refine lv_if_ne (tgt := 14) hx hb dX9_fonts_9 (by decide) (fun c_1 => ?_) (fun c_1 => ?_)
  · have k_2 : (0 ≤ k ∧ k ≤ 3) := b01t c_1
    refine lv_iload_n hx hb dX9_fonts_14 rfl (lv_at hl 2 rfl) ?_
    refine k_callR (va_runS (As := [.int n]) (rest := []) ⟨hx, hb, hml, hown, hts⟩ (c_X9_isSort l D H.size (k := n)) (va_cwS 1 hts gX9_fonts_X9_isSort rfl rfl rfl (by decide +kernel) ⟨Nat.le_of_ble_eq_true rfl, Nat.le_of_ble_eq_true rfl⟩) (kPreS hP (kD0 hD) hK hN [] [] rfl rfl (by decide)) rfl rfl hl.1 rfl (lv_room (Nat.le_of_ble_eq_true rfl)) dX9_fonts_15 ⟨Nat.le_of_ble_eq_true rfl, Nat.le_of_ble_eq_true rfl⟩) ?_
    refine lv_if_ne (tgt := 24) hx hb dX9_fonts_18 (by decide) (fun c_3 => ?_) (fun c_3 => ?_)
    · have k_4 : (0 ≤ n ∧ n ≤ 2) := b01t c_3
      refine lv_aload_n hx hb dX9_fonts_24 rfl (lv_at hl 0 rfl) ?_
      refine lv_iload_n hx hb dX9_fonts_25 rfl (lv_at hl 1 rfl) ?_
      refine lv_iload_n hx hb dX9_fonts_26 rfl (lv_at hl 2 rfl) ?_
      refine lv_iload_n hx hb dX9_fonts_27 rfl (lv_at hl 3 rfl) ?_
      refine lv_iload hx hb dX9_fonts_28 (lv_at hl 4 rfl) ?_
      refine k_callR (va_runV (As := [.int k, .int n, .int i, .int z]) (rest := []) ⟨hx, hb, hml, hown, hts⟩ (c_X9_against l D H.size (k := k) (n := n) (i := i) (z := z) (h0 := h0) (fa := 0) (tc := tc) (so := so) (sl := sl) (ce := ce) (kd := kd) (wd := wd) (hs := hs) (pr := pr) (la := la) (wg := wg) (ta := ta) (ck := ck) (at9 := at9) (rfn := rfn) (rk := rk) (rw := rw) (rh := rh) (cl := cl) (sa := sa) (fi := fi) (bo := bo) (ch := ch) (cn := cn) (ad := ad) (ru := ru) (kp := kp) (rfa := rfa) (cso := cso) (h4 := k_2)) (cwV 4 hts gX9_fonts_X9_against rfl rfl rfl (by decide +kernel) ⟨Nat.le_of_ble_eq_true rfl, Nat.le_of_ble_eq_true rfl⟩) (kPreV hP (kD0 hD) hK hN [0, 1] [0] rfl rfl (by decide) 0 9 rfl rfl) rfl rfl hl.1 rfl (lv_room (Nat.le_of_ble_eq_true rfl)) dX9_fonts_30 ⟨Nat.le_of_ble_eq_true rfl, Nat.le_of_ble_eq_true rfl⟩) ?_
      refine lv_istore (lv' := [(5, .int 1), (0, .ref h0), (1, .int k), (2, .int n), (3, .int i), (4, .int z)]) hx hb dX9_fonts_33 hl (by decide) rfl (fun ls hl => ?_)
      refine lv_iload hx hb dX9_fonts_35 (lv_at hl 0 rfl) ?_
      refine lv_if_eq (tgt := 47) hx hb dX9_fonts_37 (by decide) (fun c9 => absurd c9 (by decide)) (fun _ => ?_)
      refine lv_aload_n hx hb dX9_fonts_40 rfl (lv_at hl 1 rfl) ?_
      refine lv_iload hx hb dX9_fonts_41 (lv_at hl 0 rfl) ?_
      have hFc := va_free (wc := [(h0, .inr (9, [.int 0, .int tc, .ref so, .ref sl, .ref ce, .int 0, .ref kd, .ref wd, .ref hs, .ref pr, .ref la, .int 0, .ref wg, .int ta, .long ck, .int at9, .int rfn, .ref rk, .ref rw, .ref rh, .int cl, .ref sa, .ref fi, .int bo, .ref ch, .ref cn, .int ad, .int ru, .ref kp, .int 0, .ref rfa]))]) hD hS hA [0] rfl
      refine va_calli (va_runV (As := [.int 1]) (rest := []) ⟨hx, hb, hml, hown, hts⟩ (c_X9_fails l D H.size (f := 1) (h0 := h0) (fa := 0) (tc := tc) (so := so) (sl := sl) (ce := ce) (kd := kd) (wd := wd) (hs := hs) (pr := pr) (la := la) (wg := wg) (ta := ta) (ck := ck) (at9 := at9) (rfn := rfn) (rk := rk) (rw := rw) (rh := rh) (cl := cl) (sa := sa) (fi := fi) (bo := bo) (ch := ch) (cn := cn) (ad := ad) (ru := ru) (kp := kp) (rfa := rfa)) (cwV 1 hts gX9_fonts_X9_fails rfl rfl rfl (by decide +kernel) ⟨Nat.le_of_ble_eq_true rfl, Nat.le_of_ble_eq_true rfl⟩) (kPreV hP (kD0 hD) hK hN [0] [] rfl rfl (by decide) 0 9 rfl rfl) rfl rfl hl.1 rfl (lv_room (Nat.le_of_ble_eq_true rfl)) dX9_fonts_43 ⟨Nat.le_of_ble_eq_true rfl, Nat.le_of_ble_eq_true rfl⟩) hS (fun q _ h => hFc q h) hFc (fun r_5 u t H1 locs ht hvm hw hB hz1 hk1 hS => ?_)
      obtain ⟨hP, hD⟩ := va_join (wr := [(so, .inl (cso, 4, .inl kSO))]) (w1 := []) hP hD [0] [1] rfl rfl (by decide) (by decide) hk1 hFc kP0 kDn
      generalize H1 = H at hP hS ⊢
      have hP : va_P D vwCl [(so, .inl (cso, 4, .inl kSO))] H := hP
      have hD : va_D A [(so, .inl (cso, 4, .inl kSO))] := hD
      refine kn_i ((-10) - 1) hw ?_
      refine kn_i (-11) (by decide) ?_
      exact W.iret (v := (-11)) hx hb hr (fun t ht hW => kQi_of (by first | rfl | (simp only [sp_fonts, if_pos k_2, if_pos k_4]; done) | (simp [sp_fonts, k_2, k_4]; done)) (hS.F ht)) hS.2.2 dX9_fonts_46
    · have k_6 : ¬ ((0 ≤ n ∧ n ≤ 2)) := b01f c_3
      refine lv_bipush (v := (-2)) hx hb dX9_fonts_21 (by decide) ?_
      exact W.iret (v := (-2)) hx hb hr (fun t ht hW => kQi_of (by first | rfl | (simp only [sp_fonts, if_pos k_2, if_neg k_6]; done) | (simp [sp_fonts, k_2, k_6]; done)) (hS.F ht)) hS.2.2 dX9_fonts_23
  · have k_7 : ¬ ((0 ≤ k ∧ k ≤ 3)) := b01f c_1
    refine lv_iconst (v := (-1)) hx hb dX9_fonts_12 (by decide) ?_
    exact W.iret (v := (-1)) hx hb hr (fun t ht hW => kQi_of (by first | rfl | (simp only [sp_fonts, if_neg k_7]; done) | (simp [sp_fonts, k_7]; done)) (hS.F ht)) hS.2.2 dX9_fonts_13
theorem dX9_write_0 : decode cX9_write 0 = .ok (.aload_n 0, 1) := by decide +kernel
theorem dX9_write_1 : decode cX9_write 1 = .ok (.iconst 0, 1) := by decide +kernel
theorem dX9_write_2 : decode cX9_write 2 = .ok (.putfield 64, 3) := by decide +kernel
theorem dX9_write_5 : decode cX9_write 5 = .ok (.iload_n 1, 1) := by decide +kernel
theorem dX9_write_6 : decode cX9_write 6 = .ok (.invokestatic 80, 3) := by decide +kernel
theorem dX9_write_9 : decode cX9_write 9 = .ok (.ifCond .ne 5, 3) := by decide +kernel
theorem dX9_write_12 : decode cX9_write 12 = .ok (.iconst (-1), 1) := by decide +kernel
theorem dX9_write_13 : decode cX9_write 13 = .ok (.ireturn, 1) := by decide +kernel
theorem dX9_write_14 : decode cX9_write 14 = .ok (.iload_n 2, 1) := by decide +kernel
theorem dX9_write_15 : decode cX9_write 15 = .ok (.invokestatic 84, 3) := by decide +kernel
theorem dX9_write_18 : decode cX9_write 18 = .ok (.ifCond .eq 14, 3) := by decide +kernel
theorem dX9_write_21 : decode cX9_write 21 = .ok (.iload 4, 2) := by decide +kernel
theorem dX9_write_23 : decode cX9_write 23 = .ok (.iconst 0, 1) := by decide +kernel
theorem dX9_write_24 : decode cX9_write 24 = .ok (.bipush 24, 2) := by decide +kernel
theorem dX9_write_26 : decode cX9_write 26 = .ok (.invokestatic 70, 3) := by decide +kernel
theorem dX9_write_29 : decode cX9_write 29 = .ok (.ifCond .ne 6, 3) := by decide +kernel
theorem dX9_write_32 : decode cX9_write 32 = .ok (.bipush (-2), 2) := by decide +kernel
theorem dX9_write_34 : decode cX9_write 34 = .ok (.ireturn, 1) := by decide +kernel
theorem dX9_write_35 : decode cX9_write 35 = .ok (.aload_n 0, 1) := by decide +kernel
theorem dX9_write_36 : decode cX9_write 36 = .ok (.iload_n 1, 1) := by decide +kernel
theorem dX9_write_37 : decode cX9_write 37 = .ok (.iload_n 2, 1) := by decide +kernel
theorem dX9_write_38 : decode cX9_write 38 = .ok (.iload_n 3, 1) := by decide +kernel
theorem dX9_write_39 : decode cX9_write 39 = .ok (.iload 4, 2) := by decide +kernel
theorem dX9_write_41 : decode cX9_write 41 = .ok (.invokevirtual 87, 3) := by decide +kernel
theorem dX9_write_44 : decode cX9_write 44 = .ok (.istore 5, 2) := by decide +kernel
theorem dX9_write_46 : decode cX9_write 46 = .ok (.iload 5, 2) := by decide +kernel
theorem dX9_write_48 : decode cX9_write 48 = .ok (.ifCond .eq 10, 3) := by decide +kernel
theorem dX9_write_51 : decode cX9_write 51 = .ok (.aload_n 0, 1) := by decide +kernel
theorem dX9_write_52 : decode cX9_write 52 = .ok (.iload 5, 2) := by decide +kernel
theorem dX9_write_54 : decode cX9_write 54 = .ok (.invokevirtual 91, 3) := by decide +kernel
theorem dX9_write_57 : decode cX9_write 57 = .ok (.ireturn, 1) := by decide +kernel
set_option maxRecDepth 20000 in
theorem ggX9_write_X9_against : GoodIn wsX9_write wsX9_against := goodIn_r _ [22, 23, 24, 29, 30, 31, 32, 33, 34, 35, 36, 37, 38, 39, 40, 41, 42, 43, 44, 45, 46, 47, 48, 49, 50, 51, 52, 53, 54, 55, 56, 57, 58, 59] (by decide +kernel) (by decide +kernel)
set_option maxRecDepth 20000 in
theorem gX9_write_X9_against : GoodIn wsX9_write (wsV RX9 87 RX9 yX9_against wsX9_against) := goodIn_app (goodIn_of _ (by decide +kernel)) ggX9_write_X9_against
set_option maxRecDepth 20000 in
theorem ggX9_write_X9_fails : GoodIn wsX9_write wsX9_fails := goodIn_r _ [28, 1, 29, 30, 31, 32, 33, 34, 35, 36, 37, 38, 39, 40, 41, 42, 43, 44, 45, 46, 47, 48, 49, 50, 51, 52, 53, 54, 55, 56, 57, 58, 59] (by decide +kernel) (by decide +kernel)
set_option maxRecDepth 20000 in
theorem gX9_write_X9_fails : GoodIn wsX9_write (wsV RX9 91 RX9 yX9_fails wsX9_fails) := goodIn_app (goodIn_of _ (by decide +kernel)) ggX9_write_X9_fails
set_option maxRecDepth 20000 in
theorem ggX9_write_X9_isSheet : GoodIn wsX9_write wsX9_isSheet := goodIn_r _ [12, 13, 14, 11, 15] (by decide +kernel) (by decide +kernel)
set_option maxRecDepth 20000 in
theorem gX9_write_X9_isSheet : GoodIn wsX9_write (va_wsS RX9 80 yX9_isSheet wsX9_isSheet) := goodIn_app (goodIn_of _ (by decide +kernel)) ggX9_write_X9_isSheet
set_option maxRecDepth 20000 in
theorem ggX9_write_X9_isSort : GoodIn wsX9_write wsX9_isSort := goodIn_r _ [18, 13, 14, 11, 15] (by decide +kernel) (by decide +kernel)
set_option maxRecDepth 20000 in
theorem gX9_write_X9_isSort : GoodIn wsX9_write (va_wsS RX9 84 yX9_isSort wsX9_isSort) := goodIn_app (goodIn_of _ (by decide +kernel)) ggX9_write_X9_isSort
set_option maxRecDepth 20000 in
theorem ggX9_write_X9_within : GoodIn wsX9_write wsX9_within := goodIn_r _ [15] (by decide +kernel) (by decide +kernel)
set_option maxRecDepth 20000 in
theorem gX9_write_X9_within : GoodIn wsX9_write (va_wsS RX9 70 yX9_within wsX9_within) := goodIn_app (goodIn_of _ (by decide +kernel)) ggX9_write_X9_within
set_option maxHeartbeats 4000000 in
set_option maxRecDepth 100000 in
theorem c_X9_write (l : Launch) (D : va_G) (sz : Nat) (k : Int32) (n : Int32) (i : Int32) (z : Int32) (h0 : Nat) (fa : Int32) (tc : Int32) (so : Nat) (sl : Nat) (ce : Nat) (kd : Nat) (wd : Nat) (hs : Nat) (pr : Nat) (la : Nat) (wg : Nat) (ta : Int32) (ck : Int64) (at9 : Int32) (rfn : Int32) (rk : Nat) (rw : Nat) (rh : Nat) (cl : Int32) (sa : Nat) (fi : Nat) (bo : Int32) (ch : Nat) (cn : Nat) (ad : Int32) (ru : Int32) (kp : Nat) (rfa : Nat) (cso : ClassId) : Met l yX9_write wsX9_write ({ frames := 2, cells := 0, slots := 0, locals := 42 }) (kPre [.ref h0, .int k, .int n, .int i, .int z] D [(h0, .inr (9, [.int fa, .int tc, .ref so, .ref sl, .ref ce, .int 0, .ref kd, .ref wd, .ref hs, .ref pr, .ref la, .int 0, .ref wg, .int ta, .long ck, .int at9, .int rfn, .ref rk, .ref rw, .ref rh, .int cl, .ref sa, .ref fi, .int bo, .ref ch, .ref cn, .int ad, .int ru, .ref kp, .int 0, .ref rfa])), (so, .inl (cso, 4, .inl kSO))] [(cso, .int)] sz) (kQi (sp_write k n z) (va_A [(h0, .inr (9, [.int fa, .int tc, .ref so, .ref sl, .ref ce, .int 0, .ref kd, .ref wd, .ref hs, .ref pr, .ref la, .int 0, .ref wg, .int ta, .long ck, .int at9, .int rfn, .ref rk, .ref rw, .ref rh, .int cl, .ref sa, .ref fi, .int bo, .ref ch, .ref cn, .int ad, .int ru, .ref kp, .int 0, .ref rfa])), (so, .inl (cso, 4, .inl kSO))] sz)) 0 0 (va_A [(h0, .inr (9, [.int fa, .int tc, .ref so, .ref sl, .ref ce, .int 0, .ref kd, .ref wd, .ref hs, .ref pr, .ref la, .int 0, .ref wg, .int ta, .long ck, .int at9, .int rfn, .ref rk, .ref rw, .ref rh, .int cl, .ref sa, .ref fi, .int bo, .ref ch, .ref cn, .int ad, .int ru, .ref kp, .int 0, .ref rfa])), (so, .inl (cso, 4, .inl kSO))] sz) := by
  refine Met.ofW (cc := cX9_write) (maxL := 8) (ret := (some .int)) (by decide) rfl ?_
  intro p e s m args below meth c s₁ B hml hv
  obtain ⟨rfl, hsz, hP, hK, hD0, hN⟩ := hv
  have hx := B.exec
  have hb := B.bytes
  have hr := B.returns
  have hts := atoms_spec (ws := wsX9_write) B.pre
  have hown : s.vm.findClass RX9 = some m.cls := findClass_of_methodNamed B.named
  have hlocks := B.notSynchronized
  subst hsz
  have hD := hD0.self (sz := s.heap.size)
  generalize hAe : va_A [(h0, .inr (9, [.int fa, .int tc, .ref so, .ref sl, .ref ce, .int 0, .ref kd, .ref wd, .ref hs, .ref pr, .ref la, .int 0, .ref wg, .int ta, .long ck, .int at9, .int rfn, .ref rk, .ref rw, .ref rh, .int cl, .ref sa, .ref fi, .int bo, .ref ch, .ref cn, .int ad, .int ru, .ref kp, .int 0, .ref rfa])), (so, .inl (cso, 4, .inl kSO))] s.heap.size = A at hD ⊢
  have hA : ∀ q : Nat, s.heap.size ≤ q → A q := fun q h => by rw [← hAe]; exact Or.inr h
  have hS : va_S A s.heap s.heap [] := va_S.rf
  have hP : va_P D vwCl [(h0, .inr (9, [.int fa, .int tc, .ref so, .ref sl, .ref ce, .int 0, .ref kd, .ref wd, .ref hs, .ref pr, .ref la, .int 0, .ref wg, .int ta, .long ck, .int at9, .int rfn, .ref rk, .ref rw, .ref rh, .int cl, .ref sa, .ref fi, .int bo, .ref ch, .ref cn, .int ad, .int ru, .ref kp, .int 0, .ref rfa])), (so, .inl (cso, 4, .inl kSO))] s.heap := hP
  have hl := lv_entry ([.ref h0, .int k, .int n, .int i, .int z]) (n := 8) (Nat.le_of_ble_eq_true rfl)
  rw [lg_entry_eq]
  generalize (lg_sl ([.ref h0, .int k, .int n, .int i, .int z]) ++ List.replicate (8 - (lg_sl ([.ref h0, .int k, .int n, .int i, .int z])).length) Slot.unset).toArray = ls at hl ⊢
  have hl : lv_has ls 8 [(0, .ref h0), (1, .int k), (2, .int n), (3, .int i), (4, .int z)] := hl
  refine lv_aload_n hx hb dX9_write_0 rfl (lv_at hl 0 rfl) ?_
  refine lv_iconst (v := 0) hx hb dX9_write_1 (by decide) ?_
  refine va_put (D := D) (ci := 9) (v := .int 0) (ty := .int) (C := RX9) (T := TX9) (N := 31) hx hb hts (fun _ h9 => List.mem_cons_of_mem _ (List.mem_append_right _ h9)) tyX9 tyX9_ok nmX9 hown hK hP hD hS 0 rfl rfl 0 (by decide) (hts (.fieldLink RX9 64 "FontRunsModel" "fault" "I") (by decide +kernel)) (fun _ h9 => h9) rfl (by decide +kernel) rfl rfl (Nat.le_of_ble_eq_true rfl) dX9_write_2 (fun H locs hP hD hS => ?_)
  have hP : va_P D vwCl [(h0, .inr (9, [.int 0, .int tc, .ref so, .ref sl, .ref ce, .int 0, .ref kd, .ref wd, .ref hs, .ref pr, .ref la, .int 0, .ref wg, .int ta, .long ck, .int at9, .int rfn, .ref rk, .ref rw, .ref rh, .int cl, .ref sa, .ref fi, .int bo, .ref ch, .ref cn, .int ad, .int ru, .ref kp, .int 0, .ref rfa])), (so, .inl (cso, 4, .inl kSO))] H := hP
  have hD : va_D A [(h0, .inr (9, [.int 0, .int tc, .ref so, .ref sl, .ref ce, .int 0, .ref kd, .ref wd, .ref hs, .ref pr, .ref la, .int 0, .ref wg, .int ta, .long ck, .int at9, .int rfn, .ref rk, .ref rw, .ref rh, .int cl, .ref sa, .ref fi, .int bo, .ref ch, .ref cn, .int ad, .int ru, .ref kp, .int 0, .ref rfa])), (so, .inl (cso, 4, .inl kSO))] := hD
  refine lv_iload_n hx hb dX9_write_5 rfl (lv_at hl 1 rfl) ?_
  refine k_callR (va_runS (As := [.int k]) (rest := []) ⟨hx, hb, hml, hown, hts⟩ (c_X9_isSheet l D H.size (k := k)) (va_cwS 1 hts gX9_write_X9_isSheet rfl rfl rfl (by decide +kernel) ⟨Nat.le_of_ble_eq_true rfl, Nat.le_of_ble_eq_true rfl⟩) (kPreS hP (kD0 hD) hK hN [] [] rfl rfl (by decide)) rfl rfl hl.1 rfl (lv_room (Nat.le_of_ble_eq_true rfl)) dX9_write_6 ⟨Nat.le_of_ble_eq_true rfl, Nat.le_of_ble_eq_true rfl⟩) ?_
  refine lv_if_ne (tgt := 14) hx hb dX9_write_9 (by decide) (fun c_1 => ?_) (fun c_1 => ?_)
  · have k_2 : (0 ≤ k ∧ k ≤ 3) := b01t c_1
    refine lv_iload_n hx hb dX9_write_14 rfl (lv_at hl 2 rfl) ?_
    refine k_callR (va_runS (As := [.int n]) (rest := []) ⟨hx, hb, hml, hown, hts⟩ (c_X9_isSort l D H.size (k := n)) (va_cwS 1 hts gX9_write_X9_isSort rfl rfl rfl (by decide +kernel) ⟨Nat.le_of_ble_eq_true rfl, Nat.le_of_ble_eq_true rfl⟩) (kPreS hP (kD0 hD) hK hN [] [] rfl rfl (by decide)) rfl rfl hl.1 rfl (lv_room (Nat.le_of_ble_eq_true rfl)) dX9_write_15 ⟨Nat.le_of_ble_eq_true rfl, Nat.le_of_ble_eq_true rfl⟩) ?_
    refine lv_if_eq (tgt := 32) hx hb dX9_write_18 (by decide) (fun c_3 => ?_) (fun c_3 => ?_)
    · have k_4 : ¬ ((0 ≤ n ∧ n ≤ 2)) := b01f c_3
      refine lv_bipush (v := (-2)) hx hb dX9_write_32 (by decide) ?_
      exact W.iret (v := (-2)) hx hb hr (fun t ht hW => kQi_of (by first | rfl | (simp only [sp_write, if_pos k_2, if_neg k_4]; done) | (simp [sp_write, k_2, k_4]; done)) (hS.F ht)) hS.2.2 dX9_write_34
    · have k_5 : (0 ≤ n ∧ n ≤ 2) := b01t c_3
      refine lv_iload hx hb dX9_write_21 (lv_at hl 4 rfl) ?_
      refine lv_iconst (v := 0) hx hb dX9_write_23 (by decide) ?_
      refine lv_bipush (v := 24) hx hb dX9_write_24 (by decide) ?_
      refine k_callR (va_runS (As := [.int z, .int 0, .int 24]) (rest := []) ⟨hx, hb, hml, hown, hts⟩ (c_X9_within l D H.size (v := z) (a := 0) (b := 24)) (va_cwS 3 hts gX9_write_X9_within rfl rfl rfl (by decide +kernel) ⟨Nat.le_of_ble_eq_true rfl, Nat.le_of_ble_eq_true rfl⟩) (kPreS hP (kD0 hD) hK hN [] [] rfl rfl (by decide)) rfl rfl hl.1 rfl (lv_room (Nat.le_of_ble_eq_true rfl)) dX9_write_26 ⟨Nat.le_of_ble_eq_true rfl, Nat.le_of_ble_eq_true rfl⟩) ?_
      refine lv_if_ne (tgt := 35) hx hb dX9_write_29 (by decide) (fun c_6 => ?_) (fun c_6 => ?_)
      · have k_7 : (0 ≤ z ∧ z ≤ 24) := b01t c_6
        refine lv_aload_n hx hb dX9_write_35 rfl (lv_at hl 0 rfl) ?_
        refine lv_iload_n hx hb dX9_write_36 rfl (lv_at hl 1 rfl) ?_
        refine lv_iload_n hx hb dX9_write_37 rfl (lv_at hl 2 rfl) ?_
        refine lv_iload_n hx hb dX9_write_38 rfl (lv_at hl 3 rfl) ?_
        refine lv_iload hx hb dX9_write_39 (lv_at hl 4 rfl) ?_
        refine k_callR (va_runV (As := [.int k, .int n, .int i, .int z]) (rest := []) ⟨hx, hb, hml, hown, hts⟩ (c_X9_against l D H.size (k := k) (n := n) (i := i) (z := z) (h0 := h0) (fa := 0) (tc := tc) (so := so) (sl := sl) (ce := ce) (kd := kd) (wd := wd) (hs := hs) (pr := pr) (la := la) (wg := wg) (ta := ta) (ck := ck) (at9 := at9) (rfn := rfn) (rk := rk) (rw := rw) (rh := rh) (cl := cl) (sa := sa) (fi := fi) (bo := bo) (ch := ch) (cn := cn) (ad := ad) (ru := ru) (kp := kp) (rfa := rfa) (cso := cso) (h4 := k_2)) (cwV 4 hts gX9_write_X9_against rfl rfl rfl (by decide +kernel) ⟨Nat.le_of_ble_eq_true rfl, Nat.le_of_ble_eq_true rfl⟩) (kPreV hP (kD0 hD) hK hN [0, 1] [0] rfl rfl (by decide) 0 9 rfl rfl) rfl rfl hl.1 rfl (lv_room (Nat.le_of_ble_eq_true rfl)) dX9_write_41 ⟨Nat.le_of_ble_eq_true rfl, Nat.le_of_ble_eq_true rfl⟩) ?_
        refine lv_istore (lv' := [(5, .int 1), (0, .ref h0), (1, .int k), (2, .int n), (3, .int i), (4, .int z)]) hx hb dX9_write_44 hl (by decide) rfl (fun ls hl => ?_)
        refine lv_iload hx hb dX9_write_46 (lv_at hl 0 rfl) ?_
        refine lv_if_eq (tgt := 58) hx hb dX9_write_48 (by decide) (fun c9 => absurd c9 (by decide)) (fun _ => ?_)
        refine lv_aload_n hx hb dX9_write_51 rfl (lv_at hl 1 rfl) ?_
        refine lv_iload hx hb dX9_write_52 (lv_at hl 0 rfl) ?_
        have hFc := va_free (wc := [(h0, .inr (9, [.int 0, .int tc, .ref so, .ref sl, .ref ce, .int 0, .ref kd, .ref wd, .ref hs, .ref pr, .ref la, .int 0, .ref wg, .int ta, .long ck, .int at9, .int rfn, .ref rk, .ref rw, .ref rh, .int cl, .ref sa, .ref fi, .int bo, .ref ch, .ref cn, .int ad, .int ru, .ref kp, .int 0, .ref rfa]))]) hD hS hA [0] rfl
        refine va_calli (va_runV (As := [.int 1]) (rest := []) ⟨hx, hb, hml, hown, hts⟩ (c_X9_fails l D H.size (f := 1) (h0 := h0) (fa := 0) (tc := tc) (so := so) (sl := sl) (ce := ce) (kd := kd) (wd := wd) (hs := hs) (pr := pr) (la := la) (wg := wg) (ta := ta) (ck := ck) (at9 := at9) (rfn := rfn) (rk := rk) (rw := rw) (rh := rh) (cl := cl) (sa := sa) (fi := fi) (bo := bo) (ch := ch) (cn := cn) (ad := ad) (ru := ru) (kp := kp) (rfa := rfa)) (cwV 1 hts gX9_write_X9_fails rfl rfl rfl (by decide +kernel) ⟨Nat.le_of_ble_eq_true rfl, Nat.le_of_ble_eq_true rfl⟩) (kPreV hP (kD0 hD) hK hN [0] [] rfl rfl (by decide) 0 9 rfl rfl) rfl rfl hl.1 rfl (lv_room (Nat.le_of_ble_eq_true rfl)) dX9_write_54 ⟨Nat.le_of_ble_eq_true rfl, Nat.le_of_ble_eq_true rfl⟩) hS (fun q _ h => hFc q h) hFc (fun r_8 u t H1 locs ht hvm hw hB hz1 hk1 hS => ?_)
        obtain ⟨hP, hD⟩ := va_join (wr := [(so, .inl (cso, 4, .inl kSO))]) (w1 := []) hP hD [0] [1] rfl rfl (by decide) (by decide) hk1 hFc kP0 kDn
        generalize H1 = H at hP hS ⊢
        have hP : va_P D vwCl [(so, .inl (cso, 4, .inl kSO))] H := hP
        have hD : va_D A [(so, .inl (cso, 4, .inl kSO))] := hD
        refine kn_i ((-10) - 1) hw ?_
        refine kn_i (-11) (by decide) ?_
        exact W.iret (v := (-11)) hx hb hr (fun t ht hW => kQi_of (by first | rfl | (simp only [sp_write, if_pos k_2, if_pos k_5, if_pos k_7]; done) | (simp [sp_write, k_2, k_5, k_7]; done)) (hS.F ht)) hS.2.2 dX9_write_57
      · have k_9 : ¬ ((0 ≤ z ∧ z ≤ 24)) := b01f c_6
        refine lv_bipush (v := (-2)) hx hb dX9_write_32 (by decide) ?_
        exact W.iret (v := (-2)) hx hb hr (fun t ht hW => kQi_of (by first | rfl | (simp only [sp_write, if_pos k_2, if_pos k_5, if_neg k_9]; done) | (simp [sp_write, k_2, k_5, k_9]; done)) (hS.F ht)) hS.2.2 dX9_write_34
  · have k_10 : ¬ ((0 ≤ k ∧ k ≤ 3)) := b01f c_1
    refine lv_iconst (v := (-1)) hx hb dX9_write_12 (by decide) ?_
    exact W.iret (v := (-1)) hx hb hr (fun t ht hW => kQi_of (by first | rfl | (simp only [sp_write, if_neg k_10]; done) | (simp [sp_write, k_10]; done)) (hS.F ht)) hS.2.2 dX9_write_13
theorem dX9_day_0 : decode cX9_day 0 = .ok (.aload_n 0, 1) := by decide +kernel
theorem dX9_day_1 : decode cX9_day 1 = .ok (.iconst 0, 1) := by decide +kernel
theorem dX9_day_2 : decode cX9_day 2 = .ok (.putfield 64, 3) := by decide +kernel
theorem dX9_day_5 : decode cX9_day 5 = .ok (.iload_n 1, 1) := by decide +kernel
theorem dX9_day_6 : decode cX9_day 6 = .ok (.invokestatic 80, 3) := by decide +kernel
theorem dX9_day_9 : decode cX9_day 9 = .ok (.ifCond .ne 5, 3) := by decide +kernel
theorem dX9_day_12 : decode cX9_day 12 = .ok (.iconst (-1), 1) := by decide +kernel
theorem dX9_day_13 : decode cX9_day 13 = .ok (.ireturn, 1) := by decide +kernel
theorem dX9_day_14 : decode cX9_day 14 = .ok (.iload_n 2, 1) := by decide +kernel
theorem dX9_day_15 : decode cX9_day 15 = .ok (.invokestatic 84, 3) := by decide +kernel
theorem dX9_day_18 : decode cX9_day 18 = .ok (.ifCond .eq 36, 3) := by decide +kernel
theorem dX9_day_21 : decode cX9_day 21 = .ok (.iload 4, 2) := by decide +kernel
theorem dX9_day_23 : decode cX9_day 23 = .ok (.iconst 0, 1) := by decide +kernel
theorem dX9_day_24 : decode cX9_day 24 = .ok (.bipush 20, 2) := by decide +kernel
theorem dX9_day_26 : decode cX9_day 26 = .ok (.invokestatic 70, 3) := by decide +kernel
theorem dX9_day_29 : decode cX9_day 29 = .ok (.ifCond .eq 25, 3) := by decide +kernel
theorem dX9_day_32 : decode cX9_day 32 = .ok (.iload 5, 2) := by decide +kernel
theorem dX9_day_34 : decode cX9_day 34 = .ok (.iconst 0, 1) := by decide +kernel
theorem dX9_day_35 : decode cX9_day 35 = .ok (.iconst 4, 1) := by decide +kernel
theorem dX9_day_36 : decode cX9_day 36 = .ok (.invokestatic 70, 3) := by decide +kernel
theorem dX9_day_39 : decode cX9_day 39 = .ok (.ifCond .ne 18, 3) := by decide +kernel
theorem dX9_day_42 : decode cX9_day 42 = .ok (.iload 5, 2) := by decide +kernel
theorem dX9_day_44 : decode cX9_day 44 = .ok (.bipush 10, 2) := by decide +kernel
theorem dX9_day_46 : decode cX9_day 46 = .ok (.bipush 13, 2) := by decide +kernel
theorem dX9_day_48 : decode cX9_day 48 = .ok (.invokestatic 70, 3) := by decide +kernel
theorem dX9_day_51 : decode cX9_day 51 = .ok (.ifCond .ne 6, 3) := by decide +kernel
theorem dX9_day_54 : decode cX9_day 54 = .ok (.bipush (-2), 2) := by decide +kernel
theorem dX9_day_56 : decode cX9_day 56 = .ok (.ireturn, 1) := by decide +kernel
theorem dX9_day_57 : decode cX9_day 57 = .ok (.aload_n 0, 1) := by decide +kernel
theorem dX9_day_58 : decode cX9_day 58 = .ok (.iload_n 1, 1) := by decide +kernel
theorem dX9_day_59 : decode cX9_day 59 = .ok (.iload_n 2, 1) := by decide +kernel
theorem dX9_day_60 : decode cX9_day 60 = .ok (.iload_n 3, 1) := by decide +kernel
theorem dX9_day_61 : decode cX9_day 61 = .ok (.iconst 2, 1) := by decide +kernel
theorem dX9_day_62 : decode cX9_day 62 = .ok (.iload 4, 2) := by decide +kernel
theorem dX9_day_64 : decode cX9_day 64 = .ok (.imul, 1) := by decide +kernel
theorem dX9_day_65 : decode cX9_day 65 = .ok (.invokevirtual 87, 3) := by decide +kernel
theorem dX9_day_68 : decode cX9_day 68 = .ok (.istore 6, 2) := by decide +kernel
theorem dX9_day_70 : decode cX9_day 70 = .ok (.iload 6, 2) := by decide +kernel
theorem dX9_day_72 : decode cX9_day 72 = .ok (.ifCond .eq 10, 3) := by decide +kernel
theorem dX9_day_75 : decode cX9_day 75 = .ok (.aload_n 0, 1) := by decide +kernel
theorem dX9_day_76 : decode cX9_day 76 = .ok (.iload 6, 2) := by decide +kernel
theorem dX9_day_78 : decode cX9_day 78 = .ok (.invokevirtual 91, 3) := by decide +kernel
theorem dX9_day_81 : decode cX9_day 81 = .ok (.ireturn, 1) := by decide +kernel
set_option maxRecDepth 20000 in
theorem ggX9_day_X9_against : GoodIn wsX9_day wsX9_against := goodIn_r _ [17, 18, 19, 105, 106, 107, 108, 109, 110, 111, 112, 113, 114, 115, 116, 117, 118, 119, 120, 121, 122, 123, 124, 125, 126, 127, 128, 129, 130, 131, 132, 133, 134, 135] (by decide +kernel) (by decide +kernel)
set_option maxRecDepth 20000 in
theorem gX9_day_X9_against : GoodIn wsX9_day (wsV RX9 87 RX9 yX9_against wsX9_against) := goodIn_app (goodIn_of _ (by decide +kernel)) ggX9_day_X9_against
set_option maxRecDepth 20000 in
theorem ggX9_day_X9_fails : GoodIn wsX9_day wsX9_fails := goodIn_r _ [23, 1, 105, 106, 107, 108, 109, 110, 111, 112, 113, 114, 115, 116, 117, 118, 119, 120, 121, 122, 123, 124, 125, 126, 127, 128, 129, 130, 131, 132, 133, 134, 135] (by decide +kernel) (by decide +kernel)
set_option maxRecDepth 20000 in
theorem gX9_day_X9_fails : GoodIn wsX9_day (wsV RX9 91 RX9 yX9_fails wsX9_fails) := goodIn_app (goodIn_of _ (by decide +kernel)) ggX9_day_X9_fails
set_option maxRecDepth 20000 in
theorem ggX9_day_X9_isSheet : GoodIn wsX9_day wsX9_isSheet := goodIn_r _ [7, 8, 9, 6, 10] (by decide +kernel) (by decide +kernel)
set_option maxRecDepth 20000 in
theorem gX9_day_X9_isSheet : GoodIn wsX9_day (va_wsS RX9 80 yX9_isSheet wsX9_isSheet) := goodIn_app (goodIn_of _ (by decide +kernel)) ggX9_day_X9_isSheet
set_option maxRecDepth 20000 in
theorem ggX9_day_X9_isSort : GoodIn wsX9_day wsX9_isSort := goodIn_r _ [13, 8, 9, 6, 10] (by decide +kernel) (by decide +kernel)
set_option maxRecDepth 20000 in
theorem gX9_day_X9_isSort : GoodIn wsX9_day (va_wsS RX9 84 yX9_isSort wsX9_isSort) := goodIn_app (goodIn_of _ (by decide +kernel)) ggX9_day_X9_isSort
set_option maxRecDepth 20000 in
theorem ggX9_day_X9_within : GoodIn wsX9_day wsX9_within := goodIn_r _ [10] (by decide +kernel) (by decide +kernel)
set_option maxRecDepth 20000 in
theorem gX9_day_X9_within : GoodIn wsX9_day (va_wsS RX9 70 yX9_within wsX9_within) := goodIn_app (goodIn_of _ (by decide +kernel)) ggX9_day_X9_within
set_option maxHeartbeats 4000000 in
set_option maxRecDepth 100000 in
theorem c_X9_day (l : Launch) (D : va_G) (sz : Nat) (k : Int32) (n : Int32) (i : Int32) (z : Int32) (w : Int32) (h0 : Nat) (fa : Int32) (tc : Int32) (so : Nat) (sl : Nat) (ce : Nat) (kd : Nat) (wd : Nat) (hs : Nat) (pr : Nat) (la : Nat) (wg : Nat) (ta : Int32) (ck : Int64) (at9 : Int32) (rfn : Int32) (rk : Nat) (rw : Nat) (rh : Nat) (cl : Int32) (sa : Nat) (fi : Nat) (bo : Int32) (ch : Nat) (cn : Nat) (ad : Int32) (ru : Int32) (kp : Nat) (rfa : Nat) (cso : ClassId) : Met l yX9_day wsX9_day ({ frames := 2, cells := 0, slots := 0, locals := 42 }) (kPre [.ref h0, .int k, .int n, .int i, .int z, .int w] D [(h0, .inr (9, [.int fa, .int tc, .ref so, .ref sl, .ref ce, .int 0, .ref kd, .ref wd, .ref hs, .ref pr, .ref la, .int 0, .ref wg, .int ta, .long ck, .int at9, .int rfn, .ref rk, .ref rw, .ref rh, .int cl, .ref sa, .ref fi, .int bo, .ref ch, .ref cn, .int ad, .int ru, .ref kp, .int 0, .ref rfa])), (so, .inl (cso, 4, .inl kSO))] [(cso, .int)] sz) (kQi (sp_day k n z w) (va_A [(h0, .inr (9, [.int fa, .int tc, .ref so, .ref sl, .ref ce, .int 0, .ref kd, .ref wd, .ref hs, .ref pr, .ref la, .int 0, .ref wg, .int ta, .long ck, .int at9, .int rfn, .ref rk, .ref rw, .ref rh, .int cl, .ref sa, .ref fi, .int bo, .ref ch, .ref cn, .int ad, .int ru, .ref kp, .int 0, .ref rfa])), (so, .inl (cso, 4, .inl kSO))] sz)) 0 0 (va_A [(h0, .inr (9, [.int fa, .int tc, .ref so, .ref sl, .ref ce, .int 0, .ref kd, .ref wd, .ref hs, .ref pr, .ref la, .int 0, .ref wg, .int ta, .long ck, .int at9, .int rfn, .ref rk, .ref rw, .ref rh, .int cl, .ref sa, .ref fi, .int bo, .ref ch, .ref cn, .int ad, .int ru, .ref kp, .int 0, .ref rfa])), (so, .inl (cso, 4, .inl kSO))] sz) := by
  refine Met.ofW (cc := cX9_day) (maxL := 10) (ret := (some .int)) (by decide) rfl ?_
  intro p e s m args below meth c s₁ B hml hv
  obtain ⟨rfl, hsz, hP, hK, hD0, hN⟩ := hv
  have hx := B.exec
  have hb := B.bytes
  have hr := B.returns
  have hts := atoms_spec (ws := wsX9_day) B.pre
  have hown : s.vm.findClass RX9 = some m.cls := findClass_of_methodNamed B.named
  have hlocks := B.notSynchronized
  subst hsz
  have hD := hD0.self (sz := s.heap.size)
  generalize hAe : va_A [(h0, .inr (9, [.int fa, .int tc, .ref so, .ref sl, .ref ce, .int 0, .ref kd, .ref wd, .ref hs, .ref pr, .ref la, .int 0, .ref wg, .int ta, .long ck, .int at9, .int rfn, .ref rk, .ref rw, .ref rh, .int cl, .ref sa, .ref fi, .int bo, .ref ch, .ref cn, .int ad, .int ru, .ref kp, .int 0, .ref rfa])), (so, .inl (cso, 4, .inl kSO))] s.heap.size = A at hD ⊢
  have hA : ∀ q : Nat, s.heap.size ≤ q → A q := fun q h => by rw [← hAe]; exact Or.inr h
  have hS : va_S A s.heap s.heap [] := va_S.rf
  have hP : va_P D vwCl [(h0, .inr (9, [.int fa, .int tc, .ref so, .ref sl, .ref ce, .int 0, .ref kd, .ref wd, .ref hs, .ref pr, .ref la, .int 0, .ref wg, .int ta, .long ck, .int at9, .int rfn, .ref rk, .ref rw, .ref rh, .int cl, .ref sa, .ref fi, .int bo, .ref ch, .ref cn, .int ad, .int ru, .ref kp, .int 0, .ref rfa])), (so, .inl (cso, 4, .inl kSO))] s.heap := hP
  have hl := lv_entry ([.ref h0, .int k, .int n, .int i, .int z, .int w]) (n := 10) (Nat.le_of_ble_eq_true rfl)
  rw [lg_entry_eq]
  generalize (lg_sl ([.ref h0, .int k, .int n, .int i, .int z, .int w]) ++ List.replicate (10 - (lg_sl ([.ref h0, .int k, .int n, .int i, .int z, .int w])).length) Slot.unset).toArray = ls at hl ⊢
  have hl : lv_has ls 10 [(0, .ref h0), (1, .int k), (2, .int n), (3, .int i), (4, .int z), (5, .int w)] := hl
  refine lv_aload_n hx hb dX9_day_0 rfl (lv_at hl 0 rfl) ?_
  refine lv_iconst (v := 0) hx hb dX9_day_1 (by decide) ?_
  refine va_put (D := D) (ci := 9) (v := .int 0) (ty := .int) (C := RX9) (T := TX9) (N := 31) hx hb hts (fun _ h9 => List.mem_cons_of_mem _ (List.mem_append_right _ h9)) tyX9 tyX9_ok nmX9 hown hK hP hD hS 0 rfl rfl 0 (by decide) (hts (.fieldLink RX9 64 "FontRunsModel" "fault" "I") (by decide +kernel)) (fun _ h9 => h9) rfl (by decide +kernel) rfl rfl (Nat.le_of_ble_eq_true rfl) dX9_day_2 (fun H locs hP hD hS => ?_)
  have hP : va_P D vwCl [(h0, .inr (9, [.int 0, .int tc, .ref so, .ref sl, .ref ce, .int 0, .ref kd, .ref wd, .ref hs, .ref pr, .ref la, .int 0, .ref wg, .int ta, .long ck, .int at9, .int rfn, .ref rk, .ref rw, .ref rh, .int cl, .ref sa, .ref fi, .int bo, .ref ch, .ref cn, .int ad, .int ru, .ref kp, .int 0, .ref rfa])), (so, .inl (cso, 4, .inl kSO))] H := hP
  have hD : va_D A [(h0, .inr (9, [.int 0, .int tc, .ref so, .ref sl, .ref ce, .int 0, .ref kd, .ref wd, .ref hs, .ref pr, .ref la, .int 0, .ref wg, .int ta, .long ck, .int at9, .int rfn, .ref rk, .ref rw, .ref rh, .int cl, .ref sa, .ref fi, .int bo, .ref ch, .ref cn, .int ad, .int ru, .ref kp, .int 0, .ref rfa])), (so, .inl (cso, 4, .inl kSO))] := hD
  refine lv_iload_n hx hb dX9_day_5 rfl (lv_at hl 1 rfl) ?_
  refine k_callR (va_runS (As := [.int k]) (rest := []) ⟨hx, hb, hml, hown, hts⟩ (c_X9_isSheet l D H.size (k := k)) (va_cwS 1 hts gX9_day_X9_isSheet rfl rfl rfl (by decide +kernel) ⟨Nat.le_of_ble_eq_true rfl, Nat.le_of_ble_eq_true rfl⟩) (kPreS hP (kD0 hD) hK hN [] [] rfl rfl (by decide)) rfl rfl hl.1 rfl (lv_room (Nat.le_of_ble_eq_true rfl)) dX9_day_6 ⟨Nat.le_of_ble_eq_true rfl, Nat.le_of_ble_eq_true rfl⟩) ?_
  refine lv_if_ne (tgt := 14) hx hb dX9_day_9 (by decide) (fun c_1 => ?_) (fun c_1 => ?_)
  · have k_2 : (0 ≤ k ∧ k ≤ 3) := b01t c_1
    refine lv_iload_n hx hb dX9_day_14 rfl (lv_at hl 2 rfl) ?_
    refine k_callR (va_runS (As := [.int n]) (rest := []) ⟨hx, hb, hml, hown, hts⟩ (c_X9_isSort l D H.size (k := n)) (va_cwS 1 hts gX9_day_X9_isSort rfl rfl rfl (by decide +kernel) ⟨Nat.le_of_ble_eq_true rfl, Nat.le_of_ble_eq_true rfl⟩) (kPreS hP (kD0 hD) hK hN [] [] rfl rfl (by decide)) rfl rfl hl.1 rfl (lv_room (Nat.le_of_ble_eq_true rfl)) dX9_day_15 ⟨Nat.le_of_ble_eq_true rfl, Nat.le_of_ble_eq_true rfl⟩) ?_
    refine lv_if_eq (tgt := 54) hx hb dX9_day_18 (by decide) (fun c_3 => ?_) (fun c_3 => ?_)
    · have k_4 : ¬ ((0 ≤ n ∧ n ≤ 2)) := b01f c_3
      refine lv_bipush (v := (-2)) hx hb dX9_day_54 (by decide) ?_
      exact W.iret (v := (-2)) hx hb hr (fun t ht hW => kQi_of (by first | rfl | (simp only [sp_day, if_pos k_2, if_neg k_4]; done) | (simp [sp_day, k_2, k_4]; done)) (hS.F ht)) hS.2.2 dX9_day_56
    · have k_5 : (0 ≤ n ∧ n ≤ 2) := b01t c_3
      refine lv_iload hx hb dX9_day_21 (lv_at hl 4 rfl) ?_
      refine lv_iconst (v := 0) hx hb dX9_day_23 (by decide) ?_
      refine lv_bipush (v := 20) hx hb dX9_day_24 (by decide) ?_
      refine k_callR (va_runS (As := [.int z, .int 0, .int 20]) (rest := []) ⟨hx, hb, hml, hown, hts⟩ (c_X9_within l D H.size (v := z) (a := 0) (b := 20)) (va_cwS 3 hts gX9_day_X9_within rfl rfl rfl (by decide +kernel) ⟨Nat.le_of_ble_eq_true rfl, Nat.le_of_ble_eq_true rfl⟩) (kPreS hP (kD0 hD) hK hN [] [] rfl rfl (by decide)) rfl rfl hl.1 rfl (lv_room (Nat.le_of_ble_eq_true rfl)) dX9_day_26 ⟨Nat.le_of_ble_eq_true rfl, Nat.le_of_ble_eq_true rfl⟩) ?_
      refine lv_if_eq (tgt := 54) hx hb dX9_day_29 (by decide) (fun c_6 => ?_) (fun c_6 => ?_)
      · have k_7 : ¬ ((0 ≤ z ∧ z ≤ 20)) := b01f c_6
        refine lv_bipush (v := (-2)) hx hb dX9_day_54 (by decide) ?_
        exact W.iret (v := (-2)) hx hb hr (fun t ht hW => kQi_of (by first | rfl | (simp only [sp_day, if_pos k_2, if_pos k_5, if_neg k_7]; done) | (simp [sp_day, k_2, k_5, k_7]; done)) (hS.F ht)) hS.2.2 dX9_day_56
      · have k_8 : (0 ≤ z ∧ z ≤ 20) := b01t c_6
        refine lv_iload hx hb dX9_day_32 (lv_at hl 5 rfl) ?_
        refine lv_iconst (v := 0) hx hb dX9_day_34 (by decide) ?_
        refine lv_iconst (v := 4) hx hb dX9_day_35 (by decide) ?_
        refine k_callR (va_runS (As := [.int w, .int 0, .int 4]) (rest := []) ⟨hx, hb, hml, hown, hts⟩ (c_X9_within l D H.size (v := w) (a := 0) (b := 4)) (va_cwS 3 hts gX9_day_X9_within rfl rfl rfl (by decide +kernel) ⟨Nat.le_of_ble_eq_true rfl, Nat.le_of_ble_eq_true rfl⟩) (kPreS hP (kD0 hD) hK hN [] [] rfl rfl (by decide)) rfl rfl hl.1 rfl (lv_room (Nat.le_of_ble_eq_true rfl)) dX9_day_36 ⟨Nat.le_of_ble_eq_true rfl, Nat.le_of_ble_eq_true rfl⟩) ?_
        refine lv_if_ne (tgt := 57) hx hb dX9_day_39 (by decide) (fun c_9 => ?_) (fun c_9 => ?_)
        · have k_10 : (0 ≤ w ∧ w ≤ 4) := b01t c_9
          refine lv_aload_n hx hb dX9_day_57 rfl (lv_at hl 0 rfl) ?_
          refine lv_iload_n hx hb dX9_day_58 rfl (lv_at hl 1 rfl) ?_
          refine lv_iload_n hx hb dX9_day_59 rfl (lv_at hl 2 rfl) ?_
          refine lv_iload_n hx hb dX9_day_60 rfl (lv_at hl 3 rfl) ?_
          refine lv_iconst (v := 2) hx hb dX9_day_61 (by decide) ?_
          refine lv_iload hx hb dX9_day_62 (lv_at hl 4 rfl) ?_
          refine lv_imul hx hb dX9_day_64 ?_
          refine k_callR (va_runV (As := [.int k, .int n, .int i, .int (2 * z)]) (rest := []) ⟨hx, hb, hml, hown, hts⟩ (c_X9_against l D H.size (k := k) (n := n) (i := i) (z := (2 * z)) (h0 := h0) (fa := 0) (tc := tc) (so := so) (sl := sl) (ce := ce) (kd := kd) (wd := wd) (hs := hs) (pr := pr) (la := la) (wg := wg) (ta := ta) (ck := ck) (at9 := at9) (rfn := rfn) (rk := rk) (rw := rw) (rh := rh) (cl := cl) (sa := sa) (fi := fi) (bo := bo) (ch := ch) (cn := cn) (ad := ad) (ru := ru) (kp := kp) (rfa := rfa) (cso := cso) (h4 := k_2)) (cwV 4 hts gX9_day_X9_against rfl rfl rfl (by decide +kernel) ⟨Nat.le_of_ble_eq_true rfl, Nat.le_of_ble_eq_true rfl⟩) (kPreV hP (kD0 hD) hK hN [0, 1] [0] rfl rfl (by decide) 0 9 rfl rfl) rfl rfl hl.1 rfl (lv_room (Nat.le_of_ble_eq_true rfl)) dX9_day_65 ⟨Nat.le_of_ble_eq_true rfl, Nat.le_of_ble_eq_true rfl⟩) ?_
          refine lv_istore (lv' := [(6, .int 1), (0, .ref h0), (1, .int k), (2, .int n), (3, .int i), (4, .int z), (5, .int w)]) hx hb dX9_day_68 hl (by decide) rfl (fun ls hl => ?_)
          refine lv_iload hx hb dX9_day_70 (lv_at hl 0 rfl) ?_
          refine lv_if_eq (tgt := 82) hx hb dX9_day_72 (by decide) (fun c9 => absurd c9 (by decide)) (fun _ => ?_)
          refine lv_aload_n hx hb dX9_day_75 rfl (lv_at hl 1 rfl) ?_
          refine lv_iload hx hb dX9_day_76 (lv_at hl 0 rfl) ?_
          have hFc := va_free (wc := [(h0, .inr (9, [.int 0, .int tc, .ref so, .ref sl, .ref ce, .int 0, .ref kd, .ref wd, .ref hs, .ref pr, .ref la, .int 0, .ref wg, .int ta, .long ck, .int at9, .int rfn, .ref rk, .ref rw, .ref rh, .int cl, .ref sa, .ref fi, .int bo, .ref ch, .ref cn, .int ad, .int ru, .ref kp, .int 0, .ref rfa]))]) hD hS hA [0] rfl
          refine va_calli (va_runV (As := [.int 1]) (rest := []) ⟨hx, hb, hml, hown, hts⟩ (c_X9_fails l D H.size (f := 1) (h0 := h0) (fa := 0) (tc := tc) (so := so) (sl := sl) (ce := ce) (kd := kd) (wd := wd) (hs := hs) (pr := pr) (la := la) (wg := wg) (ta := ta) (ck := ck) (at9 := at9) (rfn := rfn) (rk := rk) (rw := rw) (rh := rh) (cl := cl) (sa := sa) (fi := fi) (bo := bo) (ch := ch) (cn := cn) (ad := ad) (ru := ru) (kp := kp) (rfa := rfa)) (cwV 1 hts gX9_day_X9_fails rfl rfl rfl (by decide +kernel) ⟨Nat.le_of_ble_eq_true rfl, Nat.le_of_ble_eq_true rfl⟩) (kPreV hP (kD0 hD) hK hN [0] [] rfl rfl (by decide) 0 9 rfl rfl) rfl rfl hl.1 rfl (lv_room (Nat.le_of_ble_eq_true rfl)) dX9_day_78 ⟨Nat.le_of_ble_eq_true rfl, Nat.le_of_ble_eq_true rfl⟩) hS (fun q _ h => hFc q h) hFc (fun r_11 u t H1 locs ht hvm hw hB hz1 hk1 hS => ?_)
          obtain ⟨hP, hD⟩ := va_join (wr := [(so, .inl (cso, 4, .inl kSO))]) (w1 := []) hP hD [0] [1] rfl rfl (by decide) (by decide) hk1 hFc kP0 kDn
          generalize H1 = H at hP hS ⊢
          have hP : va_P D vwCl [(so, .inl (cso, 4, .inl kSO))] H := hP
          have hD : va_D A [(so, .inl (cso, 4, .inl kSO))] := hD
          refine kn_i ((-10) - 1) hw ?_
          refine kn_i (-11) (by decide) ?_
          exact W.iret (v := (-11)) hx hb hr (fun t ht hW => kQi_of (by first | rfl | (simp only [sp_day, if_pos k_2, if_pos k_5, if_pos k_8, if_pos k_10]; done) | (simp [sp_day, k_2, k_5, k_8, k_10]; done)) (hS.F ht)) hS.2.2 dX9_day_81
        · have k_12 : ¬ ((0 ≤ w ∧ w ≤ 4)) := b01f c_9
          refine lv_iload hx hb dX9_day_42 (lv_at hl 5 rfl) ?_
          refine lv_bipush (v := 10) hx hb dX9_day_44 (by decide) ?_
          refine lv_bipush (v := 13) hx hb dX9_day_46 (by decide) ?_
          refine k_callR (va_runS (As := [.int w, .int 10, .int 13]) (rest := []) ⟨hx, hb, hml, hown, hts⟩ (c_X9_within l D H.size (v := w) (a := 10) (b := 13)) (va_cwS 3 hts gX9_day_X9_within rfl rfl rfl (by decide +kernel) ⟨Nat.le_of_ble_eq_true rfl, Nat.le_of_ble_eq_true rfl⟩) (kPreS hP (kD0 hD) hK hN [] [] rfl rfl (by decide)) rfl rfl hl.1 rfl (lv_room (Nat.le_of_ble_eq_true rfl)) dX9_day_48 ⟨Nat.le_of_ble_eq_true rfl, Nat.le_of_ble_eq_true rfl⟩) ?_
          refine lv_if_ne (tgt := 57) hx hb dX9_day_51 (by decide) (fun c_13 => ?_) (fun c_13 => ?_)
          · have k_14 : (10 ≤ w ∧ w ≤ 13) := b01t c_13
            refine lv_aload_n hx hb dX9_day_57 rfl (lv_at hl 0 rfl) ?_
            refine lv_iload_n hx hb dX9_day_58 rfl (lv_at hl 1 rfl) ?_
            refine lv_iload_n hx hb dX9_day_59 rfl (lv_at hl 2 rfl) ?_
            refine lv_iload_n hx hb dX9_day_60 rfl (lv_at hl 3 rfl) ?_
            refine lv_iconst (v := 2) hx hb dX9_day_61 (by decide) ?_
            refine lv_iload hx hb dX9_day_62 (lv_at hl 4 rfl) ?_
            refine lv_imul hx hb dX9_day_64 ?_
            refine k_callR (va_runV (As := [.int k, .int n, .int i, .int (2 * z)]) (rest := []) ⟨hx, hb, hml, hown, hts⟩ (c_X9_against l D H.size (k := k) (n := n) (i := i) (z := (2 * z)) (h0 := h0) (fa := 0) (tc := tc) (so := so) (sl := sl) (ce := ce) (kd := kd) (wd := wd) (hs := hs) (pr := pr) (la := la) (wg := wg) (ta := ta) (ck := ck) (at9 := at9) (rfn := rfn) (rk := rk) (rw := rw) (rh := rh) (cl := cl) (sa := sa) (fi := fi) (bo := bo) (ch := ch) (cn := cn) (ad := ad) (ru := ru) (kp := kp) (rfa := rfa) (cso := cso) (h4 := k_2)) (cwV 4 hts gX9_day_X9_against rfl rfl rfl (by decide +kernel) ⟨Nat.le_of_ble_eq_true rfl, Nat.le_of_ble_eq_true rfl⟩) (kPreV hP (kD0 hD) hK hN [0, 1] [0] rfl rfl (by decide) 0 9 rfl rfl) rfl rfl hl.1 rfl (lv_room (Nat.le_of_ble_eq_true rfl)) dX9_day_65 ⟨Nat.le_of_ble_eq_true rfl, Nat.le_of_ble_eq_true rfl⟩) ?_
            refine lv_istore (lv' := [(6, .int 1), (0, .ref h0), (1, .int k), (2, .int n), (3, .int i), (4, .int z), (5, .int w)]) hx hb dX9_day_68 hl (by decide) rfl (fun ls hl => ?_)
            refine lv_iload hx hb dX9_day_70 (lv_at hl 0 rfl) ?_
            refine lv_if_eq (tgt := 82) hx hb dX9_day_72 (by decide) (fun c9 => absurd c9 (by decide)) (fun _ => ?_)
            refine lv_aload_n hx hb dX9_day_75 rfl (lv_at hl 1 rfl) ?_
            refine lv_iload hx hb dX9_day_76 (lv_at hl 0 rfl) ?_
            have hFc := va_free (wc := [(h0, .inr (9, [.int 0, .int tc, .ref so, .ref sl, .ref ce, .int 0, .ref kd, .ref wd, .ref hs, .ref pr, .ref la, .int 0, .ref wg, .int ta, .long ck, .int at9, .int rfn, .ref rk, .ref rw, .ref rh, .int cl, .ref sa, .ref fi, .int bo, .ref ch, .ref cn, .int ad, .int ru, .ref kp, .int 0, .ref rfa]))]) hD hS hA [0] rfl
            refine va_calli (va_runV (As := [.int 1]) (rest := []) ⟨hx, hb, hml, hown, hts⟩ (c_X9_fails l D H.size (f := 1) (h0 := h0) (fa := 0) (tc := tc) (so := so) (sl := sl) (ce := ce) (kd := kd) (wd := wd) (hs := hs) (pr := pr) (la := la) (wg := wg) (ta := ta) (ck := ck) (at9 := at9) (rfn := rfn) (rk := rk) (rw := rw) (rh := rh) (cl := cl) (sa := sa) (fi := fi) (bo := bo) (ch := ch) (cn := cn) (ad := ad) (ru := ru) (kp := kp) (rfa := rfa)) (cwV 1 hts gX9_day_X9_fails rfl rfl rfl (by decide +kernel) ⟨Nat.le_of_ble_eq_true rfl, Nat.le_of_ble_eq_true rfl⟩) (kPreV hP (kD0 hD) hK hN [0] [] rfl rfl (by decide) 0 9 rfl rfl) rfl rfl hl.1 rfl (lv_room (Nat.le_of_ble_eq_true rfl)) dX9_day_78 ⟨Nat.le_of_ble_eq_true rfl, Nat.le_of_ble_eq_true rfl⟩) hS (fun q _ h => hFc q h) hFc (fun r_15 u t H1 locs ht hvm hw hB hz1 hk1 hS => ?_)
            obtain ⟨hP, hD⟩ := va_join (wr := [(so, .inl (cso, 4, .inl kSO))]) (w1 := []) hP hD [0] [1] rfl rfl (by decide) (by decide) hk1 hFc kP0 kDn
            generalize H1 = H at hP hS ⊢
            have hP : va_P D vwCl [(so, .inl (cso, 4, .inl kSO))] H := hP
            have hD : va_D A [(so, .inl (cso, 4, .inl kSO))] := hD
            refine kn_i ((-10) - 1) hw ?_
            refine kn_i (-11) (by decide) ?_
            exact W.iret (v := (-11)) hx hb hr (fun t ht hW => kQi_of (by first | rfl | (simp only [sp_day, if_pos k_2, if_pos k_5, if_pos k_8, if_neg k_12, if_pos k_14]; done) | (simp [sp_day, k_2, k_5, k_8, k_12, k_14]; done)) (hS.F ht)) hS.2.2 dX9_day_81
          · have k_16 : ¬ ((10 ≤ w ∧ w ≤ 13)) := b01f c_13
            refine lv_bipush (v := (-2)) hx hb dX9_day_54 (by decide) ?_
            exact W.iret (v := (-2)) hx hb hr (fun t ht hW => kQi_of (by first | rfl | (simp only [sp_day, if_pos k_2, if_pos k_5, if_pos k_8, if_neg k_12, if_neg k_16]; done) | (simp [sp_day, k_2, k_5, k_8, k_12, k_16]; done)) (hS.F ht)) hS.2.2 dX9_day_56
  · have k_17 : ¬ ((0 ≤ k ∧ k ≤ 3)) := b01f c_1
    refine lv_iconst (v := (-1)) hx hb dX9_day_12 (by decide) ?_
    exact W.iret (v := (-1)) hx hb hr (fun t ht hW => kQi_of (by first | rfl | (simp only [sp_day, if_neg k_17]; done) | (simp [sp_day, k_17]; done)) (hS.F ht)) hS.2.2 dX9_day_13
theorem dX9_ofFont_0 : decode cX9_ofFont 0 = .ok (.aload_n 0, 1) := by decide +kernel
theorem dX9_ofFont_1 : decode cX9_ofFont 1 = .ok (.iload_n 1, 1) := by decide +kernel
theorem dX9_ofFont_2 : decode cX9_ofFont 2 = .ok (.invokevirtual 120, 3) := by decide +kernel
theorem dX9_ofFont_5 : decode cX9_ofFont 5 = .ok (.ifCond .ne 5, 3) := by decide +kernel
theorem dX9_ofFont_8 : decode cX9_ofFont 8 = .ok (.iconst (-1), 1) := by decide +kernel
theorem dX9_ofFont_9 : decode cX9_ofFont 9 = .ok (.ireturn, 1) := by decide +kernel
set_option maxRecDepth 20000 in
theorem ggX9_ofFont_X9_isFont : GoodIn wsX9_ofFont wsX9_isFont := goodIn_r _ [8, 9, 19, 20, 21, 22, 23, 24, 25, 26, 27, 28, 29, 30, 31, 32, 33, 34, 35, 36, 37, 38, 39, 40, 41, 42, 43, 44, 45, 46, 47, 48, 49] (by decide +kernel) (by decide +kernel)
set_option maxRecDepth 20000 in
theorem gX9_ofFont_X9_isFont : GoodIn wsX9_ofFont (wsV RX9 120 RX9 yX9_isFont wsX9_isFont) := goodIn_app (goodIn_of _ (by decide +kernel)) ggX9_ofFont_X9_isFont
set_option maxHeartbeats 4000000 in
set_option maxRecDepth 100000 in
theorem c_X9_ofFont (l : Launch) (D : va_G) (sz : Nat) (f : Int32) (w : Int32) (h0 : Nat) (fa : Int32) (tc : Int32) (so : Nat) (sl : Nat) (ce : Nat) (kd : Nat) (wd : Nat) (hs : Nat) (pr : Nat) (la : Nat) (wg : Nat) (ta : Int32) (ck : Int64) (at9 : Int32) (rfn : Int32) (rk : Nat) (rw : Nat) (rh : Nat) (cl : Int32) (sa : Nat) (fi : Nat) (bo : Int32) (ch : Nat) (cn : Nat) (ad : Int32) (ru : Int32) (kp : Nat) (rfa : Nat) : Met l yX9_ofFont wsX9_ofFont ({ frames := 1, cells := 0, slots := 0, locals := 21 }) (kPre [.ref h0, .int f, .int w] D [(h0, .inr (9, [.int fa, .int tc, .ref so, .ref sl, .ref ce, .int 0, .ref kd, .ref wd, .ref hs, .ref pr, .ref la, .int 0, .ref wg, .int ta, .long ck, .int at9, .int rfn, .ref rk, .ref rw, .ref rh, .int cl, .ref sa, .ref fi, .int bo, .ref ch, .ref cn, .int ad, .int ru, .ref kp, .int 0, .ref rfa]))] [] sz) (QcRead (-1)) 0 0 (fun _ => False) := by
  refine Met.ofW (cc := cX9_ofFont) (maxL := 3) (ret := (some .int)) (by decide) rfl ?_
  intro p e s m args below meth c s₁ B hml hv
  obtain ⟨rfl, hsz, hP, hK, hD0, hN⟩ := hv
  have hx := B.exec
  have hb := B.bytes
  have hr := B.returns
  have hts := atoms_spec (ws := wsX9_ofFont) B.pre
  have hown : s.vm.findClass RX9 = some m.cls := findClass_of_methodNamed B.named
  have hlocks := B.notSynchronized
  subst hsz
  have hD := hD0
  have hP : va_P D vwCl [(h0, .inr (9, [.int fa, .int tc, .ref so, .ref sl, .ref ce, .int 0, .ref kd, .ref wd, .ref hs, .ref pr, .ref la, .int 0, .ref wg, .int ta, .long ck, .int at9, .int rfn, .ref rk, .ref rw, .ref rh, .int cl, .ref sa, .ref fi, .int bo, .ref ch, .ref cn, .int ad, .int ru, .ref kp, .int 0, .ref rfa]))] s.heap := hP
  have hl := lv_entry ([.ref h0, .int f, .int w]) (n := 3) (Nat.le_of_ble_eq_true rfl)
  rw [lg_entry_eq]
  generalize (lg_sl ([.ref h0, .int f, .int w]) ++ List.replicate (3 - (lg_sl ([.ref h0, .int f, .int w])).length) Slot.unset).toArray = ls at hl ⊢
  have hl : lv_has ls 3 [(0, .ref h0), (1, .int f), (2, .int w)] := hl
  refine lv_aload_n hx hb dX9_ofFont_0 rfl (lv_at hl 0 rfl) ?_
  refine lv_iload_n hx hb dX9_ofFont_1 rfl (lv_at hl 1 rfl) ?_
  refine k_callR (va_runV (As := [.int f]) (rest := []) ⟨hx, hb, hml, hown, hts⟩ (c_X9_isFont l D s.heap.size (f := f) (h0 := h0) (fa := fa) (tc := tc) (so := so) (sl := sl) (ce := ce) (n := 0) (kd := kd) (wd := wd) (hs := hs) (pr := pr) (la := la) (wg := wg) (ta := ta) (ck := ck) (at9 := at9) (rfn := rfn) (rk := rk) (rw := rw) (rh := rh) (cl := cl) (sa := sa) (fi := fi) (bo := bo) (ch := ch) (cn := cn) (ad := ad) (ru := ru) (kp := kp) (rfa := rfa)) (cwV 1 hts gX9_ofFont_X9_isFont rfl rfl rfl (by decide +kernel) ⟨Nat.le_of_ble_eq_true rfl, Nat.le_of_ble_eq_true rfl⟩) (kPreV hP (kD0 hD) hK hN [0] [] rfl rfl (by decide) 0 9 rfl rfl) rfl rfl hl.1 rfl (lv_room (Nat.le_of_ble_eq_true rfl)) dX9_ofFont_2 ⟨Nat.le_of_ble_eq_true rfl, Nat.le_of_ble_eq_true rfl⟩) ?_
  refine kn_i 0 (if_neg knf) ?_
  refine lv_if_ne (tgt := 10) hx hb dX9_ofFont_5 (by decide) (fun c9 => absurd (by decide) c9) (fun _ => ?_)
  refine lv_iconst (v := (-1)) hx hb dX9_ofFont_8 (by decide) ?_
  exact W.iret (v := (-1)) hx hb hr (fun t ht hW => kRd rfl ht) (fun _ h9 => by cases h9) dX9_ofFont_9
theorem dX9_width_0 : decode cX9_width 0 = .ok (.aload_n 0, 1) := by decide +kernel
theorem dX9_width_1 : decode cX9_width 1 = .ok (.iload_n 1, 1) := by decide +kernel
theorem dX9_width_2 : decode cX9_width 2 = .ok (.invokevirtual 120, 3) := by decide +kernel
theorem dX9_width_5 : decode cX9_width 5 = .ok (.ifCond .ne 5, 3) := by decide +kernel
theorem dX9_width_8 : decode cX9_width 8 = .ok (.iconst (-1), 1) := by decide +kernel
theorem dX9_width_9 : decode cX9_width 9 = .ok (.ireturn, 1) := by decide +kernel
set_option maxRecDepth 20000 in
theorem ggX9_width_X9_isFont : GoodIn wsX9_width wsX9_isFont := goodIn_r _ [6, 7, 11, 12, 13, 14, 15, 16, 17, 18, 19, 20, 21, 22, 23, 24, 25, 26, 27, 28, 29, 30, 31, 32, 33, 34, 35, 36, 37, 38, 39, 40, 41] (by decide +kernel) (by decide +kernel)
set_option maxRecDepth 20000 in
theorem gX9_width_X9_isFont : GoodIn wsX9_width (wsV RX9 120 RX9 yX9_isFont wsX9_isFont) := goodIn_app (goodIn_of _ (by decide +kernel)) ggX9_width_X9_isFont
set_option maxHeartbeats 4000000 in
set_option maxRecDepth 100000 in
theorem c_X9_width (l : Launch) (D : va_G) (sz : Nat) (f : Int32) (w : Int32) (h0 : Nat) (fa : Int32) (tc : Int32) (so : Nat) (sl : Nat) (ce : Nat) (kd : Nat) (wd : Nat) (hs : Nat) (pr : Nat) (la : Nat) (wg : Nat) (ta : Int32) (ck : Int64) (at9 : Int32) (rfn : Int32) (rk : Nat) (rw : Nat) (rh : Nat) (cl : Int32) (sa : Nat) (fi : Nat) (bo : Int32) (ch : Nat) (cn : Nat) (ad : Int32) (ru : Int32) (kp : Nat) (rfa : Nat) : Met l yX9_width wsX9_width ({ frames := 1, cells := 0, slots := 0, locals := 21 }) (kPre [.ref h0, .int f, .int w] D [(h0, .inr (9, [.int fa, .int tc, .ref so, .ref sl, .ref ce, .int 0, .ref kd, .ref wd, .ref hs, .ref pr, .ref la, .int 0, .ref wg, .int ta, .long ck, .int at9, .int rfn, .ref rk, .ref rw, .ref rh, .int cl, .ref sa, .ref fi, .int bo, .ref ch, .ref cn, .int ad, .int ru, .ref kp, .int 0, .ref rfa]))] [] sz) (QcRead (-1)) 0 0 (fun _ => False) := by
  refine Met.ofW (cc := cX9_width) (maxL := 4) (ret := (some .int)) (by decide) rfl ?_
  intro p e s m args below meth c s₁ B hml hv
  obtain ⟨rfl, hsz, hP, hK, hD0, hN⟩ := hv
  have hx := B.exec
  have hb := B.bytes
  have hr := B.returns
  have hts := atoms_spec (ws := wsX9_width) B.pre
  have hown : s.vm.findClass RX9 = some m.cls := findClass_of_methodNamed B.named
  have hlocks := B.notSynchronized
  subst hsz
  have hD := hD0
  have hP : va_P D vwCl [(h0, .inr (9, [.int fa, .int tc, .ref so, .ref sl, .ref ce, .int 0, .ref kd, .ref wd, .ref hs, .ref pr, .ref la, .int 0, .ref wg, .int ta, .long ck, .int at9, .int rfn, .ref rk, .ref rw, .ref rh, .int cl, .ref sa, .ref fi, .int bo, .ref ch, .ref cn, .int ad, .int ru, .ref kp, .int 0, .ref rfa]))] s.heap := hP
  have hl := lv_entry ([.ref h0, .int f, .int w]) (n := 4) (Nat.le_of_ble_eq_true rfl)
  rw [lg_entry_eq]
  generalize (lg_sl ([.ref h0, .int f, .int w]) ++ List.replicate (4 - (lg_sl ([.ref h0, .int f, .int w])).length) Slot.unset).toArray = ls at hl ⊢
  have hl : lv_has ls 4 [(0, .ref h0), (1, .int f), (2, .int w)] := hl
  refine lv_aload_n hx hb dX9_width_0 rfl (lv_at hl 0 rfl) ?_
  refine lv_iload_n hx hb dX9_width_1 rfl (lv_at hl 1 rfl) ?_
  refine k_callR (va_runV (As := [.int f]) (rest := []) ⟨hx, hb, hml, hown, hts⟩ (c_X9_isFont l D s.heap.size (f := f) (h0 := h0) (fa := fa) (tc := tc) (so := so) (sl := sl) (ce := ce) (n := 0) (kd := kd) (wd := wd) (hs := hs) (pr := pr) (la := la) (wg := wg) (ta := ta) (ck := ck) (at9 := at9) (rfn := rfn) (rk := rk) (rw := rw) (rh := rh) (cl := cl) (sa := sa) (fi := fi) (bo := bo) (ch := ch) (cn := cn) (ad := ad) (ru := ru) (kp := kp) (rfa := rfa)) (cwV 1 hts gX9_width_X9_isFont rfl rfl rfl (by decide +kernel) ⟨Nat.le_of_ble_eq_true rfl, Nat.le_of_ble_eq_true rfl⟩) (kPreV hP (kD0 hD) hK hN [0] [] rfl rfl (by decide) 0 9 rfl rfl) rfl rfl hl.1 rfl (lv_room (Nat.le_of_ble_eq_true rfl)) dX9_width_2 ⟨Nat.le_of_ble_eq_true rfl, Nat.le_of_ble_eq_true rfl⟩) ?_
  refine kn_i 0 (if_neg knf) ?_
  refine lv_if_ne (tgt := 10) hx hb dX9_width_5 (by decide) (fun c9 => absurd (by decide) c9) (fun _ => ?_)
  refine lv_iconst (v := (-1)) hx hb dX9_width_8 (by decide) ?_
  exact W.iret (v := (-1)) hx hb hr (fun t ht hW => kRd rfl ht) (fun _ h9 => by cases h9) dX9_width_9
theorem dX9_prefer_0 : decode cX9_prefer 0 = .ok (.aload_n 0, 1) := by decide +kernel
theorem dX9_prefer_1 : decode cX9_prefer 1 = .ok (.iload_n 1, 1) := by decide +kernel
theorem dX9_prefer_2 : decode cX9_prefer 2 = .ok (.invokevirtual 120, 3) := by decide +kernel
theorem dX9_prefer_5 : decode cX9_prefer 5 = .ok (.ifCond .ne 5, 3) := by decide +kernel
theorem dX9_prefer_8 : decode cX9_prefer 8 = .ok (.iconst (-1), 1) := by decide +kernel
theorem dX9_prefer_9 : decode cX9_prefer 9 = .ok (.ireturn, 1) := by decide +kernel
set_option maxRecDepth 20000 in
theorem ggX9_prefer_X9_isFont : GoodIn wsX9_prefer wsX9_isFont := goodIn_r _ [6, 7, 17, 18, 19, 20, 21, 22, 23, 24, 25, 26, 27, 28, 29, 30, 31, 32, 33, 34, 35, 36, 37, 38, 39, 40, 41, 42, 43, 44, 45, 46, 47] (by decide +kernel) (by decide +kernel)
set_option maxRecDepth 20000 in
theorem gX9_prefer_X9_isFont : GoodIn wsX9_prefer (wsV RX9 120 RX9 yX9_isFont wsX9_isFont) := goodIn_app (goodIn_of _ (by decide +kernel)) ggX9_prefer_X9_isFont
set_option maxHeartbeats 4000000 in
set_option maxRecDepth 100000 in
theorem c_X9_prefer (l : Launch) (D : va_G) (sz : Nat) (f : Int32) (h0 : Nat) (fa : Int32) (tc : Int32) (so : Nat) (sl : Nat) (ce : Nat) (kd : Nat) (wd : Nat) (hs : Nat) (pr : Nat) (la : Nat) (wg : Nat) (ta : Int32) (ck : Int64) (at9 : Int32) (rfn : Int32) (rk : Nat) (rw : Nat) (rh : Nat) (cl : Int32) (sa : Nat) (fi : Nat) (bo : Int32) (ch : Nat) (cn : Nat) (ad : Int32) (ru : Int32) (kp : Nat) (rfa : Nat) : Met l yX9_prefer wsX9_prefer ({ frames := 1, cells := 0, slots := 0, locals := 21 }) (kPre [.ref h0, .int f] D [(h0, .inr (9, [.int fa, .int tc, .ref so, .ref sl, .ref ce, .int 0, .ref kd, .ref wd, .ref hs, .ref pr, .ref la, .int 0, .ref wg, .int ta, .long ck, .int at9, .int rfn, .ref rk, .ref rw, .ref rh, .int cl, .ref sa, .ref fi, .int bo, .ref ch, .ref cn, .int ad, .int ru, .ref kp, .int 0, .ref rfa]))] [] sz) (QcRead (-1)) 0 0 (fun _ => False) := by
  refine Met.ofW (cc := cX9_prefer) (maxL := 3) (ret := (some .int)) (by decide) rfl ?_
  intro p e s m args below meth c s₁ B hml hv
  obtain ⟨rfl, hsz, hP, hK, hD0, hN⟩ := hv
  have hx := B.exec
  have hb := B.bytes
  have hr := B.returns
  have hts := atoms_spec (ws := wsX9_prefer) B.pre
  have hown : s.vm.findClass RX9 = some m.cls := findClass_of_methodNamed B.named
  have hlocks := B.notSynchronized
  subst hsz
  have hD := hD0
  have hP : va_P D vwCl [(h0, .inr (9, [.int fa, .int tc, .ref so, .ref sl, .ref ce, .int 0, .ref kd, .ref wd, .ref hs, .ref pr, .ref la, .int 0, .ref wg, .int ta, .long ck, .int at9, .int rfn, .ref rk, .ref rw, .ref rh, .int cl, .ref sa, .ref fi, .int bo, .ref ch, .ref cn, .int ad, .int ru, .ref kp, .int 0, .ref rfa]))] s.heap := hP
  have hl := lv_entry ([.ref h0, .int f]) (n := 3) (Nat.le_of_ble_eq_true rfl)
  rw [lg_entry_eq]
  generalize (lg_sl ([.ref h0, .int f]) ++ List.replicate (3 - (lg_sl ([.ref h0, .int f])).length) Slot.unset).toArray = ls at hl ⊢
  have hl : lv_has ls 3 [(0, .ref h0), (1, .int f)] := hl
  refine lv_aload_n hx hb dX9_prefer_0 rfl (lv_at hl 0 rfl) ?_
  refine lv_iload_n hx hb dX9_prefer_1 rfl (lv_at hl 1 rfl) ?_
  refine k_callR (va_runV (As := [.int f]) (rest := []) ⟨hx, hb, hml, hown, hts⟩ (c_X9_isFont l D s.heap.size (f := f) (h0 := h0) (fa := fa) (tc := tc) (so := so) (sl := sl) (ce := ce) (n := 0) (kd := kd) (wd := wd) (hs := hs) (pr := pr) (la := la) (wg := wg) (ta := ta) (ck := ck) (at9 := at9) (rfn := rfn) (rk := rk) (rw := rw) (rh := rh) (cl := cl) (sa := sa) (fi := fi) (bo := bo) (ch := ch) (cn := cn) (ad := ad) (ru := ru) (kp := kp) (rfa := rfa)) (cwV 1 hts gX9_prefer_X9_isFont rfl rfl rfl (by decide +kernel) ⟨Nat.le_of_ble_eq_true rfl, Nat.le_of_ble_eq_true rfl⟩) (kPreV hP (kD0 hD) hK hN [0] [] rfl rfl (by decide) 0 9 rfl rfl) rfl rfl hl.1 rfl (lv_room (Nat.le_of_ble_eq_true rfl)) dX9_prefer_2 ⟨Nat.le_of_ble_eq_true rfl, Nat.le_of_ble_eq_true rfl⟩) ?_
  refine kn_i 0 (if_neg knf) ?_
  refine lv_if_ne (tgt := 10) hx hb dX9_prefer_5 (by decide) (fun c9 => absurd (by decide) c9) (fun _ => ?_)
  refine lv_iconst (v := (-1)) hx hb dX9_prefer_8 (by decide) ?_
  exact W.iret (v := (-1)) hx hb hr (fun t ht hW => kRd rfl ht) (fun _ h9 => by cases h9) dX9_prefer_9
theorem dX9_without_0 : decode cX9_without 0 = .ok (.aload_n 0, 1) := by decide +kernel
theorem dX9_without_1 : decode cX9_without 1 = .ok (.iload_n 1, 1) := by decide +kernel
theorem dX9_without_2 : decode cX9_without 2 = .ok (.invokevirtual 120, 3) := by decide +kernel
theorem dX9_without_5 : decode cX9_without 5 = .ok (.ifCond .ne 5, 3) := by decide +kernel
theorem dX9_without_8 : decode cX9_without 8 = .ok (.iconst (-1), 1) := by decide +kernel
theorem dX9_without_9 : decode cX9_without 9 = .ok (.ireturn, 1) := by decide +kernel
set_option maxRecDepth 20000 in
theorem ggX9_without_X9_isFont : GoodIn wsX9_without wsX9_isFont := goodIn_r _ [6, 1, 34, 35, 36, 37, 38, 39, 40, 41, 42, 43, 44, 45, 46, 47, 48, 49, 50, 51, 52, 53, 54, 55, 56, 57, 58, 59, 60, 61, 62, 63, 64] (by decide +kernel) (by decide +kernel)
set_option maxRecDepth 20000 in
theorem gX9_without_X9_isFont : GoodIn wsX9_without (wsV RX9 120 RX9 yX9_isFont wsX9_isFont) := goodIn_app (goodIn_of _ (by decide +kernel)) ggX9_without_X9_isFont
set_option maxHeartbeats 4000000 in
set_option maxRecDepth 100000 in
theorem c_X9_without (l : Launch) (D : va_G) (sz : Nat) (f : Int32) (h0 : Nat) (fa : Int32) (tc : Int32) (so : Nat) (sl : Nat) (ce : Nat) (kd : Nat) (wd : Nat) (hs : Nat) (pr : Nat) (la : Nat) (wg : Nat) (ta : Int32) (ck : Int64) (at9 : Int32) (rfn : Int32) (rk : Nat) (rw : Nat) (rh : Nat) (cl : Int32) (sa : Nat) (fi : Nat) (bo : Int32) (ch : Nat) (cn : Nat) (ad : Int32) (ru : Int32) (kp : Nat) (rfa : Nat) : Met l yX9_without wsX9_without ({ frames := 1, cells := 0, slots := 0, locals := 21 }) (kPre [.ref h0, .int f] D [(h0, .inr (9, [.int fa, .int tc, .ref so, .ref sl, .ref ce, .int 0, .ref kd, .ref wd, .ref hs, .ref pr, .ref la, .int 0, .ref wg, .int ta, .long ck, .int at9, .int rfn, .ref rk, .ref rw, .ref rh, .int cl, .ref sa, .ref fi, .int bo, .ref ch, .ref cn, .int ad, .int ru, .ref kp, .int 0, .ref rfa]))] [] sz) (QcRead (-1)) 0 0 (fun _ => False) := by
  refine Met.ofW (cc := cX9_without) (maxL := 2) (ret := (some .int)) (by decide) rfl ?_
  intro p e s m args below meth c s₁ B hml hv
  obtain ⟨rfl, hsz, hP, hK, hD0, hN⟩ := hv
  have hx := B.exec
  have hb := B.bytes
  have hr := B.returns
  have hts := atoms_spec (ws := wsX9_without) B.pre
  have hown : s.vm.findClass RX9 = some m.cls := findClass_of_methodNamed B.named
  have hlocks := B.notSynchronized
  subst hsz
  have hD := hD0
  have hP : va_P D vwCl [(h0, .inr (9, [.int fa, .int tc, .ref so, .ref sl, .ref ce, .int 0, .ref kd, .ref wd, .ref hs, .ref pr, .ref la, .int 0, .ref wg, .int ta, .long ck, .int at9, .int rfn, .ref rk, .ref rw, .ref rh, .int cl, .ref sa, .ref fi, .int bo, .ref ch, .ref cn, .int ad, .int ru, .ref kp, .int 0, .ref rfa]))] s.heap := hP
  have hl := lv_entry ([.ref h0, .int f]) (n := 2) (Nat.le_of_ble_eq_true rfl)
  rw [lg_entry_eq]
  generalize (lg_sl ([.ref h0, .int f]) ++ List.replicate (2 - (lg_sl ([.ref h0, .int f])).length) Slot.unset).toArray = ls at hl ⊢
  have hl : lv_has ls 2 [(0, .ref h0), (1, .int f)] := hl
  refine lv_aload_n hx hb dX9_without_0 rfl (lv_at hl 0 rfl) ?_
  refine lv_iload_n hx hb dX9_without_1 rfl (lv_at hl 1 rfl) ?_
  refine k_callR (va_runV (As := [.int f]) (rest := []) ⟨hx, hb, hml, hown, hts⟩ (c_X9_isFont l D s.heap.size (f := f) (h0 := h0) (fa := fa) (tc := tc) (so := so) (sl := sl) (ce := ce) (n := 0) (kd := kd) (wd := wd) (hs := hs) (pr := pr) (la := la) (wg := wg) (ta := ta) (ck := ck) (at9 := at9) (rfn := rfn) (rk := rk) (rw := rw) (rh := rh) (cl := cl) (sa := sa) (fi := fi) (bo := bo) (ch := ch) (cn := cn) (ad := ad) (ru := ru) (kp := kp) (rfa := rfa)) (cwV 1 hts gX9_without_X9_isFont rfl rfl rfl (by decide +kernel) ⟨Nat.le_of_ble_eq_true rfl, Nat.le_of_ble_eq_true rfl⟩) (kPreV hP (kD0 hD) hK hN [0] [] rfl rfl (by decide) 0 9 rfl rfl) rfl rfl hl.1 rfl (lv_room (Nat.le_of_ble_eq_true rfl)) dX9_without_2 ⟨Nat.le_of_ble_eq_true rfl, Nat.le_of_ble_eq_true rfl⟩) ?_
  refine kn_i 0 (if_neg knf) ?_
  refine lv_if_ne (tgt := 10) hx hb dX9_without_5 (by decide) (fun c9 => absurd (by decide) c9) (fun _ => ?_)
  refine lv_iconst (v := (-1)) hx hb dX9_without_8 (by decide) ?_
  exact W.iret (v := (-1)) hx hb hr (fun t ht hW => kRd rfl ht) (fun _ h9 => by cases h9) dX9_without_9
theorem dX9_kinds_0 : decode cX9_kinds 0 = .ok (.aload_n 0, 1) := by decide +kernel
theorem dX9_kinds_1 : decode cX9_kinds 1 = .ok (.iload_n 1, 1) := by decide +kernel
theorem dX9_kinds_2 : decode cX9_kinds 2 = .ok (.invokevirtual 120, 3) := by decide +kernel
theorem dX9_kinds_5 : decode cX9_kinds 5 = .ok (.ifCond .ne 5, 3) := by decide +kernel
theorem dX9_kinds_8 : decode cX9_kinds 8 = .ok (.iconst (-1), 1) := by decide +kernel
theorem dX9_kinds_9 : decode cX9_kinds 9 = .ok (.ireturn, 1) := by decide +kernel
set_option maxRecDepth 20000 in
theorem ggX9_kinds_X9_isFont : GoodIn wsX9_kinds wsX9_isFont := goodIn_r _ [6, 7, 58, 59, 60, 61, 62, 63, 64, 65, 66, 67, 68, 69, 70, 71, 72, 73, 74, 75, 76, 77, 78, 79, 80, 81, 82, 83, 84, 85, 86, 87, 88] (by decide +kernel) (by decide +kernel)
set_option maxRecDepth 20000 in
theorem gX9_kinds_X9_isFont : GoodIn wsX9_kinds (wsV RX9 120 RX9 yX9_isFont wsX9_isFont) := goodIn_app (goodIn_of _ (by decide +kernel)) ggX9_kinds_X9_isFont
set_option maxHeartbeats 4000000 in
set_option maxRecDepth 100000 in
theorem c_X9_kinds (l : Launch) (D : va_G) (sz : Nat) (f : Int32) (h0 : Nat) (fa : Int32) (tc : Int32) (so : Nat) (sl : Nat) (ce : Nat) (kd : Nat) (wd : Nat) (hs : Nat) (pr : Nat) (la : Nat) (wg : Nat) (ta : Int32) (ck : Int64) (at9 : Int32) (rfn : Int32) (rk : Nat) (rw : Nat) (rh : Nat) (cl : Int32) (sa : Nat) (fi : Nat) (bo : Int32) (ch : Nat) (cn : Nat) (ad : Int32) (ru : Int32) (kp : Nat) (rfa : Nat) : Met l yX9_kinds wsX9_kinds ({ frames := 1, cells := 0, slots := 0, locals := 21 }) (kPre [.ref h0, .int f] D [(h0, .inr (9, [.int fa, .int tc, .ref so, .ref sl, .ref ce, .int 0, .ref kd, .ref wd, .ref hs, .ref pr, .ref la, .int 0, .ref wg, .int ta, .long ck, .int at9, .int rfn, .ref rk, .ref rw, .ref rh, .int cl, .ref sa, .ref fi, .int bo, .ref ch, .ref cn, .int ad, .int ru, .ref kp, .int 0, .ref rfa]))] [] sz) (QcRead (-1)) 0 0 (fun _ => False) := by
  refine Met.ofW (cc := cX9_kinds) (maxL := 5) (ret := (some .int)) (by decide) rfl ?_
  intro p e s m args below meth c s₁ B hml hv
  obtain ⟨rfl, hsz, hP, hK, hD0, hN⟩ := hv
  have hx := B.exec
  have hb := B.bytes
  have hr := B.returns
  have hts := atoms_spec (ws := wsX9_kinds) B.pre
  have hown : s.vm.findClass RX9 = some m.cls := findClass_of_methodNamed B.named
  have hlocks := B.notSynchronized
  subst hsz
  have hD := hD0
  have hP : va_P D vwCl [(h0, .inr (9, [.int fa, .int tc, .ref so, .ref sl, .ref ce, .int 0, .ref kd, .ref wd, .ref hs, .ref pr, .ref la, .int 0, .ref wg, .int ta, .long ck, .int at9, .int rfn, .ref rk, .ref rw, .ref rh, .int cl, .ref sa, .ref fi, .int bo, .ref ch, .ref cn, .int ad, .int ru, .ref kp, .int 0, .ref rfa]))] s.heap := hP
  have hl := lv_entry ([.ref h0, .int f]) (n := 5) (Nat.le_of_ble_eq_true rfl)
  rw [lg_entry_eq]
  generalize (lg_sl ([.ref h0, .int f]) ++ List.replicate (5 - (lg_sl ([.ref h0, .int f])).length) Slot.unset).toArray = ls at hl ⊢
  have hl : lv_has ls 5 [(0, .ref h0), (1, .int f)] := hl
  refine lv_aload_n hx hb dX9_kinds_0 rfl (lv_at hl 0 rfl) ?_
  refine lv_iload_n hx hb dX9_kinds_1 rfl (lv_at hl 1 rfl) ?_
  refine k_callR (va_runV (As := [.int f]) (rest := []) ⟨hx, hb, hml, hown, hts⟩ (c_X9_isFont l D s.heap.size (f := f) (h0 := h0) (fa := fa) (tc := tc) (so := so) (sl := sl) (ce := ce) (n := 0) (kd := kd) (wd := wd) (hs := hs) (pr := pr) (la := la) (wg := wg) (ta := ta) (ck := ck) (at9 := at9) (rfn := rfn) (rk := rk) (rw := rw) (rh := rh) (cl := cl) (sa := sa) (fi := fi) (bo := bo) (ch := ch) (cn := cn) (ad := ad) (ru := ru) (kp := kp) (rfa := rfa)) (cwV 1 hts gX9_kinds_X9_isFont rfl rfl rfl (by decide +kernel) ⟨Nat.le_of_ble_eq_true rfl, Nat.le_of_ble_eq_true rfl⟩) (kPreV hP (kD0 hD) hK hN [0] [] rfl rfl (by decide) 0 9 rfl rfl) rfl rfl hl.1 rfl (lv_room (Nat.le_of_ble_eq_true rfl)) dX9_kinds_2 ⟨Nat.le_of_ble_eq_true rfl, Nat.le_of_ble_eq_true rfl⟩) ?_
  refine kn_i 0 (if_neg knf) ?_
  refine lv_if_ne (tgt := 10) hx hb dX9_kinds_5 (by decide) (fun c9 => absurd (by decide) c9) (fun _ => ?_)
  refine lv_iconst (v := (-1)) hx hb dX9_kinds_8 (by decide) ?_
  exact W.iret (v := (-1)) hx hb hr (fun t ht hW => kRd rfl ht) (fun _ h9 => by cases h9) dX9_kinds_9
theorem dX9_widths_0 : decode cX9_widths 0 = .ok (.aload_n 0, 1) := by decide +kernel
theorem dX9_widths_1 : decode cX9_widths 1 = .ok (.iload_n 1, 1) := by decide +kernel
theorem dX9_widths_2 : decode cX9_widths 2 = .ok (.invokevirtual 120, 3) := by decide +kernel
theorem dX9_widths_5 : decode cX9_widths 5 = .ok (.ifCond .ne 5, 3) := by decide +kernel
theorem dX9_widths_8 : decode cX9_widths 8 = .ok (.iconst (-1), 1) := by decide +kernel
theorem dX9_widths_9 : decode cX9_widths 9 = .ok (.ireturn, 1) := by decide +kernel
set_option maxRecDepth 20000 in
theorem ggX9_widths_X9_isFont : GoodIn wsX9_widths wsX9_isFont := goodIn_r _ [6, 7, 58, 59, 60, 61, 62, 63, 64, 65, 66, 67, 68, 69, 70, 71, 72, 73, 74, 75, 76, 77, 78, 79, 80, 81, 82, 83, 84, 85, 86, 87, 88] (by decide +kernel) (by decide +kernel)
set_option maxRecDepth 20000 in
theorem gX9_widths_X9_isFont : GoodIn wsX9_widths (wsV RX9 120 RX9 yX9_isFont wsX9_isFont) := goodIn_app (goodIn_of _ (by decide +kernel)) ggX9_widths_X9_isFont
set_option maxHeartbeats 4000000 in
set_option maxRecDepth 100000 in
theorem c_X9_widths (l : Launch) (D : va_G) (sz : Nat) (f : Int32) (h0 : Nat) (fa : Int32) (tc : Int32) (so : Nat) (sl : Nat) (ce : Nat) (kd : Nat) (wd : Nat) (hs : Nat) (pr : Nat) (la : Nat) (wg : Nat) (ta : Int32) (ck : Int64) (at9 : Int32) (rfn : Int32) (rk : Nat) (rw : Nat) (rh : Nat) (cl : Int32) (sa : Nat) (fi : Nat) (bo : Int32) (ch : Nat) (cn : Nat) (ad : Int32) (ru : Int32) (kp : Nat) (rfa : Nat) : Met l yX9_widths wsX9_widths ({ frames := 1, cells := 0, slots := 0, locals := 21 }) (kPre [.ref h0, .int f] D [(h0, .inr (9, [.int fa, .int tc, .ref so, .ref sl, .ref ce, .int 0, .ref kd, .ref wd, .ref hs, .ref pr, .ref la, .int 0, .ref wg, .int ta, .long ck, .int at9, .int rfn, .ref rk, .ref rw, .ref rh, .int cl, .ref sa, .ref fi, .int bo, .ref ch, .ref cn, .int ad, .int ru, .ref kp, .int 0, .ref rfa]))] [] sz) (QcRead (-1)) 0 0 (fun _ => False) := by
  refine Met.ofW (cc := cX9_widths) (maxL := 5) (ret := (some .int)) (by decide) rfl ?_
  intro p e s m args below meth c s₁ B hml hv
  obtain ⟨rfl, hsz, hP, hK, hD0, hN⟩ := hv
  have hx := B.exec
  have hb := B.bytes
  have hr := B.returns
  have hts := atoms_spec (ws := wsX9_widths) B.pre
  have hown : s.vm.findClass RX9 = some m.cls := findClass_of_methodNamed B.named
  have hlocks := B.notSynchronized
  subst hsz
  have hD := hD0
  have hP : va_P D vwCl [(h0, .inr (9, [.int fa, .int tc, .ref so, .ref sl, .ref ce, .int 0, .ref kd, .ref wd, .ref hs, .ref pr, .ref la, .int 0, .ref wg, .int ta, .long ck, .int at9, .int rfn, .ref rk, .ref rw, .ref rh, .int cl, .ref sa, .ref fi, .int bo, .ref ch, .ref cn, .int ad, .int ru, .ref kp, .int 0, .ref rfa]))] s.heap := hP
  have hl := lv_entry ([.ref h0, .int f]) (n := 5) (Nat.le_of_ble_eq_true rfl)
  rw [lg_entry_eq]
  generalize (lg_sl ([.ref h0, .int f]) ++ List.replicate (5 - (lg_sl ([.ref h0, .int f])).length) Slot.unset).toArray = ls at hl ⊢
  have hl : lv_has ls 5 [(0, .ref h0), (1, .int f)] := hl
  refine lv_aload_n hx hb dX9_widths_0 rfl (lv_at hl 0 rfl) ?_
  refine lv_iload_n hx hb dX9_widths_1 rfl (lv_at hl 1 rfl) ?_
  refine k_callR (va_runV (As := [.int f]) (rest := []) ⟨hx, hb, hml, hown, hts⟩ (c_X9_isFont l D s.heap.size (f := f) (h0 := h0) (fa := fa) (tc := tc) (so := so) (sl := sl) (ce := ce) (n := 0) (kd := kd) (wd := wd) (hs := hs) (pr := pr) (la := la) (wg := wg) (ta := ta) (ck := ck) (at9 := at9) (rfn := rfn) (rk := rk) (rw := rw) (rh := rh) (cl := cl) (sa := sa) (fi := fi) (bo := bo) (ch := ch) (cn := cn) (ad := ad) (ru := ru) (kp := kp) (rfa := rfa)) (cwV 1 hts gX9_widths_X9_isFont rfl rfl rfl (by decide +kernel) ⟨Nat.le_of_ble_eq_true rfl, Nat.le_of_ble_eq_true rfl⟩) (kPreV hP (kD0 hD) hK hN [0] [] rfl rfl (by decide) 0 9 rfl rfl) rfl rfl hl.1 rfl (lv_room (Nat.le_of_ble_eq_true rfl)) dX9_widths_2 ⟨Nat.le_of_ble_eq_true rfl, Nat.le_of_ble_eq_true rfl⟩) ?_
  refine kn_i 0 (if_neg knf) ?_
  refine lv_if_ne (tgt := 10) hx hb dX9_widths_5 (by decide) (fun c9 => absurd (by decide) c9) (fun _ => ?_)
  refine lv_iconst (v := (-1)) hx hb dX9_widths_8 (by decide) ?_
  exact W.iret (v := (-1)) hx hb hr (fun t ht hW => kRd rfl ht) (fun _ h9 => by cases h9) dX9_widths_9
theorem dX9_tell_0 : decode cX9_tell 0 = .ok (.aload_n 0, 1) := by decide +kernel
theorem dX9_tell_1 : decode cX9_tell 1 = .ok (.iload_n 1, 1) := by decide +kernel
theorem dX9_tell_2 : decode cX9_tell 2 = .ok (.invokevirtual 120, 3) := by decide +kernel
theorem dX9_tell_5 : decode cX9_tell 5 = .ok (.ifCond .ne 5, 3) := by decide +kernel
theorem dX9_tell_8 : decode cX9_tell 8 = .ok (.iconst (-1), 1) := by decide +kernel
theorem dX9_tell_9 : decode cX9_tell 9 = .ok (.ireturn, 1) := by decide +kernel
set_option maxRecDepth 20000 in
theorem ggX9_tell_X9_isFont : GoodIn wsX9_tell wsX9_isFont := goodIn_r _ [7, 8, 14, 15, 16, 17, 18, 19, 20, 21, 22, 23, 24, 25, 26, 27, 28, 29, 30, 31, 32, 33, 34, 35, 36, 37, 38, 39, 40, 41, 42, 43, 44] (by decide +kernel) (by decide +kernel)
set_option maxRecDepth 20000 in
theorem gX9_tell_X9_isFont : GoodIn wsX9_tell (wsV RX9 120 RX9 yX9_isFont wsX9_isFont) := goodIn_app (goodIn_of _ (by decide +kernel)) ggX9_tell_X9_isFont
set_option maxHeartbeats 4000000 in
set_option maxRecDepth 100000 in
theorem c_X9_tell (l : Launch) (D : va_G) (sz : Nat) (f : Int32) (h0 : Nat) (fa : Int32) (tc : Int32) (so : Nat) (sl : Nat) (ce : Nat) (kd : Nat) (wd : Nat) (hs : Nat) (pr : Nat) (la : Nat) (wg : Nat) (ta : Int32) (ck : Int64) (at9 : Int32) (rfn : Int32) (rk : Nat) (rw : Nat) (rh : Nat) (cl : Int32) (sa : Nat) (fi : Nat) (bo : Int32) (ch : Nat) (cn : Nat) (ad : Int32) (ru : Int32) (kp : Nat) (rfa : Nat) : Met l yX9_tell wsX9_tell ({ frames := 1, cells := 0, slots := 0, locals := 21 }) (kPre [.ref h0, .int f] D [(h0, .inr (9, [.int fa, .int tc, .ref so, .ref sl, .ref ce, .int 0, .ref kd, .ref wd, .ref hs, .ref pr, .ref la, .int 0, .ref wg, .int ta, .long ck, .int at9, .int rfn, .ref rk, .ref rw, .ref rh, .int cl, .ref sa, .ref fi, .int bo, .ref ch, .ref cn, .int ad, .int ru, .ref kp, .int 0, .ref rfa]))] [] sz) (QcRead (-1)) 0 0 (fun _ => False) := by
  refine Met.ofW (cc := cX9_tell) (maxL := 3) (ret := (some .int)) (by decide) rfl ?_
  intro p e s m args below meth c s₁ B hml hv
  obtain ⟨rfl, hsz, hP, hK, hD0, hN⟩ := hv
  have hx := B.exec
  have hb := B.bytes
  have hr := B.returns
  have hts := atoms_spec (ws := wsX9_tell) B.pre
  have hown : s.vm.findClass RX9 = some m.cls := findClass_of_methodNamed B.named
  have hlocks := B.notSynchronized
  subst hsz
  have hD := hD0
  have hP : va_P D vwCl [(h0, .inr (9, [.int fa, .int tc, .ref so, .ref sl, .ref ce, .int 0, .ref kd, .ref wd, .ref hs, .ref pr, .ref la, .int 0, .ref wg, .int ta, .long ck, .int at9, .int rfn, .ref rk, .ref rw, .ref rh, .int cl, .ref sa, .ref fi, .int bo, .ref ch, .ref cn, .int ad, .int ru, .ref kp, .int 0, .ref rfa]))] s.heap := hP
  have hl := lv_entry ([.ref h0, .int f]) (n := 3) (Nat.le_of_ble_eq_true rfl)
  rw [lg_entry_eq]
  generalize (lg_sl ([.ref h0, .int f]) ++ List.replicate (3 - (lg_sl ([.ref h0, .int f])).length) Slot.unset).toArray = ls at hl ⊢
  have hl : lv_has ls 3 [(0, .ref h0), (1, .int f)] := hl
  refine lv_aload_n hx hb dX9_tell_0 rfl (lv_at hl 0 rfl) ?_
  refine lv_iload_n hx hb dX9_tell_1 rfl (lv_at hl 1 rfl) ?_
  refine k_callR (va_runV (As := [.int f]) (rest := []) ⟨hx, hb, hml, hown, hts⟩ (c_X9_isFont l D s.heap.size (f := f) (h0 := h0) (fa := fa) (tc := tc) (so := so) (sl := sl) (ce := ce) (n := 0) (kd := kd) (wd := wd) (hs := hs) (pr := pr) (la := la) (wg := wg) (ta := ta) (ck := ck) (at9 := at9) (rfn := rfn) (rk := rk) (rw := rw) (rh := rh) (cl := cl) (sa := sa) (fi := fi) (bo := bo) (ch := ch) (cn := cn) (ad := ad) (ru := ru) (kp := kp) (rfa := rfa)) (cwV 1 hts gX9_tell_X9_isFont rfl rfl rfl (by decide +kernel) ⟨Nat.le_of_ble_eq_true rfl, Nat.le_of_ble_eq_true rfl⟩) (kPreV hP (kD0 hD) hK hN [0] [] rfl rfl (by decide) 0 9 rfl rfl) rfl rfl hl.1 rfl (lv_room (Nat.le_of_ble_eq_true rfl)) dX9_tell_2 ⟨Nat.le_of_ble_eq_true rfl, Nat.le_of_ble_eq_true rfl⟩) ?_
  refine kn_i 0 (if_neg knf) ?_
  refine lv_if_ne (tgt := 10) hx hb dX9_tell_5 (by decide) (fun c9 => absurd (by decide) c9) (fun _ => ?_)
  refine lv_iconst (v := (-1)) hx hb dX9_tell_8 (by decide) ?_
  exact W.iret (v := (-1)) hx hb hr (fun t ht hW => kRd rfl ht) (fun _ h9 => by cases h9) dX9_tell_9
theorem dX9_sample_0 : decode cX9_sample 0 = .ok (.aload_n 0, 1) := by decide +kernel
theorem dX9_sample_1 : decode cX9_sample 1 = .ok (.iload_n 1, 1) := by decide +kernel
theorem dX9_sample_2 : decode cX9_sample 2 = .ok (.invokevirtual 120, 3) := by decide +kernel
theorem dX9_sample_5 : decode cX9_sample 5 = .ok (.ifCond .ne 5, 3) := by decide +kernel
theorem dX9_sample_8 : decode cX9_sample 8 = .ok (.iconst (-1), 1) := by decide +kernel
theorem dX9_sample_9 : decode cX9_sample 9 = .ok (.ireturn, 1) := by decide +kernel
set_option maxRecDepth 20000 in
theorem ggX9_sample_X9_isFont : GoodIn wsX9_sample wsX9_isFont := goodIn_r _ [7, 8, 17, 18, 19, 20, 21, 22, 23, 24, 25, 26, 27, 28, 29, 30, 31, 32, 33, 34, 35, 36, 37, 38, 39, 40, 41, 42, 43, 44, 45, 46, 47] (by decide +kernel) (by decide +kernel)
set_option maxRecDepth 20000 in
theorem gX9_sample_X9_isFont : GoodIn wsX9_sample (wsV RX9 120 RX9 yX9_isFont wsX9_isFont) := goodIn_app (goodIn_of _ (by decide +kernel)) ggX9_sample_X9_isFont
set_option maxHeartbeats 4000000 in
set_option maxRecDepth 100000 in
theorem c_X9_sample (l : Launch) (D : va_G) (sz : Nat) (f : Int32) (h0 : Nat) (fa : Int32) (tc : Int32) (so : Nat) (sl : Nat) (ce : Nat) (kd : Nat) (wd : Nat) (hs : Nat) (pr : Nat) (la : Nat) (wg : Nat) (ta : Int32) (ck : Int64) (at9 : Int32) (rfn : Int32) (rk : Nat) (rw : Nat) (rh : Nat) (cl : Int32) (sa : Nat) (fi : Nat) (bo : Int32) (ch : Nat) (cn : Nat) (ad : Int32) (ru : Int32) (kp : Nat) (rfa : Nat) : Met l yX9_sample wsX9_sample ({ frames := 1, cells := 0, slots := 0, locals := 21 }) (kPre [.ref h0, .int f] D [(h0, .inr (9, [.int fa, .int tc, .ref so, .ref sl, .ref ce, .int 0, .ref kd, .ref wd, .ref hs, .ref pr, .ref la, .int 0, .ref wg, .int ta, .long ck, .int at9, .int rfn, .ref rk, .ref rw, .ref rh, .int cl, .ref sa, .ref fi, .int bo, .ref ch, .ref cn, .int ad, .int ru, .ref kp, .int 0, .ref rfa]))] [] sz) (QcRead (-1)) 0 0 (fun _ => False) := by
  refine Met.ofW (cc := cX9_sample) (maxL := 2) (ret := (some .int)) (by decide) rfl ?_
  intro p e s m args below meth c s₁ B hml hv
  obtain ⟨rfl, hsz, hP, hK, hD0, hN⟩ := hv
  have hx := B.exec
  have hb := B.bytes
  have hr := B.returns
  have hts := atoms_spec (ws := wsX9_sample) B.pre
  have hown : s.vm.findClass RX9 = some m.cls := findClass_of_methodNamed B.named
  have hlocks := B.notSynchronized
  subst hsz
  have hD := hD0
  have hP : va_P D vwCl [(h0, .inr (9, [.int fa, .int tc, .ref so, .ref sl, .ref ce, .int 0, .ref kd, .ref wd, .ref hs, .ref pr, .ref la, .int 0, .ref wg, .int ta, .long ck, .int at9, .int rfn, .ref rk, .ref rw, .ref rh, .int cl, .ref sa, .ref fi, .int bo, .ref ch, .ref cn, .int ad, .int ru, .ref kp, .int 0, .ref rfa]))] s.heap := hP
  have hl := lv_entry ([.ref h0, .int f]) (n := 2) (Nat.le_of_ble_eq_true rfl)
  rw [lg_entry_eq]
  generalize (lg_sl ([.ref h0, .int f]) ++ List.replicate (2 - (lg_sl ([.ref h0, .int f])).length) Slot.unset).toArray = ls at hl ⊢
  have hl : lv_has ls 2 [(0, .ref h0), (1, .int f)] := hl
  refine lv_aload_n hx hb dX9_sample_0 rfl (lv_at hl 0 rfl) ?_
  refine lv_iload_n hx hb dX9_sample_1 rfl (lv_at hl 1 rfl) ?_
  refine k_callR (va_runV (As := [.int f]) (rest := []) ⟨hx, hb, hml, hown, hts⟩ (c_X9_isFont l D s.heap.size (f := f) (h0 := h0) (fa := fa) (tc := tc) (so := so) (sl := sl) (ce := ce) (n := 0) (kd := kd) (wd := wd) (hs := hs) (pr := pr) (la := la) (wg := wg) (ta := ta) (ck := ck) (at9 := at9) (rfn := rfn) (rk := rk) (rw := rw) (rh := rh) (cl := cl) (sa := sa) (fi := fi) (bo := bo) (ch := ch) (cn := cn) (ad := ad) (ru := ru) (kp := kp) (rfa := rfa)) (cwV 1 hts gX9_sample_X9_isFont rfl rfl rfl (by decide +kernel) ⟨Nat.le_of_ble_eq_true rfl, Nat.le_of_ble_eq_true rfl⟩) (kPreV hP (kD0 hD) hK hN [0] [] rfl rfl (by decide) 0 9 rfl rfl) rfl rfl hl.1 rfl (lv_room (Nat.le_of_ble_eq_true rfl)) dX9_sample_2 ⟨Nat.le_of_ble_eq_true rfl, Nat.le_of_ble_eq_true rfl⟩) ?_
  refine kn_i 0 (if_neg knf) ?_
  refine lv_if_ne (tgt := 10) hx hb dX9_sample_5 (by decide) (fun c9 => absurd (by decide) c9) (fun _ => ?_)
  refine lv_iconst (v := (-1)) hx hb dX9_sample_8 (by decide) ?_
  exact W.iret (v := (-1)) hx hb hr (fun t ht hW => kRd rfl ht) (fun _ h9 => by cases h9) dX9_sample_9
theorem dX9_as_0 : decode cX9_as 0 = .ok (.aload_n 0, 1) := by decide +kernel
theorem dX9_as_1 : decode cX9_as 1 = .ok (.iconst 0, 1) := by decide +kernel
theorem dX9_as_2 : decode cX9_as 2 = .ok (.putfield 64, 3) := by decide +kernel
theorem dX9_as_5 : decode cX9_as 5 = .ok (.aload_n 0, 1) := by decide +kernel
theorem dX9_as_6 : decode cX9_as 6 = .ok (.iload_n 1, 1) := by decide +kernel
theorem dX9_as_7 : decode cX9_as 7 = .ok (.invokevirtual 120, 3) := by decide +kernel
theorem dX9_as_10 : decode cX9_as 10 = .ok (.ifCond .ne 5, 3) := by decide +kernel
theorem dX9_as_13 : decode cX9_as 13 = .ok (.iconst (-1), 1) := by decide +kernel
theorem dX9_as_14 : decode cX9_as 14 = .ok (.ireturn, 1) := by decide +kernel
set_option maxRecDepth 20000 in
theorem ggX9_as_X9_isFont : GoodIn wsX9_as wsX9_isFont := goodIn_r _ [7, 8, 16, 17, 18, 19, 20, 21, 22, 23, 24, 25, 26, 27, 28, 29, 30, 31, 32, 33, 34, 35, 36, 37, 38, 39, 40, 41, 42, 43, 44, 45, 46] (by decide +kernel) (by decide +kernel)
set_option maxRecDepth 20000 in
theorem gX9_as_X9_isFont : GoodIn wsX9_as (wsV RX9 120 RX9 yX9_isFont wsX9_isFont) := goodIn_app (goodIn_of _ (by decide +kernel)) ggX9_as_X9_isFont
set_option maxHeartbeats 4000000 in
set_option maxRecDepth 100000 in
theorem c_X9_as (l : Launch) (D : va_G) (sz : Nat) (f : Int32) (w : Int32) (h0 : Nat) (fa : Int32) (tc : Int32) (so : Nat) (sl : Nat) (ce : Nat) (kd : Nat) (wd : Nat) (hs : Nat) (pr : Nat) (la : Nat) (wg : Nat) (ta : Int32) (ck : Int64) (at9 : Int32) (rfn : Int32) (rk : Nat) (rw : Nat) (rh : Nat) (cl : Int32) (sa : Nat) (fi : Nat) (bo : Int32) (ch : Nat) (cn : Nat) (ad : Int32) (ru : Int32) (kp : Nat) (rfa : Nat) : Met l yX9_as wsX9_as ({ frames := 1, cells := 0, slots := 0, locals := 21 }) (kPre [.ref h0, .int f, .int w] D [(h0, .inr (9, [.int fa, .int tc, .ref so, .ref sl, .ref ce, .int 0, .ref kd, .ref wd, .ref hs, .ref pr, .ref la, .int 0, .ref wg, .int ta, .long ck, .int at9, .int rfn, .ref rk, .ref rw, .ref rh, .int cl, .ref sa, .ref fi, .int bo, .ref ch, .ref cn, .int ad, .int ru, .ref kp, .int 0, .ref rfa]))] [] sz) (kQi (-1) (va_A [(h0, .inr (9, [.int fa, .int tc, .ref so, .ref sl, .ref ce, .int 0, .ref kd, .ref wd, .ref hs, .ref pr, .ref la, .int 0, .ref wg, .int ta, .long ck, .int at9, .int rfn, .ref rk, .ref rw, .ref rh, .int cl, .ref sa, .ref fi, .int bo, .ref ch, .ref cn, .int ad, .int ru, .ref kp, .int 0, .ref rfa]))] sz)) 0 0 (va_A [(h0, .inr (9, [.int fa, .int tc, .ref so, .ref sl, .ref ce, .int 0, .ref kd, .ref wd, .ref hs, .ref pr, .ref la, .int 0, .ref wg, .int ta, .long ck, .int at9, .int rfn, .ref rk, .ref rw, .ref rh, .int cl, .ref sa, .ref fi, .int bo, .ref ch, .ref cn, .int ad, .int ru, .ref kp, .int 0, .ref rfa]))] sz) := by
  refine Met.ofW (cc := cX9_as) (maxL := 3) (ret := (some .int)) (by decide) rfl ?_
  intro p e s m args below meth c s₁ B hml hv
  obtain ⟨rfl, hsz, hP, hK, hD0, hN⟩ := hv
  have hx := B.exec
  have hb := B.bytes
  have hr := B.returns
  have hts := atoms_spec (ws := wsX9_as) B.pre
  have hown : s.vm.findClass RX9 = some m.cls := findClass_of_methodNamed B.named
  have hlocks := B.notSynchronized
  subst hsz
  have hD := hD0.self (sz := s.heap.size)
  generalize hAe : va_A [(h0, .inr (9, [.int fa, .int tc, .ref so, .ref sl, .ref ce, .int 0, .ref kd, .ref wd, .ref hs, .ref pr, .ref la, .int 0, .ref wg, .int ta, .long ck, .int at9, .int rfn, .ref rk, .ref rw, .ref rh, .int cl, .ref sa, .ref fi, .int bo, .ref ch, .ref cn, .int ad, .int ru, .ref kp, .int 0, .ref rfa]))] s.heap.size = A at hD ⊢
  have hA : ∀ q : Nat, s.heap.size ≤ q → A q := fun q h => by rw [← hAe]; exact Or.inr h
  have hS : va_S A s.heap s.heap [] := va_S.rf
  have hP : va_P D vwCl [(h0, .inr (9, [.int fa, .int tc, .ref so, .ref sl, .ref ce, .int 0, .ref kd, .ref wd, .ref hs, .ref pr, .ref la, .int 0, .ref wg, .int ta, .long ck, .int at9, .int rfn, .ref rk, .ref rw, .ref rh, .int cl, .ref sa, .ref fi, .int bo, .ref ch, .ref cn, .int ad, .int ru, .ref kp, .int 0, .ref rfa]))] s.heap := hP
  have hl := lv_entry ([.ref h0, .int f, .int w]) (n := 3) (Nat.le_of_ble_eq_true rfl)
  rw [lg_entry_eq]
  generalize (lg_sl ([.ref h0, .int f, .int w]) ++ List.replicate (3 - (lg_sl ([.ref h0, .int f, .int w])).length) Slot.unset).toArray = ls at hl ⊢
  have hl : lv_has ls 3 [(0, .ref h0), (1, .int f), (2, .int w)] := hl
  refine lv_aload_n hx hb dX9_as_0 rfl (lv_at hl 0 rfl) ?_
  refine lv_iconst (v := 0) hx hb dX9_as_1 (by decide) ?_
  refine va_put (D := D) (ci := 9) (v := .int 0) (ty := .int) (C := RX9) (T := TX9) (N := 31) hx hb hts (fun _ h9 => List.mem_cons_of_mem _ (List.mem_append_right _ h9)) tyX9 tyX9_ok nmX9 hown hK hP hD hS 0 rfl rfl 0 (by decide) (hts (.fieldLink RX9 64 "FontRunsModel" "fault" "I") (by decide +kernel)) (fun _ h9 => h9) rfl (by decide +kernel) rfl rfl (Nat.le_of_ble_eq_true rfl) dX9_as_2 (fun H locs hP hD hS => ?_)
  have hP : va_P D vwCl [(h0, .inr (9, [.int 0, .int tc, .ref so, .ref sl, .ref ce, .int 0, .ref kd, .ref wd, .ref hs, .ref pr, .ref la, .int 0, .ref wg, .int ta, .long ck, .int at9, .int rfn, .ref rk, .ref rw, .ref rh, .int cl, .ref sa, .ref fi, .int bo, .ref ch, .ref cn, .int ad, .int ru, .ref kp, .int 0, .ref rfa]))] H := hP
  have hD : va_D A [(h0, .inr (9, [.int 0, .int tc, .ref so, .ref sl, .ref ce, .int 0, .ref kd, .ref wd, .ref hs, .ref pr, .ref la, .int 0, .ref wg, .int ta, .long ck, .int at9, .int rfn, .ref rk, .ref rw, .ref rh, .int cl, .ref sa, .ref fi, .int bo, .ref ch, .ref cn, .int ad, .int ru, .ref kp, .int 0, .ref rfa]))] := hD
  refine lv_aload_n hx hb dX9_as_5 rfl (lv_at hl 0 rfl) ?_
  refine lv_iload_n hx hb dX9_as_6 rfl (lv_at hl 1 rfl) ?_
  refine k_callR (va_runV (As := [.int f]) (rest := []) ⟨hx, hb, hml, hown, hts⟩ (c_X9_isFont l D H.size (f := f) (h0 := h0) (fa := 0) (tc := tc) (so := so) (sl := sl) (ce := ce) (n := 0) (kd := kd) (wd := wd) (hs := hs) (pr := pr) (la := la) (wg := wg) (ta := ta) (ck := ck) (at9 := at9) (rfn := rfn) (rk := rk) (rw := rw) (rh := rh) (cl := cl) (sa := sa) (fi := fi) (bo := bo) (ch := ch) (cn := cn) (ad := ad) (ru := ru) (kp := kp) (rfa := rfa)) (cwV 1 hts gX9_as_X9_isFont rfl rfl rfl (by decide +kernel) ⟨Nat.le_of_ble_eq_true rfl, Nat.le_of_ble_eq_true rfl⟩) (kPreV hP (kD0 hD) hK hN [0] [] rfl rfl (by decide) 0 9 rfl rfl) rfl rfl hl.1 rfl (lv_room (Nat.le_of_ble_eq_true rfl)) dX9_as_7 ⟨Nat.le_of_ble_eq_true rfl, Nat.le_of_ble_eq_true rfl⟩) ?_
  refine kn_i 0 (if_neg knf) ?_
  refine lv_if_ne (tgt := 15) hx hb dX9_as_10 (by decide) (fun c9 => absurd (by decide) c9) (fun _ => ?_)
  refine lv_iconst (v := (-1)) hx hb dX9_as_13 (by decide) ?_
  exact W.iret (v := (-1)) hx hb hr (fun t ht hW => kQi_of rfl (hS.F ht)) hS.2.2 dX9_as_14
theorem dX9_letter_0 : decode cX9_letter 0 = .ok (.iload_n 1, 1) := by decide +kernel
theorem dX9_letter_1 : decode cX9_letter 1 = .ok (.iconst 0, 1) := by decide +kernel
theorem dX9_letter_2 : decode cX9_letter 2 = .ok (.aload_n 0, 1) := by decide +kernel
theorem dX9_letter_3 : decode cX9_letter 3 = .ok (.getfield 101, 3) := by decide +kernel
theorem dX9_letter_6 : decode cX9_letter 6 = .ok (.iconst 1, 1) := by decide +kernel
theorem dX9_letter_7 : decode cX9_letter 7 = .ok (.isub, 1) := by decide +kernel
theorem dX9_letter_8 : decode cX9_letter 8 = .ok (.invokestatic 70, 3) := by decide +kernel
theorem dX9_letter_11 : decode cX9_letter 11 = .ok (.ifCond .eq 12, 3) := by decide +kernel
theorem dX9_letter_23 : decode cX9_letter 23 = .ok (.iconst (-1), 1) := by decide +kernel
theorem dX9_letter_24 : decode cX9_letter 24 = .ok (.ireturn, 1) := by decide +kernel
set_option maxRecDepth 20000 in
theorem ggX9_letter_X9_within : GoodIn wsX9_letter wsX9_within := goodIn_r _ [6] (by decide +kernel) (by decide +kernel)
set_option maxRecDepth 20000 in
theorem gX9_letter_X9_within : GoodIn wsX9_letter (va_wsS RX9 70 yX9_within wsX9_within) := goodIn_app (goodIn_of _ (by decide +kernel)) ggX9_letter_X9_within
set_option maxHeartbeats 4000000 in
set_option maxRecDepth 100000 in
theorem c_X9_letter (l : Launch) (D : va_G) (sz : Nat) (k : Int32) (h0 : Nat) (fa : Int32) (tc : Int32) (so : Nat) (sl : Nat) (ce : Nat) (kd : Nat) (wd : Nat) (hs : Nat) (pr : Nat) (la : Nat) (wg : Nat) (ta : Int32) (ck : Int64) (at9 : Int32) (rfn : Int32) (rk : Nat) (rw : Nat) (rh : Nat) (cl : Int32) (sa : Nat) (fi : Nat) (bo : Int32) (ch : Nat) (cn : Nat) (ad : Int32) (ru : Int32) (kp : Nat) (rfa : Nat) : Met l yX9_letter wsX9_letter ({ frames := 1, cells := 0, slots := 0, locals := 22 }) (kPre [.ref h0, .int k] D [(h0, .inr (9, [.int fa, .int tc, .ref so, .ref sl, .ref ce, .int 0, .ref kd, .ref wd, .ref hs, .ref pr, .ref la, .int 0, .ref wg, .int ta, .long ck, .int at9, .int rfn, .ref rk, .ref rw, .ref rh, .int cl, .ref sa, .ref fi, .int bo, .ref ch, .ref cn, .int ad, .int ru, .ref kp, .int 0, .ref rfa]))] [] sz) (QcRead (-1)) 0 0 (fun _ => False) := by
  refine Met.ofW (cc := cX9_letter) (maxL := 2) (ret := (some .int)) (by decide) rfl ?_
  intro p e s m args below meth c s₁ B hml hv
  obtain ⟨rfl, hsz, hP, hK, hD0, hN⟩ := hv
  have hx := B.exec
  have hb := B.bytes
  have hr := B.returns
  have hts := atoms_spec (ws := wsX9_letter) B.pre
  have hown : s.vm.findClass RX9 = some m.cls := findClass_of_methodNamed B.named
  have hlocks := B.notSynchronized
  subst hsz
  have hD := hD0
  have hP : va_P D vwCl [(h0, .inr (9, [.int fa, .int tc, .ref so, .ref sl, .ref ce, .int 0, .ref kd, .ref wd, .ref hs, .ref pr, .ref la, .int 0, .ref wg, .int ta, .long ck, .int at9, .int rfn, .ref rk, .ref rw, .ref rh, .int cl, .ref sa, .ref fi, .int bo, .ref ch, .ref cn, .int ad, .int ru, .ref kp, .int 0, .ref rfa]))] s.heap := hP
  have hl := lv_entry ([.ref h0, .int k]) (n := 2) (Nat.le_of_ble_eq_true rfl)
  rw [lg_entry_eq]
  generalize (lg_sl ([.ref h0, .int k]) ++ List.replicate (2 - (lg_sl ([.ref h0, .int k])).length) Slot.unset).toArray = ls at hl ⊢
  have hl : lv_has ls 2 [(0, .ref h0), (1, .int k)] := hl
  refine lv_iload_n hx hb dX9_letter_0 rfl (lv_at hl 1 rfl) ?_
  refine lv_iconst (v := 0) hx hb dX9_letter_1 (by decide) ?_
  refine lv_aload_n hx hb dX9_letter_2 rfl (lv_at hl 0 rfl) ?_
  refine va_get (D := D) (ci := 9) (v := .int 0) (C := RX9) (T := TX9) (N := 31) hx hb hts (fun _ h9 => List.mem_cons_of_mem _ (List.mem_append_right _ h9)) hown hK hP 0 rfl rfl 11 (by decide) (hts (.fieldLink RX9 101 "FontRunsModel" "many" "I") (by decide +kernel)) (fun _ h9 => h9) rfl dX9_letter_3 ?_
  refine lv_iconst (v := 1) hx hb dX9_letter_6 (by decide) ?_
  refine lv_isub hx hb dX9_letter_7 ?_
  refine kn_i (-1) (by decide) ?_
  refine k_callR (va_runS (As := [.int k, .int 0, .int (-1)]) (rest := []) ⟨hx, hb, hml, hown, hts⟩ (c_X9_within l D s.heap.size (v := k) (a := 0) (b := (-1))) (va_cwS 3 hts gX9_letter_X9_within rfl rfl rfl (by decide +kernel) ⟨Nat.le_of_ble_eq_true rfl, Nat.le_of_ble_eq_true rfl⟩) (kPreS hP (kD0 hD) hK hN [] [] rfl rfl (by decide)) rfl rfl hl.1 rfl (lv_room (Nat.le_of_ble_eq_true rfl)) dX9_letter_8 ⟨Nat.le_of_ble_eq_true rfl, Nat.le_of_ble_eq_true rfl⟩) ?_
  refine kn_i 0 (if_neg kno) ?_
  refine lv_if_eq (tgt := 23) hx hb dX9_letter_11 (by decide) (fun _ => ?_) (fun c9 => absurd (by decide) c9)
  refine lv_iconst (v := (-1)) hx hb dX9_letter_23 (by decide) ?_
  exact W.iret (v := (-1)) hx hb hr (fun t ht hW => kRd rfl ht) (fun _ h9 => by cases h9) dX9_letter_24
theorem dX9_ofCluster_0 : decode cX9_ofCluster 0 = .ok (.aload_n 0, 1) := by decide +kernel
theorem dX9_ofCluster_1 : decode cX9_ofCluster 1 = .ok (.invokevirtual 167, 3) := by decide +kernel
theorem dX9_ofCluster_4 : decode cX9_ofCluster 4 = .ok (.pop, 1) := by decide +kernel
theorem dX9_ofCluster_5 : decode cX9_ofCluster 5 = .ok (.iload_n 1, 1) := by decide +kernel
theorem dX9_ofCluster_6 : decode cX9_ofCluster 6 = .ok (.iconst 0, 1) := by decide +kernel
theorem dX9_ofCluster_7 : decode cX9_ofCluster 7 = .ok (.aload_n 0, 1) := by decide +kernel
theorem dX9_ofCluster_8 : decode cX9_ofCluster 8 = .ok (.getfield 138, 3) := by decide +kernel
theorem dX9_ofCluster_11 : decode cX9_ofCluster 11 = .ok (.iconst 1, 1) := by decide +kernel
theorem dX9_ofCluster_12 : decode cX9_ofCluster 12 = .ok (.isub, 1) := by decide +kernel
theorem dX9_ofCluster_13 : decode cX9_ofCluster 13 = .ok (.invokestatic 70, 3) := by decide +kernel
theorem dX9_ofCluster_16 : decode cX9_ofCluster 16 = .ok (.ifCond .ne 5, 3) := by decide +kernel
theorem dX9_ofCluster_19 : decode cX9_ofCluster 19 = .ok (.iconst (-1), 1) := by decide +kernel
theorem dX9_ofCluster_20 : decode cX9_ofCluster 20 = .ok (.ireturn, 1) := by decide +kernel
set_option maxRecDepth 20000 in
theorem ggX9_ofCluster_X9_findBest : GoodIn wsX9_ofCluster wsX9_findBest := goodIn_r _ [9, 10, 11, 1, 12, 4, 13, 14, 15, 8, 16, 17, 18, 19, 20, 21, 22, 23, 24, 25, 2, 3, 26, 27, 28, 29, 30, 31, 32, 33, 34, 35, 36, 37, 38, 39, 40, 41, 42, 43, 44, 45, 46, 47, 55, 56, 57, 58, 59, 60, 61, 62, 63, 64, 65, 66, 67, 68, 69, 70, 71, 72, 73, 74, 75, 76, 77, 78, 79, 80, 81, 82, 83, 84, 85] (by decide +kernel) (by decide +kernel)
set_option maxRecDepth 20000 in
theorem gX9_ofCluster_X9_findBest : GoodIn wsX9_ofCluster (wsV RX9 167 RX9 yX9_findBest wsX9_findBest) := goodIn_app (goodIn_of _ (by decide +kernel)) ggX9_ofCluster_X9_findBest
set_option maxRecDepth 20000 in
theorem ggX9_ofCluster_X9_within : GoodIn wsX9_ofCluster wsX9_within := goodIn_r _ [50] (by decide +kernel) (by decide +kernel)
set_option maxRecDepth 20000 in
theorem gX9_ofCluster_X9_within : GoodIn wsX9_ofCluster (va_wsS RX9 70 yX9_within wsX9_within) := goodIn_app (goodIn_of _ (by decide +kernel)) ggX9_ofCluster_X9_within
set_option maxHeartbeats 4000000 in
set_option maxRecDepth 100000 in
theorem c_X9_ofCluster (l : Launch) (D : va_G) (sz : Nat) (k : Int32) (w : Int32) (h0 : Nat) (fa : Int32) (tc : Int32) (so : Nat) (sl : Nat) (ce : Nat) (kd : Nat) (wd : Nat) (hs : Nat) (pr : Nat) (la : Nat) (wg : Nat) (ta : Int32) (ck : Int64) (at9 : Int32) (rfn : Int32) (rk : Nat) (rw : Nat) (rh : Nat) (cl : Int32) (sa : Nat) (fi : Nat) (bo : Int32) (ch : Nat) (cn : Nat) (ad : Int32) (ru : Int32) (kp : Nat) (rfa : Nat) (csa : ClassId) (fsa : Nat → Int32) : Met l yX9_ofCluster wsX9_ofCluster ({ frames := 3, cells := 0, slots := 0, locals := 72 }) (kPre [.ref h0, .int k, .int w] D [(h0, .inr (9, [.int fa, .int tc, .ref so, .ref sl, .ref ce, .int 0, .ref kd, .ref wd, .ref hs, .ref pr, .ref la, .int 0, .ref wg, .int ta, .long ck, .int at9, .int rfn, .ref rk, .ref rw, .ref rh, .int cl, .ref sa, .ref fi, .int bo, .ref ch, .ref cn, .int ad, .int ru, .ref kp, .int 0, .ref rfa])), (sa, .inl (csa, 25, .inl fsa))] [(csa, .int)] sz) (kQi (-1) (va_A [(h0, .inr (9, [.int fa, .int tc, .ref so, .ref sl, .ref ce, .int 0, .ref kd, .ref wd, .ref hs, .ref pr, .ref la, .int 0, .ref wg, .int ta, .long ck, .int at9, .int rfn, .ref rk, .ref rw, .ref rh, .int cl, .ref sa, .ref fi, .int bo, .ref ch, .ref cn, .int ad, .int ru, .ref kp, .int 0, .ref rfa])), (sa, .inl (csa, 25, .inl fsa))] sz)) 0 0 (va_A [(h0, .inr (9, [.int fa, .int tc, .ref so, .ref sl, .ref ce, .int 0, .ref kd, .ref wd, .ref hs, .ref pr, .ref la, .int 0, .ref wg, .int ta, .long ck, .int at9, .int rfn, .ref rk, .ref rw, .ref rh, .int cl, .ref sa, .ref fi, .int bo, .ref ch, .ref cn, .int ad, .int ru, .ref kp, .int 0, .ref rfa])), (sa, .inl (csa, 25, .inl fsa))] sz) := by
  refine Met.ofW (cc := cX9_ofCluster) (maxL := 3) (ret := (some .int)) (by decide) rfl ?_
  intro p e s m args below meth c s₁ B hml hv
  obtain ⟨rfl, hsz, hP, hK, hD0, hN⟩ := hv
  have hx := B.exec
  have hb := B.bytes
  have hr := B.returns
  have hts := atoms_spec (ws := wsX9_ofCluster) B.pre
  have hown : s.vm.findClass RX9 = some m.cls := findClass_of_methodNamed B.named
  have hlocks := B.notSynchronized
  subst hsz
  have hD := hD0.self (sz := s.heap.size)
  generalize hAe : va_A [(h0, .inr (9, [.int fa, .int tc, .ref so, .ref sl, .ref ce, .int 0, .ref kd, .ref wd, .ref hs, .ref pr, .ref la, .int 0, .ref wg, .int ta, .long ck, .int at9, .int rfn, .ref rk, .ref rw, .ref rh, .int cl, .ref sa, .ref fi, .int bo, .ref ch, .ref cn, .int ad, .int ru, .ref kp, .int 0, .ref rfa])), (sa, .inl (csa, 25, .inl fsa))] s.heap.size = A at hD ⊢
  have hA : ∀ q : Nat, s.heap.size ≤ q → A q := fun q h => by rw [← hAe]; exact Or.inr h
  have hS : va_S A s.heap s.heap [] := va_S.rf
  have hP : va_P D vwCl [(h0, .inr (9, [.int fa, .int tc, .ref so, .ref sl, .ref ce, .int 0, .ref kd, .ref wd, .ref hs, .ref pr, .ref la, .int 0, .ref wg, .int ta, .long ck, .int at9, .int rfn, .ref rk, .ref rw, .ref rh, .int cl, .ref sa, .ref fi, .int bo, .ref ch, .ref cn, .int ad, .int ru, .ref kp, .int 0, .ref rfa])), (sa, .inl (csa, 25, .inl fsa))] s.heap := hP
  have hl := lv_entry ([.ref h0, .int k, .int w]) (n := 3) (Nat.le_of_ble_eq_true rfl)
  rw [lg_entry_eq]
  generalize (lg_sl ([.ref h0, .int k, .int w]) ++ List.replicate (3 - (lg_sl ([.ref h0, .int k, .int w])).length) Slot.unset).toArray = ls at hl ⊢
  have hl : lv_has ls 3 [(0, .ref h0), (1, .int k), (2, .int w)] := hl
  refine lv_aload_n hx hb dX9_ofCluster_0 rfl (lv_at hl 0 rfl) ?_
  have hFc := va_free (wc := [(h0, .inr (9, [.int fa, .int tc, .ref so, .ref sl, .ref ce, .int 0, .ref kd, .ref wd, .ref hs, .ref pr, .ref la, .int 0, .ref wg, .int ta, .long ck, .int at9, .int rfn, .ref rk, .ref rw, .ref rh, .int cl, .ref sa, .ref fi, .int bo, .ref ch, .ref cn, .int ad, .int ru, .ref kp, .int 0, .ref rfa])), (sa, .inl (csa, 25, .inl fsa))]) hD hS hA [0, 1] rfl
  refine va_calli (va_runV (As := []) (rest := []) ⟨hx, hb, hml, hown, hts⟩ (c_X9_findBest l D s.heap.size (h0 := h0) (fa := fa) (tc := tc) (so := so) (sl := sl) (ce := ce) (kd := kd) (wd := wd) (hs := hs) (pr := pr) (la := la) (wg := wg) (ta := ta) (ck := ck) (at9 := at9) (rfn := rfn) (rk := rk) (rw := rw) (rh := rh) (cl := cl) (sa := sa) (fi := fi) (bo := bo) (ch := ch) (cn := cn) (ad := ad) (ru := ru) (kp := kp) (rfa := rfa) (csa := csa) (fsa := fsa)) (cwV 0 hts gX9_ofCluster_X9_findBest rfl rfl rfl (by decide +kernel) ⟨Nat.le_of_ble_eq_true rfl, Nat.le_of_ble_eq_true rfl⟩) (kPreV hP (kD0 hD) hK hN [0, 1] [0] rfl rfl (by decide) 0 9 rfl rfl) rfl rfl hl.1 rfl (lv_room (Nat.le_of_ble_eq_true rfl)) dX9_ofCluster_1 ⟨Nat.le_of_ble_eq_true rfl, Nat.le_of_ble_eq_true rfl⟩) hS (fun q _ h => hFc q h) hFc (fun r_1 u t H1 locs ht hvm hw hB hz1 hk1 hS => ?_)
  obtain ⟨hP1, hD1⟩ := hB
  rw [ht] at hP1
  obtain ⟨hP, hD⟩ := va_join (wr := []) (w1 := [(h0, .inr (9, [.int fa, .int tc, .ref so, .ref sl, .ref ce, .int 0, .ref kd, .ref wd, .ref hs, .ref pr, .ref la, .int 0, .ref wg, .int ta, .long ck, .int at9, .int rfn, .ref rk, .ref rw, .ref rh, .int 0, .ref sa, .ref fi, .int 0, .ref ch, .ref cn, .int 0, .int 0, .ref kp, .int 0, .ref rfa]))]) hP hD [0, 1] [] rfl rfl (by decide) (by decide) hk1 hFc hP1 hD1
  generalize H1 = H at hP hS ⊢
  have hP : va_P D vwCl [(h0, .inr (9, [.int fa, .int tc, .ref so, .ref sl, .ref ce, .int 0, .ref kd, .ref wd, .ref hs, .ref pr, .ref la, .int 0, .ref wg, .int ta, .long ck, .int at9, .int rfn, .ref rk, .ref rw, .ref rh, .int 0, .ref sa, .ref fi, .int 0, .ref ch, .ref cn, .int 0, .int 0, .ref kp, .int 0, .ref rfa]))] H := hP
  have hD : va_D A [(h0, .inr (9, [.int fa, .int tc, .ref so, .ref sl, .ref ce, .int 0, .ref kd, .ref wd, .ref hs, .ref pr, .ref la, .int 0, .ref wg, .int ta, .long ck, .int at9, .int rfn, .ref rk, .ref rw, .ref rh, .int 0, .ref sa, .ref fi, .int 0, .ref ch, .ref cn, .int 0, .int 0, .ref kp, .int 0, .ref rfa]))] := hD
  refine kn_i 0 hw ?_
  refine lv_pop hx hb dX9_ofCluster_4 rfl ?_
  refine lv_iload_n hx hb dX9_ofCluster_5 rfl (lv_at hl 1 rfl) ?_
  refine lv_iconst (v := 0) hx hb dX9_ofCluster_6 (by decide) ?_
  refine lv_aload_n hx hb dX9_ofCluster_7 rfl (lv_at hl 0 rfl) ?_
  refine va_get (D := D) (ci := 9) (v := .int 0) (C := RX9) (T := TX9) (N := 31) hx hb hts (fun _ h9 => List.mem_cons_of_mem _ (List.mem_append_right _ h9)) hown hK hP 0 rfl rfl 20 (by decide) (hts (.fieldLink RX9 138 "FontRunsModel" "clusters" "I") (by decide +kernel)) (fun _ h9 => h9) rfl dX9_ofCluster_8 ?_
  refine lv_iconst (v := 1) hx hb dX9_ofCluster_11 (by decide) ?_
  refine lv_isub hx hb dX9_ofCluster_12 ?_
  refine kn_i (-1) (by decide) ?_
  refine k_callR (va_runS (As := [.int k, .int 0, .int (-1)]) (rest := []) ⟨hx, hb, hml, hown, hts⟩ (c_X9_within l D H.size (v := k) (a := 0) (b := (-1))) (va_cwS 3 hts gX9_ofCluster_X9_within rfl rfl rfl (by decide +kernel) ⟨Nat.le_of_ble_eq_true rfl, Nat.le_of_ble_eq_true rfl⟩) (kPreS hP (kD0 hD) hK hN [] [] rfl rfl (by decide)) rfl rfl hl.1 rfl (lv_room (Nat.le_of_ble_eq_true rfl)) dX9_ofCluster_13 ⟨Nat.le_of_ble_eq_true rfl, Nat.le_of_ble_eq_true rfl⟩) ?_
  refine kn_i 0 (if_neg kno) ?_
  refine lv_if_ne (tgt := 21) hx hb dX9_ofCluster_16 (by decide) (fun c9 => absurd (by decide) c9) (fun _ => ?_)
  refine lv_iconst (v := (-1)) hx hb dX9_ofCluster_19 (by decide) ?_
  exact W.iret (v := (-1)) hx hb hr (fun t ht hW => kQi_of rfl (hS.F ht)) hS.2.2 dX9_ofCluster_20
theorem dX9_ofRun_0 : decode cX9_ofRun 0 = .ok (.aload_n 0, 1) := by decide +kernel
theorem dX9_ofRun_1 : decode cX9_ofRun 1 = .ok (.invokevirtual 167, 3) := by decide +kernel
theorem dX9_ofRun_4 : decode cX9_ofRun 4 = .ok (.pop, 1) := by decide +kernel
theorem dX9_ofRun_5 : decode cX9_ofRun 5 = .ok (.iload_n 1, 1) := by decide +kernel
theorem dX9_ofRun_6 : decode cX9_ofRun 6 = .ok (.iconst 0, 1) := by decide +kernel
theorem dX9_ofRun_7 : decode cX9_ofRun 7 = .ok (.aload_n 0, 1) := by decide +kernel
theorem dX9_ofRun_8 : decode cX9_ofRun 8 = .ok (.getfield 161, 3) := by decide +kernel
theorem dX9_ofRun_11 : decode cX9_ofRun 11 = .ok (.iconst 1, 1) := by decide +kernel
theorem dX9_ofRun_12 : decode cX9_ofRun 12 = .ok (.isub, 1) := by decide +kernel
theorem dX9_ofRun_13 : decode cX9_ofRun 13 = .ok (.invokestatic 70, 3) := by decide +kernel
theorem dX9_ofRun_16 : decode cX9_ofRun 16 = .ok (.ifCond .ne 5, 3) := by decide +kernel
theorem dX9_ofRun_19 : decode cX9_ofRun 19 = .ok (.iconst (-1), 1) := by decide +kernel
theorem dX9_ofRun_20 : decode cX9_ofRun 20 = .ok (.ireturn, 1) := by decide +kernel
set_option maxRecDepth 20000 in
theorem ggX9_ofRun_X9_findBest : GoodIn wsX9_ofRun wsX9_findBest := goodIn_r _ [8, 9, 1, 2, 10, 3, 11, 12, 13, 7, 14, 15, 16, 17, 18, 19, 20, 21, 22, 23, 24, 25, 26, 27, 28, 29, 30, 31, 32, 33, 34, 35, 36, 37, 38, 39, 40, 41, 42, 43, 44, 45, 46, 47, 55, 56, 57, 58, 59, 60, 61, 62, 63, 64, 65, 66, 67, 68, 69, 70, 71, 72, 73, 74, 75, 76, 77, 78, 79, 80, 81, 82, 83, 84, 85] (by decide +kernel) (by decide +kernel)
set_option maxRecDepth 20000 in
theorem gX9_ofRun_X9_findBest : GoodIn wsX9_ofRun (wsV RX9 167 RX9 yX9_findBest wsX9_findBest) := goodIn_app (goodIn_of _ (by decide +kernel)) ggX9_ofRun_X9_findBest
set_option maxRecDepth 20000 in
theorem ggX9_ofRun_X9_within : GoodIn wsX9_ofRun wsX9_within := goodIn_r _ [50] (by decide +kernel) (by decide +kernel)
set_option maxRecDepth 20000 in
theorem gX9_ofRun_X9_within : GoodIn wsX9_ofRun (va_wsS RX9 70 yX9_within wsX9_within) := goodIn_app (goodIn_of _ (by decide +kernel)) ggX9_ofRun_X9_within
set_option maxHeartbeats 4000000 in
set_option maxRecDepth 100000 in
theorem c_X9_ofRun (l : Launch) (D : va_G) (sz : Nat) (k : Int32) (w : Int32) (h0 : Nat) (fa : Int32) (tc : Int32) (so : Nat) (sl : Nat) (ce : Nat) (kd : Nat) (wd : Nat) (hs : Nat) (pr : Nat) (la : Nat) (wg : Nat) (ta : Int32) (ck : Int64) (at9 : Int32) (rfn : Int32) (rk : Nat) (rw : Nat) (rh : Nat) (cl : Int32) (sa : Nat) (fi : Nat) (bo : Int32) (ch : Nat) (cn : Nat) (ad : Int32) (ru : Int32) (kp : Nat) (rfa : Nat) (csa : ClassId) (fsa : Nat → Int32) : Met l yX9_ofRun wsX9_ofRun ({ frames := 3, cells := 0, slots := 0, locals := 72 }) (kPre [.ref h0, .int k, .int w] D [(h0, .inr (9, [.int fa, .int tc, .ref so, .ref sl, .ref ce, .int 0, .ref kd, .ref wd, .ref hs, .ref pr, .ref la, .int 0, .ref wg, .int ta, .long ck, .int at9, .int rfn, .ref rk, .ref rw, .ref rh, .int cl, .ref sa, .ref fi, .int bo, .ref ch, .ref cn, .int ad, .int ru, .ref kp, .int 0, .ref rfa])), (sa, .inl (csa, 25, .inl fsa))] [(csa, .int)] sz) (kQi (-1) (va_A [(h0, .inr (9, [.int fa, .int tc, .ref so, .ref sl, .ref ce, .int 0, .ref kd, .ref wd, .ref hs, .ref pr, .ref la, .int 0, .ref wg, .int ta, .long ck, .int at9, .int rfn, .ref rk, .ref rw, .ref rh, .int cl, .ref sa, .ref fi, .int bo, .ref ch, .ref cn, .int ad, .int ru, .ref kp, .int 0, .ref rfa])), (sa, .inl (csa, 25, .inl fsa))] sz)) 0 0 (va_A [(h0, .inr (9, [.int fa, .int tc, .ref so, .ref sl, .ref ce, .int 0, .ref kd, .ref wd, .ref hs, .ref pr, .ref la, .int 0, .ref wg, .int ta, .long ck, .int at9, .int rfn, .ref rk, .ref rw, .ref rh, .int cl, .ref sa, .ref fi, .int bo, .ref ch, .ref cn, .int ad, .int ru, .ref kp, .int 0, .ref rfa])), (sa, .inl (csa, 25, .inl fsa))] sz) := by
  refine Met.ofW (cc := cX9_ofRun) (maxL := 7) (ret := (some .int)) (by decide) rfl ?_
  intro p e s m args below meth c s₁ B hml hv
  obtain ⟨rfl, hsz, hP, hK, hD0, hN⟩ := hv
  have hx := B.exec
  have hb := B.bytes
  have hr := B.returns
  have hts := atoms_spec (ws := wsX9_ofRun) B.pre
  have hown : s.vm.findClass RX9 = some m.cls := findClass_of_methodNamed B.named
  have hlocks := B.notSynchronized
  subst hsz
  have hD := hD0.self (sz := s.heap.size)
  generalize hAe : va_A [(h0, .inr (9, [.int fa, .int tc, .ref so, .ref sl, .ref ce, .int 0, .ref kd, .ref wd, .ref hs, .ref pr, .ref la, .int 0, .ref wg, .int ta, .long ck, .int at9, .int rfn, .ref rk, .ref rw, .ref rh, .int cl, .ref sa, .ref fi, .int bo, .ref ch, .ref cn, .int ad, .int ru, .ref kp, .int 0, .ref rfa])), (sa, .inl (csa, 25, .inl fsa))] s.heap.size = A at hD ⊢
  have hA : ∀ q : Nat, s.heap.size ≤ q → A q := fun q h => by rw [← hAe]; exact Or.inr h
  have hS : va_S A s.heap s.heap [] := va_S.rf
  have hP : va_P D vwCl [(h0, .inr (9, [.int fa, .int tc, .ref so, .ref sl, .ref ce, .int 0, .ref kd, .ref wd, .ref hs, .ref pr, .ref la, .int 0, .ref wg, .int ta, .long ck, .int at9, .int rfn, .ref rk, .ref rw, .ref rh, .int cl, .ref sa, .ref fi, .int bo, .ref ch, .ref cn, .int ad, .int ru, .ref kp, .int 0, .ref rfa])), (sa, .inl (csa, 25, .inl fsa))] s.heap := hP
  have hl := lv_entry ([.ref h0, .int k, .int w]) (n := 7) (Nat.le_of_ble_eq_true rfl)
  rw [lg_entry_eq]
  generalize (lg_sl ([.ref h0, .int k, .int w]) ++ List.replicate (7 - (lg_sl ([.ref h0, .int k, .int w])).length) Slot.unset).toArray = ls at hl ⊢
  have hl : lv_has ls 7 [(0, .ref h0), (1, .int k), (2, .int w)] := hl
  refine lv_aload_n hx hb dX9_ofRun_0 rfl (lv_at hl 0 rfl) ?_
  have hFc := va_free (wc := [(h0, .inr (9, [.int fa, .int tc, .ref so, .ref sl, .ref ce, .int 0, .ref kd, .ref wd, .ref hs, .ref pr, .ref la, .int 0, .ref wg, .int ta, .long ck, .int at9, .int rfn, .ref rk, .ref rw, .ref rh, .int cl, .ref sa, .ref fi, .int bo, .ref ch, .ref cn, .int ad, .int ru, .ref kp, .int 0, .ref rfa])), (sa, .inl (csa, 25, .inl fsa))]) hD hS hA [0, 1] rfl
  refine va_calli (va_runV (As := []) (rest := []) ⟨hx, hb, hml, hown, hts⟩ (c_X9_findBest l D s.heap.size (h0 := h0) (fa := fa) (tc := tc) (so := so) (sl := sl) (ce := ce) (kd := kd) (wd := wd) (hs := hs) (pr := pr) (la := la) (wg := wg) (ta := ta) (ck := ck) (at9 := at9) (rfn := rfn) (rk := rk) (rw := rw) (rh := rh) (cl := cl) (sa := sa) (fi := fi) (bo := bo) (ch := ch) (cn := cn) (ad := ad) (ru := ru) (kp := kp) (rfa := rfa) (csa := csa) (fsa := fsa)) (cwV 0 hts gX9_ofRun_X9_findBest rfl rfl rfl (by decide +kernel) ⟨Nat.le_of_ble_eq_true rfl, Nat.le_of_ble_eq_true rfl⟩) (kPreV hP (kD0 hD) hK hN [0, 1] [0] rfl rfl (by decide) 0 9 rfl rfl) rfl rfl hl.1 rfl (lv_room (Nat.le_of_ble_eq_true rfl)) dX9_ofRun_1 ⟨Nat.le_of_ble_eq_true rfl, Nat.le_of_ble_eq_true rfl⟩) hS (fun q _ h => hFc q h) hFc (fun r_1 u t H1 locs ht hvm hw hB hz1 hk1 hS => ?_)
  obtain ⟨hP1, hD1⟩ := hB
  rw [ht] at hP1
  obtain ⟨hP, hD⟩ := va_join (wr := []) (w1 := [(h0, .inr (9, [.int fa, .int tc, .ref so, .ref sl, .ref ce, .int 0, .ref kd, .ref wd, .ref hs, .ref pr, .ref la, .int 0, .ref wg, .int ta, .long ck, .int at9, .int rfn, .ref rk, .ref rw, .ref rh, .int 0, .ref sa, .ref fi, .int 0, .ref ch, .ref cn, .int 0, .int 0, .ref kp, .int 0, .ref rfa]))]) hP hD [0, 1] [] rfl rfl (by decide) (by decide) hk1 hFc hP1 hD1
  generalize H1 = H at hP hS ⊢
  have hP : va_P D vwCl [(h0, .inr (9, [.int fa, .int tc, .ref so, .ref sl, .ref ce, .int 0, .ref kd, .ref wd, .ref hs, .ref pr, .ref la, .int 0, .ref wg, .int ta, .long ck, .int at9, .int rfn, .ref rk, .ref rw, .ref rh, .int 0, .ref sa, .ref fi, .int 0, .ref ch, .ref cn, .int 0, .int 0, .ref kp, .int 0, .ref rfa]))] H := hP
  have hD : va_D A [(h0, .inr (9, [.int fa, .int tc, .ref so, .ref sl, .ref ce, .int 0, .ref kd, .ref wd, .ref hs, .ref pr, .ref la, .int 0, .ref wg, .int ta, .long ck, .int at9, .int rfn, .ref rk, .ref rw, .ref rh, .int 0, .ref sa, .ref fi, .int 0, .ref ch, .ref cn, .int 0, .int 0, .ref kp, .int 0, .ref rfa]))] := hD
  refine kn_i 0 hw ?_
  refine lv_pop hx hb dX9_ofRun_4 rfl ?_
  refine lv_iload_n hx hb dX9_ofRun_5 rfl (lv_at hl 1 rfl) ?_
  refine lv_iconst (v := 0) hx hb dX9_ofRun_6 (by decide) ?_
  refine lv_aload_n hx hb dX9_ofRun_7 rfl (lv_at hl 0 rfl) ?_
  refine va_get (D := D) (ci := 9) (v := .int 0) (C := RX9) (T := TX9) (N := 31) hx hb hts (fun _ h9 => List.mem_cons_of_mem _ (List.mem_append_right _ h9)) hown hK hP 0 rfl rfl 27 (by decide) (hts (.fieldLink RX9 161 "FontRunsModel" "runs" "I") (by decide +kernel)) (fun _ h9 => h9) rfl dX9_ofRun_8 ?_
  refine lv_iconst (v := 1) hx hb dX9_ofRun_11 (by decide) ?_
  refine lv_isub hx hb dX9_ofRun_12 ?_
  refine kn_i (-1) (by decide) ?_
  refine k_callR (va_runS (As := [.int k, .int 0, .int (-1)]) (rest := []) ⟨hx, hb, hml, hown, hts⟩ (c_X9_within l D H.size (v := k) (a := 0) (b := (-1))) (va_cwS 3 hts gX9_ofRun_X9_within rfl rfl rfl (by decide +kernel) ⟨Nat.le_of_ble_eq_true rfl, Nat.le_of_ble_eq_true rfl⟩) (kPreS hP (kD0 hD) hK hN [] [] rfl rfl (by decide)) rfl rfl hl.1 rfl (lv_room (Nat.le_of_ble_eq_true rfl)) dX9_ofRun_13 ⟨Nat.le_of_ble_eq_true rfl, Nat.le_of_ble_eq_true rfl⟩) ?_
  refine kn_i 0 (if_neg kno) ?_
  refine lv_if_ne (tgt := 21) hx hb dX9_ofRun_16 (by decide) (fun c9 => absurd (by decide) c9) (fun _ => ?_)
  refine lv_iconst (v := (-1)) hx hb dX9_ofRun_19 (by decide) ?_
  exact W.iret (v := (-1)) hx hb hr (fun t ht hW => kQi_of rfl (hS.F ht)) hS.2.2 dX9_ofRun_20
theorem dX9_latest_0 : decode cX9_latest 0 = .ok (.iload_n 1, 1) := by decide +kernel
theorem dX9_latest_1 : decode cX9_latest 1 = .ok (.iconst 0, 1) := by decide +kernel
theorem dX9_latest_2 : decode cX9_latest 2 = .ok (.iconst 4, 1) := by decide +kernel
theorem dX9_latest_3 : decode cX9_latest 3 = .ok (.invokestatic 70, 3) := by decide +kernel
theorem dX9_latest_6 : decode cX9_latest 6 = .ok (.ifCond .ne 6, 3) := by decide +kernel
theorem dX9_latest_9 : decode cX9_latest 9 = .ok (.bipush (-2), 2) := by decide +kernel
theorem dX9_latest_11 : decode cX9_latest 11 = .ok (.ireturn, 1) := by decide +kernel
theorem dX9_latest_12 : decode cX9_latest 12 = .ok (.aload_n 0, 1) := by decide +kernel
theorem dX9_latest_13 : decode cX9_latest 13 = .ok (.getfield 74, 3) := by decide +kernel
theorem dX9_latest_16 : decode cX9_latest 16 = .ok (.ifCond .ne 8, 3) := by decide +kernel
theorem dX9_latest_19 : decode cX9_latest 19 = .ok (.bipush (-9), 2) := by decide +kernel
theorem dX9_latest_21 : decode cX9_latest 21 = .ok (.goto 9, 3) := by decide +kernel
theorem dX9_latest_30 : decode cX9_latest 30 = .ok (.ireturn, 1) := by decide +kernel
set_option maxRecDepth 20000 in
theorem ggX9_latest_X9_within : GoodIn wsX9_latest wsX9_within := goodIn_r _ [6] (by decide +kernel) (by decide +kernel)
set_option maxRecDepth 20000 in
theorem gX9_latest_X9_within : GoodIn wsX9_latest (va_wsS RX9 70 yX9_within wsX9_within) := goodIn_app (goodIn_of _ (by decide +kernel)) ggX9_latest_X9_within
set_option maxHeartbeats 4000000 in
set_option maxRecDepth 100000 in
theorem c_X9_latest (l : Launch) (D : va_G) (sz : Nat) (k : Int32) (h0 : Nat) (fa : Int32) (tc : Int32) (so : Nat) (sl : Nat) (ce : Nat) (kd : Nat) (wd : Nat) (hs : Nat) (pr : Nat) (la : Nat) (wg : Nat) (ta : Int32) (ck : Int64) (at9 : Int32) (rfn : Int32) (rk : Nat) (rw : Nat) (rh : Nat) (cl : Int32) (sa : Nat) (fi : Nat) (bo : Int32) (ch : Nat) (cn : Nat) (ad : Int32) (ru : Int32) (kp : Nat) (rfa : Nat) : Met l yX9_latest wsX9_latest ({ frames := 1, cells := 0, slots := 0, locals := 22 }) (kPre [.ref h0, .int k] D [(h0, .inr (9, [.int fa, .int tc, .ref so, .ref sl, .ref ce, .int 0, .ref kd, .ref wd, .ref hs, .ref pr, .ref la, .int 0, .ref wg, .int ta, .long ck, .int at9, .int rfn, .ref rk, .ref rw, .ref rh, .int cl, .ref sa, .ref fi, .int bo, .ref ch, .ref cn, .int ad, .int ru, .ref kp, .int 0, .ref rfa]))] [] sz) (QcRead (sp_latest k)) 0 0 (fun _ => False) := by
  refine Met.ofW (cc := cX9_latest) (maxL := 2) (ret := (some .int)) (by decide) rfl ?_
  intro p e s m args below meth c s₁ B hml hv
  obtain ⟨rfl, hsz, hP, hK, hD0, hN⟩ := hv
  have hx := B.exec
  have hb := B.bytes
  have hr := B.returns
  have hts := atoms_spec (ws := wsX9_latest) B.pre
  have hown : s.vm.findClass RX9 = some m.cls := findClass_of_methodNamed B.named
  have hlocks := B.notSynchronized
  subst hsz
  have hD := hD0
  have hP : va_P D vwCl [(h0, .inr (9, [.int fa, .int tc, .ref so, .ref sl, .ref ce, .int 0, .ref kd, .ref wd, .ref hs, .ref pr, .ref la, .int 0, .ref wg, .int ta, .long ck, .int at9, .int rfn, .ref rk, .ref rw, .ref rh, .int cl, .ref sa, .ref fi, .int bo, .ref ch, .ref cn, .int ad, .int ru, .ref kp, .int 0, .ref rfa]))] s.heap := hP
  have hl := lv_entry ([.ref h0, .int k]) (n := 2) (Nat.le_of_ble_eq_true rfl)
  rw [lg_entry_eq]
  generalize (lg_sl ([.ref h0, .int k]) ++ List.replicate (2 - (lg_sl ([.ref h0, .int k])).length) Slot.unset).toArray = ls at hl ⊢
  have hl : lv_has ls 2 [(0, .ref h0), (1, .int k)] := hl
  refine lv_iload_n hx hb dX9_latest_0 rfl (lv_at hl 1 rfl) ?_
  refine lv_iconst (v := 0) hx hb dX9_latest_1 (by decide) ?_
  refine lv_iconst (v := 4) hx hb dX9_latest_2 (by decide) ?_
  refine k_callR (va_runS (As := [.int k, .int 0, .int 4]) (rest := []) ⟨hx, hb, hml, hown, hts⟩ (c_X9_within l D s.heap.size (v := k) (a := 0) (b := 4)) (va_cwS 3 hts gX9_latest_X9_within rfl rfl rfl (by decide +kernel) ⟨Nat.le_of_ble_eq_true rfl, Nat.le_of_ble_eq_true rfl⟩) (kPreS hP (kD0 hD) hK hN [] [] rfl rfl (by decide)) rfl rfl hl.1 rfl (lv_room (Nat.le_of_ble_eq_true rfl)) dX9_latest_3 ⟨Nat.le_of_ble_eq_true rfl, Nat.le_of_ble_eq_true rfl⟩) ?_
  refine lv_if_ne (tgt := 12) hx hb dX9_latest_6 (by decide) (fun c_1 => ?_) (fun c_1 => ?_)
  · have k_2 : (0 ≤ k ∧ k ≤ 4) := b01t c_1
    refine lv_aload_n hx hb dX9_latest_12 rfl (lv_at hl 0 rfl) ?_
    refine va_get (D := D) (ci := 9) (v := .int 0) (C := RX9) (T := TX9) (N := 31) hx hb hts (fun _ h9 => List.mem_cons_of_mem _ (List.mem_append_right _ h9)) hown hK hP 0 rfl rfl 5 (by decide) (hts (.fieldLink RX9 74 "FontRunsModel" "fonts" "I") (by decide +kernel)) (fun _ h9 => h9) rfl dX9_latest_13 ?_
    refine lv_if_ne (tgt := 24) hx hb dX9_latest_16 (by decide) (fun c9 => absurd (by decide) c9) (fun _ => ?_)
    refine lv_bipush (v := (-9)) hx hb dX9_latest_19 (by decide) ?_
    refine lv_goto (tgt := 30) hx hb dX9_latest_21 (by decide) ?_
    exact W.iret (v := (-9)) hx hb hr (fun t ht hW => kRd (by first | rfl | (simp only [sp_latest, if_pos k_2]; done) | (simp [sp_latest, k_2]; done)) ht) (fun _ h9 => by cases h9) dX9_latest_30
  · have k_3 : ¬ ((0 ≤ k ∧ k ≤ 4)) := b01f c_1
    refine lv_bipush (v := (-2)) hx hb dX9_latest_9 (by decide) ?_
    exact W.iret (v := (-2)) hx hb hr (fun t ht hW => kRd (by first | rfl | (simp only [sp_latest, if_neg k_3]; done) | (simp [sp_latest, k_3]; done)) ht) (fun _ h9 => by cases h9) dX9_latest_11
theorem dX9_tally_0 : decode cX9_tally 0 = .ok (.aload_n 0, 1) := by decide +kernel
theorem dX9_tally_1 : decode cX9_tally 1 = .ok (.getfield 129, 3) := by decide +kernel
theorem dX9_tally_4 : decode cX9_tally 4 = .ok (.ireturn, 1) := by decide +kernel
set_option maxHeartbeats 4000000 in
set_option maxRecDepth 100000 in
theorem c_X9_tally (l : Launch) (D : va_G) (sz : Nat) (h0 : Nat) (fa : Int32) (tc : Int32) (so : Nat) (sl : Nat) (ce : Nat) (kd : Nat) (wd : Nat) (hs : Nat) (pr : Nat) (la : Nat) (wg : Nat) (ta : Int32) (ck : Int64) (at9 : Int32) (rfn : Int32) (rk : Nat) (rw : Nat) (rh : Nat) (cl : Int32) (sa : Nat) (fi : Nat) (bo : Int32) (ch : Nat) (cn : Nat) (ad : Int32) (ru : Int32) (kp : Nat) (rfa : Nat) : Met l yX9_tally wsX9_tally ({ frames := 0, cells := 0, slots := 0, locals := 0 }) (kPre [.ref h0] D [(h0, .inr (9, [.int fa, .int tc, .ref so, .ref sl, .ref ce, .int 0, .ref kd, .ref wd, .ref hs, .ref pr, .ref la, .int 0, .ref wg, .int ta, .long ck, .int at9, .int rfn, .ref rk, .ref rw, .ref rh, .int cl, .ref sa, .ref fi, .int bo, .ref ch, .ref cn, .int ad, .int ru, .ref kp, .int 0, .ref rfa]))] [] sz) (QcRead ta) 0 0 (fun _ => False) := by
  refine Met.ofW (cc := cX9_tally) (maxL := 1) (ret := (some .int)) (by decide) rfl ?_
  intro p e s m args below meth c s₁ B hml hv
  obtain ⟨rfl, hsz, hP, hK, hD0, hN⟩ := hv
  have hx := B.exec
  have hb := B.bytes
  have hr := B.returns
  have hts := atoms_spec (ws := wsX9_tally) B.pre
  have hown : s.vm.findClass RX9 = some m.cls := findClass_of_methodNamed B.named
  have hlocks := B.notSynchronized
  subst hsz
  have hD := hD0
  have hP : va_P D vwCl [(h0, .inr (9, [.int fa, .int tc, .ref so, .ref sl, .ref ce, .int 0, .ref kd, .ref wd, .ref hs, .ref pr, .ref la, .int 0, .ref wg, .int ta, .long ck, .int at9, .int rfn, .ref rk, .ref rw, .ref rh, .int cl, .ref sa, .ref fi, .int bo, .ref ch, .ref cn, .int ad, .int ru, .ref kp, .int 0, .ref rfa]))] s.heap := hP
  have hl := lv_entry ([.ref h0]) (n := 1) (Nat.le_of_ble_eq_true rfl)
  rw [lg_entry_eq]
  generalize (lg_sl ([.ref h0]) ++ List.replicate (1 - (lg_sl ([.ref h0])).length) Slot.unset).toArray = ls at hl ⊢
  have hl : lv_has ls 1 [(0, .ref h0)] := hl
  refine lv_aload_n hx hb dX9_tally_0 rfl (lv_at hl 0 rfl) ?_
  refine va_get (D := D) (ci := 9) (v := .int ta) (C := RX9) (T := TX9) (N := 31) hx hb hts (fun _ h9 => List.mem_cons_of_mem _ (List.mem_append_right _ h9)) hown hK hP 0 rfl rfl 13 (by decide) (hts (.fieldLink RX9 129 "FontRunsModel" "tally" "I") (by decide +kernel)) (fun _ h9 => h9) rfl dX9_tally_1 ?_
  exact W.iret (v := ta) hx hb hr (fun t ht hW => kRd rfl ht) (fun _ h9 => by cases h9) dX9_tally_4
theorem dX9_check_0 : decode cX9_check 0 = .ok (.aload_n 0, 1) := by decide +kernel
theorem dX9_check_1 : decode cX9_check 1 = .ok (.getfield 134, 3) := by decide +kernel
theorem dX9_check_4 : decode cX9_check 4 = .ok (.lreturn, 1) := by decide +kernel
set_option maxHeartbeats 4000000 in
set_option maxRecDepth 100000 in
theorem c_X9_check (l : Launch) (D : va_G) (sz : Nat) (h0 : Nat) (fa : Int32) (tc : Int32) (so : Nat) (sl : Nat) (ce : Nat) (kd : Nat) (wd : Nat) (hs : Nat) (pr : Nat) (la : Nat) (wg : Nat) (ta : Int32) (ck : Int64) (at9 : Int32) (rfn : Int32) (rk : Nat) (rw : Nat) (rh : Nat) (cl : Int32) (sa : Nat) (fi : Nat) (bo : Int32) (ch : Nat) (cn : Nat) (ad : Int32) (ru : Int32) (kp : Nat) (rfa : Nat) : Met l yX9_check wsX9_check ({ frames := 0, cells := 0, slots := 0, locals := 0 }) (kPre [.ref h0] D [(h0, .inr (9, [.int fa, .int tc, .ref so, .ref sl, .ref ce, .int 0, .ref kd, .ref wd, .ref hs, .ref pr, .ref la, .int 0, .ref wg, .int ta, .long ck, .int at9, .int rfn, .ref rk, .ref rw, .ref rh, .int cl, .ref sa, .ref fi, .int bo, .ref ch, .ref cn, .int ad, .int ru, .ref kp, .int 0, .ref rfa]))] [] sz) (QcReadL ck) 0 0 (fun _ => False) := by
  refine Met.ofW (cc := cX9_check) (maxL := 1) (ret := (some .long)) (by decide) rfl ?_
  intro p e s m args below meth c s₁ B hml hv
  obtain ⟨rfl, hsz, hP, hK, hD0, hN⟩ := hv
  have hx := B.exec
  have hb := B.bytes
  have hr := B.returns
  have hts := atoms_spec (ws := wsX9_check) B.pre
  have hown : s.vm.findClass RX9 = some m.cls := findClass_of_methodNamed B.named
  have hlocks := B.notSynchronized
  subst hsz
  have hD := hD0
  have hP : va_P D vwCl [(h0, .inr (9, [.int fa, .int tc, .ref so, .ref sl, .ref ce, .int 0, .ref kd, .ref wd, .ref hs, .ref pr, .ref la, .int 0, .ref wg, .int ta, .long ck, .int at9, .int rfn, .ref rk, .ref rw, .ref rh, .int cl, .ref sa, .ref fi, .int bo, .ref ch, .ref cn, .int ad, .int ru, .ref kp, .int 0, .ref rfa]))] s.heap := hP
  have hl := lv_entry ([.ref h0]) (n := 1) (Nat.le_of_ble_eq_true rfl)
  rw [lg_entry_eq]
  generalize (lg_sl ([.ref h0]) ++ List.replicate (1 - (lg_sl ([.ref h0])).length) Slot.unset).toArray = ls at hl ⊢
  have hl : lv_has ls 1 [(0, .ref h0)] := hl
  refine lv_aload_n hx hb dX9_check_0 rfl (lv_at hl 0 rfl) ?_
  refine va_get (D := D) (ci := 9) (v := .long ck) (C := RX9) (T := TX9) (N := 31) hx hb hts (fun _ h9 => List.mem_cons_of_mem _ (List.mem_append_right _ h9)) hown hK hP 0 rfl rfl 14 (by decide) (hts (.fieldLink RX9 134 "FontRunsModel" "check" "J") (by decide +kernel)) (fun _ h9 => h9) rfl dX9_check_1 ?_
  exact W.lret (v := ck) hx hb hr (fun t ht hW => kRdL rfl ht) (fun _ h9 => by cases h9) dX9_check_4
theorem dX9_trace_0 : decode cX9_trace 0 = .ok (.aload_n 0, 1) := by decide +kernel
theorem dX9_trace_1 : decode cX9_trace 1 = .ok (.getfield 210, 3) := by decide +kernel
theorem dX9_trace_4 : decode cX9_trace 4 = .ok (.ireturn, 1) := by decide +kernel
set_option maxHeartbeats 4000000 in
set_option maxRecDepth 100000 in
theorem c_X9_trace (l : Launch) (D : va_G) (sz : Nat) (h0 : Nat) (fa : Int32) (tc : Int32) (so : Nat) (sl : Nat) (ce : Nat) (kd : Nat) (wd : Nat) (hs : Nat) (pr : Nat) (la : Nat) (wg : Nat) (ta : Int32) (ck : Int64) (at9 : Int32) (rfn : Int32) (rk : Nat) (rw : Nat) (rh : Nat) (cl : Int32) (sa : Nat) (fi : Nat) (bo : Int32) (ch : Nat) (cn : Nat) (ad : Int32) (ru : Int32) (kp : Nat) (rfa : Nat) : Met l yX9_trace wsX9_trace ({ frames := 0, cells := 0, slots := 0, locals := 0 }) (kPre [.ref h0] D [(h0, .inr (9, [.int fa, .int tc, .ref so, .ref sl, .ref ce, .int 0, .ref kd, .ref wd, .ref hs, .ref pr, .ref la, .int 0, .ref wg, .int ta, .long ck, .int at9, .int rfn, .ref rk, .ref rw, .ref rh, .int cl, .ref sa, .ref fi, .int bo, .ref ch, .ref cn, .int ad, .int ru, .ref kp, .int 0, .ref rfa]))] [] sz) (QcRead tc) 0 0 (fun _ => False) := by
  refine Met.ofW (cc := cX9_trace) (maxL := 1) (ret := (some .int)) (by decide) rfl ?_
  intro p e s m args below meth c s₁ B hml hv
  obtain ⟨rfl, hsz, hP, hK, hD0, hN⟩ := hv
  have hx := B.exec
  have hb := B.bytes
  have hr := B.returns
  have hts := atoms_spec (ws := wsX9_trace) B.pre
  have hown : s.vm.findClass RX9 = some m.cls := findClass_of_methodNamed B.named
  have hlocks := B.notSynchronized
  subst hsz
  have hD := hD0
  have hP : va_P D vwCl [(h0, .inr (9, [.int fa, .int tc, .ref so, .ref sl, .ref ce, .int 0, .ref kd, .ref wd, .ref hs, .ref pr, .ref la, .int 0, .ref wg, .int ta, .long ck, .int at9, .int rfn, .ref rk, .ref rw, .ref rh, .int cl, .ref sa, .ref fi, .int bo, .ref ch, .ref cn, .int ad, .int ru, .ref kp, .int 0, .ref rfa]))] s.heap := hP
  have hl := lv_entry ([.ref h0]) (n := 1) (Nat.le_of_ble_eq_true rfl)
  rw [lg_entry_eq]
  generalize (lg_sl ([.ref h0]) ++ List.replicate (1 - (lg_sl ([.ref h0])).length) Slot.unset).toArray = ls at hl ⊢
  have hl : lv_has ls 1 [(0, .ref h0)] := hl
  refine lv_aload_n hx hb dX9_trace_0 rfl (lv_at hl 0 rfl) ?_
  refine va_get (D := D) (ci := 9) (v := .int tc) (C := RX9) (T := TX9) (N := 31) hx hb hts (fun _ h9 => List.mem_cons_of_mem _ (List.mem_append_right _ h9)) hown hK hP 0 rfl rfl 1 (by decide) (hts (.fieldLink RX9 210 "FontRunsModel" "trace" "I") (by decide +kernel)) (fun _ h9 => h9) rfl dX9_trace_1 ?_
  exact W.iret (v := tc) hx hb hr (fun t ht hW => kRd rfl ht) (fun _ h9 => by cases h9) dX9_trace_4
theorem dX9_fault_0 : decode cX9_fault 0 = .ok (.aload_n 0, 1) := by decide +kernel
theorem dX9_fault_1 : decode cX9_fault 1 = .ok (.getfield 64, 3) := by decide +kernel
theorem dX9_fault_4 : decode cX9_fault 4 = .ok (.ireturn, 1) := by decide +kernel
set_option maxHeartbeats 4000000 in
set_option maxRecDepth 100000 in
theorem c_X9_fault (l : Launch) (D : va_G) (sz : Nat) (h0 : Nat) (fa : Int32) (tc : Int32) (so : Nat) (sl : Nat) (ce : Nat) (kd : Nat) (wd : Nat) (hs : Nat) (pr : Nat) (la : Nat) (wg : Nat) (ta : Int32) (ck : Int64) (at9 : Int32) (rfn : Int32) (rk : Nat) (rw : Nat) (rh : Nat) (cl : Int32) (sa : Nat) (fi : Nat) (bo : Int32) (ch : Nat) (cn : Nat) (ad : Int32) (ru : Int32) (kp : Nat) (rfa : Nat) : Met l yX9_fault wsX9_fault ({ frames := 0, cells := 0, slots := 0, locals := 0 }) (kPre [.ref h0] D [(h0, .inr (9, [.int fa, .int tc, .ref so, .ref sl, .ref ce, .int 0, .ref kd, .ref wd, .ref hs, .ref pr, .ref la, .int 0, .ref wg, .int ta, .long ck, .int at9, .int rfn, .ref rk, .ref rw, .ref rh, .int cl, .ref sa, .ref fi, .int bo, .ref ch, .ref cn, .int ad, .int ru, .ref kp, .int 0, .ref rfa]))] [] sz) (QcRead fa) 0 0 (fun _ => False) := by
  refine Met.ofW (cc := cX9_fault) (maxL := 1) (ret := (some .int)) (by decide) rfl ?_
  intro p e s m args below meth c s₁ B hml hv
  obtain ⟨rfl, hsz, hP, hK, hD0, hN⟩ := hv
  have hx := B.exec
  have hb := B.bytes
  have hr := B.returns
  have hts := atoms_spec (ws := wsX9_fault) B.pre
  have hown : s.vm.findClass RX9 = some m.cls := findClass_of_methodNamed B.named
  have hlocks := B.notSynchronized
  subst hsz
  have hD := hD0
  have hP : va_P D vwCl [(h0, .inr (9, [.int fa, .int tc, .ref so, .ref sl, .ref ce, .int 0, .ref kd, .ref wd, .ref hs, .ref pr, .ref la, .int 0, .ref wg, .int ta, .long ck, .int at9, .int rfn, .ref rk, .ref rw, .ref rh, .int cl, .ref sa, .ref fi, .int bo, .ref ch, .ref cn, .int ad, .int ru, .ref kp, .int 0, .ref rfa]))] s.heap := hP
  have hl := lv_entry ([.ref h0]) (n := 1) (Nat.le_of_ble_eq_true rfl)
  rw [lg_entry_eq]
  generalize (lg_sl ([.ref h0]) ++ List.replicate (1 - (lg_sl ([.ref h0])).length) Slot.unset).toArray = ls at hl ⊢
  have hl : lv_has ls 1 [(0, .ref h0)] := hl
  refine lv_aload_n hx hb dX9_fault_0 rfl (lv_at hl 0 rfl) ?_
  refine va_get (D := D) (ci := 9) (v := .int fa) (C := RX9) (T := TX9) (N := 31) hx hb hts (fun _ h9 => List.mem_cons_of_mem _ (List.mem_append_right _ h9)) hown hK hP 0 rfl rfl 0 (by decide) (hts (.fieldLink RX9 64 "FontRunsModel" "fault" "I") (by decide +kernel)) (fun _ h9 => h9) rfl dX9_fault_1 ?_
  exact W.iret (v := fa) hx hb hr (fun t ht hW => kRd rfl ht) (fun _ h9 => by cases h9) dX9_fault_4
theorem dX9_best_0 : decode cX9_best 0 = .ok (.iload_n 1, 1) := by decide +kernel
theorem dX9_best_1 : decode cX9_best 1 = .ok (.iconst 0, 1) := by decide +kernel
theorem dX9_best_2 : decode cX9_best 2 = .ok (.iconst 3, 1) := by decide +kernel
theorem dX9_best_3 : decode cX9_best 3 = .ok (.invokestatic 70, 3) := by decide +kernel
theorem dX9_best_6 : decode cX9_best 6 = .ok (.ifCond .ne 6, 3) := by decide +kernel
theorem dX9_best_9 : decode cX9_best 9 = .ok (.bipush (-2), 2) := by decide +kernel
theorem dX9_best_11 : decode cX9_best 11 = .ok (.ireturn, 1) := by decide +kernel
theorem dX9_best_12 : decode cX9_best 12 = .ok (.aload_n 0, 1) := by decide +kernel
theorem dX9_best_13 : decode cX9_best 13 = .ok (.getfield 74, 3) := by decide +kernel
theorem dX9_best_16 : decode cX9_best 16 = .ok (.ifCond .ne 6, 3) := by decide +kernel
theorem dX9_best_19 : decode cX9_best 19 = .ok (.bipush (-3), 2) := by decide +kernel
theorem dX9_best_21 : decode cX9_best 21 = .ok (.ireturn, 1) := by decide +kernel
set_option maxRecDepth 20000 in
theorem ggX9_best_X9_within : GoodIn wsX9_best wsX9_within := goodIn_r _ [8] (by decide +kernel) (by decide +kernel)
set_option maxRecDepth 20000 in
theorem gX9_best_X9_within : GoodIn wsX9_best (va_wsS RX9 70 yX9_within wsX9_within) := goodIn_app (goodIn_of _ (by decide +kernel)) ggX9_best_X9_within
set_option maxHeartbeats 4000000 in
set_option maxRecDepth 100000 in
theorem c_X9_best (l : Launch) (D : va_G) (sz : Nat) (k : Int32) (h0 : Nat) (fa : Int32) (tc : Int32) (so : Nat) (sl : Nat) (ce : Nat) (kd : Nat) (wd : Nat) (hs : Nat) (pr : Nat) (la : Nat) (wg : Nat) (ta : Int32) (ck : Int64) (at9 : Int32) (rfn : Int32) (rk : Nat) (rw : Nat) (rh : Nat) (cl : Int32) (sa : Nat) (fi : Nat) (bo : Int32) (ch : Nat) (cn : Nat) (ad : Int32) (ru : Int32) (kp : Nat) (rfa : Nat) : Met l yX9_best wsX9_best ({ frames := 1, cells := 0, slots := 0, locals := 22 }) (kPre [.ref h0, .int k] D [(h0, .inr (9, [.int fa, .int tc, .ref so, .ref sl, .ref ce, .int 0, .ref kd, .ref wd, .ref hs, .ref pr, .ref la, .int 0, .ref wg, .int ta, .long ck, .int at9, .int rfn, .ref rk, .ref rw, .ref rh, .int cl, .ref sa, .ref fi, .int bo, .ref ch, .ref cn, .int ad, .int ru, .ref kp, .int 0, .ref rfa]))] [] sz) (QcRead (sp_best k)) 0 0 (fun _ => False) := by
  refine Met.ofW (cc := cX9_best) (maxL := 3) (ret := (some .int)) (by decide) rfl ?_
  intro p e s m args below meth c s₁ B hml hv
  obtain ⟨rfl, hsz, hP, hK, hD0, hN⟩ := hv
  have hx := B.exec
  have hb := B.bytes
  have hr := B.returns
  have hts := atoms_spec (ws := wsX9_best) B.pre
  have hown : s.vm.findClass RX9 = some m.cls := findClass_of_methodNamed B.named
  have hlocks := B.notSynchronized
  subst hsz
  have hD := hD0
  have hP : va_P D vwCl [(h0, .inr (9, [.int fa, .int tc, .ref so, .ref sl, .ref ce, .int 0, .ref kd, .ref wd, .ref hs, .ref pr, .ref la, .int 0, .ref wg, .int ta, .long ck, .int at9, .int rfn, .ref rk, .ref rw, .ref rh, .int cl, .ref sa, .ref fi, .int bo, .ref ch, .ref cn, .int ad, .int ru, .ref kp, .int 0, .ref rfa]))] s.heap := hP
  have hl := lv_entry ([.ref h0, .int k]) (n := 3) (Nat.le_of_ble_eq_true rfl)
  rw [lg_entry_eq]
  generalize (lg_sl ([.ref h0, .int k]) ++ List.replicate (3 - (lg_sl ([.ref h0, .int k])).length) Slot.unset).toArray = ls at hl ⊢
  have hl : lv_has ls 3 [(0, .ref h0), (1, .int k)] := hl
  refine lv_iload_n hx hb dX9_best_0 rfl (lv_at hl 1 rfl) ?_
  refine lv_iconst (v := 0) hx hb dX9_best_1 (by decide) ?_
  refine lv_iconst (v := 3) hx hb dX9_best_2 (by decide) ?_
  refine k_callR (va_runS (As := [.int k, .int 0, .int 3]) (rest := []) ⟨hx, hb, hml, hown, hts⟩ (c_X9_within l D s.heap.size (v := k) (a := 0) (b := 3)) (va_cwS 3 hts gX9_best_X9_within rfl rfl rfl (by decide +kernel) ⟨Nat.le_of_ble_eq_true rfl, Nat.le_of_ble_eq_true rfl⟩) (kPreS hP (kD0 hD) hK hN [] [] rfl rfl (by decide)) rfl rfl hl.1 rfl (lv_room (Nat.le_of_ble_eq_true rfl)) dX9_best_3 ⟨Nat.le_of_ble_eq_true rfl, Nat.le_of_ble_eq_true rfl⟩) ?_
  refine lv_if_ne (tgt := 12) hx hb dX9_best_6 (by decide) (fun c_1 => ?_) (fun c_1 => ?_)
  · have k_2 : (0 ≤ k ∧ k ≤ 3) := b01t c_1
    refine lv_aload_n hx hb dX9_best_12 rfl (lv_at hl 0 rfl) ?_
    refine va_get (D := D) (ci := 9) (v := .int 0) (C := RX9) (T := TX9) (N := 31) hx hb hts (fun _ h9 => List.mem_cons_of_mem _ (List.mem_append_right _ h9)) hown hK hP 0 rfl rfl 5 (by decide) (hts (.fieldLink RX9 74 "FontRunsModel" "fonts" "I") (by decide +kernel)) (fun _ h9 => h9) rfl dX9_best_13 ?_
    refine lv_if_ne (tgt := 22) hx hb dX9_best_16 (by decide) (fun c9 => absurd (by decide) c9) (fun _ => ?_)
    refine lv_bipush (v := (-3)) hx hb dX9_best_19 (by decide) ?_
    exact W.iret (v := (-3)) hx hb hr (fun t ht hW => kRd (by first | rfl | (simp only [sp_best, if_pos k_2]; done) | (simp [sp_best, k_2]; done)) ht) (fun _ h9 => by cases h9) dX9_best_21
  · have k_3 : ¬ ((0 ≤ k ∧ k ≤ 3)) := b01f c_1
    refine lv_bipush (v := (-2)) hx hb dX9_best_9 (by decide) ?_
    exact W.iret (v := (-2)) hx hb hr (fun t ht hW => kRd (by first | rfl | (simp only [sp_best, if_neg k_3]; done) | (simp [sp_best, k_3]; done)) ht) (fun _ h9 => by cases h9) dX9_best_11
theorem dX9_enough_0 : decode cX9_enough 0 = .ok (.iload_n 1, 1) := by decide +kernel
theorem dX9_enough_1 : decode cX9_enough 1 = .ok (.iconst 0, 1) := by decide +kernel
theorem dX9_enough_2 : decode cX9_enough 2 = .ok (.iconst 1, 1) := by decide +kernel
theorem dX9_enough_3 : decode cX9_enough 3 = .ok (.invokestatic 70, 3) := by decide +kernel
theorem dX9_enough_6 : decode cX9_enough 6 = .ok (.ifCond .ne 6, 3) := by decide +kernel
theorem dX9_enough_9 : decode cX9_enough 9 = .ok (.bipush (-2), 2) := by decide +kernel
theorem dX9_enough_11 : decode cX9_enough 11 = .ok (.ireturn, 1) := by decide +kernel
theorem dX9_enough_12 : decode cX9_enough 12 = .ok (.aload_n 0, 1) := by decide +kernel
theorem dX9_enough_13 : decode cX9_enough 13 = .ok (.getfield 74, 3) := by decide +kernel
theorem dX9_enough_16 : decode cX9_enough 16 = .ok (.ifCond .ne 6, 3) := by decide +kernel
theorem dX9_enough_19 : decode cX9_enough 19 = .ok (.bipush (-3), 2) := by decide +kernel
theorem dX9_enough_21 : decode cX9_enough 21 = .ok (.ireturn, 1) := by decide +kernel
set_option maxRecDepth 20000 in
theorem ggX9_enough_X9_within : GoodIn wsX9_enough wsX9_within := goodIn_r _ [7] (by decide +kernel) (by decide +kernel)
set_option maxRecDepth 20000 in
theorem gX9_enough_X9_within : GoodIn wsX9_enough (va_wsS RX9 70 yX9_within wsX9_within) := goodIn_app (goodIn_of _ (by decide +kernel)) ggX9_enough_X9_within
set_option maxHeartbeats 4000000 in
set_option maxRecDepth 100000 in
theorem c_X9_enough (l : Launch) (D : va_G) (sz : Nat) (k : Int32) (h0 : Nat) (fa : Int32) (tc : Int32) (so : Nat) (sl : Nat) (ce : Nat) (kd : Nat) (wd : Nat) (hs : Nat) (pr : Nat) (la : Nat) (wg : Nat) (ta : Int32) (ck : Int64) (at9 : Int32) (rfn : Int32) (rk : Nat) (rw : Nat) (rh : Nat) (cl : Int32) (sa : Nat) (fi : Nat) (bo : Int32) (ch : Nat) (cn : Nat) (ad : Int32) (ru : Int32) (kp : Nat) (rfa : Nat) : Met l yX9_enough wsX9_enough ({ frames := 1, cells := 0, slots := 0, locals := 22 }) (kPre [.ref h0, .int k] D [(h0, .inr (9, [.int fa, .int tc, .ref so, .ref sl, .ref ce, .int 0, .ref kd, .ref wd, .ref hs, .ref pr, .ref la, .int 0, .ref wg, .int ta, .long ck, .int at9, .int rfn, .ref rk, .ref rw, .ref rh, .int cl, .ref sa, .ref fi, .int bo, .ref ch, .ref cn, .int ad, .int ru, .ref kp, .int 0, .ref rfa]))] [] sz) (QcRead (sp_enough k)) 0 0 (fun _ => False) := by
  refine Met.ofW (cc := cX9_enough) (maxL := 6) (ret := (some .int)) (by decide) rfl ?_
  intro p e s m args below meth c s₁ B hml hv
  obtain ⟨rfl, hsz, hP, hK, hD0, hN⟩ := hv
  have hx := B.exec
  have hb := B.bytes
  have hr := B.returns
  have hts := atoms_spec (ws := wsX9_enough) B.pre
  have hown : s.vm.findClass RX9 = some m.cls := findClass_of_methodNamed B.named
  have hlocks := B.notSynchronized
  subst hsz
  have hD := hD0
  have hP : va_P D vwCl [(h0, .inr (9, [.int fa, .int tc, .ref so, .ref sl, .ref ce, .int 0, .ref kd, .ref wd, .ref hs, .ref pr, .ref la, .int 0, .ref wg, .int ta, .long ck, .int at9, .int rfn, .ref rk, .ref rw, .ref rh, .int cl, .ref sa, .ref fi, .int bo, .ref ch, .ref cn, .int ad, .int ru, .ref kp, .int 0, .ref rfa]))] s.heap := hP
  have hl := lv_entry ([.ref h0, .int k]) (n := 6) (Nat.le_of_ble_eq_true rfl)
  rw [lg_entry_eq]
  generalize (lg_sl ([.ref h0, .int k]) ++ List.replicate (6 - (lg_sl ([.ref h0, .int k])).length) Slot.unset).toArray = ls at hl ⊢
  have hl : lv_has ls 6 [(0, .ref h0), (1, .int k)] := hl
  refine lv_iload_n hx hb dX9_enough_0 rfl (lv_at hl 1 rfl) ?_
  refine lv_iconst (v := 0) hx hb dX9_enough_1 (by decide) ?_
  refine lv_iconst (v := 1) hx hb dX9_enough_2 (by decide) ?_
  refine k_callR (va_runS (As := [.int k, .int 0, .int 1]) (rest := []) ⟨hx, hb, hml, hown, hts⟩ (c_X9_within l D s.heap.size (v := k) (a := 0) (b := 1)) (va_cwS 3 hts gX9_enough_X9_within rfl rfl rfl (by decide +kernel) ⟨Nat.le_of_ble_eq_true rfl, Nat.le_of_ble_eq_true rfl⟩) (kPreS hP (kD0 hD) hK hN [] [] rfl rfl (by decide)) rfl rfl hl.1 rfl (lv_room (Nat.le_of_ble_eq_true rfl)) dX9_enough_3 ⟨Nat.le_of_ble_eq_true rfl, Nat.le_of_ble_eq_true rfl⟩) ?_
  refine lv_if_ne (tgt := 12) hx hb dX9_enough_6 (by decide) (fun c_1 => ?_) (fun c_1 => ?_)
  · have k_2 : (0 ≤ k ∧ k ≤ 1) := b01t c_1
    refine lv_aload_n hx hb dX9_enough_12 rfl (lv_at hl 0 rfl) ?_
    refine va_get (D := D) (ci := 9) (v := .int 0) (C := RX9) (T := TX9) (N := 31) hx hb hts (fun _ h9 => List.mem_cons_of_mem _ (List.mem_append_right _ h9)) hown hK hP 0 rfl rfl 5 (by decide) (hts (.fieldLink RX9 74 "FontRunsModel" "fonts" "I") (by decide +kernel)) (fun _ h9 => h9) rfl dX9_enough_13 ?_
    refine lv_if_ne (tgt := 22) hx hb dX9_enough_16 (by decide) (fun c9 => absurd (by decide) c9) (fun _ => ?_)
    refine lv_bipush (v := (-3)) hx hb dX9_enough_19 (by decide) ?_
    exact W.iret (v := (-3)) hx hb hr (fun t ht hW => kRd (by first | rfl | (simp only [sp_enough, if_pos k_2]; done) | (simp [sp_enough, k_2]; done)) ht) (fun _ h9 => by cases h9) dX9_enough_21
  · have k_3 : ¬ ((0 ≤ k ∧ k ≤ 1)) := b01f c_1
    refine lv_bipush (v := (-2)) hx hb dX9_enough_9 (by decide) ?_
    exact W.iret (v := (-2)) hx hb hr (fun t ht hW => kRd (by first | rfl | (simp only [sp_enough, if_neg k_3]; done) | (simp [sp_enough, k_3]; done)) ht) (fun _ h9 => by cases h9) dX9_enough_11
theorem dX9_reading_0 : decode cX9_reading 0 = .ok (.aload_n 0, 1) := by decide +kernel
theorem dX9_reading_1 : decode cX9_reading 1 = .ok (.getfield 74, 3) := by decide +kernel
theorem dX9_reading_4 : decode cX9_reading 4 = .ok (.ifCond .ne 6, 3) := by decide +kernel
theorem dX9_reading_7 : decode cX9_reading 7 = .ok (.bipush (-3), 2) := by decide +kernel
theorem dX9_reading_9 : decode cX9_reading 9 = .ok (.ireturn, 1) := by decide +kernel
set_option maxHeartbeats 4000000 in
set_option maxRecDepth 100000 in
theorem c_X9_reading (l : Launch) (D : va_G) (sz : Nat) (k : Int32) (h0 : Nat) (fa : Int32) (tc : Int32) (so : Nat) (sl : Nat) (ce : Nat) (kd : Nat) (wd : Nat) (hs : Nat) (pr : Nat) (la : Nat) (wg : Nat) (ta : Int32) (ck : Int64) (at9 : Int32) (rfn : Int32) (rk : Nat) (rw : Nat) (rh : Nat) (cl : Int32) (sa : Nat) (fi : Nat) (bo : Int32) (ch : Nat) (cn : Nat) (ad : Int32) (ru : Int32) (kp : Nat) (rfa : Nat) : Met l yX9_reading wsX9_reading ({ frames := 0, cells := 0, slots := 0, locals := 0 }) (kPre [.ref h0, .int k] D [(h0, .inr (9, [.int fa, .int tc, .ref so, .ref sl, .ref ce, .int 0, .ref kd, .ref wd, .ref hs, .ref pr, .ref la, .int 0, .ref wg, .int ta, .long ck, .int at9, .int rfn, .ref rk, .ref rw, .ref rh, .int cl, .ref sa, .ref fi, .int bo, .ref ch, .ref cn, .int ad, .int ru, .ref kp, .int 0, .ref rfa]))] [] sz) (QcRead (-3)) 0 0 (fun _ => False) := by
  refine Met.ofW (cc := cX9_reading) (maxL := 2) (ret := (some .int)) (by decide) rfl ?_
  intro p e s m args below meth c s₁ B hml hv
  obtain ⟨rfl, hsz, hP, hK, hD0, hN⟩ := hv
  have hx := B.exec
  have hb := B.bytes
  have hr := B.returns
  have hts := atoms_spec (ws := wsX9_reading) B.pre
  have hown : s.vm.findClass RX9 = some m.cls := findClass_of_methodNamed B.named
  have hlocks := B.notSynchronized
  subst hsz
  have hD := hD0
  have hP : va_P D vwCl [(h0, .inr (9, [.int fa, .int tc, .ref so, .ref sl, .ref ce, .int 0, .ref kd, .ref wd, .ref hs, .ref pr, .ref la, .int 0, .ref wg, .int ta, .long ck, .int at9, .int rfn, .ref rk, .ref rw, .ref rh, .int cl, .ref sa, .ref fi, .int bo, .ref ch, .ref cn, .int ad, .int ru, .ref kp, .int 0, .ref rfa]))] s.heap := hP
  have hl := lv_entry ([.ref h0, .int k]) (n := 2) (Nat.le_of_ble_eq_true rfl)
  rw [lg_entry_eq]
  generalize (lg_sl ([.ref h0, .int k]) ++ List.replicate (2 - (lg_sl ([.ref h0, .int k])).length) Slot.unset).toArray = ls at hl ⊢
  have hl : lv_has ls 2 [(0, .ref h0), (1, .int k)] := hl
  refine lv_aload_n hx hb dX9_reading_0 rfl (lv_at hl 0 rfl) ?_
  refine va_get (D := D) (ci := 9) (v := .int 0) (C := RX9) (T := TX9) (N := 31) hx hb hts (fun _ h9 => List.mem_cons_of_mem _ (List.mem_append_right _ h9)) hown hK hP 0 rfl rfl 5 (by decide) (hts (.fieldLink RX9 74 "FontRunsModel" "fonts" "I") (by decide +kernel)) (fun _ h9 => h9) rfl dX9_reading_1 ?_
  refine lv_if_ne (tgt := 10) hx hb dX9_reading_4 (by decide) (fun c9 => absurd (by decide) c9) (fun _ => ?_)
  refine lv_bipush (v := (-3)) hx hb dX9_reading_7 (by decide) ?_
  exact W.iret (v := (-3)) hx hb hr (fun t ht hW => kRd rfl ht) (fun _ h9 => by cases h9) dX9_reading_9
theorem dX9_odds_0 : decode cX9_odds 0 = .ok (.iload_n 1, 1) := by decide +kernel
theorem dX9_odds_1 : decode cX9_odds 1 = .ok (.iconst 0, 1) := by decide +kernel
theorem dX9_odds_2 : decode cX9_odds 2 = .ok (.bipush 24, 2) := by decide +kernel
theorem dX9_odds_4 : decode cX9_odds 4 = .ok (.invokestatic 70, 3) := by decide +kernel
theorem dX9_odds_7 : decode cX9_odds 7 = .ok (.ifCond .eq 28, 3) := by decide +kernel
theorem dX9_odds_10 : decode cX9_odds 10 = .ok (.iload_n 2, 1) := by decide +kernel
theorem dX9_odds_11 : decode cX9_odds 11 = .ok (.iconst 0, 1) := by decide +kernel
theorem dX9_odds_12 : decode cX9_odds 12 = .ok (.iconst 1, 1) := by decide +kernel
theorem dX9_odds_13 : decode cX9_odds 13 = .ok (.invokestatic 70, 3) := by decide +kernel
theorem dX9_odds_16 : decode cX9_odds 16 = .ok (.ifCond .eq 19, 3) := by decide +kernel
theorem dX9_odds_19 : decode cX9_odds 19 = .ok (.aload_n 0, 1) := by decide +kernel
theorem dX9_odds_20 : decode cX9_odds 20 = .ok (.getfield 74, 3) := by decide +kernel
theorem dX9_odds_23 : decode cX9_odds 23 = .ok (.ifCond .eq 12, 3) := by decide +kernel
theorem dX9_odds_35 : decode cX9_odds 35 = .ok (.ldc2_w 68, 3) := by decide +kernel
theorem dX9_odds_38 : decode cX9_odds 38 = .ok (.lreturn, 1) := by decide +kernel
set_option maxRecDepth 20000 in
theorem ggX9_odds_X9_within : GoodIn wsX9_odds wsX9_within := goodIn_r _ [9] (by decide +kernel) (by decide +kernel)
set_option maxRecDepth 20000 in
theorem gX9_odds_X9_within : GoodIn wsX9_odds (va_wsS RX9 70 yX9_within wsX9_within) := goodIn_app (goodIn_of _ (by decide +kernel)) ggX9_odds_X9_within
set_option maxHeartbeats 4000000 in
set_option maxRecDepth 100000 in
theorem c_X9_odds (l : Launch) (D : va_G) (sz : Nat) (k : Int32) (w : Int32) (h0 : Nat) (fa : Int32) (tc : Int32) (so : Nat) (sl : Nat) (ce : Nat) (kd : Nat) (wd : Nat) (hs : Nat) (pr : Nat) (la : Nat) (wg : Nat) (ta : Int32) (ck : Int64) (at9 : Int32) (rfn : Int32) (rk : Nat) (rw : Nat) (rh : Nat) (cl : Int32) (sa : Nat) (fi : Nat) (bo : Int32) (ch : Nat) (cn : Nat) (ad : Int32) (ru : Int32) (kp : Nat) (rfa : Nat) : Met l yX9_odds wsX9_odds ({ frames := 1, cells := 0, slots := 0, locals := 22 }) (kPre [.ref h0, .int k, .int w] D [(h0, .inr (9, [.int fa, .int tc, .ref so, .ref sl, .ref ce, .int 0, .ref kd, .ref wd, .ref hs, .ref pr, .ref la, .int 0, .ref wg, .int ta, .long ck, .int at9, .int rfn, .ref rk, .ref rw, .ref rh, .int cl, .ref sa, .ref fi, .int bo, .ref ch, .ref cn, .int ad, .int ru, .ref kp, .int 0, .ref rfa]))] [] sz) (QcReadL (-9223372036854775808)) 0 0 (fun _ => False) := by
  refine Met.ofW (cc := cX9_odds) (maxL := 5) (ret := (some .long)) (by decide) rfl ?_
  intro p e s m args below meth c s₁ B hml hv
  obtain ⟨rfl, hsz, hP, hK, hD0, hN⟩ := hv
  have hx := B.exec
  have hb := B.bytes
  have hr := B.returns
  have hts := atoms_spec (ws := wsX9_odds) B.pre
  have hown : s.vm.findClass RX9 = some m.cls := findClass_of_methodNamed B.named
  have hlocks := B.notSynchronized
  subst hsz
  have hD := hD0
  have hP : va_P D vwCl [(h0, .inr (9, [.int fa, .int tc, .ref so, .ref sl, .ref ce, .int 0, .ref kd, .ref wd, .ref hs, .ref pr, .ref la, .int 0, .ref wg, .int ta, .long ck, .int at9, .int rfn, .ref rk, .ref rw, .ref rh, .int cl, .ref sa, .ref fi, .int bo, .ref ch, .ref cn, .int ad, .int ru, .ref kp, .int 0, .ref rfa]))] s.heap := hP
  have hl := lv_entry ([.ref h0, .int k, .int w]) (n := 5) (Nat.le_of_ble_eq_true rfl)
  rw [lg_entry_eq]
  generalize (lg_sl ([.ref h0, .int k, .int w]) ++ List.replicate (5 - (lg_sl ([.ref h0, .int k, .int w])).length) Slot.unset).toArray = ls at hl ⊢
  have hl : lv_has ls 5 [(0, .ref h0), (1, .int k), (2, .int w)] := hl
  refine lv_iload_n hx hb dX9_odds_0 rfl (lv_at hl 1 rfl) ?_
  refine lv_iconst (v := 0) hx hb dX9_odds_1 (by decide) ?_
  refine lv_bipush (v := 24) hx hb dX9_odds_2 (by decide) ?_
  refine k_callR (va_runS (As := [.int k, .int 0, .int 24]) (rest := []) ⟨hx, hb, hml, hown, hts⟩ (c_X9_within l D s.heap.size (v := k) (a := 0) (b := 24)) (va_cwS 3 hts gX9_odds_X9_within rfl rfl rfl (by decide +kernel) ⟨Nat.le_of_ble_eq_true rfl, Nat.le_of_ble_eq_true rfl⟩) (kPreS hP (kD0 hD) hK hN [] [] rfl rfl (by decide)) rfl rfl hl.1 rfl (lv_room (Nat.le_of_ble_eq_true rfl)) dX9_odds_4 ⟨Nat.le_of_ble_eq_true rfl, Nat.le_of_ble_eq_true rfl⟩) ?_
  refine lv_if_eq (tgt := 35) hx hb dX9_odds_7 (by decide) (fun c_1 => ?_) (fun c_1 => ?_)
  · have k_2 : ¬ ((0 ≤ k ∧ k ≤ 24)) := b01f c_1
    refine lv_ldc2 (v := (-9223372036854775808)) hx hb hown (hts (.constantLong RX9 68 (-9223372036854775808)) (by decide +kernel)) dX9_odds_35 ?_
    exact W.lret (v := (-9223372036854775808)) hx hb hr (fun t ht hW => kRdL rfl ht) (fun _ h9 => by cases h9) dX9_odds_38
  · have k_3 : (0 ≤ k ∧ k ≤ 24) := b01t c_1
    refine lv_iload_n hx hb dX9_odds_10 rfl (lv_at hl 2 rfl) ?_
    refine lv_iconst (v := 0) hx hb dX9_odds_11 (by decide) ?_
    refine lv_iconst (v := 1) hx hb dX9_odds_12 (by decide) ?_
    refine k_callR (va_runS (As := [.int w, .int 0, .int 1]) (rest := []) ⟨hx, hb, hml, hown, hts⟩ (c_X9_within l D s.heap.size (v := w) (a := 0) (b := 1)) (va_cwS 3 hts gX9_odds_X9_within rfl rfl rfl (by decide +kernel) ⟨Nat.le_of_ble_eq_true rfl, Nat.le_of_ble_eq_true rfl⟩) (kPreS hP (kD0 hD) hK hN [] [] rfl rfl (by decide)) rfl rfl hl.1 rfl (lv_room (Nat.le_of_ble_eq_true rfl)) dX9_odds_13 ⟨Nat.le_of_ble_eq_true rfl, Nat.le_of_ble_eq_true rfl⟩) ?_
    refine lv_if_eq (tgt := 35) hx hb dX9_odds_16 (by decide) (fun c_4 => ?_) (fun c_4 => ?_)
    · have k_5 : ¬ ((0 ≤ w ∧ w ≤ 1)) := b01f c_4
      refine lv_ldc2 (v := (-9223372036854775808)) hx hb hown (hts (.constantLong RX9 68 (-9223372036854775808)) (by decide +kernel)) dX9_odds_35 ?_
      exact W.lret (v := (-9223372036854775808)) hx hb hr (fun t ht hW => kRdL rfl ht) (fun _ h9 => by cases h9) dX9_odds_38
    · have k_6 : (0 ≤ w ∧ w ≤ 1) := b01t c_4
      refine lv_aload_n hx hb dX9_odds_19 rfl (lv_at hl 0 rfl) ?_
      refine va_get (D := D) (ci := 9) (v := .int 0) (C := RX9) (T := TX9) (N := 31) hx hb hts (fun _ h9 => List.mem_cons_of_mem _ (List.mem_append_right _ h9)) hown hK hP 0 rfl rfl 5 (by decide) (hts (.fieldLink RX9 74 "FontRunsModel" "fonts" "I") (by decide +kernel)) (fun _ h9 => h9) rfl dX9_odds_20 ?_
      refine lv_if_eq (tgt := 35) hx hb dX9_odds_23 (by decide) (fun _ => ?_) (fun c9 => absurd (by decide) c9)
      refine lv_ldc2 (v := (-9223372036854775808)) hx hb hown (hts (.constantLong RX9 68 (-9223372036854775808)) (by decide +kernel)) dX9_odds_35 ?_
      exact W.lret (v := (-9223372036854775808)) hx hb hr (fun t ht hW => kRdL rfl ht) (fun _ h9 => by cases h9) dX9_odds_38
theorem dX9_back_0 : decode cX9_back 0 = .ok (.iload_n 1, 1) := by decide +kernel
theorem dX9_back_1 : decode cX9_back 1 = .ok (.iconst 0, 1) := by decide +kernel
theorem dX9_back_2 : decode cX9_back 2 = .ok (.aload_n 0, 1) := by decide +kernel
theorem dX9_back_3 : decode cX9_back 3 = .ok (.getfield 104, 3) := by decide +kernel
theorem dX9_back_6 : decode cX9_back 6 = .ok (.invokestatic 70, 3) := by decide +kernel
theorem dX9_back_9 : decode cX9_back 9 = .ok (.ifCond .ne 6, 3) := by decide +kernel
theorem dX9_back_12 : decode cX9_back 12 = .ok (.bipush (-2), 2) := by decide +kernel
theorem dX9_back_14 : decode cX9_back 14 = .ok (.ireturn, 1) := by decide +kernel
theorem dX9_back_15 : decode cX9_back 15 = .ok (.aload_n 0, 1) := by decide +kernel
theorem dX9_back_16 : decode cX9_back 16 = .ok (.dup, 1) := by decide +kernel
theorem dX9_back_17 : decode cX9_back 17 = .ok (.getfield 104, 3) := by decide +kernel
theorem dX9_back_20 : decode cX9_back 20 = .ok (.iload_n 1, 1) := by decide +kernel
theorem dX9_back_21 : decode cX9_back 21 = .ok (.isub, 1) := by decide +kernel
theorem dX9_back_22 : decode cX9_back 22 = .ok (.putfield 104, 3) := by decide +kernel
theorem dX9_back_25 : decode cX9_back 25 = .ok (.aload_n 0, 1) := by decide +kernel
theorem dX9_back_26 : decode cX9_back 26 = .ok (.getfield 104, 3) := by decide +kernel
theorem dX9_back_29 : decode cX9_back 29 = .ok (.ireturn, 1) := by decide +kernel
set_option maxRecDepth 20000 in
theorem ggX9_back_X9_within : GoodIn wsX9_back wsX9_within := goodIn_r _ [5] (by decide +kernel) (by decide +kernel)
set_option maxRecDepth 20000 in
theorem gX9_back_X9_within : GoodIn wsX9_back (va_wsS RX9 70 yX9_within wsX9_within) := goodIn_app (goodIn_of _ (by decide +kernel)) ggX9_back_X9_within
set_option maxHeartbeats 4000000 in
set_option maxRecDepth 100000 in
theorem c_X9_back (l : Launch) (D : va_G) (sz : Nat) (n : Int32) (h0 : Nat) (fa : Int32) (tc : Int32) (so : Nat) (sl : Nat) (ce : Nat) (kd : Nat) (wd : Nat) (hs : Nat) (pr : Nat) (la : Nat) (wg : Nat) (ta : Int32) (ck : Int64) (at9 : Int32) (rfn : Int32) (rk : Nat) (rw : Nat) (rh : Nat) (cl : Int32) (sa : Nat) (fi : Nat) (bo : Int32) (ch : Nat) (cn : Nat) (ad : Int32) (ru : Int32) (kp : Nat) (rfa : Nat) : Met l yX9_back wsX9_back ({ frames := 1, cells := 0, slots := 0, locals := 22 }) (kPre [.ref h0, .int n] D [(h0, .inr (9, [.int fa, .int tc, .ref so, .ref sl, .ref ce, .int 0, .ref kd, .ref wd, .ref hs, .ref pr, .ref la, .int 0, .ref wg, .int ta, .long ck, .int at9, .int rfn, .ref rk, .ref rw, .ref rh, .int cl, .ref sa, .ref fi, .int bo, .ref ch, .ref cn, .int ad, .int ru, .ref kp, .int 0, .ref rfa]))] [] sz) (kQi (sp_zero n) (va_A [(h0, .inr (9, [.int fa, .int tc, .ref so, .ref sl, .ref ce, .int 0, .ref kd, .ref wd, .ref hs, .ref pr, .ref la, .int 0, .ref wg, .int ta, .long ck, .int at9, .int rfn, .ref rk, .ref rw, .ref rh, .int cl, .ref sa, .ref fi, .int bo, .ref ch, .ref cn, .int ad, .int ru, .ref kp, .int 0, .ref rfa]))] sz)) 0 0 (va_A [(h0, .inr (9, [.int fa, .int tc, .ref so, .ref sl, .ref ce, .int 0, .ref kd, .ref wd, .ref hs, .ref pr, .ref la, .int 0, .ref wg, .int ta, .long ck, .int at9, .int rfn, .ref rk, .ref rw, .ref rh, .int cl, .ref sa, .ref fi, .int bo, .ref ch, .ref cn, .int ad, .int ru, .ref kp, .int 0, .ref rfa]))] sz) := by
  refine Met.ofW (cc := cX9_back) (maxL := 2) (ret := (some .int)) (by decide) rfl ?_
  intro p e s m args below meth c s₁ B hml hv
  obtain ⟨rfl, hsz, hP, hK, hD0, hN⟩ := hv
  have hx := B.exec
  have hb := B.bytes
  have hr := B.returns
  have hts := atoms_spec (ws := wsX9_back) B.pre
  have hown : s.vm.findClass RX9 = some m.cls := findClass_of_methodNamed B.named
  have hlocks := B.notSynchronized
  subst hsz
  have hD := hD0.self (sz := s.heap.size)
  generalize hAe : va_A [(h0, .inr (9, [.int fa, .int tc, .ref so, .ref sl, .ref ce, .int 0, .ref kd, .ref wd, .ref hs, .ref pr, .ref la, .int 0, .ref wg, .int ta, .long ck, .int at9, .int rfn, .ref rk, .ref rw, .ref rh, .int cl, .ref sa, .ref fi, .int bo, .ref ch, .ref cn, .int ad, .int ru, .ref kp, .int 0, .ref rfa]))] s.heap.size = A at hD ⊢
  have hA : ∀ q : Nat, s.heap.size ≤ q → A q := fun q h => by rw [← hAe]; exact Or.inr h
  have hS : va_S A s.heap s.heap [] := va_S.rf
  have hP : va_P D vwCl [(h0, .inr (9, [.int fa, .int tc, .ref so, .ref sl, .ref ce, .int 0, .ref kd, .ref wd, .ref hs, .ref pr, .ref la, .int 0, .ref wg, .int ta, .long ck, .int at9, .int rfn, .ref rk, .ref rw, .ref rh, .int cl, .ref sa, .ref fi, .int bo, .ref ch, .ref cn, .int ad, .int ru, .ref kp, .int 0, .ref rfa]))] s.heap := hP
  have hl := lv_entry ([.ref h0, .int n]) (n := 2) (Nat.le_of_ble_eq_true rfl)
  rw [lg_entry_eq]
  generalize (lg_sl ([.ref h0, .int n]) ++ List.replicate (2 - (lg_sl ([.ref h0, .int n])).length) Slot.unset).toArray = ls at hl ⊢
  have hl : lv_has ls 2 [(0, .ref h0), (1, .int n)] := hl
  refine lv_iload_n hx hb dX9_back_0 rfl (lv_at hl 1 rfl) ?_
  refine lv_iconst (v := 0) hx hb dX9_back_1 (by decide) ?_
  refine lv_aload_n hx hb dX9_back_2 rfl (lv_at hl 0 rfl) ?_
  refine va_get (D := D) (ci := 9) (v := .int 0) (C := RX9) (T := TX9) (N := 31) hx hb hts (fun _ h9 => List.mem_cons_of_mem _ (List.mem_append_right _ h9)) hown hK hP 0 rfl rfl 29 (by decide) (hts (.fieldLink RX9 104 "FontRunsModel" "readings" "I") (by decide +kernel)) (fun _ h9 => h9) rfl dX9_back_3 ?_
  refine k_callR (va_runS (As := [.int n, .int 0, .int 0]) (rest := []) ⟨hx, hb, hml, hown, hts⟩ (c_X9_within l D s.heap.size (v := n) (a := 0) (b := 0)) (va_cwS 3 hts gX9_back_X9_within rfl rfl rfl (by decide +kernel) ⟨Nat.le_of_ble_eq_true rfl, Nat.le_of_ble_eq_true rfl⟩) (kPreS hP (kD0 hD) hK hN [] [] rfl rfl (by decide)) rfl rfl hl.1 rfl (lv_room (Nat.le_of_ble_eq_true rfl)) dX9_back_6 ⟨Nat.le_of_ble_eq_true rfl, Nat.le_of_ble_eq_true rfl⟩) ?_
  refine lv_if_ne (tgt := 15) hx hb dX9_back_9 (by decide) (fun c_1 => ?_) (fun c_1 => ?_)
  · have k_2 : (0 ≤ n ∧ n ≤ 0) := b01t c_1
    have e9 := kz1 k_2
    subst e9
    refine lv_aload_n hx hb dX9_back_15 rfl (lv_at hl 0 rfl) ?_
    refine lv_dup hx hb dX9_back_16 rfl ?_
    refine va_get (D := D) (ci := 9) (v := .int 0) (C := RX9) (T := TX9) (N := 31) hx hb hts (fun _ h9 => List.mem_cons_of_mem _ (List.mem_append_right _ h9)) hown hK hP 0 rfl rfl 29 (by decide) (hts (.fieldLink RX9 104 "FontRunsModel" "readings" "I") (by decide +kernel)) (fun _ h9 => h9) rfl dX9_back_17 ?_
    refine lv_iload_n hx hb dX9_back_20 rfl (lv_at hl 1 rfl) ?_
    refine lv_isub hx hb dX9_back_21 ?_
    refine kn_i 0 (by decide) ?_
    refine va_put (D := D) (ci := 9) (v := .int 0) (ty := .int) (C := RX9) (T := TX9) (N := 31) hx hb hts (fun _ h9 => List.mem_cons_of_mem _ (List.mem_append_right _ h9)) tyX9 tyX9_ok nmX9 hown hK hP hD hS 0 rfl rfl 29 (by decide) (hts (.fieldLink RX9 104 "FontRunsModel" "readings" "I") (by decide +kernel)) (fun _ h9 => h9) rfl (by decide +kernel) rfl rfl (Nat.le_of_ble_eq_true rfl) dX9_back_22 (fun H locs hP hD hS => ?_)
    have hP : va_P D vwCl [(h0, .inr (9, [.int fa, .int tc, .ref so, .ref sl, .ref ce, .int 0, .ref kd, .ref wd, .ref hs, .ref pr, .ref la, .int 0, .ref wg, .int ta, .long ck, .int at9, .int rfn, .ref rk, .ref rw, .ref rh, .int cl, .ref sa, .ref fi, .int bo, .ref ch, .ref cn, .int ad, .int ru, .ref kp, .int 0, .ref rfa]))] H := hP
    have hD : va_D A [(h0, .inr (9, [.int fa, .int tc, .ref so, .ref sl, .ref ce, .int 0, .ref kd, .ref wd, .ref hs, .ref pr, .ref la, .int 0, .ref wg, .int ta, .long ck, .int at9, .int rfn, .ref rk, .ref rw, .ref rh, .int cl, .ref sa, .ref fi, .int bo, .ref ch, .ref cn, .int ad, .int ru, .ref kp, .int 0, .ref rfa]))] := hD
    refine lv_aload_n hx hb dX9_back_25 rfl (lv_at hl 0 rfl) ?_
    refine va_get (D := D) (ci := 9) (v := .int 0) (C := RX9) (T := TX9) (N := 31) hx hb hts (fun _ h9 => List.mem_cons_of_mem _ (List.mem_append_right _ h9)) hown hK hP 0 rfl rfl 29 (by decide) (hts (.fieldLink RX9 104 "FontRunsModel" "readings" "I") (by decide +kernel)) (fun _ h9 => h9) rfl dX9_back_26 ?_
    exact W.iret (v := 0) hx hb hr (fun t ht hW => kQi_of (by first | rfl | (simp only [sp_zero, if_pos k_2]; done) | (simp [sp_zero, k_2]; done)) (hS.F ht)) hS.2.2 dX9_back_29
  · have k_3 : ¬ ((0 ≤ n ∧ n ≤ 0)) := b01f c_1
    refine lv_bipush (v := (-2)) hx hb dX9_back_12 (by decide) ?_
    exact W.iret (v := (-2)) hx hb hr (fun t ht hW => kQi_of (by first | rfl | (simp only [sp_zero, if_neg k_3]; done) | (simp [sp_zero, k_3]; done)) (hS.F ht)) hS.2.2 dX9_back_14
theorem dX9_erase_0 : decode cX9_erase 0 = .ok (.iload_n 1, 1) := by decide +kernel
theorem dX9_erase_1 : decode cX9_erase 1 = .ok (.iconst 0, 1) := by decide +kernel
theorem dX9_erase_2 : decode cX9_erase 2 = .ok (.aload_n 0, 1) := by decide +kernel
theorem dX9_erase_3 : decode cX9_erase 3 = .ok (.getfield 101, 3) := by decide +kernel
theorem dX9_erase_6 : decode cX9_erase 6 = .ok (.invokestatic 70, 3) := by decide +kernel
theorem dX9_erase_9 : decode cX9_erase 9 = .ok (.ifCond .ne 6, 3) := by decide +kernel
theorem dX9_erase_12 : decode cX9_erase 12 = .ok (.bipush (-2), 2) := by decide +kernel
theorem dX9_erase_14 : decode cX9_erase 14 = .ok (.ireturn, 1) := by decide +kernel
theorem dX9_erase_15 : decode cX9_erase 15 = .ok (.aload_n 0, 1) := by decide +kernel
theorem dX9_erase_16 : decode cX9_erase 16 = .ok (.dup, 1) := by decide +kernel
theorem dX9_erase_17 : decode cX9_erase 17 = .ok (.getfield 101, 3) := by decide +kernel
theorem dX9_erase_20 : decode cX9_erase 20 = .ok (.iload_n 1, 1) := by decide +kernel
theorem dX9_erase_21 : decode cX9_erase 21 = .ok (.isub, 1) := by decide +kernel
theorem dX9_erase_22 : decode cX9_erase 22 = .ok (.putfield 101, 3) := by decide +kernel
theorem dX9_erase_25 : decode cX9_erase 25 = .ok (.aload_n 0, 1) := by decide +kernel
theorem dX9_erase_26 : decode cX9_erase 26 = .ok (.getfield 101, 3) := by decide +kernel
theorem dX9_erase_29 : decode cX9_erase 29 = .ok (.ireturn, 1) := by decide +kernel
set_option maxRecDepth 20000 in
theorem ggX9_erase_X9_within : GoodIn wsX9_erase wsX9_within := goodIn_r _ [5] (by decide +kernel) (by decide +kernel)
set_option maxRecDepth 20000 in
theorem gX9_erase_X9_within : GoodIn wsX9_erase (va_wsS RX9 70 yX9_within wsX9_within) := goodIn_app (goodIn_of _ (by decide +kernel)) ggX9_erase_X9_within
set_option maxHeartbeats 4000000 in
set_option maxRecDepth 100000 in
theorem c_X9_erase (l : Launch) (D : va_G) (sz : Nat) (n : Int32) (h0 : Nat) (fa : Int32) (tc : Int32) (so : Nat) (sl : Nat) (ce : Nat) (kd : Nat) (wd : Nat) (hs : Nat) (pr : Nat) (la : Nat) (wg : Nat) (ta : Int32) (ck : Int64) (at9 : Int32) (rfn : Int32) (rk : Nat) (rw : Nat) (rh : Nat) (cl : Int32) (sa : Nat) (fi : Nat) (bo : Int32) (ch : Nat) (cn : Nat) (ad : Int32) (ru : Int32) (kp : Nat) (rfa : Nat) : Met l yX9_erase wsX9_erase ({ frames := 1, cells := 0, slots := 0, locals := 22 }) (kPre [.ref h0, .int n] D [(h0, .inr (9, [.int fa, .int tc, .ref so, .ref sl, .ref ce, .int 0, .ref kd, .ref wd, .ref hs, .ref pr, .ref la, .int 0, .ref wg, .int ta, .long ck, .int at9, .int rfn, .ref rk, .ref rw, .ref rh, .int cl, .ref sa, .ref fi, .int bo, .ref ch, .ref cn, .int ad, .int ru, .ref kp, .int 0, .ref rfa]))] [] sz) (kQi (sp_zero n) (va_A [(h0, .inr (9, [.int fa, .int tc, .ref so, .ref sl, .ref ce, .int 0, .ref kd, .ref wd, .ref hs, .ref pr, .ref la, .int 0, .ref wg, .int ta, .long ck, .int at9, .int rfn, .ref rk, .ref rw, .ref rh, .int cl, .ref sa, .ref fi, .int bo, .ref ch, .ref cn, .int ad, .int ru, .ref kp, .int 0, .ref rfa]))] sz)) 0 0 (va_A [(h0, .inr (9, [.int fa, .int tc, .ref so, .ref sl, .ref ce, .int 0, .ref kd, .ref wd, .ref hs, .ref pr, .ref la, .int 0, .ref wg, .int ta, .long ck, .int at9, .int rfn, .ref rk, .ref rw, .ref rh, .int cl, .ref sa, .ref fi, .int bo, .ref ch, .ref cn, .int ad, .int ru, .ref kp, .int 0, .ref rfa]))] sz) := by
  refine Met.ofW (cc := cX9_erase) (maxL := 2) (ret := (some .int)) (by decide) rfl ?_
  intro p e s m args below meth c s₁ B hml hv
  obtain ⟨rfl, hsz, hP, hK, hD0, hN⟩ := hv
  have hx := B.exec
  have hb := B.bytes
  have hr := B.returns
  have hts := atoms_spec (ws := wsX9_erase) B.pre
  have hown : s.vm.findClass RX9 = some m.cls := findClass_of_methodNamed B.named
  have hlocks := B.notSynchronized
  subst hsz
  have hD := hD0.self (sz := s.heap.size)
  generalize hAe : va_A [(h0, .inr (9, [.int fa, .int tc, .ref so, .ref sl, .ref ce, .int 0, .ref kd, .ref wd, .ref hs, .ref pr, .ref la, .int 0, .ref wg, .int ta, .long ck, .int at9, .int rfn, .ref rk, .ref rw, .ref rh, .int cl, .ref sa, .ref fi, .int bo, .ref ch, .ref cn, .int ad, .int ru, .ref kp, .int 0, .ref rfa]))] s.heap.size = A at hD ⊢
  have hA : ∀ q : Nat, s.heap.size ≤ q → A q := fun q h => by rw [← hAe]; exact Or.inr h
  have hS : va_S A s.heap s.heap [] := va_S.rf
  have hP : va_P D vwCl [(h0, .inr (9, [.int fa, .int tc, .ref so, .ref sl, .ref ce, .int 0, .ref kd, .ref wd, .ref hs, .ref pr, .ref la, .int 0, .ref wg, .int ta, .long ck, .int at9, .int rfn, .ref rk, .ref rw, .ref rh, .int cl, .ref sa, .ref fi, .int bo, .ref ch, .ref cn, .int ad, .int ru, .ref kp, .int 0, .ref rfa]))] s.heap := hP
  have hl := lv_entry ([.ref h0, .int n]) (n := 2) (Nat.le_of_ble_eq_true rfl)
  rw [lg_entry_eq]
  generalize (lg_sl ([.ref h0, .int n]) ++ List.replicate (2 - (lg_sl ([.ref h0, .int n])).length) Slot.unset).toArray = ls at hl ⊢
  have hl : lv_has ls 2 [(0, .ref h0), (1, .int n)] := hl
  refine lv_iload_n hx hb dX9_erase_0 rfl (lv_at hl 1 rfl) ?_
  refine lv_iconst (v := 0) hx hb dX9_erase_1 (by decide) ?_
  refine lv_aload_n hx hb dX9_erase_2 rfl (lv_at hl 0 rfl) ?_
  refine va_get (D := D) (ci := 9) (v := .int 0) (C := RX9) (T := TX9) (N := 31) hx hb hts (fun _ h9 => List.mem_cons_of_mem _ (List.mem_append_right _ h9)) hown hK hP 0 rfl rfl 11 (by decide) (hts (.fieldLink RX9 101 "FontRunsModel" "many" "I") (by decide +kernel)) (fun _ h9 => h9) rfl dX9_erase_3 ?_
  refine k_callR (va_runS (As := [.int n, .int 0, .int 0]) (rest := []) ⟨hx, hb, hml, hown, hts⟩ (c_X9_within l D s.heap.size (v := n) (a := 0) (b := 0)) (va_cwS 3 hts gX9_erase_X9_within rfl rfl rfl (by decide +kernel) ⟨Nat.le_of_ble_eq_true rfl, Nat.le_of_ble_eq_true rfl⟩) (kPreS hP (kD0 hD) hK hN [] [] rfl rfl (by decide)) rfl rfl hl.1 rfl (lv_room (Nat.le_of_ble_eq_true rfl)) dX9_erase_6 ⟨Nat.le_of_ble_eq_true rfl, Nat.le_of_ble_eq_true rfl⟩) ?_
  refine lv_if_ne (tgt := 15) hx hb dX9_erase_9 (by decide) (fun c_1 => ?_) (fun c_1 => ?_)
  · have k_2 : (0 ≤ n ∧ n ≤ 0) := b01t c_1
    have e9 := kz1 k_2
    subst e9
    refine lv_aload_n hx hb dX9_erase_15 rfl (lv_at hl 0 rfl) ?_
    refine lv_dup hx hb dX9_erase_16 rfl ?_
    refine va_get (D := D) (ci := 9) (v := .int 0) (C := RX9) (T := TX9) (N := 31) hx hb hts (fun _ h9 => List.mem_cons_of_mem _ (List.mem_append_right _ h9)) hown hK hP 0 rfl rfl 11 (by decide) (hts (.fieldLink RX9 101 "FontRunsModel" "many" "I") (by decide +kernel)) (fun _ h9 => h9) rfl dX9_erase_17 ?_
    refine lv_iload_n hx hb dX9_erase_20 rfl (lv_at hl 1 rfl) ?_
    refine lv_isub hx hb dX9_erase_21 ?_
    refine kn_i 0 (by decide) ?_
    refine va_put (D := D) (ci := 9) (v := .int 0) (ty := .int) (C := RX9) (T := TX9) (N := 31) hx hb hts (fun _ h9 => List.mem_cons_of_mem _ (List.mem_append_right _ h9)) tyX9 tyX9_ok nmX9 hown hK hP hD hS 0 rfl rfl 11 (by decide) (hts (.fieldLink RX9 101 "FontRunsModel" "many" "I") (by decide +kernel)) (fun _ h9 => h9) rfl (by decide +kernel) rfl rfl (Nat.le_of_ble_eq_true rfl) dX9_erase_22 (fun H locs hP hD hS => ?_)
    have hP : va_P D vwCl [(h0, .inr (9, [.int fa, .int tc, .ref so, .ref sl, .ref ce, .int 0, .ref kd, .ref wd, .ref hs, .ref pr, .ref la, .int 0, .ref wg, .int ta, .long ck, .int at9, .int rfn, .ref rk, .ref rw, .ref rh, .int cl, .ref sa, .ref fi, .int bo, .ref ch, .ref cn, .int ad, .int ru, .ref kp, .int 0, .ref rfa]))] H := hP
    have hD : va_D A [(h0, .inr (9, [.int fa, .int tc, .ref so, .ref sl, .ref ce, .int 0, .ref kd, .ref wd, .ref hs, .ref pr, .ref la, .int 0, .ref wg, .int ta, .long ck, .int at9, .int rfn, .ref rk, .ref rw, .ref rh, .int cl, .ref sa, .ref fi, .int bo, .ref ch, .ref cn, .int ad, .int ru, .ref kp, .int 0, .ref rfa]))] := hD
    refine lv_aload_n hx hb dX9_erase_25 rfl (lv_at hl 0 rfl) ?_
    refine va_get (D := D) (ci := 9) (v := .int 0) (C := RX9) (T := TX9) (N := 31) hx hb hts (fun _ h9 => List.mem_cons_of_mem _ (List.mem_append_right _ h9)) hown hK hP 0 rfl rfl 11 (by decide) (hts (.fieldLink RX9 101 "FontRunsModel" "many" "I") (by decide +kernel)) (fun _ h9 => h9) rfl dX9_erase_26 ?_
    exact W.iret (v := 0) hx hb hr (fun t ht hW => kQi_of (by first | rfl | (simp only [sp_zero, if_pos k_2]; done) | (simp [sp_zero, k_2]; done)) (hS.F ht)) hS.2.2 dX9_erase_29
  · have k_3 : ¬ ((0 ≤ n ∧ n ≤ 0)) := b01f c_1
    refine lv_bipush (v := (-2)) hx hb dX9_erase_12 (by decide) ?_
    exact W.iret (v := (-2)) hx hb hr (fun t ht hW => kQi_of (by first | rfl | (simp only [sp_zero, if_neg k_3]; done) | (simp [sp_zero, k_3]; done)) (hS.F ht)) hS.2.2 dX9_erase_14
theorem dX9_lose_0 : decode cX9_lose 0 = .ok (.iload_n 1, 1) := by decide +kernel
theorem dX9_lose_1 : decode cX9_lose 1 = .ok (.invokestatic 80, 3) := by decide +kernel
theorem dX9_lose_4 : decode cX9_lose 4 = .ok (.ifCond .ne 5, 3) := by decide +kernel
theorem dX9_lose_7 : decode cX9_lose 7 = .ok (.iconst (-1), 1) := by decide +kernel
theorem dX9_lose_8 : decode cX9_lose 8 = .ok (.ireturn, 1) := by decide +kernel
theorem dX9_lose_9 : decode cX9_lose 9 = .ok (.aload_n 0, 1) := by decide +kernel
theorem dX9_lose_10 : decode cX9_lose 10 = .ok (.getfield 9, 3) := by decide +kernel
theorem dX9_lose_13 : decode cX9_lose 13 = .ok (.iload_n 1, 1) := by decide +kernel
theorem dX9_lose_14 : decode cX9_lose 14 = .ok (.iaload, 1) := by decide +kernel
theorem dX9_lose_15 : decode cX9_lose 15 = .ok (.bipush (-9), 2) := by decide +kernel
theorem dX9_lose_17 : decode cX9_lose 17 = .ok (.if_icmp .ne 7, 3) := by decide +kernel
theorem dX9_lose_20 : decode cX9_lose 20 = .ok (.iconst 0, 1) := by decide +kernel
theorem dX9_lose_21 : decode cX9_lose 21 = .ok (.goto 4, 3) := by decide +kernel
theorem dX9_lose_25 : decode cX9_lose 25 = .ok (.istore_n 2, 1) := by decide +kernel
theorem dX9_lose_26 : decode cX9_lose 26 = .ok (.aload_n 0, 1) := by decide +kernel
theorem dX9_lose_27 : decode cX9_lose 27 = .ok (.getfield 9, 3) := by decide +kernel
theorem dX9_lose_30 : decode cX9_lose 30 = .ok (.iload_n 1, 1) := by decide +kernel
theorem dX9_lose_31 : decode cX9_lose 31 = .ok (.bipush (-9), 2) := by decide +kernel
theorem dX9_lose_33 : decode cX9_lose 33 = .ok (.iastore, 1) := by decide +kernel
theorem dX9_lose_34 : decode cX9_lose 34 = .ok (.iload_n 2, 1) := by decide +kernel
theorem dX9_lose_35 : decode cX9_lose 35 = .ok (.ireturn, 1) := by decide +kernel
set_option maxRecDepth 20000 in
theorem ggX9_lose_X9_isSheet : GoodIn wsX9_lose wsX9_isSheet := goodIn_r _ [5, 6, 7, 4, 8] (by decide +kernel) (by decide +kernel)
set_option maxRecDepth 20000 in
theorem gX9_lose_X9_isSheet : GoodIn wsX9_lose (va_wsS RX9 80 yX9_isSheet wsX9_isSheet) := goodIn_app (goodIn_of _ (by decide +kernel)) ggX9_lose_X9_isSheet
set_option maxHeartbeats 4000000 in
set_option maxRecDepth 100000 in
theorem c_X9_lose (l : Launch) (D : va_G) (sz : Nat) (k : Int32) (h0 : Nat) (fa : Int32) (tc : Int32) (so : Nat) (sl : Nat) (ce : Nat) (kd : Nat) (wd : Nat) (hs : Nat) (pr : Nat) (la : Nat) (wg : Nat) (ta : Int32) (ck : Int64) (at9 : Int32) (rfn : Int32) (rk : Nat) (rw : Nat) (rh : Nat) (cl : Int32) (sa : Nat) (fi : Nat) (bo : Int32) (ch : Nat) (cn : Nat) (ad : Int32) (ru : Int32) (kp : Nat) (rfa : Nat) (cso : ClassId) : Met l yX9_lose wsX9_lose ({ frames := 2, cells := 0, slots := 0, locals := 42 }) (kPre [.ref h0, .int k] D [(h0, .inr (9, [.int fa, .int tc, .ref so, .ref sl, .ref ce, .int 0, .ref kd, .ref wd, .ref hs, .ref pr, .ref la, .int 0, .ref wg, .int ta, .long ck, .int at9, .int rfn, .ref rk, .ref rw, .ref rh, .int cl, .ref sa, .ref fi, .int bo, .ref ch, .ref cn, .int ad, .int ru, .ref kp, .int 0, .ref rfa])), (so, .inl (cso, 4, .inl kSO))] [(cso, .int)] sz) (kQi (sp_lose k) (va_A [(h0, .inr (9, [.int fa, .int tc, .ref so, .ref sl, .ref ce, .int 0, .ref kd, .ref wd, .ref hs, .ref pr, .ref la, .int 0, .ref wg, .int ta, .long ck, .int at9, .int rfn, .ref rk, .ref rw, .ref rh, .int cl, .ref sa, .ref fi, .int bo, .ref ch, .ref cn, .int ad, .int ru, .ref kp, .int 0, .ref rfa])), (so, .inl (cso, 4, .inl kSO))] sz)) 0 0 (va_A [(h0, .inr (9, [.int fa, .int tc, .ref so, .ref sl, .ref ce, .int 0, .ref kd, .ref wd, .ref hs, .ref pr, .ref la, .int 0, .ref wg, .int ta, .long ck, .int at9, .int rfn, .ref rk, .ref rw, .ref rh, .int cl, .ref sa, .ref fi, .int bo, .ref ch, .ref cn, .int ad, .int ru, .ref kp, .int 0, .ref rfa])), (so, .inl (cso, 4, .inl kSO))] sz) := by
  refine Met.ofW (cc := cX9_lose) (maxL := 3) (ret := (some .int)) (by decide) rfl ?_
  intro p e s m args below meth c s₁ B hml hv
  obtain ⟨rfl, hsz, hP, hK, hD0, hN⟩ := hv
  have hx := B.exec
  have hb := B.bytes
  have hr := B.returns
  have hts := atoms_spec (ws := wsX9_lose) B.pre
  have hown : s.vm.findClass RX9 = some m.cls := findClass_of_methodNamed B.named
  have hlocks := B.notSynchronized
  subst hsz
  have hD := hD0.self (sz := s.heap.size)
  generalize hAe : va_A [(h0, .inr (9, [.int fa, .int tc, .ref so, .ref sl, .ref ce, .int 0, .ref kd, .ref wd, .ref hs, .ref pr, .ref la, .int 0, .ref wg, .int ta, .long ck, .int at9, .int rfn, .ref rk, .ref rw, .ref rh, .int cl, .ref sa, .ref fi, .int bo, .ref ch, .ref cn, .int ad, .int ru, .ref kp, .int 0, .ref rfa])), (so, .inl (cso, 4, .inl kSO))] s.heap.size = A at hD ⊢
  have hA : ∀ q : Nat, s.heap.size ≤ q → A q := fun q h => by rw [← hAe]; exact Or.inr h
  have hS : va_S A s.heap s.heap [] := va_S.rf
  have hP : va_P D vwCl [(h0, .inr (9, [.int fa, .int tc, .ref so, .ref sl, .ref ce, .int 0, .ref kd, .ref wd, .ref hs, .ref pr, .ref la, .int 0, .ref wg, .int ta, .long ck, .int at9, .int rfn, .ref rk, .ref rw, .ref rh, .int cl, .ref sa, .ref fi, .int bo, .ref ch, .ref cn, .int ad, .int ru, .ref kp, .int 0, .ref rfa])), (so, .inl (cso, 4, .inl kSO))] s.heap := hP
  have hl := lv_entry ([.ref h0, .int k]) (n := 3) (Nat.le_of_ble_eq_true rfl)
  rw [lg_entry_eq]
  generalize (lg_sl ([.ref h0, .int k]) ++ List.replicate (3 - (lg_sl ([.ref h0, .int k])).length) Slot.unset).toArray = ls at hl ⊢
  have hl : lv_has ls 3 [(0, .ref h0), (1, .int k)] := hl
  refine lv_iload_n hx hb dX9_lose_0 rfl (lv_at hl 1 rfl) ?_
  refine k_callR (va_runS (As := [.int k]) (rest := []) ⟨hx, hb, hml, hown, hts⟩ (c_X9_isSheet l D s.heap.size (k := k)) (va_cwS 1 hts gX9_lose_X9_isSheet rfl rfl rfl (by decide +kernel) ⟨Nat.le_of_ble_eq_true rfl, Nat.le_of_ble_eq_true rfl⟩) (kPreS hP (kD0 hD) hK hN [] [] rfl rfl (by decide)) rfl rfl hl.1 rfl (lv_room (Nat.le_of_ble_eq_true rfl)) dX9_lose_1 ⟨Nat.le_of_ble_eq_true rfl, Nat.le_of_ble_eq_true rfl⟩) ?_
  refine lv_if_ne (tgt := 9) hx hb dX9_lose_4 (by decide) (fun c_1 => ?_) (fun c_1 => ?_)
  · have k_2 : (0 ≤ k ∧ k ≤ 3) := b01t c_1
    refine lv_aload_n hx hb dX9_lose_9 rfl (lv_at hl 0 rfl) ?_
    refine va_get (D := D) (ci := 9) (v := .ref so) (C := RX9) (T := TX9) (N := 31) hx hb hts (fun _ h9 => List.mem_cons_of_mem _ (List.mem_append_right _ h9)) hown hK hP 0 rfl rfl 2 (by decide) (hts (.fieldLink RX9 9 "FontRunsModel" "sorts" "[I") (by decide +kernel)) (fun _ h9 => h9) rfl dX9_lose_10 ?_
    refine lv_iload_n hx hb dX9_lose_13 rfl (lv_at hl 1 rfl) ?_
    refine va_iald hx hb hK hP 1 0 rfl rfl (k4in k_2) dX9_lose_14 ?_
    refine kn_i (-9) (kso k_2) ?_
    refine lv_bipush (v := (-9)) hx hb dX9_lose_15 (by decide) ?_
    refine lv_icmp_ne (tgt := 24) hx hb dX9_lose_17 (by decide) (fun c9 => absurd (by decide) c9) (fun _ => ?_)
    refine lv_iconst (v := 0) hx hb dX9_lose_20 (by decide) ?_
    refine lv_goto (tgt := 25) hx hb dX9_lose_21 (by decide) ?_
    refine lv_istore_n (lv' := [(2, .int 0), (0, .ref h0), (1, .int k)]) hx hb dX9_lose_25 rfl hl (by decide) rfl (fun ls hl => ?_)
    refine lv_aload_n hx hb dX9_lose_26 rfl (lv_at hl 1 rfl) ?_
    refine va_get (D := D) (ci := 9) (v := .ref so) (C := RX9) (T := TX9) (N := 31) hx hb hts (fun _ h9 => List.mem_cons_of_mem _ (List.mem_append_right _ h9)) hown hK hP 0 rfl rfl 2 (by decide) (hts (.fieldLink RX9 9 "FontRunsModel" "sorts" "[I") (by decide +kernel)) (fun _ h9 => h9) rfl dX9_lose_27 ?_
    refine lv_iload_n hx hb dX9_lose_30 rfl (lv_at hl 2 rfl) ?_
    refine lv_bipush (v := (-9)) hx hb dX9_lose_31 (by decide) ?_
    refine va_iast hx hb hK hP hD hS 1 0 rfl rfl (k4in k_2) dX9_lose_33 (fun H locs hP hD hS => ?_)
    have hP : va_P D vwCl [(h0, .inr (9, [.int fa, .int tc, .ref so, .ref sl, .ref ce, .int 0, .ref kd, .ref wd, .ref hs, .ref pr, .ref la, .int 0, .ref wg, .int ta, .long ck, .int at9, .int rfn, .ref rk, .ref rw, .ref rh, .int cl, .ref sa, .ref fi, .int bo, .ref ch, .ref cn, .int ad, .int ru, .ref kp, .int 0, .ref rfa])), (so, .inl (cso, 4, .inl (upd (kSO) (k).toNatClampNeg (-9))))] H := hP
    have hD : va_D A [(h0, .inr (9, [.int fa, .int tc, .ref so, .ref sl, .ref ce, .int 0, .ref kd, .ref wd, .ref hs, .ref pr, .ref la, .int 0, .ref wg, .int ta, .long ck, .int at9, .int rfn, .ref rk, .ref rw, .ref rh, .int cl, .ref sa, .ref fi, .int bo, .ref ch, .ref cn, .int ad, .int ru, .ref kp, .int 0, .ref rfa])), (so, .inl (cso, 4, .inl (upd (kSO) (k).toNatClampNeg (-9))))] := hD
    generalize upd (kSO) (k).toNatClampNeg (-9) = f_3 at hP hD
    refine lv_iload_n hx hb dX9_lose_34 rfl (lv_at hl 0 rfl) ?_
    exact W.iret (v := 0) hx hb hr (fun t ht hW => kQi_of (by first | rfl | (simp only [sp_lose, if_pos k_2]; done) | (simp [sp_lose, k_2]; done)) (hS.F ht)) hS.2.2 dX9_lose_35
  · have k_4 : ¬ ((0 ≤ k ∧ k ≤ 3)) := b01f c_1
    refine lv_iconst (v := (-1)) hx hb dX9_lose_7 (by decide) ?_
    exact W.iret (v := (-1)) hx hb hr (fun t ht hW => kQi_of (by first | rfl | (simp only [sp_lose, if_neg k_4]; done) | (simp [sp_lose, k_4]; done)) (hS.F ht)) hS.2.2 dX9_lose_8
theorem dX9_put_0 : decode cX9_put 0 = .ok (.aload_n 0, 1) := by decide +kernel
theorem dX9_put_1 : decode cX9_put 1 = .ok (.iconst 0, 1) := by decide +kernel
theorem dX9_put_2 : decode cX9_put 2 = .ok (.putfield 64, 3) := by decide +kernel
theorem dX9_put_5 : decode cX9_put 5 = .ok (.iload_n 1, 1) := by decide +kernel
theorem dX9_put_6 : decode cX9_put 6 = .ok (.invokestatic 80, 3) := by decide +kernel
theorem dX9_put_9 : decode cX9_put 9 = .ok (.ifCond .ne 5, 3) := by decide +kernel
theorem dX9_put_12 : decode cX9_put 12 = .ok (.iconst (-1), 1) := by decide +kernel
theorem dX9_put_13 : decode cX9_put 13 = .ok (.ireturn, 1) := by decide +kernel
theorem dX9_put_14 : decode cX9_put 14 = .ok (.aload_n 0, 1) := by decide +kernel
theorem dX9_put_15 : decode cX9_put 15 = .ok (.getfield 9, 3) := by decide +kernel
theorem dX9_put_18 : decode cX9_put 18 = .ok (.iload_n 1, 1) := by decide +kernel
theorem dX9_put_19 : decode cX9_put 19 = .ok (.iaload, 1) := by decide +kernel
theorem dX9_put_20 : decode cX9_put 20 = .ok (.bipush (-9), 2) := by decide +kernel
theorem dX9_put_22 : decode cX9_put 22 = .ok (.if_icmp .ne 9, 3) := by decide +kernel
theorem dX9_put_25 : decode cX9_put 25 = .ok (.aload_n 0, 1) := by decide +kernel
theorem dX9_put_26 : decode cX9_put 26 = .ok (.iconst 1, 1) := by decide +kernel
theorem dX9_put_27 : decode cX9_put 27 = .ok (.invokevirtual 91, 3) := by decide +kernel
theorem dX9_put_30 : decode cX9_put 30 = .ok (.ireturn, 1) := by decide +kernel
set_option maxRecDepth 20000 in
theorem ggX9_put_X9_fails : GoodIn wsX9_put wsX9_fails := goodIn_r _ [15, 1, 16, 17, 18, 19, 20, 21, 22, 23, 24, 25, 26, 27, 28, 29, 30, 31, 32, 33, 34, 35, 36, 37, 38, 39, 40, 41, 42, 43, 44, 45, 46] (by decide +kernel) (by decide +kernel)
set_option maxRecDepth 20000 in
theorem gX9_put_X9_fails : GoodIn wsX9_put (wsV RX9 91 RX9 yX9_fails wsX9_fails) := goodIn_app (goodIn_of _ (by decide +kernel)) ggX9_put_X9_fails
set_option maxRecDepth 20000 in
theorem ggX9_put_X9_isSheet : GoodIn wsX9_put wsX9_isSheet := goodIn_r _ [8, 9, 10, 7, 11] (by decide +kernel) (by decide +kernel)
set_option maxRecDepth 20000 in
theorem gX9_put_X9_isSheet : GoodIn wsX9_put (va_wsS RX9 80 yX9_isSheet wsX9_isSheet) := goodIn_app (goodIn_of _ (by decide +kernel)) ggX9_put_X9_isSheet
set_option maxHeartbeats 4000000 in
set_option maxRecDepth 100000 in
theorem c_X9_put (l : Launch) (D : va_G) (sz : Nat) (k : Int32) (i : Int32) (z : Int32) (h0 : Nat) (fa : Int32) (tc : Int32) (so : Nat) (sl : Nat) (ce : Nat) (kd : Nat) (wd : Nat) (hs : Nat) (pr : Nat) (la : Nat) (wg : Nat) (ta : Int32) (ck : Int64) (at9 : Int32) (rfn : Int32) (rk : Nat) (rw : Nat) (rh : Nat) (cl : Int32) (sa : Nat) (fi : Nat) (bo : Int32) (ch : Nat) (cn : Nat) (ad : Int32) (ru : Int32) (kp : Nat) (rfa : Nat) (cso : ClassId) : Met l yX9_put wsX9_put ({ frames := 2, cells := 0, slots := 0, locals := 42 }) (kPre [.ref h0, .int k, .int i, .int z] D [(h0, .inr (9, [.int fa, .int tc, .ref so, .ref sl, .ref ce, .int 0, .ref kd, .ref wd, .ref hs, .ref pr, .ref la, .int 0, .ref wg, .int ta, .long ck, .int at9, .int rfn, .ref rk, .ref rw, .ref rh, .int cl, .ref sa, .ref fi, .int bo, .ref ch, .ref cn, .int ad, .int ru, .ref kp, .int 0, .ref rfa])), (so, .inl (cso, 4, .inl kSO))] [(cso, .int)] sz) (kQi (sp_put k) (va_A [(h0, .inr (9, [.int fa, .int tc, .ref so, .ref sl, .ref ce, .int 0, .ref kd, .ref wd, .ref hs, .ref pr, .ref la, .int 0, .ref wg, .int ta, .long ck, .int at9, .int rfn, .ref rk, .ref rw, .ref rh, .int cl, .ref sa, .ref fi, .int bo, .ref ch, .ref cn, .int ad, .int ru, .ref kp, .int 0, .ref rfa])), (so, .inl (cso, 4, .inl kSO))] sz)) 0 0 (va_A [(h0, .inr (9, [.int fa, .int tc, .ref so, .ref sl, .ref ce, .int 0, .ref kd, .ref wd, .ref hs, .ref pr, .ref la, .int 0, .ref wg, .int ta, .long ck, .int at9, .int rfn, .ref rk, .ref rw, .ref rh, .int cl, .ref sa, .ref fi, .int bo, .ref ch, .ref cn, .int ad, .int ru, .ref kp, .int 0, .ref rfa])), (so, .inl (cso, 4, .inl kSO))] sz) := by
  refine Met.ofW (cc := cX9_put) (maxL := 4) (ret := (some .int)) (by decide) rfl ?_
  intro p e s m args below meth c s₁ B hml hv
  obtain ⟨rfl, hsz, hP, hK, hD0, hN⟩ := hv
  have hx := B.exec
  have hb := B.bytes
  have hr := B.returns
  have hts := atoms_spec (ws := wsX9_put) B.pre
  have hown : s.vm.findClass RX9 = some m.cls := findClass_of_methodNamed B.named
  have hlocks := B.notSynchronized
  subst hsz
  have hD := hD0.self (sz := s.heap.size)
  generalize hAe : va_A [(h0, .inr (9, [.int fa, .int tc, .ref so, .ref sl, .ref ce, .int 0, .ref kd, .ref wd, .ref hs, .ref pr, .ref la, .int 0, .ref wg, .int ta, .long ck, .int at9, .int rfn, .ref rk, .ref rw, .ref rh, .int cl, .ref sa, .ref fi, .int bo, .ref ch, .ref cn, .int ad, .int ru, .ref kp, .int 0, .ref rfa])), (so, .inl (cso, 4, .inl kSO))] s.heap.size = A at hD ⊢
  have hA : ∀ q : Nat, s.heap.size ≤ q → A q := fun q h => by rw [← hAe]; exact Or.inr h
  have hS : va_S A s.heap s.heap [] := va_S.rf
  have hP : va_P D vwCl [(h0, .inr (9, [.int fa, .int tc, .ref so, .ref sl, .ref ce, .int 0, .ref kd, .ref wd, .ref hs, .ref pr, .ref la, .int 0, .ref wg, .int ta, .long ck, .int at9, .int rfn, .ref rk, .ref rw, .ref rh, .int cl, .ref sa, .ref fi, .int bo, .ref ch, .ref cn, .int ad, .int ru, .ref kp, .int 0, .ref rfa])), (so, .inl (cso, 4, .inl kSO))] s.heap := hP
  have hl := lv_entry ([.ref h0, .int k, .int i, .int z]) (n := 4) (Nat.le_of_ble_eq_true rfl)
  rw [lg_entry_eq]
  generalize (lg_sl ([.ref h0, .int k, .int i, .int z]) ++ List.replicate (4 - (lg_sl ([.ref h0, .int k, .int i, .int z])).length) Slot.unset).toArray = ls at hl ⊢
  have hl : lv_has ls 4 [(0, .ref h0), (1, .int k), (2, .int i), (3, .int z)] := hl
  refine lv_aload_n hx hb dX9_put_0 rfl (lv_at hl 0 rfl) ?_
  refine lv_iconst (v := 0) hx hb dX9_put_1 (by decide) ?_
  refine va_put (D := D) (ci := 9) (v := .int 0) (ty := .int) (C := RX9) (T := TX9) (N := 31) hx hb hts (fun _ h9 => List.mem_cons_of_mem _ (List.mem_append_right _ h9)) tyX9 tyX9_ok nmX9 hown hK hP hD hS 0 rfl rfl 0 (by decide) (hts (.fieldLink RX9 64 "FontRunsModel" "fault" "I") (by decide +kernel)) (fun _ h9 => h9) rfl (by decide +kernel) rfl rfl (Nat.le_of_ble_eq_true rfl) dX9_put_2 (fun H locs hP hD hS => ?_)
  have hP : va_P D vwCl [(h0, .inr (9, [.int 0, .int tc, .ref so, .ref sl, .ref ce, .int 0, .ref kd, .ref wd, .ref hs, .ref pr, .ref la, .int 0, .ref wg, .int ta, .long ck, .int at9, .int rfn, .ref rk, .ref rw, .ref rh, .int cl, .ref sa, .ref fi, .int bo, .ref ch, .ref cn, .int ad, .int ru, .ref kp, .int 0, .ref rfa])), (so, .inl (cso, 4, .inl kSO))] H := hP
  have hD : va_D A [(h0, .inr (9, [.int 0, .int tc, .ref so, .ref sl, .ref ce, .int 0, .ref kd, .ref wd, .ref hs, .ref pr, .ref la, .int 0, .ref wg, .int ta, .long ck, .int at9, .int rfn, .ref rk, .ref rw, .ref rh, .int cl, .ref sa, .ref fi, .int bo, .ref ch, .ref cn, .int ad, .int ru, .ref kp, .int 0, .ref rfa])), (so, .inl (cso, 4, .inl kSO))] := hD
  refine lv_iload_n hx hb dX9_put_5 rfl (lv_at hl 1 rfl) ?_
  refine k_callR (va_runS (As := [.int k]) (rest := []) ⟨hx, hb, hml, hown, hts⟩ (c_X9_isSheet l D H.size (k := k)) (va_cwS 1 hts gX9_put_X9_isSheet rfl rfl rfl (by decide +kernel) ⟨Nat.le_of_ble_eq_true rfl, Nat.le_of_ble_eq_true rfl⟩) (kPreS hP (kD0 hD) hK hN [] [] rfl rfl (by decide)) rfl rfl hl.1 rfl (lv_room (Nat.le_of_ble_eq_true rfl)) dX9_put_6 ⟨Nat.le_of_ble_eq_true rfl, Nat.le_of_ble_eq_true rfl⟩) ?_
  refine lv_if_ne (tgt := 14) hx hb dX9_put_9 (by decide) (fun c_1 => ?_) (fun c_1 => ?_)
  · have k_2 : (0 ≤ k ∧ k ≤ 3) := b01t c_1
    refine lv_aload_n hx hb dX9_put_14 rfl (lv_at hl 0 rfl) ?_
    refine va_get (D := D) (ci := 9) (v := .ref so) (C := RX9) (T := TX9) (N := 31) hx hb hts (fun _ h9 => List.mem_cons_of_mem _ (List.mem_append_right _ h9)) hown hK hP 0 rfl rfl 2 (by decide) (hts (.fieldLink RX9 9 "FontRunsModel" "sorts" "[I") (by decide +kernel)) (fun _ h9 => h9) rfl dX9_put_15 ?_
    refine lv_iload_n hx hb dX9_put_18 rfl (lv_at hl 1 rfl) ?_
    refine va_iald hx hb hK hP 1 0 rfl rfl (k4in k_2) dX9_put_19 ?_
    refine kn_i (-9) (kso k_2) ?_
    refine lv_bipush (v := (-9)) hx hb dX9_put_20 (by decide) ?_
    refine lv_icmp_ne (tgt := 31) hx hb dX9_put_22 (by decide) (fun c9 => absurd (by decide) c9) (fun _ => ?_)
    refine lv_aload_n hx hb dX9_put_25 rfl (lv_at hl 0 rfl) ?_
    refine lv_iconst (v := 1) hx hb dX9_put_26 (by decide) ?_
    have hFc := va_free (wc := [(h0, .inr (9, [.int 0, .int tc, .ref so, .ref sl, .ref ce, .int 0, .ref kd, .ref wd, .ref hs, .ref pr, .ref la, .int 0, .ref wg, .int ta, .long ck, .int at9, .int rfn, .ref rk, .ref rw, .ref rh, .int cl, .ref sa, .ref fi, .int bo, .ref ch, .ref cn, .int ad, .int ru, .ref kp, .int 0, .ref rfa]))]) hD hS hA [0] rfl
    refine va_calli (va_runV (As := [.int 1]) (rest := []) ⟨hx, hb, hml, hown, hts⟩ (c_X9_fails l D H.size (f := 1) (h0 := h0) (fa := 0) (tc := tc) (so := so) (sl := sl) (ce := ce) (kd := kd) (wd := wd) (hs := hs) (pr := pr) (la := la) (wg := wg) (ta := ta) (ck := ck) (at9 := at9) (rfn := rfn) (rk := rk) (rw := rw) (rh := rh) (cl := cl) (sa := sa) (fi := fi) (bo := bo) (ch := ch) (cn := cn) (ad := ad) (ru := ru) (kp := kp) (rfa := rfa)) (cwV 1 hts gX9_put_X9_fails rfl rfl rfl (by decide +kernel) ⟨Nat.le_of_ble_eq_true rfl, Nat.le_of_ble_eq_true rfl⟩) (kPreV hP (kD0 hD) hK hN [0] [] rfl rfl (by decide) 0 9 rfl rfl) rfl rfl hl.1 rfl (lv_room (Nat.le_of_ble_eq_true rfl)) dX9_put_27 ⟨Nat.le_of_ble_eq_true rfl, Nat.le_of_ble_eq_true rfl⟩) hS (fun q _ h => hFc q h) hFc (fun r_3 u t H1 locs ht hvm hw hB hz1 hk1 hS => ?_)
    obtain ⟨hP, hD⟩ := va_join (wr := [(so, .inl (cso, 4, .inl kSO))]) (w1 := []) hP hD [0] [1] rfl rfl (by decide) (by decide) hk1 hFc kP0 kDn
    generalize H1 = H at hP hS ⊢
    have hP : va_P D vwCl [(so, .inl (cso, 4, .inl kSO))] H := hP
    have hD : va_D A [(so, .inl (cso, 4, .inl kSO))] := hD
    refine kn_i ((-10) - 1) hw ?_
    refine kn_i (-11) (by decide) ?_
    exact W.iret (v := (-11)) hx hb hr (fun t ht hW => kQi_of (by first | rfl | (simp only [sp_put, if_pos k_2]; done) | (simp [sp_put, k_2]; done)) (hS.F ht)) hS.2.2 dX9_put_30
  · have k_4 : ¬ ((0 ≤ k ∧ k ≤ 3)) := b01f c_1
    refine lv_iconst (v := (-1)) hx hb dX9_put_12 (by decide) ?_
    exact W.iret (v := (-1)) hx hb hr (fun t ht hW => kQi_of (by first | rfl | (simp only [sp_put, if_neg k_4]; done) | (simp [sp_put, k_4]; done)) (hS.F ht)) hS.2.2 dX9_put_13
theorem dX9_cell_0 : decode cX9_cell 0 = .ok (.aload_n 0, 1) := by decide +kernel
theorem dX9_cell_1 : decode cX9_cell 1 = .ok (.iconst 0, 1) := by decide +kernel
theorem dX9_cell_2 : decode cX9_cell 2 = .ok (.putfield 64, 3) := by decide +kernel
theorem dX9_cell_5 : decode cX9_cell 5 = .ok (.iload_n 1, 1) := by decide +kernel
theorem dX9_cell_6 : decode cX9_cell 6 = .ok (.invokestatic 80, 3) := by decide +kernel
theorem dX9_cell_9 : decode cX9_cell 9 = .ok (.ifCond .eq 10, 3) := by decide +kernel
theorem dX9_cell_12 : decode cX9_cell 12 = .ok (.iload_n 3, 1) := by decide +kernel
theorem dX9_cell_13 : decode cX9_cell 13 = .ok (.invokestatic 84, 3) := by decide +kernel
theorem dX9_cell_16 : decode cX9_cell 16 = .ok (.ifCond .ne 7, 3) := by decide +kernel
theorem dX9_cell_19 : decode cX9_cell 19 = .ok (.ldc2_w 68, 3) := by decide +kernel
theorem dX9_cell_22 : decode cX9_cell 22 = .ok (.lreturn, 1) := by decide +kernel
theorem dX9_cell_23 : decode cX9_cell 23 = .ok (.aload_n 0, 1) := by decide +kernel
theorem dX9_cell_24 : decode cX9_cell 24 = .ok (.getfield 9, 3) := by decide +kernel
theorem dX9_cell_27 : decode cX9_cell 27 = .ok (.iload_n 1, 1) := by decide +kernel
theorem dX9_cell_28 : decode cX9_cell 28 = .ok (.iaload, 1) := by decide +kernel
theorem dX9_cell_29 : decode cX9_cell 29 = .ok (.bipush (-9), 2) := by decide +kernel
theorem dX9_cell_31 : decode cX9_cell 31 = .ok (.if_icmp .eq 19, 3) := by decide +kernel
theorem dX9_cell_50 : decode cX9_cell 50 = .ok (.aload_n 0, 1) := by decide +kernel
theorem dX9_cell_51 : decode cX9_cell 51 = .ok (.getfield 9, 3) := by decide +kernel
theorem dX9_cell_54 : decode cX9_cell 54 = .ok (.iload_n 1, 1) := by decide +kernel
theorem dX9_cell_55 : decode cX9_cell 55 = .ok (.iaload, 1) := by decide +kernel
theorem dX9_cell_56 : decode cX9_cell 56 = .ok (.bipush (-9), 2) := by decide +kernel
theorem dX9_cell_58 : decode cX9_cell 58 = .ok (.if_icmp .ne 9, 3) := by decide +kernel
theorem dX9_cell_61 : decode cX9_cell 61 = .ok (.aload_n 0, 1) := by decide +kernel
theorem dX9_cell_62 : decode cX9_cell 62 = .ok (.iconst 1, 1) := by decide +kernel
theorem dX9_cell_63 : decode cX9_cell 63 = .ok (.invokevirtual 206, 3) := by decide +kernel
theorem dX9_cell_66 : decode cX9_cell 66 = .ok (.lreturn, 1) := by decide +kernel
set_option maxRecDepth 20000 in
theorem ggX9_cell_X9_isSheet : GoodIn wsX9_cell wsX9_isSheet := goodIn_r _ [9, 10, 11, 8, 12] (by decide +kernel) (by decide +kernel)
set_option maxRecDepth 20000 in
theorem gX9_cell_X9_isSheet : GoodIn wsX9_cell (va_wsS RX9 80 yX9_isSheet wsX9_isSheet) := goodIn_app (goodIn_of _ (by decide +kernel)) ggX9_cell_X9_isSheet
set_option maxRecDepth 20000 in
theorem ggX9_cell_X9_isSort : GoodIn wsX9_cell wsX9_isSort := goodIn_r _ [15, 10, 11, 8, 12] (by decide +kernel) (by decide +kernel)
set_option maxRecDepth 20000 in
theorem gX9_cell_X9_isSort : GoodIn wsX9_cell (va_wsS RX9 84 yX9_isSort wsX9_isSort) := goodIn_app (goodIn_of _ (by decide +kernel)) ggX9_cell_X9_isSort
set_option maxRecDepth 20000 in
theorem ggX9_cell_X9_lost : GoodIn wsX9_cell wsX9_lost := goodIn_r _ [19, 1, 2, 20, 21, 22, 23, 24, 25, 26, 27, 28, 29, 30, 31, 32, 33, 34, 35, 36, 37, 38, 39, 40, 41, 42, 43, 44, 45, 46, 47, 48, 49, 50] (by decide +kernel) (by decide +kernel)
set_option maxRecDepth 20000 in
theorem gX9_cell_X9_lost : GoodIn wsX9_cell (wsV RX9 206 RX9 yX9_lost wsX9_lost) := goodIn_app (goodIn_of _ (by decide +kernel)) ggX9_cell_X9_lost
set_option maxHeartbeats 4000000 in
set_option maxRecDepth 100000 in
theorem c_X9_cell (l : Launch) (D : va_G) (sz : Nat) (k : Int32) (i : Int32) (n : Int32) (h0 : Nat) (fa : Int32) (tc : Int32) (so : Nat) (sl : Nat) (ce : Nat) (kd : Nat) (wd : Nat) (hs : Nat) (pr : Nat) (la : Nat) (wg : Nat) (ta : Int32) (ck : Int64) (at9 : Int32) (rfn : Int32) (rk : Nat) (rw : Nat) (rh : Nat) (cl : Int32) (sa : Nat) (fi : Nat) (bo : Int32) (ch : Nat) (cn : Nat) (ad : Int32) (ru : Int32) (kp : Nat) (rfa : Nat) (cso : ClassId) : Met l yX9_cell wsX9_cell ({ frames := 2, cells := 0, slots := 0, locals := 42 }) (kPre [.ref h0, .int k, .int i, .int n] D [(h0, .inr (9, [.int fa, .int tc, .ref so, .ref sl, .ref ce, .int 0, .ref kd, .ref wd, .ref hs, .ref pr, .ref la, .int 0, .ref wg, .int ta, .long ck, .int at9, .int rfn, .ref rk, .ref rw, .ref rh, .int cl, .ref sa, .ref fi, .int bo, .ref ch, .ref cn, .int ad, .int ru, .ref kp, .int 0, .ref rfa])), (so, .inl (cso, 4, .inl kSO))] [(cso, .int)] sz) (kQl (-9223372036854775808) (va_A [(h0, .inr (9, [.int fa, .int tc, .ref so, .ref sl, .ref ce, .int 0, .ref kd, .ref wd, .ref hs, .ref pr, .ref la, .int 0, .ref wg, .int ta, .long ck, .int at9, .int rfn, .ref rk, .ref rw, .ref rh, .int cl, .ref sa, .ref fi, .int bo, .ref ch, .ref cn, .int ad, .int ru, .ref kp, .int 0, .ref rfa])), (so, .inl (cso, 4, .inl kSO))] sz)) 0 0 (va_A [(h0, .inr (9, [.int fa, .int tc, .ref so, .ref sl, .ref ce, .int 0, .ref kd, .ref wd, .ref hs, .ref pr, .ref la, .int 0, .ref wg, .int ta, .long ck, .int at9, .int rfn, .ref rk, .ref rw, .ref rh, .int cl, .ref sa, .ref fi, .int bo, .ref ch, .ref cn, .int ad, .int ru, .ref kp, .int 0, .ref rfa])), (so, .inl (cso, 4, .inl kSO))] sz) := by
  refine Met.ofW (cc := cX9_cell) (maxL := 4) (ret := (some .long)) (by decide) rfl ?_
  intro p e s m args below meth c s₁ B hml hv
  obtain ⟨rfl, hsz, hP, hK, hD0, hN⟩ := hv
  have hx := B.exec
  have hb := B.bytes
  have hr := B.returns
  have hts := atoms_spec (ws := wsX9_cell) B.pre
  have hown : s.vm.findClass RX9 = some m.cls := findClass_of_methodNamed B.named
  have hlocks := B.notSynchronized
  subst hsz
  have hD := hD0.self (sz := s.heap.size)
  generalize hAe : va_A [(h0, .inr (9, [.int fa, .int tc, .ref so, .ref sl, .ref ce, .int 0, .ref kd, .ref wd, .ref hs, .ref pr, .ref la, .int 0, .ref wg, .int ta, .long ck, .int at9, .int rfn, .ref rk, .ref rw, .ref rh, .int cl, .ref sa, .ref fi, .int bo, .ref ch, .ref cn, .int ad, .int ru, .ref kp, .int 0, .ref rfa])), (so, .inl (cso, 4, .inl kSO))] s.heap.size = A at hD ⊢
  have hA : ∀ q : Nat, s.heap.size ≤ q → A q := fun q h => by rw [← hAe]; exact Or.inr h
  have hS : va_S A s.heap s.heap [] := va_S.rf
  have hP : va_P D vwCl [(h0, .inr (9, [.int fa, .int tc, .ref so, .ref sl, .ref ce, .int 0, .ref kd, .ref wd, .ref hs, .ref pr, .ref la, .int 0, .ref wg, .int ta, .long ck, .int at9, .int rfn, .ref rk, .ref rw, .ref rh, .int cl, .ref sa, .ref fi, .int bo, .ref ch, .ref cn, .int ad, .int ru, .ref kp, .int 0, .ref rfa])), (so, .inl (cso, 4, .inl kSO))] s.heap := hP
  have hl := lv_entry ([.ref h0, .int k, .int i, .int n]) (n := 4) (Nat.le_of_ble_eq_true rfl)
  rw [lg_entry_eq]
  generalize (lg_sl ([.ref h0, .int k, .int i, .int n]) ++ List.replicate (4 - (lg_sl ([.ref h0, .int k, .int i, .int n])).length) Slot.unset).toArray = ls at hl ⊢
  have hl : lv_has ls 4 [(0, .ref h0), (1, .int k), (2, .int i), (3, .int n)] := hl
  refine lv_aload_n hx hb dX9_cell_0 rfl (lv_at hl 0 rfl) ?_
  refine lv_iconst (v := 0) hx hb dX9_cell_1 (by decide) ?_
  refine va_put (D := D) (ci := 9) (v := .int 0) (ty := .int) (C := RX9) (T := TX9) (N := 31) hx hb hts (fun _ h9 => List.mem_cons_of_mem _ (List.mem_append_right _ h9)) tyX9 tyX9_ok nmX9 hown hK hP hD hS 0 rfl rfl 0 (by decide) (hts (.fieldLink RX9 64 "FontRunsModel" "fault" "I") (by decide +kernel)) (fun _ h9 => h9) rfl (by decide +kernel) rfl rfl (Nat.le_of_ble_eq_true rfl) dX9_cell_2 (fun H locs hP hD hS => ?_)
  have hP : va_P D vwCl [(h0, .inr (9, [.int 0, .int tc, .ref so, .ref sl, .ref ce, .int 0, .ref kd, .ref wd, .ref hs, .ref pr, .ref la, .int 0, .ref wg, .int ta, .long ck, .int at9, .int rfn, .ref rk, .ref rw, .ref rh, .int cl, .ref sa, .ref fi, .int bo, .ref ch, .ref cn, .int ad, .int ru, .ref kp, .int 0, .ref rfa])), (so, .inl (cso, 4, .inl kSO))] H := hP
  have hD : va_D A [(h0, .inr (9, [.int 0, .int tc, .ref so, .ref sl, .ref ce, .int 0, .ref kd, .ref wd, .ref hs, .ref pr, .ref la, .int 0, .ref wg, .int ta, .long ck, .int at9, .int rfn, .ref rk, .ref rw, .ref rh, .int cl, .ref sa, .ref fi, .int bo, .ref ch, .ref cn, .int ad, .int ru, .ref kp, .int 0, .ref rfa])), (so, .inl (cso, 4, .inl kSO))] := hD
  refine lv_iload_n hx hb dX9_cell_5 rfl (lv_at hl 1 rfl) ?_
  refine k_callR (va_runS (As := [.int k]) (rest := []) ⟨hx, hb, hml, hown, hts⟩ (c_X9_isSheet l D H.size (k := k)) (va_cwS 1 hts gX9_cell_X9_isSheet rfl rfl rfl (by decide +kernel) ⟨Nat.le_of_ble_eq_true rfl, Nat.le_of_ble_eq_true rfl⟩) (kPreS hP (kD0 hD) hK hN [] [] rfl rfl (by decide)) rfl rfl hl.1 rfl (lv_room (Nat.le_of_ble_eq_true rfl)) dX9_cell_6 ⟨Nat.le_of_ble_eq_true rfl, Nat.le_of_ble_eq_true rfl⟩) ?_
  refine lv_if_eq (tgt := 19) hx hb dX9_cell_9 (by decide) (fun c_1 => ?_) (fun c_1 => ?_)
  · have k_2 : ¬ ((0 ≤ k ∧ k ≤ 3)) := b01f c_1
    refine lv_ldc2 (v := (-9223372036854775808)) hx hb hown (hts (.constantLong RX9 68 (-9223372036854775808)) (by decide +kernel)) dX9_cell_19 ?_
    exact W.lret (v := (-9223372036854775808)) hx hb hr (fun t ht hW => kQl_of rfl (hS.F ht)) hS.2.2 dX9_cell_22
  · have k_3 : (0 ≤ k ∧ k ≤ 3) := b01t c_1
    refine lv_iload_n hx hb dX9_cell_12 rfl (lv_at hl 3 rfl) ?_
    refine k_callR (va_runS (As := [.int n]) (rest := []) ⟨hx, hb, hml, hown, hts⟩ (c_X9_isSort l D H.size (k := n)) (va_cwS 1 hts gX9_cell_X9_isSort rfl rfl rfl (by decide +kernel) ⟨Nat.le_of_ble_eq_true rfl, Nat.le_of_ble_eq_true rfl⟩) (kPreS hP (kD0 hD) hK hN [] [] rfl rfl (by decide)) rfl rfl hl.1 rfl (lv_room (Nat.le_of_ble_eq_true rfl)) dX9_cell_13 ⟨Nat.le_of_ble_eq_true rfl, Nat.le_of_ble_eq_true rfl⟩) ?_
    refine lv_if_ne (tgt := 23) hx hb dX9_cell_16 (by decide) (fun c_4 => ?_) (fun c_4 => ?_)
    · have k_5 : (0 ≤ n ∧ n ≤ 2) := b01t c_4
      refine lv_aload_n hx hb dX9_cell_23 rfl (lv_at hl 0 rfl) ?_
      refine va_get (D := D) (ci := 9) (v := .ref so) (C := RX9) (T := TX9) (N := 31) hx hb hts (fun _ h9 => List.mem_cons_of_mem _ (List.mem_append_right _ h9)) hown hK hP 0 rfl rfl 2 (by decide) (hts (.fieldLink RX9 9 "FontRunsModel" "sorts" "[I") (by decide +kernel)) (fun _ h9 => h9) rfl dX9_cell_24 ?_
      refine lv_iload_n hx hb dX9_cell_27 rfl (lv_at hl 1 rfl) ?_
      refine va_iald hx hb hK hP 1 0 rfl rfl (k4in k_3) dX9_cell_28 ?_
      refine kn_i (-9) (kso k_3) ?_
      refine lv_bipush (v := (-9)) hx hb dX9_cell_29 (by decide) ?_
      refine lv_icmp_eq (tgt := 50) hx hb dX9_cell_31 (by decide) (fun _ => ?_) (fun c9 => absurd (by decide) c9)
      refine lv_aload_n hx hb dX9_cell_50 rfl (lv_at hl 0 rfl) ?_
      refine va_get (D := D) (ci := 9) (v := .ref so) (C := RX9) (T := TX9) (N := 31) hx hb hts (fun _ h9 => List.mem_cons_of_mem _ (List.mem_append_right _ h9)) hown hK hP 0 rfl rfl 2 (by decide) (hts (.fieldLink RX9 9 "FontRunsModel" "sorts" "[I") (by decide +kernel)) (fun _ h9 => h9) rfl dX9_cell_51 ?_
      refine lv_iload_n hx hb dX9_cell_54 rfl (lv_at hl 1 rfl) ?_
      refine va_iald hx hb hK hP 1 0 rfl rfl (k4in k_3) dX9_cell_55 ?_
      refine kn_i (-9) (kso k_3) ?_
      refine lv_bipush (v := (-9)) hx hb dX9_cell_56 (by decide) ?_
      refine lv_icmp_ne (tgt := 67) hx hb dX9_cell_58 (by decide) (fun c9 => absurd (by decide) c9) (fun _ => ?_)
      refine lv_aload_n hx hb dX9_cell_61 rfl (lv_at hl 0 rfl) ?_
      refine lv_iconst (v := 1) hx hb dX9_cell_62 (by decide) ?_
      have hFc := va_free (wc := [(h0, .inr (9, [.int 0, .int tc, .ref so, .ref sl, .ref ce, .int 0, .ref kd, .ref wd, .ref hs, .ref pr, .ref la, .int 0, .ref wg, .int ta, .long ck, .int at9, .int rfn, .ref rk, .ref rw, .ref rh, .int cl, .ref sa, .ref fi, .int bo, .ref ch, .ref cn, .int ad, .int ru, .ref kp, .int 0, .ref rfa]))]) hD hS hA [0] rfl
      refine va_calll (va_runV (As := [.int 1]) (rest := []) ⟨hx, hb, hml, hown, hts⟩ (c_X9_lost l D H.size (f := 1) (h0 := h0) (fa := 0) (tc := tc) (so := so) (sl := sl) (ce := ce) (kd := kd) (wd := wd) (hs := hs) (pr := pr) (la := la) (wg := wg) (ta := ta) (ck := ck) (at9 := at9) (rfn := rfn) (rk := rk) (rw := rw) (rh := rh) (cl := cl) (sa := sa) (fi := fi) (bo := bo) (ch := ch) (cn := cn) (ad := ad) (ru := ru) (kp := kp) (rfa := rfa)) (cwV 1 hts gX9_cell_X9_lost rfl rfl rfl (by decide +kernel) ⟨Nat.le_of_ble_eq_true rfl, Nat.le_of_ble_eq_true rfl⟩) (kPreV hP (kD0 hD) hK hN [0] [] rfl rfl (by decide) 0 9 rfl rfl) rfl rfl hl.1 rfl (lv_room (Nat.le_of_ble_eq_true rfl)) dX9_cell_63 ⟨Nat.le_of_ble_eq_true rfl, Nat.le_of_ble_eq_true rfl⟩) hS (fun q _ h => hFc q h) hFc (fun r_6 u t H1 locs ht hvm hw hB hz1 hk1 hS => ?_)
      obtain ⟨hP, hD⟩ := va_join (wr := [(so, .inl (cso, 4, .inl kSO))]) (w1 := []) hP hD [0] [1] rfl rfl (by decide) (by decide) hk1 hFc kP0 kDn
      generalize H1 = H at hP hS ⊢
      have hP : va_P D vwCl [(so, .inl (cso, 4, .inl kSO))] H := hP
      have hD : va_D A [(so, .inl (cso, 4, .inl kSO))] := hD
      refine kn_l (-9223372036854775808) hw ?_
      exact W.lret (v := (-9223372036854775808)) hx hb hr (fun t ht hW => kQl_of rfl (hS.F ht)) hS.2.2 dX9_cell_66
    · have k_7 : ¬ ((0 ≤ n ∧ n ≤ 2)) := b01f c_4
      refine lv_ldc2 (v := (-9223372036854775808)) hx hb hown (hts (.constantLong RX9 68 (-9223372036854775808)) (by decide +kernel)) dX9_cell_19 ?_
      exact W.lret (v := (-9223372036854775808)) hx hb hr (fun t ht hW => kQl_of rfl (hS.F ht)) hS.2.2 dX9_cell_22
theorem dX9_copy_0 : decode cX9_copy 0 = .ok (.aload_n 0, 1) := by decide +kernel
theorem dX9_copy_1 : decode cX9_copy 1 = .ok (.iconst 0, 1) := by decide +kernel
theorem dX9_copy_2 : decode cX9_copy 2 = .ok (.putfield 64, 3) := by decide +kernel
theorem dX9_copy_5 : decode cX9_copy 5 = .ok (.iload_n 1, 1) := by decide +kernel
theorem dX9_copy_6 : decode cX9_copy 6 = .ok (.invokestatic 80, 3) := by decide +kernel
theorem dX9_copy_9 : decode cX9_copy 9 = .ok (.ifCond .eq 10, 3) := by decide +kernel
theorem dX9_copy_12 : decode cX9_copy 12 = .ok (.iload_n 3, 1) := by decide +kernel
theorem dX9_copy_13 : decode cX9_copy 13 = .ok (.invokestatic 80, 3) := by decide +kernel
theorem dX9_copy_16 : decode cX9_copy 16 = .ok (.ifCond .ne 5, 3) := by decide +kernel
theorem dX9_copy_19 : decode cX9_copy 19 = .ok (.iconst (-1), 1) := by decide +kernel
theorem dX9_copy_20 : decode cX9_copy 20 = .ok (.ireturn, 1) := by decide +kernel
theorem dX9_copy_21 : decode cX9_copy 21 = .ok (.aload_n 0, 1) := by decide +kernel
theorem dX9_copy_22 : decode cX9_copy 22 = .ok (.getfield 9, 3) := by decide +kernel
theorem dX9_copy_25 : decode cX9_copy 25 = .ok (.iload_n 1, 1) := by decide +kernel
theorem dX9_copy_26 : decode cX9_copy 26 = .ok (.iaload, 1) := by decide +kernel
theorem dX9_copy_27 : decode cX9_copy 27 = .ok (.bipush (-9), 2) := by decide +kernel
theorem dX9_copy_29 : decode cX9_copy 29 = .ok (.if_icmp .eq 14, 3) := by decide +kernel
theorem dX9_copy_43 : decode cX9_copy 43 = .ok (.aload_n 0, 1) := by decide +kernel
theorem dX9_copy_44 : decode cX9_copy 44 = .ok (.iconst 1, 1) := by decide +kernel
theorem dX9_copy_45 : decode cX9_copy 45 = .ok (.invokevirtual 91, 3) := by decide +kernel
theorem dX9_copy_48 : decode cX9_copy 48 = .ok (.ireturn, 1) := by decide +kernel
set_option maxRecDepth 20000 in
theorem ggX9_copy_X9_fails : GoodIn wsX9_copy wsX9_fails := goodIn_r _ [15, 1, 16, 17, 18, 19, 20, 21, 22, 23, 24, 25, 26, 27, 28, 29, 30, 31, 32, 33, 34, 35, 36, 37, 38, 39, 40, 41, 42, 43, 44, 45, 46] (by decide +kernel) (by decide +kernel)
set_option maxRecDepth 20000 in
theorem gX9_copy_X9_fails : GoodIn wsX9_copy (wsV RX9 91 RX9 yX9_fails wsX9_fails) := goodIn_app (goodIn_of _ (by decide +kernel)) ggX9_copy_X9_fails
set_option maxRecDepth 20000 in
theorem ggX9_copy_X9_isSheet : GoodIn wsX9_copy wsX9_isSheet := goodIn_r _ [8, 9, 10, 7, 11] (by decide +kernel) (by decide +kernel)
set_option maxRecDepth 20000 in
theorem gX9_copy_X9_isSheet : GoodIn wsX9_copy (va_wsS RX9 80 yX9_isSheet wsX9_isSheet) := goodIn_app (goodIn_of _ (by decide +kernel)) ggX9_copy_X9_isSheet
set_option maxHeartbeats 4000000 in
set_option maxRecDepth 100000 in
theorem c_X9_copy (l : Launch) (D : va_G) (sz : Nat) (k : Int32) (i : Int32) (o : Int32) (j : Int32) (n : Int32) (h0 : Nat) (fa : Int32) (tc : Int32) (so : Nat) (sl : Nat) (ce : Nat) (kd : Nat) (wd : Nat) (hs : Nat) (pr : Nat) (la : Nat) (wg : Nat) (ta : Int32) (ck : Int64) (at9 : Int32) (rfn : Int32) (rk : Nat) (rw : Nat) (rh : Nat) (cl : Int32) (sa : Nat) (fi : Nat) (bo : Int32) (ch : Nat) (cn : Nat) (ad : Int32) (ru : Int32) (kp : Nat) (rfa : Nat) (cso : ClassId) : Met l yX9_copy wsX9_copy ({ frames := 2, cells := 0, slots := 0, locals := 42 }) (kPre [.ref h0, .int k, .int i, .int o, .int j, .int n] D [(h0, .inr (9, [.int fa, .int tc, .ref so, .ref sl, .ref ce, .int 0, .ref kd, .ref wd, .ref hs, .ref pr, .ref la, .int 0, .ref wg, .int ta, .long ck, .int at9, .int rfn, .ref rk, .ref rw, .ref rh, .int cl, .ref sa, .ref fi, .int bo, .ref ch, .ref cn, .int ad, .int ru, .ref kp, .int 0, .ref rfa])), (so, .inl (cso, 4, .inl kSO))] [(cso, .int)] sz) (kQi (sp_copy k o) (va_A [(h0, .inr (9, [.int fa, .int tc, .ref so, .ref sl, .ref ce, .int 0, .ref kd, .ref wd, .ref hs, .ref pr, .ref la, .int 0, .ref wg, .int ta, .long ck, .int at9, .int rfn, .ref rk, .ref rw, .ref rh, .int cl, .ref sa, .ref fi, .int bo, .ref ch, .ref cn, .int ad, .int ru, .ref kp, .int 0, .ref rfa])), (so, .inl (cso, 4, .inl kSO))] sz)) 0 0 (va_A [(h0, .inr (9, [.int fa, .int tc, .ref so, .ref sl, .ref ce, .int 0, .ref kd, .ref wd, .ref hs, .ref pr, .ref la, .int 0, .ref wg, .int ta, .long ck, .int at9, .int rfn, .ref rk, .ref rw, .ref rh, .int cl, .ref sa, .ref fi, .int bo, .ref ch, .ref cn, .int ad, .int ru, .ref kp, .int 0, .ref rfa])), (so, .inl (cso, 4, .inl kSO))] sz) := by
  refine Met.ofW (cc := cX9_copy) (maxL := 10) (ret := (some .int)) (by decide) rfl ?_
  intro p e s m args below meth c s₁ B hml hv
  obtain ⟨rfl, hsz, hP, hK, hD0, hN⟩ := hv
  have hx := B.exec
  have hb := B.bytes
  have hr := B.returns
  have hts := atoms_spec (ws := wsX9_copy) B.pre
  have hown : s.vm.findClass RX9 = some m.cls := findClass_of_methodNamed B.named
  have hlocks := B.notSynchronized
  subst hsz
  have hD := hD0.self (sz := s.heap.size)
  generalize hAe : va_A [(h0, .inr (9, [.int fa, .int tc, .ref so, .ref sl, .ref ce, .int 0, .ref kd, .ref wd, .ref hs, .ref pr, .ref la, .int 0, .ref wg, .int ta, .long ck, .int at9, .int rfn, .ref rk, .ref rw, .ref rh, .int cl, .ref sa, .ref fi, .int bo, .ref ch, .ref cn, .int ad, .int ru, .ref kp, .int 0, .ref rfa])), (so, .inl (cso, 4, .inl kSO))] s.heap.size = A at hD ⊢
  have hA : ∀ q : Nat, s.heap.size ≤ q → A q := fun q h => by rw [← hAe]; exact Or.inr h
  have hS : va_S A s.heap s.heap [] := va_S.rf
  have hP : va_P D vwCl [(h0, .inr (9, [.int fa, .int tc, .ref so, .ref sl, .ref ce, .int 0, .ref kd, .ref wd, .ref hs, .ref pr, .ref la, .int 0, .ref wg, .int ta, .long ck, .int at9, .int rfn, .ref rk, .ref rw, .ref rh, .int cl, .ref sa, .ref fi, .int bo, .ref ch, .ref cn, .int ad, .int ru, .ref kp, .int 0, .ref rfa])), (so, .inl (cso, 4, .inl kSO))] s.heap := hP
  have hl := lv_entry ([.ref h0, .int k, .int i, .int o, .int j, .int n]) (n := 10) (Nat.le_of_ble_eq_true rfl)
  rw [lg_entry_eq]
  generalize (lg_sl ([.ref h0, .int k, .int i, .int o, .int j, .int n]) ++ List.replicate (10 - (lg_sl ([.ref h0, .int k, .int i, .int o, .int j, .int n])).length) Slot.unset).toArray = ls at hl ⊢
  have hl : lv_has ls 10 [(0, .ref h0), (1, .int k), (2, .int i), (3, .int o), (4, .int j), (5, .int n)] := hl
  refine lv_aload_n hx hb dX9_copy_0 rfl (lv_at hl 0 rfl) ?_
  refine lv_iconst (v := 0) hx hb dX9_copy_1 (by decide) ?_
  refine va_put (D := D) (ci := 9) (v := .int 0) (ty := .int) (C := RX9) (T := TX9) (N := 31) hx hb hts (fun _ h9 => List.mem_cons_of_mem _ (List.mem_append_right _ h9)) tyX9 tyX9_ok nmX9 hown hK hP hD hS 0 rfl rfl 0 (by decide) (hts (.fieldLink RX9 64 "FontRunsModel" "fault" "I") (by decide +kernel)) (fun _ h9 => h9) rfl (by decide +kernel) rfl rfl (Nat.le_of_ble_eq_true rfl) dX9_copy_2 (fun H locs hP hD hS => ?_)
  have hP : va_P D vwCl [(h0, .inr (9, [.int 0, .int tc, .ref so, .ref sl, .ref ce, .int 0, .ref kd, .ref wd, .ref hs, .ref pr, .ref la, .int 0, .ref wg, .int ta, .long ck, .int at9, .int rfn, .ref rk, .ref rw, .ref rh, .int cl, .ref sa, .ref fi, .int bo, .ref ch, .ref cn, .int ad, .int ru, .ref kp, .int 0, .ref rfa])), (so, .inl (cso, 4, .inl kSO))] H := hP
  have hD : va_D A [(h0, .inr (9, [.int 0, .int tc, .ref so, .ref sl, .ref ce, .int 0, .ref kd, .ref wd, .ref hs, .ref pr, .ref la, .int 0, .ref wg, .int ta, .long ck, .int at9, .int rfn, .ref rk, .ref rw, .ref rh, .int cl, .ref sa, .ref fi, .int bo, .ref ch, .ref cn, .int ad, .int ru, .ref kp, .int 0, .ref rfa])), (so, .inl (cso, 4, .inl kSO))] := hD
  refine lv_iload_n hx hb dX9_copy_5 rfl (lv_at hl 1 rfl) ?_
  refine k_callR (va_runS (As := [.int k]) (rest := []) ⟨hx, hb, hml, hown, hts⟩ (c_X9_isSheet l D H.size (k := k)) (va_cwS 1 hts gX9_copy_X9_isSheet rfl rfl rfl (by decide +kernel) ⟨Nat.le_of_ble_eq_true rfl, Nat.le_of_ble_eq_true rfl⟩) (kPreS hP (kD0 hD) hK hN [] [] rfl rfl (by decide)) rfl rfl hl.1 rfl (lv_room (Nat.le_of_ble_eq_true rfl)) dX9_copy_6 ⟨Nat.le_of_ble_eq_true rfl, Nat.le_of_ble_eq_true rfl⟩) ?_
  refine lv_if_eq (tgt := 19) hx hb dX9_copy_9 (by decide) (fun c_1 => ?_) (fun c_1 => ?_)
  · have k_2 : ¬ ((0 ≤ k ∧ k ≤ 3)) := b01f c_1
    refine lv_iconst (v := (-1)) hx hb dX9_copy_19 (by decide) ?_
    exact W.iret (v := (-1)) hx hb hr (fun t ht hW => kQi_of (by first | rfl | (simp only [sp_copy, if_neg k_2]; done) | (simp [sp_copy, k_2]; done)) (hS.F ht)) hS.2.2 dX9_copy_20
  · have k_3 : (0 ≤ k ∧ k ≤ 3) := b01t c_1
    refine lv_iload_n hx hb dX9_copy_12 rfl (lv_at hl 3 rfl) ?_
    refine k_callR (va_runS (As := [.int o]) (rest := []) ⟨hx, hb, hml, hown, hts⟩ (c_X9_isSheet l D H.size (k := o)) (va_cwS 1 hts gX9_copy_X9_isSheet rfl rfl rfl (by decide +kernel) ⟨Nat.le_of_ble_eq_true rfl, Nat.le_of_ble_eq_true rfl⟩) (kPreS hP (kD0 hD) hK hN [] [] rfl rfl (by decide)) rfl rfl hl.1 rfl (lv_room (Nat.le_of_ble_eq_true rfl)) dX9_copy_13 ⟨Nat.le_of_ble_eq_true rfl, Nat.le_of_ble_eq_true rfl⟩) ?_
    refine lv_if_ne (tgt := 21) hx hb dX9_copy_16 (by decide) (fun c_4 => ?_) (fun c_4 => ?_)
    · have k_5 : (0 ≤ o ∧ o ≤ 3) := b01t c_4
      refine lv_aload_n hx hb dX9_copy_21 rfl (lv_at hl 0 rfl) ?_
      refine va_get (D := D) (ci := 9) (v := .ref so) (C := RX9) (T := TX9) (N := 31) hx hb hts (fun _ h9 => List.mem_cons_of_mem _ (List.mem_append_right _ h9)) hown hK hP 0 rfl rfl 2 (by decide) (hts (.fieldLink RX9 9 "FontRunsModel" "sorts" "[I") (by decide +kernel)) (fun _ h9 => h9) rfl dX9_copy_22 ?_
      refine lv_iload_n hx hb dX9_copy_25 rfl (lv_at hl 1 rfl) ?_
      refine va_iald hx hb hK hP 1 0 rfl rfl (k4in k_3) dX9_copy_26 ?_
      refine kn_i (-9) (kso k_3) ?_
      refine lv_bipush (v := (-9)) hx hb dX9_copy_27 (by decide) ?_
      refine lv_icmp_eq (tgt := 43) hx hb dX9_copy_29 (by decide) (fun _ => ?_) (fun c9 => absurd (by decide) c9)
      refine lv_aload_n hx hb dX9_copy_43 rfl (lv_at hl 0 rfl) ?_
      refine lv_iconst (v := 1) hx hb dX9_copy_44 (by decide) ?_
      have hFc := va_free (wc := [(h0, .inr (9, [.int 0, .int tc, .ref so, .ref sl, .ref ce, .int 0, .ref kd, .ref wd, .ref hs, .ref pr, .ref la, .int 0, .ref wg, .int ta, .long ck, .int at9, .int rfn, .ref rk, .ref rw, .ref rh, .int cl, .ref sa, .ref fi, .int bo, .ref ch, .ref cn, .int ad, .int ru, .ref kp, .int 0, .ref rfa]))]) hD hS hA [0] rfl
      refine va_calli (va_runV (As := [.int 1]) (rest := []) ⟨hx, hb, hml, hown, hts⟩ (c_X9_fails l D H.size (f := 1) (h0 := h0) (fa := 0) (tc := tc) (so := so) (sl := sl) (ce := ce) (kd := kd) (wd := wd) (hs := hs) (pr := pr) (la := la) (wg := wg) (ta := ta) (ck := ck) (at9 := at9) (rfn := rfn) (rk := rk) (rw := rw) (rh := rh) (cl := cl) (sa := sa) (fi := fi) (bo := bo) (ch := ch) (cn := cn) (ad := ad) (ru := ru) (kp := kp) (rfa := rfa)) (cwV 1 hts gX9_copy_X9_fails rfl rfl rfl (by decide +kernel) ⟨Nat.le_of_ble_eq_true rfl, Nat.le_of_ble_eq_true rfl⟩) (kPreV hP (kD0 hD) hK hN [0] [] rfl rfl (by decide) 0 9 rfl rfl) rfl rfl hl.1 rfl (lv_room (Nat.le_of_ble_eq_true rfl)) dX9_copy_45 ⟨Nat.le_of_ble_eq_true rfl, Nat.le_of_ble_eq_true rfl⟩) hS (fun q _ h => hFc q h) hFc (fun r_6 u t H1 locs ht hvm hw hB hz1 hk1 hS => ?_)
      obtain ⟨hP, hD⟩ := va_join (wr := [(so, .inl (cso, 4, .inl kSO))]) (w1 := []) hP hD [0] [1] rfl rfl (by decide) (by decide) hk1 hFc kP0 kDn
      generalize H1 = H at hP hS ⊢
      have hP : va_P D vwCl [(so, .inl (cso, 4, .inl kSO))] H := hP
      have hD : va_D A [(so, .inl (cso, 4, .inl kSO))] := hD
      refine kn_i ((-10) - 1) hw ?_
      refine kn_i (-11) (by decide) ?_
      exact W.iret (v := (-11)) hx hb hr (fun t ht hW => kQi_of (by first | rfl | (simp only [sp_copy, if_pos k_3, if_pos k_5]; done) | (simp [sp_copy, k_3, k_5]; done)) (hS.F ht)) hS.2.2 dX9_copy_48
    · have k_7 : ¬ ((0 ≤ o ∧ o ≤ 3)) := b01f c_4
      refine lv_iconst (v := (-1)) hx hb dX9_copy_19 (by decide) ?_
      exact W.iret (v := (-1)) hx hb hr (fun t ht hW => kQi_of (by first | rfl | (simp only [sp_copy, if_pos k_3, if_neg k_7]; done) | (simp [sp_copy, k_3, k_7]; done)) (hS.F ht)) hS.2.2 dX9_copy_20
theorem dX9_many_0 : decode cX9_many 0 = .ok (.iload_n 1, 1) := by decide +kernel
theorem dX9_many_1 : decode cX9_many 1 = .ok (.tableswitch 57 0 3 #[31, 36, 41, 52], 31) := by decide +kernel
theorem dX9_many_32 : decode cX9_many 32 = .ok (.aload_n 0, 1) := by decide +kernel
theorem dX9_many_33 : decode cX9_many 33 = .ok (.getfield 74, 3) := by decide +kernel
theorem dX9_many_36 : decode cX9_many 36 = .ok (.ireturn, 1) := by decide +kernel
theorem dX9_many_37 : decode cX9_many 37 = .ok (.aload_n 0, 1) := by decide +kernel
theorem dX9_many_38 : decode cX9_many 38 = .ok (.getfield 101, 3) := by decide +kernel
theorem dX9_many_41 : decode cX9_many 41 = .ok (.ireturn, 1) := by decide +kernel
theorem dX9_many_42 : decode cX9_many 42 = .ok (.aload_n 0, 1) := by decide +kernel
theorem dX9_many_43 : decode cX9_many 43 = .ok (.bipush (-9), 2) := by decide +kernel
theorem dX9_many_45 : decode cX9_many 45 = .ok (.invokevirtual 147, 3) := by decide +kernel
theorem dX9_many_48 : decode cX9_many 48 = .ok (.aload_n 0, 1) := by decide +kernel
theorem dX9_many_49 : decode cX9_many 49 = .ok (.getfield 138, 3) := by decide +kernel
theorem dX9_many_52 : decode cX9_many 52 = .ok (.ireturn, 1) := by decide +kernel
theorem dX9_many_53 : decode cX9_many 53 = .ok (.aload_n 0, 1) := by decide +kernel
theorem dX9_many_54 : decode cX9_many 54 = .ok (.getfield 104, 3) := by decide +kernel
theorem dX9_many_57 : decode cX9_many 57 = .ok (.ireturn, 1) := by decide +kernel
theorem dX9_many_58 : decode cX9_many 58 = .ok (.bipush (-2), 2) := by decide +kernel
theorem dX9_many_60 : decode cX9_many 60 = .ok (.ireturn, 1) := by decide +kernel
set_option maxRecDepth 20000 in
theorem ggX9_many_X9_findClusters : GoodIn wsX9_many wsX9_findClusters := goodIn_r _ [9, 3, 10, 2, 11, 12, 13, 1, 14, 15, 16, 17, 18, 19, 20, 21, 22, 23, 24, 25, 26, 27, 28, 29, 30, 31, 32, 33, 34, 35, 36, 37, 38, 39, 40, 41, 42, 43, 44, 45] (by decide +kernel) (by decide +kernel)
set_option maxRecDepth 20000 in
theorem gX9_many_X9_findClusters : GoodIn wsX9_many (wsV RX9 147 RX9 yX9_findClusters wsX9_findClusters) := goodIn_app (goodIn_of _ (by decide +kernel)) ggX9_many_X9_findClusters
set_option maxHeartbeats 4000000 in
set_option maxRecDepth 100000 in
theorem c_X9_many (l : Launch) (D : va_G) (sz : Nat) (k : Int32) (h0 : Nat) (fa : Int32) (tc : Int32) (so : Nat) (sl : Nat) (ce : Nat) (kd : Nat) (wd : Nat) (hs : Nat) (pr : Nat) (la : Nat) (wg : Nat) (ta : Int32) (ck : Int64) (at9 : Int32) (rfn : Int32) (rk : Nat) (rw : Nat) (rh : Nat) (cl : Int32) (sa : Nat) (fi : Nat) (bo : Int32) (ch : Nat) (cn : Nat) (ad : Int32) (ru : Int32) (kp : Nat) (rfa : Nat) (csa : ClassId) (fsa : Nat → Int32) : Met l yX9_many wsX9_many ({ frames := 1, cells := 0, slots := 0, locals := 24 }) (kPre [.ref h0, .int k] D [(h0, .inr (9, [.int fa, .int tc, .ref so, .ref sl, .ref ce, .int 0, .ref kd, .ref wd, .ref hs, .ref pr, .ref la, .int 0, .ref wg, .int ta, .long ck, .int at9, .int rfn, .ref rk, .ref rw, .ref rh, .int cl, .ref sa, .ref fi, .int bo, .ref ch, .ref cn, .int ad, .int ru, .ref kp, .int 0, .ref rfa])), (sa, .inl (csa, 25, .inl fsa))] [(csa, .int)] sz) (kQi (sp_many k) (va_A [(h0, .inr (9, [.int fa, .int tc, .ref so, .ref sl, .ref ce, .int 0, .ref kd, .ref wd, .ref hs, .ref pr, .ref la, .int 0, .ref wg, .int ta, .long ck, .int at9, .int rfn, .ref rk, .ref rw, .ref rh, .int cl, .ref sa, .ref fi, .int bo, .ref ch, .ref cn, .int ad, .int ru, .ref kp, .int 0, .ref rfa])), (sa, .inl (csa, 25, .inl fsa))] sz)) 0 0 (va_A [(h0, .inr (9, [.int fa, .int tc, .ref so, .ref sl, .ref ce, .int 0, .ref kd, .ref wd, .ref hs, .ref pr, .ref la, .int 0, .ref wg, .int ta, .long ck, .int at9, .int rfn, .ref rk, .ref rw, .ref rh, .int cl, .ref sa, .ref fi, .int bo, .ref ch, .ref cn, .int ad, .int ru, .ref kp, .int 0, .ref rfa])), (sa, .inl (csa, 25, .inl fsa))] sz) := by
  refine Met.ofW (cc := cX9_many) (maxL := 2) (ret := (some .int)) (by decide) rfl ?_
  intro p e s m args below meth c s₁ B hml hv
  obtain ⟨rfl, hsz, hP, hK, hD0, hN⟩ := hv
  have hx := B.exec
  have hb := B.bytes
  have hr := B.returns
  have hts := atoms_spec (ws := wsX9_many) B.pre
  have hown : s.vm.findClass RX9 = some m.cls := findClass_of_methodNamed B.named
  have hlocks := B.notSynchronized
  subst hsz
  have hD := hD0.self (sz := s.heap.size)
  generalize hAe : va_A [(h0, .inr (9, [.int fa, .int tc, .ref so, .ref sl, .ref ce, .int 0, .ref kd, .ref wd, .ref hs, .ref pr, .ref la, .int 0, .ref wg, .int ta, .long ck, .int at9, .int rfn, .ref rk, .ref rw, .ref rh, .int cl, .ref sa, .ref fi, .int bo, .ref ch, .ref cn, .int ad, .int ru, .ref kp, .int 0, .ref rfa])), (sa, .inl (csa, 25, .inl fsa))] s.heap.size = A at hD ⊢
  have hA : ∀ q : Nat, s.heap.size ≤ q → A q := fun q h => by rw [← hAe]; exact Or.inr h
  have hS : va_S A s.heap s.heap [] := va_S.rf
  have hP : va_P D vwCl [(h0, .inr (9, [.int fa, .int tc, .ref so, .ref sl, .ref ce, .int 0, .ref kd, .ref wd, .ref hs, .ref pr, .ref la, .int 0, .ref wg, .int ta, .long ck, .int at9, .int rfn, .ref rk, .ref rw, .ref rh, .int cl, .ref sa, .ref fi, .int bo, .ref ch, .ref cn, .int ad, .int ru, .ref kp, .int 0, .ref rfa])), (sa, .inl (csa, 25, .inl fsa))] s.heap := hP
  have hl := lv_entry ([.ref h0, .int k]) (n := 2) (Nat.le_of_ble_eq_true rfl)
  rw [lg_entry_eq]
  generalize (lg_sl ([.ref h0, .int k]) ++ List.replicate (2 - (lg_sl ([.ref h0, .int k])).length) Slot.unset).toArray = ls at hl ⊢
  have hl : lv_has ls 2 [(0, .ref h0), (1, .int k)] := hl
  refine lv_iload_n hx hb dX9_many_0 rfl (lv_at hl 1 rfl) ?_
  rcases kT4 k with e9 | e9 | e9 | e9 | e9
  · subst e9
    refine lv_tableIn (tgt := 32) (off := 31) hx hb dX9_many_1 (by decide) (by decide) rfl (by decide) ?_
    refine lv_aload_n hx hb dX9_many_32 rfl (lv_at hl 0 rfl) ?_
    refine va_get (D := D) (ci := 9) (v := .int 0) (C := RX9) (T := TX9) (N := 31) hx hb hts (fun _ h9 => List.mem_cons_of_mem _ (List.mem_append_right _ h9)) hown hK hP 0 rfl rfl 5 (by decide) (hts (.fieldLink RX9 74 "FontRunsModel" "fonts" "I") (by decide +kernel)) (fun _ h9 => h9) rfl dX9_many_33 ?_
    exact W.iret (v := 0) hx hb hr (fun t ht hW => kQi_of (by decide) (hS.F ht)) hS.2.2 dX9_many_36
  · subst e9
    refine lv_tableIn (tgt := 37) (off := 36) hx hb dX9_many_1 (by decide) (by decide) rfl (by decide) ?_
    refine lv_aload_n hx hb dX9_many_37 rfl (lv_at hl 0 rfl) ?_
    refine va_get (D := D) (ci := 9) (v := .int 0) (C := RX9) (T := TX9) (N := 31) hx hb hts (fun _ h9 => List.mem_cons_of_mem _ (List.mem_append_right _ h9)) hown hK hP 0 rfl rfl 11 (by decide) (hts (.fieldLink RX9 101 "FontRunsModel" "many" "I") (by decide +kernel)) (fun _ h9 => h9) rfl dX9_many_38 ?_
    exact W.iret (v := 0) hx hb hr (fun t ht hW => kQi_of (by decide) (hS.F ht)) hS.2.2 dX9_many_41
  · subst e9
    refine lv_tableIn (tgt := 42) (off := 41) hx hb dX9_many_1 (by decide) (by decide) rfl (by decide) ?_
    refine lv_aload_n hx hb dX9_many_42 rfl (lv_at hl 0 rfl) ?_
    refine lv_bipush (v := (-9)) hx hb dX9_many_43 (by decide) ?_
    have hFc := va_free (wc := [(h0, .inr (9, [.int fa, .int tc, .ref so, .ref sl, .ref ce, .int 0, .ref kd, .ref wd, .ref hs, .ref pr, .ref la, .int 0, .ref wg, .int ta, .long ck, .int at9, .int rfn, .ref rk, .ref rw, .ref rh, .int cl, .ref sa, .ref fi, .int bo, .ref ch, .ref cn, .int ad, .int ru, .ref kp, .int 0, .ref rfa])), (sa, .inl (csa, 25, .inl fsa))]) hD hS hA [0, 1] rfl
    refine va_callv (va_runV (As := [.int (-9)]) (rest := []) ⟨hx, hb, hml, hown, hts⟩ (c_X9_findClusters l D s.heap.size (wo := (-9)) (h0 := h0) (fa := fa) (tc := tc) (so := so) (sl := sl) (ce := ce) (kd := kd) (wd := wd) (hs := hs) (pr := pr) (la := la) (wg := wg) (ta := ta) (ck := ck) (at9 := at9) (rfn := rfn) (rk := rk) (rw := rw) (rh := rh) (cl := cl) (sa := sa) (fi := fi) (bo := bo) (ch := ch) (cn := cn) (ad := ad) (ru := ru) (kp := kp) (rfa := rfa) (csa := csa) (fsa := fsa)) (cwV 1 hts gX9_many_X9_findClusters rfl rfl rfl (by decide +kernel) ⟨Nat.le_of_ble_eq_true rfl, Nat.le_of_ble_eq_true rfl⟩) (kPreV hP (kD0 hD) hK hN [0, 1] [0] rfl rfl (by decide) 0 9 rfl rfl) rfl rfl hl.1 rfl (lv_room (Nat.le_of_ble_eq_true rfl)) dX9_many_45 ⟨Nat.le_of_ble_eq_true rfl, Nat.le_of_ble_eq_true rfl⟩) hS (fun q _ h => hFc q h) hFc (fun  u t H1 locs ht hvm hw hB hz1 hk1 hS => ?_)
    obtain ⟨hP1, hD1⟩ := hB
    rw [ht] at hP1
    obtain ⟨hP, hD⟩ := va_join (wr := []) (w1 := [(h0, .inr (9, [.int fa, .int tc, .ref so, .ref sl, .ref ce, .int 0, .ref kd, .ref wd, .ref hs, .ref pr, .ref la, .int 0, .ref wg, .int ta, .long ck, .int at9, .int rfn, .ref rk, .ref rw, .ref rh, .int 0, .ref sa, .ref fi, .int 0, .ref ch, .ref cn, .int ad, .int ru, .ref kp, .int 0, .ref rfa]))]) hP hD [0, 1] [] rfl rfl (by decide) (by decide) hk1 hFc hP1 hD1
    generalize H1 = H at hP hS ⊢
    have hP : va_P D vwCl [(h0, .inr (9, [.int fa, .int tc, .ref so, .ref sl, .ref ce, .int 0, .ref kd, .ref wd, .ref hs, .ref pr, .ref la, .int 0, .ref wg, .int ta, .long ck, .int at9, .int rfn, .ref rk, .ref rw, .ref rh, .int 0, .ref sa, .ref fi, .int 0, .ref ch, .ref cn, .int ad, .int ru, .ref kp, .int 0, .ref rfa]))] H := hP
    have hD : va_D A [(h0, .inr (9, [.int fa, .int tc, .ref so, .ref sl, .ref ce, .int 0, .ref kd, .ref wd, .ref hs, .ref pr, .ref la, .int 0, .ref wg, .int ta, .long ck, .int at9, .int rfn, .ref rk, .ref rw, .ref rh, .int 0, .ref sa, .ref fi, .int 0, .ref ch, .ref cn, .int ad, .int ru, .ref kp, .int 0, .ref rfa]))] := hD
    refine lv_aload_n hx hb dX9_many_48 rfl (lv_at hl 0 rfl) ?_
    refine va_get (D := D) (ci := 9) (v := .int 0) (C := RX9) (T := TX9) (N := 31) hx hb hts (fun _ h9 => List.mem_cons_of_mem _ (List.mem_append_right _ h9)) hown hK hP 0 rfl rfl 20 (by decide) (hts (.fieldLink RX9 138 "FontRunsModel" "clusters" "I") (by decide +kernel)) (fun _ h9 => h9) rfl dX9_many_49 ?_
    exact W.iret (v := 0) hx hb hr (fun t ht hW => kQi_of (by decide) (hS.F ht)) hS.2.2 dX9_many_52
  · subst e9
    refine lv_tableIn (tgt := 53) (off := 52) hx hb dX9_many_1 (by decide) (by decide) rfl (by decide) ?_
    refine lv_aload_n hx hb dX9_many_53 rfl (lv_at hl 0 rfl) ?_
    refine va_get (D := D) (ci := 9) (v := .int 0) (C := RX9) (T := TX9) (N := 31) hx hb hts (fun _ h9 => List.mem_cons_of_mem _ (List.mem_append_right _ h9)) hown hK hP 0 rfl rfl 29 (by decide) (hts (.fieldLink RX9 104 "FontRunsModel" "readings" "I") (by decide +kernel)) (fun _ h9 => h9) rfl dX9_many_54 ?_
    exact W.iret (v := 0) hx hb hr (fun t ht hW => kQi_of (by decide) (hS.F ht)) hS.2.2 dX9_many_57
  · refine lv_tableOut (tgt := 58) hx hb dX9_many_1 e9 (by decide) ?_
    refine lv_bipush (v := (-2)) hx hb dX9_many_58 (by decide) ?_
    exact W.iret (v := (-2)) hx hb hr (fun t ht hW => kQi_of (by exact kmany e9) (hS.F ht)) hS.2.2 dX9_many_60
theorem dX9_sheet_0 : decode cX9_sheet 0 = .ok (.aload_n 0, 1) := by decide +kernel
theorem dX9_sheet_1 : decode cX9_sheet 1 = .ok (.iconst 0, 1) := by decide +kernel
theorem dX9_sheet_2 : decode cX9_sheet 2 = .ok (.putfield 64, 3) := by decide +kernel
theorem dX9_sheet_5 : decode cX9_sheet 5 = .ok (.iload_n 1, 1) := by decide +kernel
theorem dX9_sheet_6 : decode cX9_sheet 6 = .ok (.invokestatic 80, 3) := by decide +kernel
theorem dX9_sheet_9 : decode cX9_sheet 9 = .ok (.ifCond .ne 5, 3) := by decide +kernel
theorem dX9_sheet_12 : decode cX9_sheet 12 = .ok (.iconst (-1), 1) := by decide +kernel
theorem dX9_sheet_13 : decode cX9_sheet 13 = .ok (.ireturn, 1) := by decide +kernel
theorem dX9_sheet_14 : decode cX9_sheet 14 = .ok (.iload_n 2, 1) := by decide +kernel
theorem dX9_sheet_15 : decode cX9_sheet 15 = .ok (.invokestatic 84, 3) := by decide +kernel
theorem dX9_sheet_18 : decode cX9_sheet 18 = .ok (.ifCond .eq 9, 3) := by decide +kernel
theorem dX9_sheet_21 : decode cX9_sheet 21 = .ok (.iload_n 3, 1) := by decide +kernel
theorem dX9_sheet_22 : decode cX9_sheet 22 = .ok (.bipush 60, 2) := by decide +kernel
theorem dX9_sheet_24 : decode cX9_sheet 24 = .ok (.if_icmp .le 6, 3) := by decide +kernel
theorem dX9_sheet_27 : decode cX9_sheet 27 = .ok (.bipush (-2), 2) := by decide +kernel
theorem dX9_sheet_29 : decode cX9_sheet 29 = .ok (.ireturn, 1) := by decide +kernel
theorem dX9_sheet_30 : decode cX9_sheet 30 = .ok (.iload_n 3, 1) := by decide +kernel
theorem dX9_sheet_31 : decode cX9_sheet 31 = .ok (.ifCond .ge 9, 3) := by decide +kernel
theorem dX9_sheet_34 : decode cX9_sheet 34 = .ok (.aload_n 0, 1) := by decide +kernel
theorem dX9_sheet_35 : decode cX9_sheet 35 = .ok (.iconst 4, 1) := by decide +kernel
theorem dX9_sheet_36 : decode cX9_sheet 36 = .ok (.invokevirtual 91, 3) := by decide +kernel
theorem dX9_sheet_39 : decode cX9_sheet 39 = .ok (.ireturn, 1) := by decide +kernel
theorem dX9_sheet_40 : decode cX9_sheet 40 = .ok (.aload_n 0, 1) := by decide +kernel
theorem dX9_sheet_41 : decode cX9_sheet 41 = .ok (.getfield 9, 3) := by decide +kernel
theorem dX9_sheet_44 : decode cX9_sheet 44 = .ok (.iload_n 1, 1) := by decide +kernel
theorem dX9_sheet_45 : decode cX9_sheet 45 = .ok (.iload_n 2, 1) := by decide +kernel
theorem dX9_sheet_46 : decode cX9_sheet 46 = .ok (.iastore, 1) := by decide +kernel
theorem dX9_sheet_47 : decode cX9_sheet 47 = .ok (.aload_n 0, 1) := by decide +kernel
theorem dX9_sheet_48 : decode cX9_sheet 48 = .ok (.getfield 13, 3) := by decide +kernel
theorem dX9_sheet_51 : decode cX9_sheet 51 = .ok (.iload_n 1, 1) := by decide +kernel
theorem dX9_sheet_52 : decode cX9_sheet 52 = .ok (.iload_n 3, 1) := by decide +kernel
theorem dX9_sheet_53 : decode cX9_sheet 53 = .ok (.iastore, 1) := by decide +kernel
theorem dX9_sheet_54 : decode cX9_sheet 54 = .ok (.iconst 0, 1) := by decide +kernel
theorem dX9_sheet_55 : decode cX9_sheet 55 = .ok (.istore 4, 2) := by decide +kernel
theorem dX9_sheet_57 : decode cX9_sheet 57 = .ok (.iload 4, 2) := by decide +kernel
theorem dX9_sheet_59 : decode cX9_sheet 59 = .ok (.bipush 60, 2) := by decide +kernel
theorem dX9_sheet_61 : decode cX9_sheet 61 = .ok (.if_icmp .ge 22, 3) := by decide +kernel
theorem dX9_sheet_64 : decode cX9_sheet 64 = .ok (.aload_n 0, 1) := by decide +kernel
theorem dX9_sheet_65 : decode cX9_sheet 65 = .ok (.getfield 16, 3) := by decide +kernel
theorem dX9_sheet_68 : decode cX9_sheet 68 = .ok (.bipush 60, 2) := by decide +kernel
theorem dX9_sheet_70 : decode cX9_sheet 70 = .ok (.iload_n 1, 1) := by decide +kernel
theorem dX9_sheet_71 : decode cX9_sheet 71 = .ok (.imul, 1) := by decide +kernel
theorem dX9_sheet_72 : decode cX9_sheet 72 = .ok (.iload 4, 2) := by decide +kernel
theorem dX9_sheet_74 : decode cX9_sheet 74 = .ok (.iadd, 1) := by decide +kernel
theorem dX9_sheet_75 : decode cX9_sheet 75 = .ok (.iconst 0, 1) := by decide +kernel
theorem dX9_sheet_76 : decode cX9_sheet 76 = .ok (.iastore, 1) := by decide +kernel
theorem dX9_sheet_77 : decode cX9_sheet 77 = .ok (.iinc 4 1, 3) := by decide +kernel
theorem dX9_sheet_80 : decode cX9_sheet 80 = .ok (.goto (-23), 3) := by decide +kernel
theorem dX9_sheet_83 : decode cX9_sheet 83 = .ok (.iconst 1, 1) := by decide +kernel
theorem dX9_sheet_84 : decode cX9_sheet 84 = .ok (.ireturn, 1) := by decide +kernel
set_option maxRecDepth 20000 in
theorem ggX9_sheet_X9_fails : GoodIn wsX9_sheet wsX9_fails := goodIn_r _ [18, 1, 19, 20, 21, 22, 23, 24, 25, 26, 27, 28, 29, 30, 31, 32, 33, 34, 35, 36, 37, 38, 39, 40, 41, 42, 43, 44, 45, 46, 47, 48, 49] (by decide +kernel) (by decide +kernel)
set_option maxRecDepth 20000 in
theorem gX9_sheet_X9_fails : GoodIn wsX9_sheet (wsV RX9 91 RX9 yX9_fails wsX9_fails) := goodIn_app (goodIn_of _ (by decide +kernel)) ggX9_sheet_X9_fails
set_option maxRecDepth 20000 in
theorem ggX9_sheet_X9_isSheet : GoodIn wsX9_sheet wsX9_isSheet := goodIn_r _ [8, 9, 10, 7, 11] (by decide +kernel) (by decide +kernel)
set_option maxRecDepth 20000 in
theorem gX9_sheet_X9_isSheet : GoodIn wsX9_sheet (va_wsS RX9 80 yX9_isSheet wsX9_isSheet) := goodIn_app (goodIn_of _ (by decide +kernel)) ggX9_sheet_X9_isSheet
set_option maxRecDepth 20000 in
theorem ggX9_sheet_X9_isSort : GoodIn wsX9_sheet wsX9_isSort := goodIn_r _ [14, 9, 10, 7, 11] (by decide +kernel) (by decide +kernel)
set_option maxRecDepth 20000 in
theorem gX9_sheet_X9_isSort : GoodIn wsX9_sheet (va_wsS RX9 84 yX9_isSort wsX9_isSort) := goodIn_app (goodIn_of _ (by decide +kernel)) ggX9_sheet_X9_isSort
set_option maxHeartbeats 4000000 in
set_option maxRecDepth 100000 in
theorem c_X9_sheet (l : Launch) (D : va_G) (sz : Nat) (k : Int32) (n : Int32) (z : Int32) (h0 : Nat) (fa : Int32) (tc : Int32) (so : Nat) (sl : Nat) (ce : Nat) (kd : Nat) (wd : Nat) (hs : Nat) (pr : Nat) (la : Nat) (wg : Nat) (ta : Int32) (ck : Int64) (at9 : Int32) (rfn : Int32) (rk : Nat) (rw : Nat) (rh : Nat) (cl : Int32) (sa : Nat) (fi : Nat) (bo : Int32) (ch : Nat) (cn : Nat) (ad : Int32) (ru : Int32) (kp : Nat) (rfa : Nat) (cso : ClassId) (csl : ClassId) (fsl : Nat → Int32) (cce : ClassId) (fce : Nat → Int32) : Met l yX9_sheet wsX9_sheet ({ frames := 2, cells := 0, slots := 0, locals := 42 }) (kPre [.ref h0, .int k, .int n, .int z] D [(h0, .inr (9, [.int fa, .int tc, .ref so, .ref sl, .ref ce, .int 0, .ref kd, .ref wd, .ref hs, .ref pr, .ref la, .int 0, .ref wg, .int ta, .long ck, .int at9, .int rfn, .ref rk, .ref rw, .ref rh, .int cl, .ref sa, .ref fi, .int bo, .ref ch, .ref cn, .int ad, .int ru, .ref kp, .int 0, .ref rfa])), (so, .inl (cso, 4, .inl kSO)), (sl, .inl (csl, 4, .inl fsl)), (ce, .inl (cce, 240, .inl fce))] [(cso, .int), (csl, .int), (cce, .int)] sz) (kQi (sp_sheet k n z) (va_A [(h0, .inr (9, [.int fa, .int tc, .ref so, .ref sl, .ref ce, .int 0, .ref kd, .ref wd, .ref hs, .ref pr, .ref la, .int 0, .ref wg, .int ta, .long ck, .int at9, .int rfn, .ref rk, .ref rw, .ref rh, .int cl, .ref sa, .ref fi, .int bo, .ref ch, .ref cn, .int ad, .int ru, .ref kp, .int 0, .ref rfa])), (so, .inl (cso, 4, .inl kSO)), (sl, .inl (csl, 4, .inl fsl)), (ce, .inl (cce, 240, .inl fce))] sz)) 0 0 (va_A [(h0, .inr (9, [.int fa, .int tc, .ref so, .ref sl, .ref ce, .int 0, .ref kd, .ref wd, .ref hs, .ref pr, .ref la, .int 0, .ref wg, .int ta, .long ck, .int at9, .int rfn, .ref rk, .ref rw, .ref rh, .int cl, .ref sa, .ref fi, .int bo, .ref ch, .ref cn, .int ad, .int ru, .ref kp, .int 0, .ref rfa])), (so, .inl (cso, 4, .inl kSO)), (sl, .inl (csl, 4, .inl fsl)), (ce, .inl (cce, 240, .inl fce))] sz) := by
  refine Met.ofW (cc := cX9_sheet) (maxL := 5) (ret := (some .int)) (by decide) rfl ?_
  intro p e s m args below meth c s₁ B hml hv
  obtain ⟨rfl, hsz, hP, hK, hD0, hN⟩ := hv
  have hx := B.exec
  have hb := B.bytes
  have hr := B.returns
  have hts := atoms_spec (ws := wsX9_sheet) B.pre
  have hown : s.vm.findClass RX9 = some m.cls := findClass_of_methodNamed B.named
  have hlocks := B.notSynchronized
  subst hsz
  have hD := hD0.self (sz := s.heap.size)
  generalize hAe : va_A [(h0, .inr (9, [.int fa, .int tc, .ref so, .ref sl, .ref ce, .int 0, .ref kd, .ref wd, .ref hs, .ref pr, .ref la, .int 0, .ref wg, .int ta, .long ck, .int at9, .int rfn, .ref rk, .ref rw, .ref rh, .int cl, .ref sa, .ref fi, .int bo, .ref ch, .ref cn, .int ad, .int ru, .ref kp, .int 0, .ref rfa])), (so, .inl (cso, 4, .inl kSO)), (sl, .inl (csl, 4, .inl fsl)), (ce, .inl (cce, 240, .inl fce))] s.heap.size = A at hD ⊢
  have hA : ∀ q : Nat, s.heap.size ≤ q → A q := fun q h => by rw [← hAe]; exact Or.inr h
  have hS : va_S A s.heap s.heap [] := va_S.rf
  have hP : va_P D vwCl [(h0, .inr (9, [.int fa, .int tc, .ref so, .ref sl, .ref ce, .int 0, .ref kd, .ref wd, .ref hs, .ref pr, .ref la, .int 0, .ref wg, .int ta, .long ck, .int at9, .int rfn, .ref rk, .ref rw, .ref rh, .int cl, .ref sa, .ref fi, .int bo, .ref ch, .ref cn, .int ad, .int ru, .ref kp, .int 0, .ref rfa])), (so, .inl (cso, 4, .inl kSO)), (sl, .inl (csl, 4, .inl fsl)), (ce, .inl (cce, 240, .inl fce))] s.heap := hP
  have hl := lv_entry ([.ref h0, .int k, .int n, .int z]) (n := 5) (Nat.le_of_ble_eq_true rfl)
  rw [lg_entry_eq]
  generalize (lg_sl ([.ref h0, .int k, .int n, .int z]) ++ List.replicate (5 - (lg_sl ([.ref h0, .int k, .int n, .int z])).length) Slot.unset).toArray = ls at hl ⊢
  have hl : lv_has ls 5 [(0, .ref h0), (1, .int k), (2, .int n), (3, .int z)] := hl
  refine lv_aload_n hx hb dX9_sheet_0 rfl (lv_at hl 0 rfl) ?_
  refine lv_iconst (v := 0) hx hb dX9_sheet_1 (by decide) ?_
  refine va_put (D := D) (ci := 9) (v := .int 0) (ty := .int) (C := RX9) (T := TX9) (N := 31) hx hb hts (fun _ h9 => List.mem_cons_of_mem _ (List.mem_append_right _ h9)) tyX9 tyX9_ok nmX9 hown hK hP hD hS 0 rfl rfl 0 (by decide) (hts (.fieldLink RX9 64 "FontRunsModel" "fault" "I") (by decide +kernel)) (fun _ h9 => h9) rfl (by decide +kernel) rfl rfl (Nat.le_of_ble_eq_true rfl) dX9_sheet_2 (fun H locs hP hD hS => ?_)
  have hP : va_P D vwCl [(h0, .inr (9, [.int 0, .int tc, .ref so, .ref sl, .ref ce, .int 0, .ref kd, .ref wd, .ref hs, .ref pr, .ref la, .int 0, .ref wg, .int ta, .long ck, .int at9, .int rfn, .ref rk, .ref rw, .ref rh, .int cl, .ref sa, .ref fi, .int bo, .ref ch, .ref cn, .int ad, .int ru, .ref kp, .int 0, .ref rfa])), (so, .inl (cso, 4, .inl kSO)), (sl, .inl (csl, 4, .inl fsl)), (ce, .inl (cce, 240, .inl fce))] H := hP
  have hD : va_D A [(h0, .inr (9, [.int 0, .int tc, .ref so, .ref sl, .ref ce, .int 0, .ref kd, .ref wd, .ref hs, .ref pr, .ref la, .int 0, .ref wg, .int ta, .long ck, .int at9, .int rfn, .ref rk, .ref rw, .ref rh, .int cl, .ref sa, .ref fi, .int bo, .ref ch, .ref cn, .int ad, .int ru, .ref kp, .int 0, .ref rfa])), (so, .inl (cso, 4, .inl kSO)), (sl, .inl (csl, 4, .inl fsl)), (ce, .inl (cce, 240, .inl fce))] := hD
  refine lv_iload_n hx hb dX9_sheet_5 rfl (lv_at hl 1 rfl) ?_
  refine k_callR (va_runS (As := [.int k]) (rest := []) ⟨hx, hb, hml, hown, hts⟩ (c_X9_isSheet l D H.size (k := k)) (va_cwS 1 hts gX9_sheet_X9_isSheet rfl rfl rfl (by decide +kernel) ⟨Nat.le_of_ble_eq_true rfl, Nat.le_of_ble_eq_true rfl⟩) (kPreS hP (kD0 hD) hK hN [] [] rfl rfl (by decide)) rfl rfl hl.1 rfl (lv_room (Nat.le_of_ble_eq_true rfl)) dX9_sheet_6 ⟨Nat.le_of_ble_eq_true rfl, Nat.le_of_ble_eq_true rfl⟩) ?_
  refine lv_if_ne (tgt := 14) hx hb dX9_sheet_9 (by decide) (fun c_1 => ?_) (fun c_1 => ?_)
  · have k_2 : (0 ≤ k ∧ k ≤ 3) := b01t c_1
    refine lv_iload_n hx hb dX9_sheet_14 rfl (lv_at hl 2 rfl) ?_
    refine k_callR (va_runS (As := [.int n]) (rest := []) ⟨hx, hb, hml, hown, hts⟩ (c_X9_isSort l D H.size (k := n)) (va_cwS 1 hts gX9_sheet_X9_isSort rfl rfl rfl (by decide +kernel) ⟨Nat.le_of_ble_eq_true rfl, Nat.le_of_ble_eq_true rfl⟩) (kPreS hP (kD0 hD) hK hN [] [] rfl rfl (by decide)) rfl rfl hl.1 rfl (lv_room (Nat.le_of_ble_eq_true rfl)) dX9_sheet_15 ⟨Nat.le_of_ble_eq_true rfl, Nat.le_of_ble_eq_true rfl⟩) ?_
    refine lv_if_eq (tgt := 27) hx hb dX9_sheet_18 (by decide) (fun c_3 => ?_) (fun c_3 => ?_)
    · have k_4 : ¬ ((0 ≤ n ∧ n ≤ 2)) := b01f c_3
      refine lv_bipush (v := (-2)) hx hb dX9_sheet_27 (by decide) ?_
      exact W.iret (v := (-2)) hx hb hr (fun t ht hW => kQi_of (by simp only [sp_sheet, if_pos k_2, if_neg k_4]) (hS.F ht)) hS.2.2 dX9_sheet_29
    · have k_5 : (0 ≤ n ∧ n ≤ 2) := b01t c_3
      refine lv_iload_n hx hb dX9_sheet_21 rfl (lv_at hl 3 rfl) ?_
      refine lv_bipush (v := 60) hx hb dX9_sheet_22 (by decide) ?_
      refine lv_icmp_le (tgt := 30) hx hb dX9_sheet_24 (by decide) (fun c_6 => ?_) (fun c_6 => ?_)
      · refine lv_iload_n hx hb dX9_sheet_30 rfl (lv_at hl 3 rfl) ?_
        refine lv_if_ge (tgt := 40) hx hb dX9_sheet_31 (by decide) (fun c_7 => ?_) (fun c_7 => ?_)
        · refine lv_aload_n hx hb dX9_sheet_40 rfl (lv_at hl 0 rfl) ?_
          refine va_get (D := D) (ci := 9) (v := .ref so) (C := RX9) (T := TX9) (N := 31) hx hb hts (fun _ h9 => List.mem_cons_of_mem _ (List.mem_append_right _ h9)) hown hK hP 0 rfl rfl 2 (by decide) (hts (.fieldLink RX9 9 "FontRunsModel" "sorts" "[I") (by decide +kernel)) (fun _ h9 => h9) rfl dX9_sheet_41 ?_
          refine lv_iload_n hx hb dX9_sheet_44 rfl (lv_at hl 1 rfl) ?_
          refine lv_iload_n hx hb dX9_sheet_45 rfl (lv_at hl 2 rfl) ?_
          refine va_iast hx hb hK hP hD hS 1 0 rfl rfl (k4in k_2) dX9_sheet_46 (fun H locs hP hD hS => ?_)
          have hP : va_P D vwCl [(h0, .inr (9, [.int 0, .int tc, .ref so, .ref sl, .ref ce, .int 0, .ref kd, .ref wd, .ref hs, .ref pr, .ref la, .int 0, .ref wg, .int ta, .long ck, .int at9, .int rfn, .ref rk, .ref rw, .ref rh, .int cl, .ref sa, .ref fi, .int bo, .ref ch, .ref cn, .int ad, .int ru, .ref kp, .int 0, .ref rfa])), (so, .inl (cso, 4, .inl (upd (kSO) (k).toNatClampNeg n))), (sl, .inl (csl, 4, .inl fsl)), (ce, .inl (cce, 240, .inl fce))] H := hP
          have hD : va_D A [(h0, .inr (9, [.int 0, .int tc, .ref so, .ref sl, .ref ce, .int 0, .ref kd, .ref wd, .ref hs, .ref pr, .ref la, .int 0, .ref wg, .int ta, .long ck, .int at9, .int rfn, .ref rk, .ref rw, .ref rh, .int cl, .ref sa, .ref fi, .int bo, .ref ch, .ref cn, .int ad, .int ru, .ref kp, .int 0, .ref rfa])), (so, .inl (cso, 4, .inl (upd (kSO) (k).toNatClampNeg n))), (sl, .inl (csl, 4, .inl fsl)), (ce, .inl (cce, 240, .inl fce))] := hD
          generalize upd (kSO) (k).toNatClampNeg n = f_8 at hP hD
          refine lv_aload_n hx hb dX9_sheet_47 rfl (lv_at hl 0 rfl) ?_
          refine va_get (D := D) (ci := 9) (v := .ref sl) (C := RX9) (T := TX9) (N := 31) hx hb hts (fun _ h9 => List.mem_cons_of_mem _ (List.mem_append_right _ h9)) hown hK hP 0 rfl rfl 3 (by decide) (hts (.fieldLink RX9 13 "FontRunsModel" "sheetLong" "[I") (by decide +kernel)) (fun _ h9 => h9) rfl dX9_sheet_48 ?_
          refine lv_iload_n hx hb dX9_sheet_51 rfl (lv_at hl 1 rfl) ?_
          refine lv_iload_n hx hb dX9_sheet_52 rfl (lv_at hl 3 rfl) ?_
          refine va_iast hx hb hK hP hD hS 2 1 rfl rfl (k4in k_2) dX9_sheet_53 (fun H locs hP hD hS => ?_)
          have hP : va_P D vwCl [(h0, .inr (9, [.int 0, .int tc, .ref so, .ref sl, .ref ce, .int 0, .ref kd, .ref wd, .ref hs, .ref pr, .ref la, .int 0, .ref wg, .int ta, .long ck, .int at9, .int rfn, .ref rk, .ref rw, .ref rh, .int cl, .ref sa, .ref fi, .int bo, .ref ch, .ref cn, .int ad, .int ru, .ref kp, .int 0, .ref rfa])), (so, .inl (cso, 4, .inl f_8)), (sl, .inl (csl, 4, .inl (upd (fsl) (k).toNatClampNeg z))), (ce, .inl (cce, 240, .inl fce))] H := hP
          have hD : va_D A [(h0, .inr (9, [.int 0, .int tc, .ref so, .ref sl, .ref ce, .int 0, .ref kd, .ref wd, .ref hs, .ref pr, .ref la, .int 0, .ref wg, .int ta, .long ck, .int at9, .int rfn, .ref rk, .ref rw, .ref rh, .int cl, .ref sa, .ref fi, .int bo, .ref ch, .ref cn, .int ad, .int ru, .ref kp, .int 0, .ref rfa])), (so, .inl (cso, 4, .inl f_8)), (sl, .inl (csl, 4, .inl (upd (fsl) (k).toNatClampNeg z))), (ce, .inl (cce, 240, .inl fce))] := hD
          generalize upd (fsl) (k).toNatClampNeg z = f_9 at hP hD
          refine lv_iconst (v := 0) hx hb dX9_sheet_54 (by decide) ?_
          refine lv_istore (lv' := [(4, .int 0), (0, .ref h0), (1, .int k), (2, .int n), (3, .int z)]) hx hb dX9_sheet_55 hl (by decide) rfl (fun ls hl => ?_)
          refine k_loop (I := fun j H locs ls => ∃ f9 : Nat → Int32, va_P D vwCl [(h0, .inr (9, [.int 0, .int tc, .ref so, .ref sl, .ref ce, .int 0, .ref kd, .ref wd, .ref hs, .ref pr, .ref la, .int 0, .ref wg, .int ta, .long ck, .int at9, .int rfn, .ref rk, .ref rw, .ref rh, .int cl, .ref sa, .ref fi, .int bo, .ref ch, .ref cn, .int ad, .int ru, .ref kp, .int 0, .ref rfa])), (so, .inl (cso, 4, .inl f_8)), (sl, .inl (csl, 4, .inl f_9)), (ce, .inl (cce, 240, .inl f9))] H ∧ va_D A [(h0, .inr (9, [.int 0, .int tc, .ref so, .ref sl, .ref ce, .int 0, .ref kd, .ref wd, .ref hs, .ref pr, .ref la, .int 0, .ref wg, .int ta, .long ck, .int at9, .int rfn, .ref rk, .ref rw, .ref rh, .int cl, .ref sa, .ref fi, .int bo, .ref ch, .ref cn, .int ad, .int ru, .ref kp, .int 0, .ref rfa])), (so, .inl (cso, 4, .inl f_8)), (sl, .inl (csl, 4, .inl f_9)), (ce, .inl (cce, 240, .inl f9))] ∧ va_S A s.heap H locs ∧ lv_has ls 5 [(4, .int (nI j)), (0, .ref h0), (1, .int k), (2, .int n), (3, .int z)]) 60 ?_ 0 (by decide) ⟨_, hP, hD, hS, by rw [nI_0]; exact hl⟩
          intro j hj ih H locs ls hI
          obtain ⟨f9, hP, hD, hS, hl⟩ := hI
          refine lv_iload hx hb dX9_sheet_57 (lv_at hl 0 rfl) ?_
          refine lv_bipush (v := 60) hx hb dX9_sheet_59 (by decide) ?_
          refine lv_icmp_ge (tgt := 83) hx hb dX9_sheet_61 (by decide) (fun c_10 => ?_) (fun c_10 => ?_)
          · refine lv_iconst (v := 1) hx hb dX9_sheet_83 (by decide) ?_
            exact W.iret (v := 1) hx hb hr (fun t ht hW => kQi_of (by simp only [sp_sheet, if_pos k_2, if_pos k_5, if_pos c_6, if_pos c_7, if_pos c_10]) (hS.F ht)) hS.2.2 dX9_sheet_84
          · refine lv_aload_n hx hb dX9_sheet_64 rfl (lv_at hl 1 rfl) ?_
            refine va_get (D := D) (ci := 9) (v := .ref ce) (C := RX9) (T := TX9) (N := 31) hx hb hts (fun _ h9 => List.mem_cons_of_mem _ (List.mem_append_right _ h9)) hown hK hP 0 rfl rfl 4 (by decide) (hts (.fieldLink RX9 16 "FontRunsModel" "cells" "[I") (by decide +kernel)) (fun _ h9 => h9) rfl dX9_sheet_65 ?_
            refine lv_bipush (v := 60) hx hb dX9_sheet_68 (by decide) ?_
            refine lv_iload_n hx hb dX9_sheet_70 rfl (lv_at hl 2 rfl) ?_
            refine lv_imul hx hb dX9_sheet_71 ?_
            refine lv_iload hx hb dX9_sheet_72 (lv_at hl 0 rfl) ?_
            refine lv_iadd hx hb dX9_sheet_74 ?_
            refine lv_iconst (v := 0) hx hb dX9_sheet_75 (by decide) ?_
            refine va_iast hx hb hK hP hD hS 3 2 rfl rfl (k240 k_2 c_10 hj) dX9_sheet_76 (fun H locs hP hD hS => ?_)
            have hP : va_P D vwCl [(h0, .inr (9, [.int 0, .int tc, .ref so, .ref sl, .ref ce, .int 0, .ref kd, .ref wd, .ref hs, .ref pr, .ref la, .int 0, .ref wg, .int ta, .long ck, .int at9, .int rfn, .ref rk, .ref rw, .ref rh, .int cl, .ref sa, .ref fi, .int bo, .ref ch, .ref cn, .int ad, .int ru, .ref kp, .int 0, .ref rfa])), (so, .inl (cso, 4, .inl f_8)), (sl, .inl (csl, 4, .inl f_9)), (ce, .inl (cce, 240, .inl (upd (f9) (((60 * k) + (nI j))).toNatClampNeg 0)))] H := hP
            have hD : va_D A [(h0, .inr (9, [.int 0, .int tc, .ref so, .ref sl, .ref ce, .int 0, .ref kd, .ref wd, .ref hs, .ref pr, .ref la, .int 0, .ref wg, .int ta, .long ck, .int at9, .int rfn, .ref rk, .ref rw, .ref rh, .int cl, .ref sa, .ref fi, .int bo, .ref ch, .ref cn, .int ad, .int ru, .ref kp, .int 0, .ref rfa])), (so, .inl (cso, 4, .inl f_8)), (sl, .inl (csl, 4, .inl f_9)), (ce, .inl (cce, 240, .inl (upd (f9) (((60 * k) + (nI j))).toNatClampNeg 0)))] := hD
            generalize upd (f9) (((60 * k) + (nI j))).toNatClampNeg 0 = f_11 at hP hD
            obtain ⟨x_12, ex_12⟩ : ∃ y : Int32, y = (nI j) + 1 := ⟨_, rfl⟩
            refine lv_iinc (v := x_12) (lv' := [(4, .int x_12), (0, .ref h0), (1, .int k), (2, .int n), (3, .int z)]) hx hb dX9_sheet_77 hl (k := 0) rfl (by rw [ex_12]; rfl) (by decide) rfl (fun ls hl => ?_)
            refine lv_goto (tgt := 57) hx hb dX9_sheet_80 (by decide) ?_
            exact ih _ _ _ (klt60 c_10 hj) ⟨_, hP, hD, hS, by rw [← nI_1, ← ex_12]; exact lv_sub hl [0, 1, 2, 3, 4] rfl⟩
        · refine lv_aload_n hx hb dX9_sheet_34 rfl (lv_at hl 0 rfl) ?_
          refine lv_iconst (v := 4) hx hb dX9_sheet_35 (by decide) ?_
          have hFc := va_free (wc := [(h0, .inr (9, [.int 0, .int tc, .ref so, .ref sl, .ref ce, .int 0, .ref kd, .ref wd, .ref hs, .ref pr, .ref la, .int 0, .ref wg, .int ta, .long ck, .int at9, .int rfn, .ref rk, .ref rw, .ref rh, .int cl, .ref sa, .ref fi, .int bo, .ref ch, .ref cn, .int ad, .int ru, .ref kp, .int 0, .ref rfa]))]) hD hS hA [0] rfl
          refine va_calli (va_runV (As := [.int 4]) (rest := []) ⟨hx, hb, hml, hown, hts⟩ (c_X9_fails l D H.size (f := 4) (h0 := h0) (fa := 0) (tc := tc) (so := so) (sl := sl) (ce := ce) (kd := kd) (wd := wd) (hs := hs) (pr := pr) (la := la) (wg := wg) (ta := ta) (ck := ck) (at9 := at9) (rfn := rfn) (rk := rk) (rw := rw) (rh := rh) (cl := cl) (sa := sa) (fi := fi) (bo := bo) (ch := ch) (cn := cn) (ad := ad) (ru := ru) (kp := kp) (rfa := rfa)) (cwV 1 hts gX9_sheet_X9_fails rfl rfl rfl (by decide +kernel) ⟨Nat.le_of_ble_eq_true rfl, Nat.le_of_ble_eq_true rfl⟩) (kPreV hP (kD0 hD) hK hN [0] [] rfl rfl (by decide) 0 9 rfl rfl) rfl rfl hl.1 rfl (lv_room (Nat.le_of_ble_eq_true rfl)) dX9_sheet_36 ⟨Nat.le_of_ble_eq_true rfl, Nat.le_of_ble_eq_true rfl⟩) hS (fun q _ h => hFc q h) hFc (fun r_13 u t H1 locs ht hvm hw hB hz1 hk1 hS => ?_)
          obtain ⟨hP, hD⟩ := va_join (wr := [(so, .inl (cso, 4, .inl kSO)), (sl, .inl (csl, 4, .inl fsl)), (ce, .inl (cce, 240, .inl fce))]) (w1 := []) hP hD [0] [1, 2, 3] rfl rfl (by decide) (by decide) hk1 hFc kP0 kDn
          generalize H1 = H at hP hS ⊢
          have hP : va_P D vwCl [(so, .inl (cso, 4, .inl kSO)), (sl, .inl (csl, 4, .inl fsl)), (ce, .inl (cce, 240, .inl fce))] H := hP
          have hD : va_D A [(so, .inl (cso, 4, .inl kSO)), (sl, .inl (csl, 4, .inl fsl)), (ce, .inl (cce, 240, .inl fce))] := hD
          refine kn_i ((-10) - 4) hw ?_
          refine kn_i (-14) (by decide) ?_
          exact W.iret (v := (-14)) hx hb hr (fun t ht hW => kQi_of (by simp only [sp_sheet, if_pos k_2, if_pos k_5, if_pos c_6, if_neg c_7]) (hS.F ht)) hS.2.2 dX9_sheet_39
      · refine lv_bipush (v := (-2)) hx hb dX9_sheet_27 (by decide) ?_
        exact W.iret (v := (-2)) hx hb hr (fun t ht hW => kQi_of (by simp only [sp_sheet, if_pos k_2, if_pos k_5, if_neg c_6]) (hS.F ht)) hS.2.2 dX9_sheet_29
  · have k_14 : ¬ ((0 ≤ k ∧ k ≤ 3)) := b01f c_1
    refine lv_iconst (v := (-1)) hx hb dX9_sheet_12 (by decide) ?_
    exact W.iret (v := (-1)) hx hb hr (fun t ht hW => kQi_of (by simp only [sp_sheet, if_neg k_14]) (hS.F ht)) hS.2.2 dX9_sheet_13
