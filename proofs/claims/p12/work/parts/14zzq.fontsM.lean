set_option maxRecDepth 20000 in
theorem mw_X9_against_w_0 : (.fieldLink RX9 9 "FontRunsModel" "sorts" "[I" : Cond) ∈ wsX9_against := by decide +kernel
set_option maxRecDepth 20000 in
theorem mw_X9_against_w_1 : (.fieldLink RX9 13 "FontRunsModel" "sheetLong" "[I" : Cond) ∈ wsX9_against := by decide +kernel
set_option maxHeartbeats 4000000 in
set_option maxRecDepth 100000 in
theorem c_X9_against_w (l : Launch) (D : va_G) (sz : Nat) (k : Int) (y : Int) (i : Int) (z : Int) (h0 : Nat) (fa : Int) (tc : Int) (so : Nat) (sl : Nat) (ce : Nat) (fn : Int) (kd : Nat) (wd : Nat) (hs : Nat) (pf : Nat) (lt : Nat) (mn : Int) (wg : Nat) (ta : Int) (ck : Int64) (at9 : Int) (rfn : Int) (rk : Nat) (rw : Nat) (rh : Nat) (cl : Int) (sa : Nat) (fi : Nat) (bo : Int) (ch : Nat) (cn : Nat) (ad : Int) (ru : Int) (kp : Nat) (dn : Int) (rfa : Nat) (c_so : ClassId) (f_so : Nat → Int32) (c_sl : ClassId) (f_sl : Nat → Int32) (q0 : 0 ≤ k ∧ k ≤ 3) (q1 : rg y) (q2 : rg i) (q3 : rg z) (q4 : kSL f_sl) : Met l yX9_against wsX9_against ({ frames := 0, cells := 0, slots := 0, locals := 0 }) (kPre [.ref h0, .int (zI k), .int (zI y), .int (zI i), .int (zI z)] D [(h0, .inr (9, [.int (zI fa), .int (zI tc), .ref so, .ref sl, .ref ce, .int (zI fn), .ref kd, .ref wd, .ref hs, .ref pf, .ref lt, .int (zI mn), .ref wg, .int (zI ta), .long ck, .int (zI at9), .int (zI rfn), .ref rk, .ref rw, .ref rh, .int (zI cl), .ref sa, .ref fi, .int (zI bo), .ref ch, .ref cn, .int (zI ad), .int (zI ru), .ref kp, .int (zI dn), .ref rfa])), (so, .inl (c_so, 4, .inl f_so)), (sl, .inl (c_sl, 4, .inl f_sl))] [(c_so, .int), (c_sl, .int)] sz) (QcP (fun rz => ((rz = 0 ∧ 0 ≤ i ∧ 0 ≤ z ∧ i + z ≤ 60) ∨ (1 ≤ rz ∧ rz ≤ 4)) ∧ kAgM (f_so k.toNat).toInt (f_sl k.toNat).toInt y i z rz)) 0 0 (fun _ => False) := by
  refine Met.ofW (cc := cX9_against) (maxL := 5) (ret := (some .int)) (by decide) rfl ?_
  intro p e s m args below meth c s₁ B hml hv
  obtain ⟨rfl, hsz, hP, hK, hD0, hN⟩ := hv
  have hx := B.exec
  have hb := B.bytes
  have hr := B.returns
  have hts := atoms_spec (ws := wsX9_against) B.pre
  have hown : s.vm.findClass RX9 = some m.cls := findClass_of_methodNamed B.named
  have hlocks := B.notSynchronized
  subst hsz
  have hD := hD0
  have hP : va_P D vwCl [(h0, .inr (9, [.int (zI fa), .int (zI tc), .ref so, .ref sl, .ref ce, .int (zI fn), .ref kd, .ref wd, .ref hs, .ref pf, .ref lt, .int (zI mn), .ref wg, .int (zI ta), .long ck, .int (zI at9), .int (zI rfn), .ref rk, .ref rw, .ref rh, .int (zI cl), .ref sa, .ref fi, .int (zI bo), .ref ch, .ref cn, .int (zI ad), .int (zI ru), .ref kp, .int (zI dn), .ref rfa])), (so, .inl (c_so, 4, .inl f_so)), (sl, .inl (c_sl, 4, .inl f_sl))] s.heap := hP
  have hl := lv_entry ([.ref h0, .int (zI k), .int (zI y), .int (zI i), .int (zI z)]) (n := 5) (Nat.le_of_ble_eq_true rfl)
  rw [lg_entry_eq]
  generalize (lg_sl ([.ref h0, .int (zI k), .int (zI y), .int (zI i), .int (zI z)]) ++ List.replicate (5 - (lg_sl ([.ref h0, .int (zI k), .int (zI y), .int (zI i), .int (zI z)])).length) Slot.unset).toArray = ls at hl ⊢
  have hl : lv_has ls 5 [(0, .ref h0), (1, .int (zI k)), (2, .int (zI y)), (3, .int (zI i)), (4, .int (zI z))] := hl
  refine lv_aload_n hx hb dX9_against_0 rfl (lv_at hl 0 rfl) ?_
  refine va_get (D := D) (ci := 9) (v := .ref so) (C := RX9) (T := TX9) (N := 31) hx hb hts (fun _ h9 => List.mem_cons_of_mem _ (List.mem_append_right _ h9)) hown hK hP 0 rfl rfl 2 (by decide) (hts (.fieldLink RX9 9 "FontRunsModel" "sorts" "[I") mw_X9_against_w_0) (fun _ h9 => h9) rfl dX9_against_1 ?_
  refine lv_iload_n hx hb dX9_against_4 rfl (lv_at hl 1 rfl) ?_
  refine kz_iald hx hb hK hP 1 0 rfl rfl (by omega) dX9_against_5 (fun z_1 rz_1 ez_1 => ?_)
  have tz_1 : (f_so (k).toNat).toInt = z_1 := by rw [ez_1, zI_toInt rz_1]
  refine lv_bipush (v := zI (-9)) hx hb dX9_against_6 (by decide) ?_
  refine kz_icmp_eq (tgt := 23) hx hb dX9_against_8 (by decide) (by omega) (by omega) (fun c_2 => ?_) (fun c_2 => ?_)
  · refine lv_aload_n hx hb dX9_against_23 rfl (lv_at hl 0 rfl) ?_
    refine va_get (D := D) (ci := 9) (v := .ref so) (C := RX9) (T := TX9) (N := 31) hx hb hts (fun _ h9 => List.mem_cons_of_mem _ (List.mem_append_right _ h9)) hown hK hP 0 rfl rfl 2 (by decide) (hts (.fieldLink RX9 9 "FontRunsModel" "sorts" "[I") mw_X9_against_w_0) (fun _ h9 => h9) rfl dX9_against_24 ?_
    refine lv_iload_n hx hb dX9_against_27 rfl (lv_at hl 1 rfl) ?_
    refine kz_iald hx hb hK hP 1 0 rfl rfl (by omega) dX9_against_28 (fun z_3 rz_3 ez_3 => ?_)
    have q9 : z_1 = z_3 := (zI_eq rz_1 rz_3).mp (ez_1.symm.trans ez_3)
    subst q9
    refine lv_bipush (v := zI (-9)) hx hb dX9_against_29 (by decide) ?_
    refine kz_icmp_ne (tgt := 36) hx hb dX9_against_31 (by decide) (by omega) (by omega) (fun c9 => by omega) (fun c9 => ?_)
    refine lv_iconst (v := zI 1) hx hb dX9_against_34 rfl ?_
    exact W.iret (v := (zI 1)) hx hb hr (fun t ht hW => QcP_of (by omega) ⟨by omega, by unfold kAgM; omega⟩ ht) (fun _ h9 => by cases h9) dX9_against_35
  · refine lv_aload_n hx hb dX9_against_11 rfl (lv_at hl 0 rfl) ?_
    refine va_get (D := D) (ci := 9) (v := .ref so) (C := RX9) (T := TX9) (N := 31) hx hb hts (fun _ h9 => List.mem_cons_of_mem _ (List.mem_append_right _ h9)) hown hK hP 0 rfl rfl 2 (by decide) (hts (.fieldLink RX9 9 "FontRunsModel" "sorts" "[I") mw_X9_against_w_0) (fun _ h9 => h9) rfl dX9_against_12 ?_
    refine lv_iload_n hx hb dX9_against_15 rfl (lv_at hl 1 rfl) ?_
    refine kz_iald hx hb hK hP 1 0 rfl rfl (by omega) dX9_against_16 (fun z_4 rz_4 ez_4 => ?_)
    have q9 : z_1 = z_4 := (zI_eq rz_1 rz_4).mp (ez_1.symm.trans ez_4)
    subst q9
    refine lv_iload_n hx hb dX9_against_17 rfl (lv_at hl 2 rfl) ?_
    refine kz_icmp_eq (tgt := 23) hx hb dX9_against_18 (by decide) (by omega) (by omega) (fun c_5 => ?_) (fun c_5 => ?_)
    · refine lv_aload_n hx hb dX9_against_23 rfl (lv_at hl 0 rfl) ?_
      refine va_get (D := D) (ci := 9) (v := .ref so) (C := RX9) (T := TX9) (N := 31) hx hb hts (fun _ h9 => List.mem_cons_of_mem _ (List.mem_append_right _ h9)) hown hK hP 0 rfl rfl 2 (by decide) (hts (.fieldLink RX9 9 "FontRunsModel" "sorts" "[I") mw_X9_against_w_0) (fun _ h9 => h9) rfl dX9_against_24 ?_
      refine lv_iload_n hx hb dX9_against_27 rfl (lv_at hl 1 rfl) ?_
      refine kz_iald hx hb hK hP 1 0 rfl rfl (by omega) dX9_against_28 (fun z_6 rz_6 ez_6 => ?_)
      have q9 : z_1 = z_6 := (zI_eq rz_1 rz_6).mp (ez_1.symm.trans ez_6)
      subst q9
      refine lv_bipush (v := zI (-9)) hx hb dX9_against_29 (by decide) ?_
      refine kz_icmp_ne (tgt := 36) hx hb dX9_against_31 (by decide) (by omega) (by omega) (fun c9 => ?_) (fun c9 => by omega)
      refine lv_iload hx hb dX9_against_36 (lv_at hl 4 rfl) ?_
      refine kz_if_ge (tgt := 43) hx hb dX9_against_38 (by decide) (by omega) (fun c_7 => ?_) (fun c_7 => ?_)
      · refine lv_iload_n hx hb dX9_against_43 rfl (lv_at hl 3 rfl) ?_
        refine kz_if_lt (tgt := 70) hx hb dX9_against_44 (by decide) (by omega) (fun c_8 => ?_) (fun c_8 => ?_)
        · refine lv_iconst (v := zI 3) hx hb dX9_against_70 rfl ?_
          refine lv_goto (tgt := 75) hx hb dX9_against_71 (by decide) ?_
          exact W.iret (v := (zI 3)) hx hb hr (fun t ht hW => QcP_of (by omega) ⟨by omega, by unfold kAgM; omega⟩ ht) (fun _ h9 => by cases h9) dX9_against_75
        · refine lv_iload_n hx hb dX9_against_47 rfl (lv_at hl 3 rfl) ?_
          refine lv_aload_n hx hb dX9_against_48 rfl (lv_at hl 0 rfl) ?_
          refine va_get (D := D) (ci := 9) (v := .ref sl) (C := RX9) (T := TX9) (N := 31) hx hb hts (fun _ h9 => List.mem_cons_of_mem _ (List.mem_append_right _ h9)) hown hK hP 0 rfl rfl 3 (by decide) (hts (.fieldLink RX9 13 "FontRunsModel" "sheetLong" "[I") mw_X9_against_w_1) (fun _ h9 => h9) rfl dX9_against_49 ?_
          refine lv_iload_n hx hb dX9_against_52 rfl (lv_at hl 1 rfl) ?_
          refine kz_iald hx hb hK hP 2 1 rfl rfl (by omega) dX9_against_53 (fun z_9 rz_9 ez_9 => ?_)
          have tz_9 : (f_sl (k).toNat).toInt = z_9 := by rw [ez_9, zI_toInt rz_9]
          have bz_9 := kSL_at q4 (by omega) rz_9 ez_9
          refine kz_icmp_gt (tgt := 70) hx hb dX9_against_54 (by decide) (by omega) (by omega) (fun c_10 => ?_) (fun c_10 => ?_)
          · refine lv_iconst (v := zI 3) hx hb dX9_against_70 rfl ?_
            refine lv_goto (tgt := 75) hx hb dX9_against_71 (by decide) ?_
            exact W.iret (v := (zI 3)) hx hb hr (fun t ht hW => QcP_of (by omega) ⟨by omega, by unfold kAgM; omega⟩ ht) (fun _ h9 => by cases h9) dX9_against_75
          · refine lv_iload hx hb dX9_against_57 (lv_at hl 4 rfl) ?_
            refine lv_aload_n hx hb dX9_against_59 rfl (lv_at hl 0 rfl) ?_
            refine va_get (D := D) (ci := 9) (v := .ref sl) (C := RX9) (T := TX9) (N := 31) hx hb hts (fun _ h9 => List.mem_cons_of_mem _ (List.mem_append_right _ h9)) hown hK hP 0 rfl rfl 3 (by decide) (hts (.fieldLink RX9 13 "FontRunsModel" "sheetLong" "[I") mw_X9_against_w_1) (fun _ h9 => h9) rfl dX9_against_60 ?_
            refine lv_iload_n hx hb dX9_against_63 rfl (lv_at hl 1 rfl) ?_
            refine kz_iald hx hb hK hP 2 1 rfl rfl (by omega) dX9_against_64 (fun z_11 rz_11 ez_11 => ?_)
            have q9 : z_9 = z_11 := (zI_eq rz_9 rz_11).mp (ez_9.symm.trans ez_11)
            subst q9
            refine lv_iload_n hx hb dX9_against_65 rfl (lv_at hl 3 rfl) ?_
            refine kz_isub hx hb dX9_against_66 ?_
            refine kz_icmp_le (tgt := 74) hx hb dX9_against_67 (by decide) (by omega) (by omega) (fun c_12 => ?_) (fun c_12 => ?_)
            · refine lv_iconst (v := zI 0) hx hb dX9_against_74 rfl ?_
              exact W.iret (v := (zI 0)) hx hb hr (fun t ht hW => QcP_of (by omega) ⟨by omega, by unfold kAgM; omega⟩ ht) (fun _ h9 => by cases h9) dX9_against_75
            · refine lv_iconst (v := zI 3) hx hb dX9_against_70 rfl ?_
              refine lv_goto (tgt := 75) hx hb dX9_against_71 (by decide) ?_
              exact W.iret (v := (zI 3)) hx hb hr (fun t ht hW => QcP_of (by omega) ⟨by omega, by unfold kAgM; omega⟩ ht) (fun _ h9 => by cases h9) dX9_against_75
      · refine lv_iconst (v := zI 4) hx hb dX9_against_41 rfl ?_
        exact W.iret (v := (zI 4)) hx hb hr (fun t ht hW => QcP_of (by omega) ⟨by omega, by unfold kAgM; omega⟩ ht) (fun _ h9 => by cases h9) dX9_against_42
    · refine lv_iconst (v := zI 2) hx hb dX9_against_21 rfl ?_
      exact W.iret (v := (zI 2)) hx hb hr (fun t ht hW => QcP_of (by omega) ⟨by omega, by unfold kAgM; omega⟩ ht) (fun _ h9 => by cases h9) dX9_against_22
theorem dX9_fonts_0 : decode cX9_fonts 0 = .ok (.aload_n 0, 1) := by decide +kernel
theorem dX9_fonts_1 : decode cX9_fonts 1 = .ok (.iconst 0, 1) := by decide +kernel
theorem dX9_fonts_2 : decode cX9_fonts 2 = .ok (.putfield 64, 3) := by decide +kernel
theorem dX9_fonts_5 : decode cX9_fonts 5 = .ok (.iload_n 1, 1) := by decide +kernel
theorem dX9_fonts_6 : decode cX9_fonts 6 = .ok (.invokestatic 80, 3) := by decide +kernel
theorem dX9_fonts_9 : decode cX9_fonts 9 = .ok (.ifCond .ne 5, 3) := by decide +kernel
theorem dX9_fonts_12 : decode cX9_fonts 12 = .ok (.iconst (-1), 1) := by decide +kernel
theorem dX9_fonts_13 : decode cX9_fonts 13 = .ok (.ireturn, 1) := by decide +kernel
theorem dX9_fonts_14 : decode cX9_fonts 14 = .ok (.iload_n 2, 1) := by decide +kernel
theorem dX9_fonts_15 : decode cX9_fonts 15 = .ok (.invokestatic 84, 3) := by decide +kernel
theorem dX9_fonts_18 : decode cX9_fonts 18 = .ok (.ifCond .ne 6, 3) := by decide +kernel
theorem dX9_fonts_21 : decode cX9_fonts 21 = .ok (.bipush (-2), 2) := by decide +kernel
theorem dX9_fonts_23 : decode cX9_fonts 23 = .ok (.ireturn, 1) := by decide +kernel
theorem dX9_fonts_24 : decode cX9_fonts 24 = .ok (.aload_n 0, 1) := by decide +kernel
theorem dX9_fonts_25 : decode cX9_fonts 25 = .ok (.iload_n 1, 1) := by decide +kernel
theorem dX9_fonts_26 : decode cX9_fonts 26 = .ok (.iload_n 2, 1) := by decide +kernel
theorem dX9_fonts_27 : decode cX9_fonts 27 = .ok (.iload_n 3, 1) := by decide +kernel
theorem dX9_fonts_28 : decode cX9_fonts 28 = .ok (.iload 4, 2) := by decide +kernel
theorem dX9_fonts_30 : decode cX9_fonts 30 = .ok (.invokevirtual 87, 3) := by decide +kernel
theorem dX9_fonts_33 : decode cX9_fonts 33 = .ok (.istore 5, 2) := by decide +kernel
theorem dX9_fonts_35 : decode cX9_fonts 35 = .ok (.iload 5, 2) := by decide +kernel
theorem dX9_fonts_37 : decode cX9_fonts 37 = .ok (.ifCond .eq 10, 3) := by decide +kernel
theorem dX9_fonts_40 : decode cX9_fonts 40 = .ok (.aload_n 0, 1) := by decide +kernel
theorem dX9_fonts_41 : decode cX9_fonts 41 = .ok (.iload 5, 2) := by decide +kernel
theorem dX9_fonts_43 : decode cX9_fonts 43 = .ok (.invokevirtual 91, 3) := by decide +kernel
theorem dX9_fonts_46 : decode cX9_fonts 46 = .ok (.ireturn, 1) := by decide +kernel
theorem dX9_fonts_47 : decode cX9_fonts 47 = .ok (.bipush 60, 2) := by decide +kernel
theorem dX9_fonts_49 : decode cX9_fonts 49 = .ok (.iload_n 1, 1) := by decide +kernel
theorem dX9_fonts_50 : decode cX9_fonts 50 = .ok (.imul, 1) := by decide +kernel
theorem dX9_fonts_51 : decode cX9_fonts 51 = .ok (.iload_n 3, 1) := by decide +kernel
theorem dX9_fonts_52 : decode cX9_fonts 52 = .ok (.iadd, 1) := by decide +kernel
theorem dX9_fonts_53 : decode cX9_fonts 53 = .ok (.istore 6, 2) := by decide +kernel
theorem dX9_fonts_55 : decode cX9_fonts 55 = .ok (.aload_n 0, 1) := by decide +kernel
theorem dX9_fonts_56 : decode cX9_fonts 56 = .ok (.iload 6, 2) := by decide +kernel
theorem dX9_fonts_58 : decode cX9_fonts 58 = .ok (.putfield 77, 3) := by decide +kernel
theorem dX9_fonts_61 : decode cX9_fonts 61 = .ok (.aload_n 0, 1) := by decide +kernel
theorem dX9_fonts_62 : decode cX9_fonts 62 = .ok (.iload 6, 2) := by decide +kernel
theorem dX9_fonts_64 : decode cX9_fonts 64 = .ok (.iload 4, 2) := by decide +kernel
theorem dX9_fonts_66 : decode cX9_fonts 66 = .ok (.iadd, 1) := by decide +kernel
theorem dX9_fonts_67 : decode cX9_fonts 67 = .ok (.invokevirtual 95, 3) := by decide +kernel
theorem dX9_fonts_70 : decode cX9_fonts 70 = .ok (.ifCond .ne 14, 3) := by decide +kernel
theorem dX9_fonts_73 : decode cX9_fonts 73 = .ok (.bipush (-100), 2) := by decide +kernel
theorem dX9_fonts_75 : decode cX9_fonts 75 = .ok (.aload_n 0, 1) := by decide +kernel
theorem dX9_fonts_76 : decode cX9_fonts 76 = .ok (.getfield 77, 3) := by decide +kernel
theorem dX9_fonts_79 : decode cX9_fonts 79 = .ok (.iload 6, 2) := by decide +kernel
theorem dX9_fonts_81 : decode cX9_fonts 81 = .ok (.isub, 1) := by decide +kernel
theorem dX9_fonts_82 : decode cX9_fonts 82 = .ok (.isub, 1) := by decide +kernel
theorem dX9_fonts_83 : decode cX9_fonts 83 = .ok (.ireturn, 1) := by decide +kernel
theorem dX9_fonts_84 : decode cX9_fonts 84 = .ok (.aload_n 0, 1) := by decide +kernel
theorem dX9_fonts_85 : decode cX9_fonts 85 = .ok (.aload_n 0, 1) := by decide +kernel
theorem dX9_fonts_86 : decode cX9_fonts 86 = .ok (.getfield 98, 3) := by decide +kernel
theorem dX9_fonts_89 : decode cX9_fonts 89 = .ok (.putfield 74, 3) := by decide +kernel
theorem dX9_fonts_92 : decode cX9_fonts 92 = .ok (.iconst 0, 1) := by decide +kernel
theorem dX9_fonts_93 : decode cX9_fonts 93 = .ok (.istore 7, 2) := by decide +kernel
theorem dX9_fonts_95 : decode cX9_fonts 95 = .ok (.iload 7, 2) := by decide +kernel
theorem dX9_fonts_97 : decode cX9_fonts 97 = .ok (.aload_n 0, 1) := by decide +kernel
theorem dX9_fonts_98 : decode cX9_fonts 98 = .ok (.getfield 74, 3) := by decide +kernel
theorem dX9_fonts_101 : decode cX9_fonts 101 = .ok (.if_icmp .ge 60, 3) := by decide +kernel
theorem dX9_fonts_104 : decode cX9_fonts 104 = .ok (.aload_n 0, 1) := by decide +kernel
theorem dX9_fonts_105 : decode cX9_fonts 105 = .ok (.getfield 19, 3) := by decide +kernel
theorem dX9_fonts_108 : decode cX9_fonts 108 = .ok (.iload 7, 2) := by decide +kernel
theorem dX9_fonts_110 : decode cX9_fonts 110 = .ok (.aload_n 0, 1) := by decide +kernel
theorem dX9_fonts_111 : decode cX9_fonts 111 = .ok (.getfield 37, 3) := by decide +kernel
theorem dX9_fonts_114 : decode cX9_fonts 114 = .ok (.iload 7, 2) := by decide +kernel
theorem dX9_fonts_116 : decode cX9_fonts 116 = .ok (.iaload, 1) := by decide +kernel
theorem dX9_fonts_117 : decode cX9_fonts 117 = .ok (.iastore, 1) := by decide +kernel
theorem dX9_fonts_118 : decode cX9_fonts 118 = .ok (.aload_n 0, 1) := by decide +kernel
theorem dX9_fonts_119 : decode cX9_fonts 119 = .ok (.getfield 22, 3) := by decide +kernel
theorem dX9_fonts_122 : decode cX9_fonts 122 = .ok (.iload 7, 2) := by decide +kernel
theorem dX9_fonts_124 : decode cX9_fonts 124 = .ok (.aload_n 0, 1) := by decide +kernel
theorem dX9_fonts_125 : decode cX9_fonts 125 = .ok (.getfield 40, 3) := by decide +kernel
theorem dX9_fonts_128 : decode cX9_fonts 128 = .ok (.iload 7, 2) := by decide +kernel
theorem dX9_fonts_130 : decode cX9_fonts 130 = .ok (.iaload, 1) := by decide +kernel
theorem dX9_fonts_131 : decode cX9_fonts 131 = .ok (.iastore, 1) := by decide +kernel
theorem dX9_fonts_132 : decode cX9_fonts 132 = .ok (.aload_n 0, 1) := by decide +kernel
theorem dX9_fonts_133 : decode cX9_fonts 133 = .ok (.getfield 25, 3) := by decide +kernel
theorem dX9_fonts_136 : decode cX9_fonts 136 = .ok (.iload 7, 2) := by decide +kernel
theorem dX9_fonts_138 : decode cX9_fonts 138 = .ok (.aload_n 0, 1) := by decide +kernel
theorem dX9_fonts_139 : decode cX9_fonts 139 = .ok (.getfield 43, 3) := by decide +kernel
theorem dX9_fonts_142 : decode cX9_fonts 142 = .ok (.iload 7, 2) := by decide +kernel
theorem dX9_fonts_144 : decode cX9_fonts 144 = .ok (.iaload, 1) := by decide +kernel
theorem dX9_fonts_145 : decode cX9_fonts 145 = .ok (.iastore, 1) := by decide +kernel
theorem dX9_fonts_146 : decode cX9_fonts 146 = .ok (.aload_n 0, 1) := by decide +kernel
theorem dX9_fonts_147 : decode cX9_fonts 147 = .ok (.getfield 28, 3) := by decide +kernel
theorem dX9_fonts_150 : decode cX9_fonts 150 = .ok (.iload 7, 2) := by decide +kernel
theorem dX9_fonts_152 : decode cX9_fonts 152 = .ok (.iload 7, 2) := by decide +kernel
theorem dX9_fonts_154 : decode cX9_fonts 154 = .ok (.iastore, 1) := by decide +kernel
theorem dX9_fonts_155 : decode cX9_fonts 155 = .ok (.iinc 7 1, 3) := by decide +kernel
theorem dX9_fonts_158 : decode cX9_fonts 158 = .ok (.goto (-63), 3) := by decide +kernel
theorem dX9_fonts_161 : decode cX9_fonts 161 = .ok (.iconst 0, 1) := by decide +kernel
theorem dX9_fonts_162 : decode cX9_fonts 162 = .ok (.istore 7, 2) := by decide +kernel
theorem dX9_fonts_164 : decode cX9_fonts 164 = .ok (.iload 7, 2) := by decide +kernel
theorem dX9_fonts_166 : decode cX9_fonts 166 = .ok (.iconst 5, 1) := by decide +kernel
theorem dX9_fonts_167 : decode cX9_fonts 167 = .ok (.if_icmp .ge 18, 3) := by decide +kernel
theorem dX9_fonts_170 : decode cX9_fonts 170 = .ok (.aload_n 0, 1) := by decide +kernel
theorem dX9_fonts_171 : decode cX9_fonts 171 = .ok (.getfield 31, 3) := by decide +kernel
theorem dX9_fonts_174 : decode cX9_fonts 174 = .ok (.iload 7, 2) := by decide +kernel
theorem dX9_fonts_176 : decode cX9_fonts 176 = .ok (.bipush (-9), 2) := by decide +kernel
theorem dX9_fonts_178 : decode cX9_fonts 178 = .ok (.iastore, 1) := by decide +kernel
theorem dX9_fonts_179 : decode cX9_fonts 179 = .ok (.iinc 7 1, 3) := by decide +kernel
theorem dX9_fonts_182 : decode cX9_fonts 182 = .ok (.goto (-18), 3) := by decide +kernel
theorem dX9_fonts_185 : decode cX9_fonts 185 = .ok (.aload_n 0, 1) := by decide +kernel
theorem dX9_fonts_186 : decode cX9_fonts 186 = .ok (.iconst 0, 1) := by decide +kernel
theorem dX9_fonts_187 : decode cX9_fonts 187 = .ok (.putfield 101, 3) := by decide +kernel
theorem dX9_fonts_190 : decode cX9_fonts 190 = .ok (.aload_n 0, 1) := by decide +kernel
theorem dX9_fonts_191 : decode cX9_fonts 191 = .ok (.iconst 0, 1) := by decide +kernel
theorem dX9_fonts_192 : decode cX9_fonts 192 = .ok (.putfield 104, 3) := by decide +kernel
theorem dX9_fonts_195 : decode cX9_fonts 195 = .ok (.aload_n 0, 1) := by decide +kernel
theorem dX9_fonts_196 : decode cX9_fonts 196 = .ok (.getfield 74, 3) := by decide +kernel
theorem dX9_fonts_199 : decode cX9_fonts 199 = .ok (.ireturn, 1) := by decide +kernel
set_option maxRecDepth 20000 in
theorem ggX9_fonts_X9_against : GoodIn wsX9_fonts wsX9_against := goodIn_r _ [28, 29, 30, 54, 55, 56, 57, 58, 59, 60, 61, 62, 63, 64, 65, 66, 67, 68, 69, 70, 71, 72, 73, 74, 75, 76, 77, 78, 79, 80, 81, 82, 83, 84] (by decide +kernel) (by decide +kernel)
set_option maxRecDepth 20000 in
theorem gX9_fonts_X9_against : GoodIn wsX9_fonts (wsV RX9 87 RX9 yX9_against wsX9_against) := goodIn_app (goodIn_of _ (by decide +kernel)) ggX9_fonts_X9_against
set_option maxRecDepth 20000 in
theorem ggX9_fonts_X9_fails : GoodIn wsX9_fonts wsX9_fails := goodIn_r _ [34, 1, 54, 55, 56, 57, 58, 59, 60, 61, 62, 63, 64, 65, 66, 67, 68, 69, 70, 71, 72, 73, 74, 75, 76, 77, 78, 79, 80, 81, 82, 83, 84] (by decide +kernel) (by decide +kernel)
set_option maxRecDepth 20000 in
theorem gX9_fonts_X9_fails : GoodIn wsX9_fonts (wsV RX9 91 RX9 yX9_fails wsX9_fails) := goodIn_app (goodIn_of _ (by decide +kernel)) ggX9_fonts_X9_fails
set_option maxRecDepth 20000 in
theorem ggX9_fonts_X9_isSheet : GoodIn wsX9_fonts wsX9_isSheet := goodIn_r _ [18, 19, 20, 17, 21] (by decide +kernel) (by decide +kernel)
set_option maxRecDepth 20000 in
theorem gX9_fonts_X9_isSheet : GoodIn wsX9_fonts (va_wsS RX9 80 yX9_isSheet wsX9_isSheet) := goodIn_app (goodIn_of _ (by decide +kernel)) ggX9_fonts_X9_isSheet
set_option maxRecDepth 20000 in
theorem ggX9_fonts_X9_isSort : GoodIn wsX9_fonts wsX9_isSort := goodIn_r _ [24, 19, 20, 17, 21] (by decide +kernel) (by decide +kernel)
set_option maxRecDepth 20000 in
theorem gX9_fonts_X9_isSort : GoodIn wsX9_fonts (va_wsS RX9 84 yX9_isSort wsX9_isSort) := goodIn_app (goodIn_of _ (by decide +kernel)) ggX9_fonts_X9_isSort
set_option maxRecDepth 20000 in
theorem ggX9_fonts_X9_readAll : GoodIn wsX9_fonts wsX9_readAll := goodIn_r _ [38, 3, 2, 39, 40, 41, 17, 42, 43, 44, 45, 46, 47, 6, 8, 10, 19, 20, 21, 48, 49, 50, 51, 52, 53, 54, 55, 56, 57, 58, 59, 60, 61, 62, 63, 64, 65, 66, 67, 68, 69, 70, 71, 72, 73, 74, 75, 76, 77, 78, 79, 80, 81, 82, 83, 84] (by decide +kernel) (by decide +kernel)
set_option maxRecDepth 20000 in
theorem gX9_fonts_X9_readAll : GoodIn wsX9_fonts (wsV RX9 95 RX9 yX9_readAll wsX9_readAll) := goodIn_app (goodIn_of _ (by decide +kernel)) ggX9_fonts_X9_readAll
set_option maxRecDepth 20000 in
theorem mw_X9_fonts_0 : (.fieldLink RX9 64 "FontRunsModel" "fault" "I" : Cond) ∈ wsX9_fonts := by decide +kernel
set_option maxRecDepth 20000 in
theorem mw_X9_fonts_1 : (.fieldLink RX9 77 "FontRunsModel" "at" "I" : Cond) ∈ wsX9_fonts := by decide +kernel
set_option maxRecDepth 20000 in
theorem mw_X9_fonts_2 : (.fieldLink RX9 98 "FontRunsModel" "readFonts" "I" : Cond) ∈ wsX9_fonts := by decide +kernel
set_option maxRecDepth 20000 in
theorem mw_X9_fonts_3 : (.fieldLink RX9 74 "FontRunsModel" "fonts" "I" : Cond) ∈ wsX9_fonts := by decide +kernel
set_option maxRecDepth 20000 in
theorem mw_X9_fonts_4 : (.fieldLink RX9 101 "FontRunsModel" "many" "I" : Cond) ∈ wsX9_fonts := by decide +kernel
set_option maxRecDepth 20000 in
theorem mw_X9_fonts_5 : (.fieldLink RX9 104 "FontRunsModel" "readings" "I" : Cond) ∈ wsX9_fonts := by decide +kernel
set_option maxRecDepth 20000 in
theorem mw_X9_fonts_6 : (.fieldLink RX9 31 "FontRunsModel" "latest" "[I" : Cond) ∈ wsX9_fonts := by decide +kernel
set_option maxRecDepth 20000 in
theorem mw_X9_fonts_7 : (.fieldLink RX9 19 "FontRunsModel" "kind" "[I" : Cond) ∈ wsX9_fonts := by decide +kernel
set_option maxRecDepth 20000 in
theorem mw_X9_fonts_8 : (.fieldLink RX9 37 "FontRunsModel" "readKind" "[I" : Cond) ∈ wsX9_fonts := by decide +kernel
set_option maxRecDepth 20000 in
theorem mw_X9_fonts_9 : (.fieldLink RX9 22 "FontRunsModel" "width" "[I" : Cond) ∈ wsX9_fonts := by decide +kernel
set_option maxRecDepth 20000 in
theorem mw_X9_fonts_10 : (.fieldLink RX9 40 "FontRunsModel" "readWidth" "[I" : Cond) ∈ wsX9_fonts := by decide +kernel
set_option maxRecDepth 20000 in
theorem mw_X9_fonts_11 : (.fieldLink RX9 25 "FontRunsModel" "has" "[I" : Cond) ∈ wsX9_fonts := by decide +kernel
set_option maxRecDepth 20000 in
theorem mw_X9_fonts_12 : (.fieldLink RX9 43 "FontRunsModel" "readHas" "[I" : Cond) ∈ wsX9_fonts := by decide +kernel
set_option maxRecDepth 20000 in
theorem mw_X9_fonts_13 : (.fieldLink RX9 28 "FontRunsModel" "preference" "[I" : Cond) ∈ wsX9_fonts := by decide +kernel
theorem ax_X9_fonts_0 {e0 e1 e2 e3 e4 e5 e6 e7 e8 e9 e10 e11 : Nat × va_E} : ([] : List Nat).map (fun i => ([e0, e1, e2, e3, e4, e5, e6, e7, e8, e9, e10, e11] : va_W)[i]?) = ([] : va_W).map some := rfl
theorem ax_X9_fonts_1 {e0 e1 e2 e3 e4 e5 e6 e7 e8 e9 e10 e11 : Nat × va_E} : ([0, 1, 2] : List Nat).map (fun i => ([e0, e1, e2, e3, e4, e5, e6, e7, e8, e9, e10, e11] : va_W)[i]?) = ([e0, e1, e2] : va_W).map some := rfl
theorem ax_X9_fonts_2 {e0 e1 e2 e3 e4 e5 e6 e7 e8 e9 e10 e11 : Nat × va_E} : ([0, 3, 4, 5, 6] : List Nat).map (fun i => ([e0, e1, e2, e3, e4, e5, e6, e7, e8, e9, e10, e11] : va_W)[i]?) = ([e0, e3, e4, e5, e6] : va_W).map some := rfl
theorem ax_X9_fonts_3 {e0 e1 e2 e3 e4 e5 e6 e7 e8 e9 e10 e11 : Nat × va_E} : ([1, 2, 7, 8, 9, 10, 11] : List Nat).map (fun i => ([e0, e1, e2, e3, e4, e5, e6, e7, e8, e9, e10, e11] : va_W)[i]?) = ([e1, e2, e7, e8, e9, e10, e11] : va_W).map some := rfl
theorem ax_X9_fonts_4 {D : va_G} {cl : List vw_C} {H : Heap} {e0 e1 e2 e3 e4 e5 e6 f0 f1 f2 f3 f4 : Nat × va_E} (h : va_P D cl ((([e0, e1, e2, e3, e4, e5, e6] : va_W) ++ ([f0, f1, f2, f3, f4] : va_W))) H) : va_P D cl (([e0, e1, e2, e3, e4, e5, e6, f0, f1, f2, f3, f4] : va_W)) H := h
theorem ax_X9_fonts_5 {A : Nat → Prop} {e0 e1 e2 e3 e4 e5 e6 f0 f1 f2 f3 f4 : Nat × va_E} (h : va_D A ((([e0, e1, e2, e3, e4, e5, e6] : va_W) ++ ([f0, f1, f2, f3, f4] : va_W)))) : va_D A (([e0, e1, e2, e3, e4, e5, e6, f0, f1, f2, f3, f4] : va_W)) := h
theorem ax_X9_fonts_6 {e0 e1 e2 e3 e4 e5 e6 e7 e8 e9 e10 e11 : Nat × va_E} : ([7, 0, 1, 8, 9, 10, 11, 2, 3, 4, 5, 6] : List Nat).map (fun i => ([e0, e1, e2, e3, e4, e5, e6, e7, e8, e9, e10, e11] : va_W)[i]?) = ([e7, e0, e1, e8, e9, e10, e11, e2, e3, e4, e5, e6] : va_W).map some := rfl
theorem ax_X9_fonts_7 {e0 e1 e2 e3 e4 e5 e6 e7 e8 e9 e10 e11 : Nat × va_E} : ([0] : List Nat).map (fun i => ([e0, e1, e2, e3, e4, e5, e6, e7, e8, e9, e10, e11] : va_W)[i]?) = ([e0] : va_W).map some := rfl
theorem ax_X9_fonts_8 {e0 e1 e2 e3 e4 e5 e6 e7 e8 e9 e10 e11 : Nat × va_E} : ([1, 2, 3, 4, 5, 6, 7, 8, 9, 10, 11] : List Nat).map (fun i => ([e0, e1, e2, e3, e4, e5, e6, e7, e8, e9, e10, e11] : va_W)[i]?) = ([e1, e2, e3, e4, e5, e6, e7, e8, e9, e10, e11] : va_W).map some := rfl
theorem ax_X9_fonts_9 {D : va_G} {cl : List vw_C} {H : Heap} {e0 e1 e2 e3 e4 e5 e6 e7 e8 e9 e10 f0 : Nat × va_E} (h : va_P D cl ((([e0, e1, e2, e3, e4, e5, e6, e7, e8, e9, e10] : va_W) ++ ([f0] : va_W))) H) : va_P D cl (([e0, e1, e2, e3, e4, e5, e6, e7, e8, e9, e10, f0] : va_W)) H := h
theorem ax_X9_fonts_10 {A : Nat → Prop} {e0 e1 e2 e3 e4 e5 e6 e7 e8 e9 e10 f0 : Nat × va_E} (h : va_D A ((([e0, e1, e2, e3, e4, e5, e6, e7, e8, e9, e10] : va_W) ++ ([f0] : va_W)))) : va_D A (([e0, e1, e2, e3, e4, e5, e6, e7, e8, e9, e10, f0] : va_W)) := h
theorem ax_X9_fonts_11 {e0 e1 e2 e3 e4 e5 e6 e7 e8 e9 e10 e11 : Nat × va_E} : ([11, 0, 1, 2, 3, 4, 5, 6, 7, 8, 9, 10] : List Nat).map (fun i => ([e0, e1, e2, e3, e4, e5, e6, e7, e8, e9, e10, e11] : va_W)[i]?) = ([e11, e0, e1, e2, e3, e4, e5, e6, e7, e8, e9, e10] : va_W).map some := rfl
theorem ax_X9_fonts_12 {e0 e1 e2 e3 e4 e5 e6 e7 e8 e9 e10 e11 : Nat × va_E} : ([0, 1, 2, 3, 4, 5, 6, 7, 8, 9, 10, 11] : List Nat).map (fun i => ([e0, e1, e2, e3, e4, e5, e6, e7, e8, e9, e10, e11] : va_W)[i]?) = ([e0, e1, e2, e3, e4, e5, e6, e7, e8, e9, e10, e11] : va_W).map some := rfl
set_option maxHeartbeats 4000000 in
set_option maxRecDepth 100000 in
theorem c_X9_fonts (l : Launch) (D : va_G) (sz : Nat) (k : Int) (y : Int) (i : Int) (z : Int) (h0 : Nat) (fa : Int) (tc : Int) (so : Nat) (sl : Nat) (ce : Nat) (fn : Int) (kd : Nat) (wd : Nat) (hs : Nat) (pf : Nat) (lt : Nat) (mn : Int) (wg : Nat) (ta : Int) (ck : Int64) (at9 : Int) (rfn : Int) (rk : Nat) (rw : Nat) (rh : Nat) (cl : Int) (sa : Nat) (fi : Nat) (bo : Int) (ch : Nat) (cn : Nat) (ad : Int) (ru : Int) (kp : Nat) (dn : Int) (rfa : Nat) (c_so : ClassId) (f_so : Nat → Int32) (c_sl : ClassId) (f_sl : Nat → Int32) (c_ce : ClassId) (f_ce : Nat → Int32) (c_rk : ClassId) (f_rk : Nat → Int32) (c_rw : ClassId) (f_rw : Nat → Int32) (c_rh : ClassId) (f_rh : Nat → Int32) (c_kd : ClassId) (f_kd : Nat → Int32) (c_wd : ClassId) (f_wd : Nat → Int32) (c_hs : ClassId) (f_hs : Nat → Int32) (c_pf : ClassId) (f_pf : Nat → Int32) (c_lt : ClassId) (f_lt : Nat → Int32) (q0 : rg k) (q1 : rg y) (q2 : rg i) (q3 : rg z) (q4 : rg fa) (q5 : rg at9) (q6 : kSL f_sl) (q7 : 0 ≤ fn ∧ fn ≤ 4) (q8 : 0 ≤ mn ∧ mn ≤ 24) (q9 : ¬ (fn = 0 ∧ 1 ≤ mn)) (q10 : kPm f_pf fn) (q11 : 0 ≤ dn ∧ dn ≤ 8) : Met l yX9_fonts wsX9_fonts ({ frames := 3, cells := 0, slots := 0, locals := 67 }) (kPre [.ref h0, .int (zI k), .int (zI y), .int (zI i), .int (zI z)] D [(h0, .inr (9, [.int (zI fa), .int (zI tc), .ref so, .ref sl, .ref ce, .int (zI fn), .ref kd, .ref wd, .ref hs, .ref pf, .ref lt, .int (zI mn), .ref wg, .int (zI ta), .long ck, .int (zI at9), .int (zI rfn), .ref rk, .ref rw, .ref rh, .int (zI cl), .ref sa, .ref fi, .int (zI bo), .ref ch, .ref cn, .int (zI ad), .int (zI ru), .ref kp, .int (zI dn), .ref rfa])), (so, .inl (c_so, 4, .inl f_so)), (sl, .inl (c_sl, 4, .inl f_sl)), (ce, .inl (c_ce, 240, .inl f_ce)), (rk, .inl (c_rk, 4, .inl f_rk)), (rw, .inl (c_rw, 4, .inl f_rw)), (rh, .inl (c_rh, 4, .inl f_rh)), (kd, .inl (c_kd, 4, .inl f_kd)), (wd, .inl (c_wd, 4, .inl f_wd)), (hs, .inl (c_hs, 4, .inl f_hs)), (pf, .inl (c_pf, 4, .inl f_pf)), (lt, .inl (c_lt, 5, .inl f_lt))] [(c_so, .int), (c_sl, .int), (c_ce, .int), (c_rk, .int), (c_rw, .int), (c_rh, .int), (c_kd, .int), (c_wd, .int), (c_hs, .int), (c_pf, .int), (c_lt, .int)] sz) (kQS (fun rz t => ∃ (u_fa : Int) (u_at9 : Int) (u_rfn : Int) (u_f_rk : Nat → Int32) (u_f_rw : Nat → Int32) (u_f_rh : Nat → Int32) (u_fn : Int) (u_f_kd : Nat → Int32) (u_f_wd : Nat → Int32) (u_f_hs : Nat → Int32) (u_f_pf : Nat → Int32) (u_f_lt : Nat → Int32) (u_mn : Int) (u_dn : Int), (rg u_fa) ∧ (rg u_at9) ∧ (0 ≤ u_fn ∧ u_fn ≤ 4) ∧ (0 ≤ u_mn ∧ u_mn ≤ 24) ∧ (¬ (u_fn = 0 ∧ 1 ≤ u_mn)) ∧ (kPm u_f_pf u_fn) ∧ (0 ≤ u_dn ∧ u_dn ≤ 8) ∧ (kFoM f_so f_sl f_ce f_rk f_rw f_rh k y i z (fn, f_kd, f_wd, f_hs, mn, f_pf, f_lt, dn) (u_fn, u_f_kd, u_f_wd, u_f_hs, u_mn, u_f_pf, u_f_lt, u_dn) u_fa rz) ∧ va_P D vwCl [(h0, .inr (9, [.int (zI u_fa), .int (zI tc), .ref so, .ref sl, .ref ce, .int (zI u_fn), .ref kd, .ref wd, .ref hs, .ref pf, .ref lt, .int (zI u_mn), .ref wg, .int (zI ta), .long ck, .int (zI u_at9), .int (zI u_rfn), .ref rk, .ref rw, .ref rh, .int (zI cl), .ref sa, .ref fi, .int (zI bo), .ref ch, .ref cn, .int (zI ad), .int (zI ru), .ref kp, .int (zI u_dn), .ref rfa])), (so, .inl (c_so, 4, .inl f_so)), (sl, .inl (c_sl, 4, .inl f_sl)), (ce, .inl (c_ce, 240, .inl f_ce)), (rk, .inl (c_rk, 4, .inl u_f_rk)), (rw, .inl (c_rw, 4, .inl u_f_rw)), (rh, .inl (c_rh, 4, .inl u_f_rh)), (kd, .inl (c_kd, 4, .inl u_f_kd)), (wd, .inl (c_wd, 4, .inl u_f_wd)), (hs, .inl (c_hs, 4, .inl u_f_hs)), (pf, .inl (c_pf, 4, .inl u_f_pf)), (lt, .inl (c_lt, 5, .inl u_f_lt))] t.heap ∧ va_D (va_A [(h0, .inr (9, [.int (zI fa), .int (zI tc), .ref so, .ref sl, .ref ce, .int (zI fn), .ref kd, .ref wd, .ref hs, .ref pf, .ref lt, .int (zI mn), .ref wg, .int (zI ta), .long ck, .int (zI at9), .int (zI rfn), .ref rk, .ref rw, .ref rh, .int (zI cl), .ref sa, .ref fi, .int (zI bo), .ref ch, .ref cn, .int (zI ad), .int (zI ru), .ref kp, .int (zI dn), .ref rfa])), (so, .inl (c_so, 4, .inl f_so)), (sl, .inl (c_sl, 4, .inl f_sl)), (ce, .inl (c_ce, 240, .inl f_ce)), (rk, .inl (c_rk, 4, .inl f_rk)), (rw, .inl (c_rw, 4, .inl f_rw)), (rh, .inl (c_rh, 4, .inl f_rh)), (kd, .inl (c_kd, 4, .inl f_kd)), (wd, .inl (c_wd, 4, .inl f_wd)), (hs, .inl (c_hs, 4, .inl f_hs)), (pf, .inl (c_pf, 4, .inl f_pf)), (lt, .inl (c_lt, 5, .inl f_lt))] sz) [(h0, .inr (9, [.int (zI u_fa), .int (zI tc), .ref so, .ref sl, .ref ce, .int (zI u_fn), .ref kd, .ref wd, .ref hs, .ref pf, .ref lt, .int (zI u_mn), .ref wg, .int (zI ta), .long ck, .int (zI u_at9), .int (zI u_rfn), .ref rk, .ref rw, .ref rh, .int (zI cl), .ref sa, .ref fi, .int (zI bo), .ref ch, .ref cn, .int (zI ad), .int (zI ru), .ref kp, .int (zI u_dn), .ref rfa])), (so, .inl (c_so, 4, .inl f_so)), (sl, .inl (c_sl, 4, .inl f_sl)), (ce, .inl (c_ce, 240, .inl f_ce)), (rk, .inl (c_rk, 4, .inl u_f_rk)), (rw, .inl (c_rw, 4, .inl u_f_rw)), (rh, .inl (c_rh, 4, .inl u_f_rh)), (kd, .inl (c_kd, 4, .inl u_f_kd)), (wd, .inl (c_wd, 4, .inl u_f_wd)), (hs, .inl (c_hs, 4, .inl u_f_hs)), (pf, .inl (c_pf, 4, .inl u_f_pf)), (lt, .inl (c_lt, 5, .inl u_f_lt))]) (va_A [(h0, .inr (9, [.int (zI fa), .int (zI tc), .ref so, .ref sl, .ref ce, .int (zI fn), .ref kd, .ref wd, .ref hs, .ref pf, .ref lt, .int (zI mn), .ref wg, .int (zI ta), .long ck, .int (zI at9), .int (zI rfn), .ref rk, .ref rw, .ref rh, .int (zI cl), .ref sa, .ref fi, .int (zI bo), .ref ch, .ref cn, .int (zI ad), .int (zI ru), .ref kp, .int (zI dn), .ref rfa])), (so, .inl (c_so, 4, .inl f_so)), (sl, .inl (c_sl, 4, .inl f_sl)), (ce, .inl (c_ce, 240, .inl f_ce)), (rk, .inl (c_rk, 4, .inl f_rk)), (rw, .inl (c_rw, 4, .inl f_rw)), (rh, .inl (c_rh, 4, .inl f_rh)), (kd, .inl (c_kd, 4, .inl f_kd)), (wd, .inl (c_wd, 4, .inl f_wd)), (hs, .inl (c_hs, 4, .inl f_hs)), (pf, .inl (c_pf, 4, .inl f_pf)), (lt, .inl (c_lt, 5, .inl f_lt))] sz)) 0 0 (va_A [(h0, .inr (9, [.int (zI fa), .int (zI tc), .ref so, .ref sl, .ref ce, .int (zI fn), .ref kd, .ref wd, .ref hs, .ref pf, .ref lt, .int (zI mn), .ref wg, .int (zI ta), .long ck, .int (zI at9), .int (zI rfn), .ref rk, .ref rw, .ref rh, .int (zI cl), .ref sa, .ref fi, .int (zI bo), .ref ch, .ref cn, .int (zI ad), .int (zI ru), .ref kp, .int (zI dn), .ref rfa])), (so, .inl (c_so, 4, .inl f_so)), (sl, .inl (c_sl, 4, .inl f_sl)), (ce, .inl (c_ce, 240, .inl f_ce)), (rk, .inl (c_rk, 4, .inl f_rk)), (rw, .inl (c_rw, 4, .inl f_rw)), (rh, .inl (c_rh, 4, .inl f_rh)), (kd, .inl (c_kd, 4, .inl f_kd)), (wd, .inl (c_wd, 4, .inl f_wd)), (hs, .inl (c_hs, 4, .inl f_hs)), (pf, .inl (c_pf, 4, .inl f_pf)), (lt, .inl (c_lt, 5, .inl f_lt))] sz) := by
  refine Met.ofW (cc := cX9_fonts) (maxL := 8) (ret := (some .int)) (by decide) rfl ?_
  intro p e s m args below meth c s₁ B hml hv
  obtain ⟨rfl, hsz, hP, hK, hD0, hN⟩ := hv
  have hx := B.exec
  have hb := B.bytes
  have hr := B.returns
  have hts := atoms_spec (ws := wsX9_fonts) B.pre
  have hown : s.vm.findClass RX9 = some m.cls := findClass_of_methodNamed B.named
  have hlocks := B.notSynchronized
  subst hsz
  have hD := hD0.self (sz := s.heap.size)
  generalize hAe : va_A [(h0, .inr (9, [.int (zI fa), .int (zI tc), .ref so, .ref sl, .ref ce, .int (zI fn), .ref kd, .ref wd, .ref hs, .ref pf, .ref lt, .int (zI mn), .ref wg, .int (zI ta), .long ck, .int (zI at9), .int (zI rfn), .ref rk, .ref rw, .ref rh, .int (zI cl), .ref sa, .ref fi, .int (zI bo), .ref ch, .ref cn, .int (zI ad), .int (zI ru), .ref kp, .int (zI dn), .ref rfa])), (so, .inl (c_so, 4, .inl f_so)), (sl, .inl (c_sl, 4, .inl f_sl)), (ce, .inl (c_ce, 240, .inl f_ce)), (rk, .inl (c_rk, 4, .inl f_rk)), (rw, .inl (c_rw, 4, .inl f_rw)), (rh, .inl (c_rh, 4, .inl f_rh)), (kd, .inl (c_kd, 4, .inl f_kd)), (wd, .inl (c_wd, 4, .inl f_wd)), (hs, .inl (c_hs, 4, .inl f_hs)), (pf, .inl (c_pf, 4, .inl f_pf)), (lt, .inl (c_lt, 5, .inl f_lt))] s.heap.size = A at hD ⊢
  have hA : ∀ q : Nat, s.heap.size ≤ q → A q := fun q h => by rw [← hAe]; exact Or.inr h
  have hS : va_S A s.heap s.heap [] := va_S.rf
  have hP : va_P D vwCl [(h0, .inr (9, [.int (zI fa), .int (zI tc), .ref so, .ref sl, .ref ce, .int (zI fn), .ref kd, .ref wd, .ref hs, .ref pf, .ref lt, .int (zI mn), .ref wg, .int (zI ta), .long ck, .int (zI at9), .int (zI rfn), .ref rk, .ref rw, .ref rh, .int (zI cl), .ref sa, .ref fi, .int (zI bo), .ref ch, .ref cn, .int (zI ad), .int (zI ru), .ref kp, .int (zI dn), .ref rfa])), (so, .inl (c_so, 4, .inl f_so)), (sl, .inl (c_sl, 4, .inl f_sl)), (ce, .inl (c_ce, 240, .inl f_ce)), (rk, .inl (c_rk, 4, .inl f_rk)), (rw, .inl (c_rw, 4, .inl f_rw)), (rh, .inl (c_rh, 4, .inl f_rh)), (kd, .inl (c_kd, 4, .inl f_kd)), (wd, .inl (c_wd, 4, .inl f_wd)), (hs, .inl (c_hs, 4, .inl f_hs)), (pf, .inl (c_pf, 4, .inl f_pf)), (lt, .inl (c_lt, 5, .inl f_lt))] s.heap := hP
  have hl := lv_entry ([.ref h0, .int (zI k), .int (zI y), .int (zI i), .int (zI z)]) (n := 8) (Nat.le_of_ble_eq_true rfl)
  rw [lg_entry_eq]
  generalize (lg_sl ([.ref h0, .int (zI k), .int (zI y), .int (zI i), .int (zI z)]) ++ List.replicate (8 - (lg_sl ([.ref h0, .int (zI k), .int (zI y), .int (zI i), .int (zI z)])).length) Slot.unset).toArray = ls at hl ⊢
  have hl : lv_has ls 8 [(0, .ref h0), (1, .int (zI k)), (2, .int (zI y)), (3, .int (zI i)), (4, .int (zI z))] := hl
  refine lv_aload_n hx hb dX9_fonts_0 rfl (lv_at hl 0 rfl) ?_
  refine lv_iconst (v := zI 0) hx hb dX9_fonts_1 rfl ?_
  refine va_put (D := D) (ci := 9) (v := .int (zI 0)) (ty := .int) (C := RX9) (T := TX9) (N := 31) hx hb hts (fun _ h9 => List.mem_cons_of_mem _ (List.mem_append_right _ h9)) tyX9 tyX9_ok nmX9 hown hK hP hD hS 0 rfl rfl 0 (by decide) (hts (.fieldLink RX9 64 "FontRunsModel" "fault" "I") mw_X9_fonts_0) (fun _ h9 => h9) rfl (by decide +kernel) rfl rfl (Nat.le_of_ble_eq_true rfl) dX9_fonts_2 (fun H locs hP hD hS => ?_)
  have hP : va_P D vwCl [(h0, .inr (9, [.int (zI 0), .int (zI tc), .ref so, .ref sl, .ref ce, .int (zI fn), .ref kd, .ref wd, .ref hs, .ref pf, .ref lt, .int (zI mn), .ref wg, .int (zI ta), .long ck, .int (zI at9), .int (zI rfn), .ref rk, .ref rw, .ref rh, .int (zI cl), .ref sa, .ref fi, .int (zI bo), .ref ch, .ref cn, .int (zI ad), .int (zI ru), .ref kp, .int (zI dn), .ref rfa])), (so, .inl (c_so, 4, .inl f_so)), (sl, .inl (c_sl, 4, .inl f_sl)), (ce, .inl (c_ce, 240, .inl f_ce)), (rk, .inl (c_rk, 4, .inl f_rk)), (rw, .inl (c_rw, 4, .inl f_rw)), (rh, .inl (c_rh, 4, .inl f_rh)), (kd, .inl (c_kd, 4, .inl f_kd)), (wd, .inl (c_wd, 4, .inl f_wd)), (hs, .inl (c_hs, 4, .inl f_hs)), (pf, .inl (c_pf, 4, .inl f_pf)), (lt, .inl (c_lt, 5, .inl f_lt))] H := hP
  have hD : va_D A [(h0, .inr (9, [.int (zI 0), .int (zI tc), .ref so, .ref sl, .ref ce, .int (zI fn), .ref kd, .ref wd, .ref hs, .ref pf, .ref lt, .int (zI mn), .ref wg, .int (zI ta), .long ck, .int (zI at9), .int (zI rfn), .ref rk, .ref rw, .ref rh, .int (zI cl), .ref sa, .ref fi, .int (zI bo), .ref ch, .ref cn, .int (zI ad), .int (zI ru), .ref kp, .int (zI dn), .ref rfa])), (so, .inl (c_so, 4, .inl f_so)), (sl, .inl (c_sl, 4, .inl f_sl)), (ce, .inl (c_ce, 240, .inl f_ce)), (rk, .inl (c_rk, 4, .inl f_rk)), (rw, .inl (c_rw, 4, .inl f_rw)), (rh, .inl (c_rh, 4, .inl f_rh)), (kd, .inl (c_kd, 4, .inl f_kd)), (wd, .inl (c_wd, 4, .inl f_wd)), (hs, .inl (c_hs, 4, .inl f_hs)), (pf, .inl (c_pf, 4, .inl f_pf)), (lt, .inl (c_lt, 5, .inl f_lt))] := hD
  refine lv_iload_n hx hb dX9_fonts_5 rfl (lv_at hl 1 rfl) ?_
  refine k_callR (va_runS (As := [.int (zI k)]) (rest := []) ⟨hx, hb, hml, hown, hts⟩ (c_X9_isSheet l D H.size (k := k) q0) (va_cwS 1 hts gX9_fonts_X9_isSheet rfl rfl rfl (by decide +kernel) ⟨Nat.le_of_ble_eq_true rfl, Nat.le_of_ble_eq_true rfl⟩) (kPreS hP (kD0 hD) hK hN [] [] ax_X9_fonts_0 rfl (by decide +kernel)) rfl rfl hl.1 rfl (lv_room (Nat.le_of_ble_eq_true rfl)) dX9_fonts_6 ⟨Nat.le_of_ble_eq_true rfl, Nat.le_of_ble_eq_true rfl⟩) ?_
  refine lv_if_ne (tgt := 14) hx hb dX9_fonts_9 (by decide) (fun c_1 => ?_) (fun c_1 => ?_)
  · have c_1 : 0 ≤ k ∧ k ≤ 3 := b01t c_1
    refine lv_iload_n hx hb dX9_fonts_14 rfl (lv_at hl 2 rfl) ?_
    refine k_callR (va_runS (As := [.int (zI y)]) (rest := []) ⟨hx, hb, hml, hown, hts⟩ (c_X9_isSort l D H.size (k := y) q1) (va_cwS 1 hts gX9_fonts_X9_isSort rfl rfl rfl (by decide +kernel) ⟨Nat.le_of_ble_eq_true rfl, Nat.le_of_ble_eq_true rfl⟩) (kPreS hP (kD0 hD) hK hN [] [] ax_X9_fonts_0 rfl (by decide +kernel)) rfl rfl hl.1 rfl (lv_room (Nat.le_of_ble_eq_true rfl)) dX9_fonts_15 ⟨Nat.le_of_ble_eq_true rfl, Nat.le_of_ble_eq_true rfl⟩) ?_
    refine lv_if_ne (tgt := 24) hx hb dX9_fonts_18 (by decide) (fun c_2 => ?_) (fun c_2 => ?_)
    · have c_2 : 0 ≤ y ∧ y ≤ 2 := b01t c_2
      refine lv_aload_n hx hb dX9_fonts_24 rfl (lv_at hl 0 rfl) ?_
      refine lv_iload_n hx hb dX9_fonts_25 rfl (lv_at hl 1 rfl) ?_
      refine lv_iload_n hx hb dX9_fonts_26 rfl (lv_at hl 2 rfl) ?_
      refine lv_iload_n hx hb dX9_fonts_27 rfl (lv_at hl 3 rfl) ?_
      refine lv_iload hx hb dX9_fonts_28 (lv_at hl 4 rfl) ?_
      refine k_callP (va_runV (As := [.int (zI k), .int (zI y), .int (zI i), .int (zI z)]) (rest := []) ⟨hx, hb, hml, hown, hts⟩ (c_X9_against_w l D H.size (k := k) (y := y) (i := i) (z := z) (h0 := h0) (fa := 0) (tc := tc) (so := so) (sl := sl) (ce := ce) (fn := fn) (kd := kd) (wd := wd) (hs := hs) (pf := pf) (lt := lt) (mn := mn) (wg := wg) (ta := ta) (ck := ck) (at9 := at9) (rfn := rfn) (rk := rk) (rw := rw) (rh := rh) (cl := cl) (sa := sa) (fi := fi) (bo := bo) (ch := ch) (cn := cn) (ad := ad) (ru := ru) (kp := kp) (dn := dn) (rfa := rfa) (c_so := c_so) (f_so := f_so) (c_sl := c_sl) (f_sl := f_sl) (by omega) q1 q2 q3 q6) (cwV 4 hts gX9_fonts_X9_against rfl rfl rfl (by decide +kernel) ⟨Nat.le_of_ble_eq_true rfl, Nat.le_of_ble_eq_true rfl⟩) (kPreV hP (kD0 hD) hK hN [0, 1, 2] [0, 1] ax_X9_fonts_1 rfl (by decide +kernel) 0 9 rfl rfl) rfl rfl hl.1 rfl (lv_room (Nat.le_of_ble_eq_true rfl)) dX9_fonts_30 ⟨Nat.le_of_ble_eq_true rfl, Nat.le_of_ble_eq_true rfl⟩) (fun z_3 rz_3 h_4 => ?_)
      refine lv_istore (lv' := [(5, .int (zI z_3)), (0, .ref h0), (1, .int (zI k)), (2, .int (zI y)), (3, .int (zI i)), (4, .int (zI z))]) hx hb dX9_fonts_33 hl (by decide) rfl (fun ls hl => ?_)
      refine lv_iload hx hb dX9_fonts_35 (lv_at hl 0 rfl) ?_
      refine kz_if_eq (tgt := 47) hx hb dX9_fonts_37 (by decide) (by omega) (fun c_5 => ?_) (fun c_5 => ?_)
      · refine lv_bipush (v := zI 60) hx hb dX9_fonts_47 (by decide) ?_
        refine lv_iload_n hx hb dX9_fonts_49 rfl (lv_at hl 2 rfl) ?_
        refine kz_imul hx hb dX9_fonts_50 ?_
        refine lv_iload_n hx hb dX9_fonts_51 rfl (lv_at hl 4 rfl) ?_
        refine kz_iadd hx hb dX9_fonts_52 ?_
        refine lv_istore (lv' := [(6, .int (zI ((60 * k) + i))), (5, .int (zI z_3)), (0, .ref h0), (1, .int (zI k)), (2, .int (zI y)), (3, .int (zI i)), (4, .int (zI z))]) hx hb dX9_fonts_53 hl (by decide) rfl (fun ls hl => ?_)
        refine lv_aload_n hx hb dX9_fonts_55 rfl (lv_at hl 2 rfl) ?_
        refine lv_iload hx hb dX9_fonts_56 (lv_at hl 0 rfl) ?_
        refine va_put (D := D) (ci := 9) (v := .int (zI ((60 * k) + i))) (ty := .int) (C := RX9) (T := TX9) (N := 31) hx hb hts (fun _ h9 => List.mem_cons_of_mem _ (List.mem_append_right _ h9)) tyX9 tyX9_ok nmX9 hown hK hP hD hS 0 rfl rfl 15 (by decide) (hts (.fieldLink RX9 77 "FontRunsModel" "at" "I") mw_X9_fonts_1) (fun _ h9 => h9) rfl (by decide +kernel) rfl rfl (Nat.le_of_ble_eq_true rfl) dX9_fonts_58 (fun H locs hP hD hS => ?_)
        have hP : va_P D vwCl [(h0, .inr (9, [.int (zI 0), .int (zI tc), .ref so, .ref sl, .ref ce, .int (zI fn), .ref kd, .ref wd, .ref hs, .ref pf, .ref lt, .int (zI mn), .ref wg, .int (zI ta), .long ck, .int (zI ((60 * k) + i)), .int (zI rfn), .ref rk, .ref rw, .ref rh, .int (zI cl), .ref sa, .ref fi, .int (zI bo), .ref ch, .ref cn, .int (zI ad), .int (zI ru), .ref kp, .int (zI dn), .ref rfa])), (so, .inl (c_so, 4, .inl f_so)), (sl, .inl (c_sl, 4, .inl f_sl)), (ce, .inl (c_ce, 240, .inl f_ce)), (rk, .inl (c_rk, 4, .inl f_rk)), (rw, .inl (c_rw, 4, .inl f_rw)), (rh, .inl (c_rh, 4, .inl f_rh)), (kd, .inl (c_kd, 4, .inl f_kd)), (wd, .inl (c_wd, 4, .inl f_wd)), (hs, .inl (c_hs, 4, .inl f_hs)), (pf, .inl (c_pf, 4, .inl f_pf)), (lt, .inl (c_lt, 5, .inl f_lt))] H := hP
        have hD : va_D A [(h0, .inr (9, [.int (zI 0), .int (zI tc), .ref so, .ref sl, .ref ce, .int (zI fn), .ref kd, .ref wd, .ref hs, .ref pf, .ref lt, .int (zI mn), .ref wg, .int (zI ta), .long ck, .int (zI ((60 * k) + i)), .int (zI rfn), .ref rk, .ref rw, .ref rh, .int (zI cl), .ref sa, .ref fi, .int (zI bo), .ref ch, .ref cn, .int (zI ad), .int (zI ru), .ref kp, .int (zI dn), .ref rfa])), (so, .inl (c_so, 4, .inl f_so)), (sl, .inl (c_sl, 4, .inl f_sl)), (ce, .inl (c_ce, 240, .inl f_ce)), (rk, .inl (c_rk, 4, .inl f_rk)), (rw, .inl (c_rw, 4, .inl f_rw)), (rh, .inl (c_rh, 4, .inl f_rh)), (kd, .inl (c_kd, 4, .inl f_kd)), (wd, .inl (c_wd, 4, .inl f_wd)), (hs, .inl (c_hs, 4, .inl f_hs)), (pf, .inl (c_pf, 4, .inl f_pf)), (lt, .inl (c_lt, 5, .inl f_lt))] := hD
        refine lv_aload_n hx hb dX9_fonts_61 rfl (lv_at hl 2 rfl) ?_
        refine lv_iload hx hb dX9_fonts_62 (lv_at hl 0 rfl) ?_
        refine lv_iload hx hb dX9_fonts_64 (lv_at hl 6 rfl) ?_
        refine kz_iadd hx hb dX9_fonts_66 ?_
        have hFc := va_free (wc := [(h0, .inr (9, [.int (zI 0), .int (zI tc), .ref so, .ref sl, .ref ce, .int (zI fn), .ref kd, .ref wd, .ref hs, .ref pf, .ref lt, .int (zI mn), .ref wg, .int (zI ta), .long ck, .int (zI ((60 * k) + i)), .int (zI rfn), .ref rk, .ref rw, .ref rh, .int (zI cl), .ref sa, .ref fi, .int (zI bo), .ref ch, .ref cn, .int (zI ad), .int (zI ru), .ref kp, .int (zI dn), .ref rfa])), (ce, .inl (c_ce, 240, .inl f_ce)), (rk, .inl (c_rk, 4, .inl f_rk)), (rw, .inl (c_rw, 4, .inl f_rw)), (rh, .inl (c_rh, 4, .inl f_rh))]) hD hS hA [0, 3, 4, 5, 6] ax_X9_fonts_2
        refine va_calli (va_runV (As := [.int (zI (((60 * k) + i) + z))]) (rest := []) ⟨hx, hb, hml, hown, hts⟩ (c_X9_readAll l D H.size (en := (((60 * k) + i) + z)) (h0 := h0) (fa := 0) (tc := tc) (so := so) (sl := sl) (ce := ce) (fn := fn) (kd := kd) (wd := wd) (hs := hs) (pf := pf) (lt := lt) (mn := mn) (wg := wg) (ta := ta) (ck := ck) (at9 := ((60 * k) + i)) (rfn := rfn) (rk := rk) (rw := rw) (rh := rh) (cl := cl) (sa := sa) (fi := fi) (bo := bo) (ch := ch) (cn := cn) (ad := ad) (ru := ru) (kp := kp) (dn := dn) (rfa := rfa) (c_ce := c_ce) (f_ce := f_ce) (c_rk := c_rk) (f_rk := f_rk) (c_rw := c_rw) (f_rw := f_rw) (c_rh := c_rh) (f_rh := f_rh) (by omega) (by omega) (by omega)) (cwV 1 hts gX9_fonts_X9_readAll rfl rfl rfl (by decide +kernel) ⟨Nat.le_of_ble_eq_true rfl, Nat.le_of_ble_eq_true rfl⟩) (kPreV hP (kD0 hD) hK hN [0, 3, 4, 5, 6] [2, 3, 4, 5] ax_X9_fonts_2 rfl (by decide +kernel) 0 9 rfl rfl) rfl rfl hl.1 rfl (lv_room (Nat.le_of_ble_eq_true rfl)) dX9_fonts_67 ⟨Nat.le_of_ble_eq_true rfl, Nat.le_of_ble_eq_true rfl⟩) hS (fun q _ h => hFc q h) hFc (fun r u t H1 locs ht hvm hw hB hz1 hk1 hS => ?_)
        obtain ⟨z_11, e9⟩ : ∃ z, z = u := ⟨_, rfl⟩
        subst e9
        obtain ⟨rfl, rz_11⟩ := hw
        refine Exists.elim hB (fun u_at9_6 hB1 => Exists.elim hB1 (fun u_rfn_7 hB2 => Exists.elim hB2 (fun u_f_rk_8 hB3 => Exists.elim hB3 (fun u_f_rw_9 hB4 => Exists.elim hB4 (fun u_f_rh_10 hB5 => ?_)))))
        have h_12 := hB5.1
        have h_13 := hB5.2.1
        have h_14 := hB5.2.2.1
        have h_15 := hB5.2.2.2.1
        have h_16 := hB5.2.2.2.2.1
        have hP1 := hB5.2.2.2.2.2.1
        have hD1 := hB5.2.2.2.2.2.2
        clear hB hB1 hB2 hB3 hB4 hB5
        rw [ht] at hP1
        obtain ⟨hP, hD⟩ := va_join (wr := [(so, .inl (c_so, 4, .inl f_so)), (sl, .inl (c_sl, 4, .inl f_sl)), (kd, .inl (c_kd, 4, .inl f_kd)), (wd, .inl (c_wd, 4, .inl f_wd)), (hs, .inl (c_hs, 4, .inl f_hs)), (pf, .inl (c_pf, 4, .inl f_pf)), (lt, .inl (c_lt, 5, .inl f_lt))]) (w1 := [(h0, .inr (9, [.int (zI 0), .int (zI tc), .ref so, .ref sl, .ref ce, .int (zI fn), .ref kd, .ref wd, .ref hs, .ref pf, .ref lt, .int (zI mn), .ref wg, .int (zI ta), .long ck, .int (zI u_at9_6), .int (zI u_rfn_7), .ref rk, .ref rw, .ref rh, .int (zI cl), .ref sa, .ref fi, .int (zI bo), .ref ch, .ref cn, .int (zI ad), .int (zI ru), .ref kp, .int (zI dn), .ref rfa])), (ce, .inl (c_ce, 240, .inl f_ce)), (rk, .inl (c_rk, 4, .inl u_f_rk_8)), (rw, .inl (c_rw, 4, .inl u_f_rw_9)), (rh, .inl (c_rh, 4, .inl u_f_rh_10))]) hP hD [0, 3, 4, 5, 6] [1, 2, 7, 8, 9, 10, 11] ax_X9_fonts_2 ax_X9_fonts_3 (by decide +kernel) (by decide +kernel) hk1 hFc hP1 hD1
        have hP := ax_X9_fonts_4 hP
        have hD := ax_X9_fonts_5 hD
        generalize H1 = H at hP hS ⊢
        have hP : va_P D vwCl [(so, .inl (c_so, 4, .inl f_so)), (sl, .inl (c_sl, 4, .inl f_sl)), (kd, .inl (c_kd, 4, .inl f_kd)), (wd, .inl (c_wd, 4, .inl f_wd)), (hs, .inl (c_hs, 4, .inl f_hs)), (pf, .inl (c_pf, 4, .inl f_pf)), (lt, .inl (c_lt, 5, .inl f_lt)), (h0, .inr (9, [.int (zI 0), .int (zI tc), .ref so, .ref sl, .ref ce, .int (zI fn), .ref kd, .ref wd, .ref hs, .ref pf, .ref lt, .int (zI mn), .ref wg, .int (zI ta), .long ck, .int (zI u_at9_6), .int (zI u_rfn_7), .ref rk, .ref rw, .ref rh, .int (zI cl), .ref sa, .ref fi, .int (zI bo), .ref ch, .ref cn, .int (zI ad), .int (zI ru), .ref kp, .int (zI dn), .ref rfa])), (ce, .inl (c_ce, 240, .inl f_ce)), (rk, .inl (c_rk, 4, .inl u_f_rk_8)), (rw, .inl (c_rw, 4, .inl u_f_rw_9)), (rh, .inl (c_rh, 4, .inl u_f_rh_10))] H := hP
        have hD : va_D A [(so, .inl (c_so, 4, .inl f_so)), (sl, .inl (c_sl, 4, .inl f_sl)), (kd, .inl (c_kd, 4, .inl f_kd)), (wd, .inl (c_wd, 4, .inl f_wd)), (hs, .inl (c_hs, 4, .inl f_hs)), (pf, .inl (c_pf, 4, .inl f_pf)), (lt, .inl (c_lt, 5, .inl f_lt)), (h0, .inr (9, [.int (zI 0), .int (zI tc), .ref so, .ref sl, .ref ce, .int (zI fn), .ref kd, .ref wd, .ref hs, .ref pf, .ref lt, .int (zI mn), .ref wg, .int (zI ta), .long ck, .int (zI u_at9_6), .int (zI u_rfn_7), .ref rk, .ref rw, .ref rh, .int (zI cl), .ref sa, .ref fi, .int (zI bo), .ref ch, .ref cn, .int (zI ad), .int (zI ru), .ref kp, .int (zI dn), .ref rfa])), (ce, .inl (c_ce, 240, .inl f_ce)), (rk, .inl (c_rk, 4, .inl u_f_rk_8)), (rw, .inl (c_rw, 4, .inl u_f_rw_9)), (rh, .inl (c_rh, 4, .inl u_f_rh_10))] := hD
        refine kz_if_ne (tgt := 84) hx hb dX9_fonts_70 (by decide) (by omega) (fun c_17 => ?_) (fun c_17 => ?_)
        · refine lv_aload_n hx hb dX9_fonts_84 rfl (lv_at hl 2 rfl) ?_
          refine lv_aload_n hx hb dX9_fonts_85 rfl (lv_at hl 2 rfl) ?_
          refine va_get (D := D) (ci := 9) (v := .int (zI u_rfn_7)) (C := RX9) (T := TX9) (N := 31) hx hb hts (fun _ h9 => List.mem_cons_of_mem _ (List.mem_append_right _ h9)) hown hK hP 7 rfl rfl 16 (by decide) (hts (.fieldLink RX9 98 "FontRunsModel" "readFonts" "I") mw_X9_fonts_2) (fun _ h9 => h9) rfl dX9_fonts_86 ?_
          refine va_put (D := D) (ci := 9) (v := .int (zI u_rfn_7)) (ty := .int) (C := RX9) (T := TX9) (N := 31) hx hb hts (fun _ h9 => List.mem_cons_of_mem _ (List.mem_append_right _ h9)) tyX9 tyX9_ok nmX9 hown hK hP hD hS 7 rfl rfl 5 (by decide) (hts (.fieldLink RX9 74 "FontRunsModel" "fonts" "I") mw_X9_fonts_3) (fun _ h9 => h9) rfl (by decide +kernel) rfl rfl (Nat.le_of_ble_eq_true rfl) dX9_fonts_89 (fun H locs hP hD hS => ?_)
          have hP : va_P D vwCl [(so, .inl (c_so, 4, .inl f_so)), (sl, .inl (c_sl, 4, .inl f_sl)), (kd, .inl (c_kd, 4, .inl f_kd)), (wd, .inl (c_wd, 4, .inl f_wd)), (hs, .inl (c_hs, 4, .inl f_hs)), (pf, .inl (c_pf, 4, .inl f_pf)), (lt, .inl (c_lt, 5, .inl f_lt)), (h0, .inr (9, [.int (zI 0), .int (zI tc), .ref so, .ref sl, .ref ce, .int (zI u_rfn_7), .ref kd, .ref wd, .ref hs, .ref pf, .ref lt, .int (zI mn), .ref wg, .int (zI ta), .long ck, .int (zI u_at9_6), .int (zI u_rfn_7), .ref rk, .ref rw, .ref rh, .int (zI cl), .ref sa, .ref fi, .int (zI bo), .ref ch, .ref cn, .int (zI ad), .int (zI ru), .ref kp, .int (zI dn), .ref rfa])), (ce, .inl (c_ce, 240, .inl f_ce)), (rk, .inl (c_rk, 4, .inl u_f_rk_8)), (rw, .inl (c_rw, 4, .inl u_f_rw_9)), (rh, .inl (c_rh, 4, .inl u_f_rh_10))] H := hP
          have hD : va_D A [(so, .inl (c_so, 4, .inl f_so)), (sl, .inl (c_sl, 4, .inl f_sl)), (kd, .inl (c_kd, 4, .inl f_kd)), (wd, .inl (c_wd, 4, .inl f_wd)), (hs, .inl (c_hs, 4, .inl f_hs)), (pf, .inl (c_pf, 4, .inl f_pf)), (lt, .inl (c_lt, 5, .inl f_lt)), (h0, .inr (9, [.int (zI 0), .int (zI tc), .ref so, .ref sl, .ref ce, .int (zI u_rfn_7), .ref kd, .ref wd, .ref hs, .ref pf, .ref lt, .int (zI mn), .ref wg, .int (zI ta), .long ck, .int (zI u_at9_6), .int (zI u_rfn_7), .ref rk, .ref rw, .ref rh, .int (zI cl), .ref sa, .ref fi, .int (zI bo), .ref ch, .ref cn, .int (zI ad), .int (zI ru), .ref kp, .int (zI dn), .ref rfa])), (ce, .inl (c_ce, 240, .inl f_ce)), (rk, .inl (c_rk, 4, .inl u_f_rk_8)), (rw, .inl (c_rw, 4, .inl u_f_rw_9)), (rh, .inl (c_rh, 4, .inl u_f_rh_10))] := hD
          refine lv_iconst (v := zI 0) hx hb dX9_fonts_92 rfl ?_
          refine lv_istore (lv' := [(7, .int (zI 0)), (6, .int (zI ((60 * k) + i))), (5, .int (zI z_3)), (0, .ref h0), (1, .int (zI k)), (2, .int (zI y)), (3, .int (zI i)), (4, .int (zI z))]) hx hb dX9_fonts_93 hl (by decide) rfl (fun ls hl => ?_)
          refine k_loopM (I := fun n9 H locs ls => ∃ (jk : Int) (a1 : Nat → Int32) (a2 : Nat → Int32) (a3 : Nat → Int32) (a4 : Nat → Int32), n9 = (u_rfn_7 - jk).toNat ∧ (0 ≤ jk ∧ jk ≤ u_rfn_7) ∧ (kId a4 jk) ∧ (kEq a1 u_f_rk_8 jk) ∧ (kEq a2 u_f_rw_9 jk) ∧ (kEq a3 u_f_rh_10 jk) ∧ va_P D vwCl [(so, .inl (c_so, 4, .inl f_so)), (sl, .inl (c_sl, 4, .inl f_sl)), (kd, .inl (c_kd, 4, .inl a1)), (wd, .inl (c_wd, 4, .inl a2)), (hs, .inl (c_hs, 4, .inl a3)), (pf, .inl (c_pf, 4, .inl a4)), (lt, .inl (c_lt, 5, .inl f_lt)), (h0, .inr (9, [.int (zI 0), .int (zI tc), .ref so, .ref sl, .ref ce, .int (zI u_rfn_7), .ref kd, .ref wd, .ref hs, .ref pf, .ref lt, .int (zI mn), .ref wg, .int (zI ta), .long ck, .int (zI u_at9_6), .int (zI u_rfn_7), .ref rk, .ref rw, .ref rh, .int (zI cl), .ref sa, .ref fi, .int (zI bo), .ref ch, .ref cn, .int (zI ad), .int (zI ru), .ref kp, .int (zI dn), .ref rfa])), (ce, .inl (c_ce, 240, .inl f_ce)), (rk, .inl (c_rk, 4, .inl u_f_rk_8)), (rw, .inl (c_rw, 4, .inl u_f_rw_9)), (rh, .inl (c_rh, 4, .inl u_f_rh_10))] H ∧ va_D A [(so, .inl (c_so, 4, .inl f_so)), (sl, .inl (c_sl, 4, .inl f_sl)), (kd, .inl (c_kd, 4, .inl a1)), (wd, .inl (c_wd, 4, .inl a2)), (hs, .inl (c_hs, 4, .inl a3)), (pf, .inl (c_pf, 4, .inl a4)), (lt, .inl (c_lt, 5, .inl f_lt)), (h0, .inr (9, [.int (zI 0), .int (zI tc), .ref so, .ref sl, .ref ce, .int (zI u_rfn_7), .ref kd, .ref wd, .ref hs, .ref pf, .ref lt, .int (zI mn), .ref wg, .int (zI ta), .long ck, .int (zI u_at9_6), .int (zI u_rfn_7), .ref rk, .ref rw, .ref rh, .int (zI cl), .ref sa, .ref fi, .int (zI bo), .ref ch, .ref cn, .int (zI ad), .int (zI ru), .ref kp, .int (zI dn), .ref rfa])), (ce, .inl (c_ce, 240, .inl f_ce)), (rk, .inl (c_rk, 4, .inl u_f_rk_8)), (rw, .inl (c_rw, 4, .inl u_f_rw_9)), (rh, .inl (c_rh, 4, .inl u_f_rh_10))] ∧ va_S A s.heap H locs ∧ lv_has ls 8 [(7, .int (zI jk)), (6, .int (zI ((60 * k) + i))), (5, .int (zI z_3)), (0, .ref h0), (1, .int (zI k)), (2, .int (zI y)), (3, .int (zI i)), (4, .int (zI z))]) ?_ _ ⟨0, f_kd, f_wd, f_hs, f_pf, rfl, (by omega), kId_0, kEq_0, kEq_0, kEq_0, hP, hD, hS, hl⟩
          intro n95 ih95 H locs ls hI
          obtain ⟨jk, a1, a2, a3, a4, en95, v_950, v_951, v_952, v_953, v_954, hP, hD, hS, hl⟩ := hI
          refine lv_iload hx hb dX9_fonts_95 (lv_at hl 0 rfl) ?_
          refine lv_aload_n hx hb dX9_fonts_97 rfl (lv_at hl 3 rfl) ?_
          refine va_get (D := D) (ci := 9) (v := .int (zI u_rfn_7)) (C := RX9) (T := TX9) (N := 31) hx hb hts (fun _ h9 => List.mem_cons_of_mem _ (List.mem_append_right _ h9)) hown hK hP 7 rfl rfl 5 (by decide) (hts (.fieldLink RX9 74 "FontRunsModel" "fonts" "I") mw_X9_fonts_3) (fun _ h9 => h9) rfl dX9_fonts_98 ?_
          refine kz_icmp_ge (tgt := 161) hx hb dX9_fonts_101 (by decide) (by omega) (by omega) (fun c_18 => ?_) (fun c_18 => ?_)
          · refine lv_iconst (v := zI 0) hx hb dX9_fonts_161 rfl ?_
            refine lv_istore (lv' := [(7, .int (zI 0)), (6, .int (zI ((60 * k) + i))), (5, .int (zI z_3)), (0, .ref h0), (1, .int (zI k)), (2, .int (zI y)), (3, .int (zI i)), (4, .int (zI z))]) hx hb dX9_fonts_162 hl (by decide) rfl (fun ls hl => ?_)
            refine k_loopM (I := fun n9 H locs ls => ∃ (jq : Int) (a5 : Nat → Int32), n9 = (5 - jq).toNat ∧ (0 ≤ jq ∧ jq ≤ 5) ∧ (kC a5 (-9) jq) ∧ va_P D vwCl [(so, .inl (c_so, 4, .inl f_so)), (sl, .inl (c_sl, 4, .inl f_sl)), (kd, .inl (c_kd, 4, .inl a1)), (wd, .inl (c_wd, 4, .inl a2)), (hs, .inl (c_hs, 4, .inl a3)), (pf, .inl (c_pf, 4, .inl a4)), (lt, .inl (c_lt, 5, .inl a5)), (h0, .inr (9, [.int (zI 0), .int (zI tc), .ref so, .ref sl, .ref ce, .int (zI u_rfn_7), .ref kd, .ref wd, .ref hs, .ref pf, .ref lt, .int (zI mn), .ref wg, .int (zI ta), .long ck, .int (zI u_at9_6), .int (zI u_rfn_7), .ref rk, .ref rw, .ref rh, .int (zI cl), .ref sa, .ref fi, .int (zI bo), .ref ch, .ref cn, .int (zI ad), .int (zI ru), .ref kp, .int (zI dn), .ref rfa])), (ce, .inl (c_ce, 240, .inl f_ce)), (rk, .inl (c_rk, 4, .inl u_f_rk_8)), (rw, .inl (c_rw, 4, .inl u_f_rw_9)), (rh, .inl (c_rh, 4, .inl u_f_rh_10))] H ∧ va_D A [(so, .inl (c_so, 4, .inl f_so)), (sl, .inl (c_sl, 4, .inl f_sl)), (kd, .inl (c_kd, 4, .inl a1)), (wd, .inl (c_wd, 4, .inl a2)), (hs, .inl (c_hs, 4, .inl a3)), (pf, .inl (c_pf, 4, .inl a4)), (lt, .inl (c_lt, 5, .inl a5)), (h0, .inr (9, [.int (zI 0), .int (zI tc), .ref so, .ref sl, .ref ce, .int (zI u_rfn_7), .ref kd, .ref wd, .ref hs, .ref pf, .ref lt, .int (zI mn), .ref wg, .int (zI ta), .long ck, .int (zI u_at9_6), .int (zI u_rfn_7), .ref rk, .ref rw, .ref rh, .int (zI cl), .ref sa, .ref fi, .int (zI bo), .ref ch, .ref cn, .int (zI ad), .int (zI ru), .ref kp, .int (zI dn), .ref rfa])), (ce, .inl (c_ce, 240, .inl f_ce)), (rk, .inl (c_rk, 4, .inl u_f_rk_8)), (rw, .inl (c_rw, 4, .inl u_f_rw_9)), (rh, .inl (c_rh, 4, .inl u_f_rh_10))] ∧ va_S A s.heap H locs ∧ lv_has ls 8 [(7, .int (zI jq)), (6, .int (zI ((60 * k) + i))), (5, .int (zI z_3)), (0, .ref h0), (1, .int (zI k)), (2, .int (zI y)), (3, .int (zI i)), (4, .int (zI z))]) ?_ _ ⟨0, f_lt, rfl, (by omega), kC_0, hP, hD, hS, hl⟩
            intro n164 ih164 H locs ls hI
            obtain ⟨jq, a5, en164, v_1640, v_1641, hP, hD, hS, hl⟩ := hI
            refine lv_iload hx hb dX9_fonts_164 (lv_at hl 0 rfl) ?_
            refine lv_iconst (v := zI 5) hx hb dX9_fonts_166 rfl ?_
            refine kz_icmp_ge (tgt := 185) hx hb dX9_fonts_167 (by decide) (by omega) (by omega) (fun c_19 => ?_) (fun c_19 => ?_)
            · refine lv_aload_n hx hb dX9_fonts_185 rfl (lv_at hl 3 rfl) ?_
              refine lv_iconst (v := zI 0) hx hb dX9_fonts_186 rfl ?_
              refine va_put (D := D) (ci := 9) (v := .int (zI 0)) (ty := .int) (C := RX9) (T := TX9) (N := 31) hx hb hts (fun _ h9 => List.mem_cons_of_mem _ (List.mem_append_right _ h9)) tyX9 tyX9_ok nmX9 hown hK hP hD hS 7 rfl rfl 11 (by decide) (hts (.fieldLink RX9 101 "FontRunsModel" "many" "I") mw_X9_fonts_4) (fun _ h9 => h9) rfl (by decide +kernel) rfl rfl (Nat.le_of_ble_eq_true rfl) dX9_fonts_187 (fun H locs hP hD hS => ?_)
              have hP : va_P D vwCl [(so, .inl (c_so, 4, .inl f_so)), (sl, .inl (c_sl, 4, .inl f_sl)), (kd, .inl (c_kd, 4, .inl a1)), (wd, .inl (c_wd, 4, .inl a2)), (hs, .inl (c_hs, 4, .inl a3)), (pf, .inl (c_pf, 4, .inl a4)), (lt, .inl (c_lt, 5, .inl a5)), (h0, .inr (9, [.int (zI 0), .int (zI tc), .ref so, .ref sl, .ref ce, .int (zI u_rfn_7), .ref kd, .ref wd, .ref hs, .ref pf, .ref lt, .int (zI 0), .ref wg, .int (zI ta), .long ck, .int (zI u_at9_6), .int (zI u_rfn_7), .ref rk, .ref rw, .ref rh, .int (zI cl), .ref sa, .ref fi, .int (zI bo), .ref ch, .ref cn, .int (zI ad), .int (zI ru), .ref kp, .int (zI dn), .ref rfa])), (ce, .inl (c_ce, 240, .inl f_ce)), (rk, .inl (c_rk, 4, .inl u_f_rk_8)), (rw, .inl (c_rw, 4, .inl u_f_rw_9)), (rh, .inl (c_rh, 4, .inl u_f_rh_10))] H := hP
              have hD : va_D A [(so, .inl (c_so, 4, .inl f_so)), (sl, .inl (c_sl, 4, .inl f_sl)), (kd, .inl (c_kd, 4, .inl a1)), (wd, .inl (c_wd, 4, .inl a2)), (hs, .inl (c_hs, 4, .inl a3)), (pf, .inl (c_pf, 4, .inl a4)), (lt, .inl (c_lt, 5, .inl a5)), (h0, .inr (9, [.int (zI 0), .int (zI tc), .ref so, .ref sl, .ref ce, .int (zI u_rfn_7), .ref kd, .ref wd, .ref hs, .ref pf, .ref lt, .int (zI 0), .ref wg, .int (zI ta), .long ck, .int (zI u_at9_6), .int (zI u_rfn_7), .ref rk, .ref rw, .ref rh, .int (zI cl), .ref sa, .ref fi, .int (zI bo), .ref ch, .ref cn, .int (zI ad), .int (zI ru), .ref kp, .int (zI dn), .ref rfa])), (ce, .inl (c_ce, 240, .inl f_ce)), (rk, .inl (c_rk, 4, .inl u_f_rk_8)), (rw, .inl (c_rw, 4, .inl u_f_rw_9)), (rh, .inl (c_rh, 4, .inl u_f_rh_10))] := hD
              refine lv_aload_n hx hb dX9_fonts_190 rfl (lv_at hl 3 rfl) ?_
              refine lv_iconst (v := zI 0) hx hb dX9_fonts_191 rfl ?_
              refine va_put (D := D) (ci := 9) (v := .int (zI 0)) (ty := .int) (C := RX9) (T := TX9) (N := 31) hx hb hts (fun _ h9 => List.mem_cons_of_mem _ (List.mem_append_right _ h9)) tyX9 tyX9_ok nmX9 hown hK hP hD hS 7 rfl rfl 29 (by decide) (hts (.fieldLink RX9 104 "FontRunsModel" "readings" "I") mw_X9_fonts_5) (fun _ h9 => h9) rfl (by decide +kernel) rfl rfl (Nat.le_of_ble_eq_true rfl) dX9_fonts_192 (fun H locs hP hD hS => ?_)
              have hP : va_P D vwCl [(so, .inl (c_so, 4, .inl f_so)), (sl, .inl (c_sl, 4, .inl f_sl)), (kd, .inl (c_kd, 4, .inl a1)), (wd, .inl (c_wd, 4, .inl a2)), (hs, .inl (c_hs, 4, .inl a3)), (pf, .inl (c_pf, 4, .inl a4)), (lt, .inl (c_lt, 5, .inl a5)), (h0, .inr (9, [.int (zI 0), .int (zI tc), .ref so, .ref sl, .ref ce, .int (zI u_rfn_7), .ref kd, .ref wd, .ref hs, .ref pf, .ref lt, .int (zI 0), .ref wg, .int (zI ta), .long ck, .int (zI u_at9_6), .int (zI u_rfn_7), .ref rk, .ref rw, .ref rh, .int (zI cl), .ref sa, .ref fi, .int (zI bo), .ref ch, .ref cn, .int (zI ad), .int (zI ru), .ref kp, .int (zI 0), .ref rfa])), (ce, .inl (c_ce, 240, .inl f_ce)), (rk, .inl (c_rk, 4, .inl u_f_rk_8)), (rw, .inl (c_rw, 4, .inl u_f_rw_9)), (rh, .inl (c_rh, 4, .inl u_f_rh_10))] H := hP
              have hD : va_D A [(so, .inl (c_so, 4, .inl f_so)), (sl, .inl (c_sl, 4, .inl f_sl)), (kd, .inl (c_kd, 4, .inl a1)), (wd, .inl (c_wd, 4, .inl a2)), (hs, .inl (c_hs, 4, .inl a3)), (pf, .inl (c_pf, 4, .inl a4)), (lt, .inl (c_lt, 5, .inl a5)), (h0, .inr (9, [.int (zI 0), .int (zI tc), .ref so, .ref sl, .ref ce, .int (zI u_rfn_7), .ref kd, .ref wd, .ref hs, .ref pf, .ref lt, .int (zI 0), .ref wg, .int (zI ta), .long ck, .int (zI u_at9_6), .int (zI u_rfn_7), .ref rk, .ref rw, .ref rh, .int (zI cl), .ref sa, .ref fi, .int (zI bo), .ref ch, .ref cn, .int (zI ad), .int (zI ru), .ref kp, .int (zI 0), .ref rfa])), (ce, .inl (c_ce, 240, .inl f_ce)), (rk, .inl (c_rk, 4, .inl u_f_rk_8)), (rw, .inl (c_rw, 4, .inl u_f_rw_9)), (rh, .inl (c_rh, 4, .inl u_f_rh_10))] := hD
              refine lv_aload_n hx hb dX9_fonts_195 rfl (lv_at hl 3 rfl) ?_
              refine va_get (D := D) (ci := 9) (v := .int (zI u_rfn_7)) (C := RX9) (T := TX9) (N := 31) hx hb hts (fun _ h9 => List.mem_cons_of_mem _ (List.mem_append_right _ h9)) hown hK hP 7 rfl rfl 5 (by decide) (hts (.fieldLink RX9 74 "FontRunsModel" "fonts" "I") mw_X9_fonts_3) (fun _ h9 => h9) rfl dX9_fonts_196 ?_
              have hP9 := hP.sub (ws' := [(h0, .inr (9, [.int (zI 0), .int (zI tc), .ref so, .ref sl, .ref ce, .int (zI u_rfn_7), .ref kd, .ref wd, .ref hs, .ref pf, .ref lt, .int (zI 0), .ref wg, .int (zI ta), .long ck, .int (zI u_at9_6), .int (zI u_rfn_7), .ref rk, .ref rw, .ref rh, .int (zI cl), .ref sa, .ref fi, .int (zI bo), .ref ch, .ref cn, .int (zI ad), .int (zI ru), .ref kp, .int (zI 0), .ref rfa])), (so, .inl (c_so, 4, .inl f_so)), (sl, .inl (c_sl, 4, .inl f_sl)), (ce, .inl (c_ce, 240, .inl f_ce)), (rk, .inl (c_rk, 4, .inl u_f_rk_8)), (rw, .inl (c_rw, 4, .inl u_f_rw_9)), (rh, .inl (c_rh, 4, .inl u_f_rh_10)), (kd, .inl (c_kd, 4, .inl a1)), (wd, .inl (c_wd, 4, .inl a2)), (hs, .inl (c_hs, 4, .inl a3)), (pf, .inl (c_pf, 4, .inl a4)), (lt, .inl (c_lt, 5, .inl a5))]) [7, 0, 1, 8, 9, 10, 11, 2, 3, 4, 5, 6] rfl
              have hD9 := hD.sub (ws' := [(h0, .inr (9, [.int (zI 0), .int (zI tc), .ref so, .ref sl, .ref ce, .int (zI u_rfn_7), .ref kd, .ref wd, .ref hs, .ref pf, .ref lt, .int (zI 0), .ref wg, .int (zI ta), .long ck, .int (zI u_at9_6), .int (zI u_rfn_7), .ref rk, .ref rw, .ref rh, .int (zI cl), .ref sa, .ref fi, .int (zI bo), .ref ch, .ref cn, .int (zI ad), .int (zI ru), .ref kp, .int (zI 0), .ref rfa])), (so, .inl (c_so, 4, .inl f_so)), (sl, .inl (c_sl, 4, .inl f_sl)), (ce, .inl (c_ce, 240, .inl f_ce)), (rk, .inl (c_rk, 4, .inl u_f_rk_8)), (rw, .inl (c_rw, 4, .inl u_f_rw_9)), (rh, .inl (c_rh, 4, .inl u_f_rh_10)), (kd, .inl (c_kd, 4, .inl a1)), (wd, .inl (c_wd, 4, .inl a2)), (hs, .inl (c_hs, 4, .inl a3)), (pf, .inl (c_pf, 4, .inl a4)), (lt, .inl (c_lt, 5, .inl a5))]) [7, 0, 1, 8, 9, 10, 11, 2, 3, 4, 5, 6] (by decide +kernel) rfl
              exact W.iret (v := (zI u_rfn_7)) hx hb hr (fun t ht hW => kQS_of (by omega) ⟨0, u_at9_6, u_rfn_7, u_f_rk_8, u_f_rw_9, u_f_rh_10, u_rfn_7, a1, a2, a3, a4, a5, 0, 0, (by omega), (by omega), h_15, (by omega), (by omega), (kId_pm v_951 (by omega)), (by omega), (kGa_3 (by omega) (fun q => q (by omega)) (kGt_2 (show kAgM _ _ _ _ _ 0 from (show z_3 = 0 from by omega) ▸ h_4.2) (by omega) (kFoJ_2 h_13 (by omega) (by omega) (by omega) ⟨(show u_rfn_7 = u_rfn_7 from by omega), (kEq_le v_952 (by omega)), (kEq_le v_953 (by omega)), (kEq_le v_954 (by omega)), (show 0 = 0 from by omega), (kId_le v_951 (by omega)), (kC_le v_1641 (by omega)), (show 0 = 0 from by omega)⟩))), by rw [ht]; exact hP9, hD9⟩ (hS.F ht)) hS.2.2 dX9_fonts_199
            · refine lv_aload_n hx hb dX9_fonts_170 rfl (lv_at hl 3 rfl) ?_
              refine va_get (D := D) (ci := 9) (v := .ref lt) (C := RX9) (T := TX9) (N := 31) hx hb hts (fun _ h9 => List.mem_cons_of_mem _ (List.mem_append_right _ h9)) hown hK hP 7 rfl rfl 10 (by decide) (hts (.fieldLink RX9 31 "FontRunsModel" "latest" "[I") mw_X9_fonts_6) (fun _ h9 => h9) rfl dX9_fonts_171 ?_
              refine lv_iload hx hb dX9_fonts_174 (lv_at hl 0 rfl) ?_
              refine lv_bipush (v := zI (-9)) hx hb dX9_fonts_176 (by decide) ?_
              refine kz_iast hx hb hK hP hD hS 6 10 rfl rfl (by omega) dX9_fonts_178 (fun H locs hP hD hS => ?_)
              have hP : va_P D vwCl [(so, .inl (c_so, 4, .inl f_so)), (sl, .inl (c_sl, 4, .inl f_sl)), (kd, .inl (c_kd, 4, .inl a1)), (wd, .inl (c_wd, 4, .inl a2)), (hs, .inl (c_hs, 4, .inl a3)), (pf, .inl (c_pf, 4, .inl a4)), (lt, .inl (c_lt, 5, .inl (upd a5 (jq).toNat (zI (-9))))), (h0, .inr (9, [.int (zI 0), .int (zI tc), .ref so, .ref sl, .ref ce, .int (zI u_rfn_7), .ref kd, .ref wd, .ref hs, .ref pf, .ref lt, .int (zI mn), .ref wg, .int (zI ta), .long ck, .int (zI u_at9_6), .int (zI u_rfn_7), .ref rk, .ref rw, .ref rh, .int (zI cl), .ref sa, .ref fi, .int (zI bo), .ref ch, .ref cn, .int (zI ad), .int (zI ru), .ref kp, .int (zI dn), .ref rfa])), (ce, .inl (c_ce, 240, .inl f_ce)), (rk, .inl (c_rk, 4, .inl u_f_rk_8)), (rw, .inl (c_rw, 4, .inl u_f_rw_9)), (rh, .inl (c_rh, 4, .inl u_f_rh_10))] H := hP
              have hD : va_D A [(so, .inl (c_so, 4, .inl f_so)), (sl, .inl (c_sl, 4, .inl f_sl)), (kd, .inl (c_kd, 4, .inl a1)), (wd, .inl (c_wd, 4, .inl a2)), (hs, .inl (c_hs, 4, .inl a3)), (pf, .inl (c_pf, 4, .inl a4)), (lt, .inl (c_lt, 5, .inl (upd a5 (jq).toNat (zI (-9))))), (h0, .inr (9, [.int (zI 0), .int (zI tc), .ref so, .ref sl, .ref ce, .int (zI u_rfn_7), .ref kd, .ref wd, .ref hs, .ref pf, .ref lt, .int (zI mn), .ref wg, .int (zI ta), .long ck, .int (zI u_at9_6), .int (zI u_rfn_7), .ref rk, .ref rw, .ref rh, .int (zI cl), .ref sa, .ref fi, .int (zI bo), .ref ch, .ref cn, .int (zI ad), .int (zI ru), .ref kp, .int (zI dn), .ref rfa])), (ce, .inl (c_ce, 240, .inl f_ce)), (rk, .inl (c_rk, 4, .inl u_f_rk_8)), (rw, .inl (c_rw, 4, .inl u_f_rw_9)), (rh, .inl (c_rh, 4, .inl u_f_rh_10))] := hD
              generalize ef_20 : upd a5 (jq).toNat (zI (-9)) = f_20 at hP hD
              refine lv_iinc (v := (zI (jq + 1))) (lv' := [(7, .int (zI (jq + 1))), (6, .int (zI ((60 * k) + i))), (5, .int (zI z_3)), (0, .ref h0), (1, .int (zI k)), (2, .int (zI y)), (3, .int (zI i)), (4, .int (zI z))]) hx hb dX9_fonts_179 hl (k := 0) rfl (kz_inc _ 1) (by decide) rfl (fun ls hl => ?_)
              refine lv_goto (tgt := 164) hx hb dX9_fonts_182 (by decide) ?_
              exact ih164 _ (by omega) _ _ _ ⟨(jq + 1), f_20, rfl, (by omega), (kC_s v_1641 (by omega) ef_20), hP, hD, hS, lv_sub hl [0, 1, 2, 3, 4, 5, 6, 7] rfl⟩
          · refine lv_aload_n hx hb dX9_fonts_104 rfl (lv_at hl 3 rfl) ?_
            refine va_get (D := D) (ci := 9) (v := .ref kd) (C := RX9) (T := TX9) (N := 31) hx hb hts (fun _ h9 => List.mem_cons_of_mem _ (List.mem_append_right _ h9)) hown hK hP 7 rfl rfl 6 (by decide) (hts (.fieldLink RX9 19 "FontRunsModel" "kind" "[I") mw_X9_fonts_7) (fun _ h9 => h9) rfl dX9_fonts_105 ?_
            refine lv_iload hx hb dX9_fonts_108 (lv_at hl 0 rfl) ?_
            refine lv_aload_n hx hb dX9_fonts_110 rfl (lv_at hl 3 rfl) ?_
            refine va_get (D := D) (ci := 9) (v := .ref rk) (C := RX9) (T := TX9) (N := 31) hx hb hts (fun _ h9 => List.mem_cons_of_mem _ (List.mem_append_right _ h9)) hown hK hP 7 rfl rfl 17 (by decide) (hts (.fieldLink RX9 37 "FontRunsModel" "readKind" "[I") mw_X9_fonts_8) (fun _ h9 => h9) rfl dX9_fonts_111 ?_
            refine lv_iload hx hb dX9_fonts_114 (lv_at hl 0 rfl) ?_
            refine kz_iald hx hb hK hP 9 3 rfl rfl (by omega) dX9_fonts_116 (fun z_21 rz_21 ez_21 => ?_)
            refine kz_iast hx hb hK hP hD hS 2 6 rfl rfl (by omega) dX9_fonts_117 (fun H locs hP hD hS => ?_)
            have hP : va_P D vwCl [(so, .inl (c_so, 4, .inl f_so)), (sl, .inl (c_sl, 4, .inl f_sl)), (kd, .inl (c_kd, 4, .inl (upd a1 (jk).toNat (zI z_21)))), (wd, .inl (c_wd, 4, .inl a2)), (hs, .inl (c_hs, 4, .inl a3)), (pf, .inl (c_pf, 4, .inl a4)), (lt, .inl (c_lt, 5, .inl f_lt)), (h0, .inr (9, [.int (zI 0), .int (zI tc), .ref so, .ref sl, .ref ce, .int (zI u_rfn_7), .ref kd, .ref wd, .ref hs, .ref pf, .ref lt, .int (zI mn), .ref wg, .int (zI ta), .long ck, .int (zI u_at9_6), .int (zI u_rfn_7), .ref rk, .ref rw, .ref rh, .int (zI cl), .ref sa, .ref fi, .int (zI bo), .ref ch, .ref cn, .int (zI ad), .int (zI ru), .ref kp, .int (zI dn), .ref rfa])), (ce, .inl (c_ce, 240, .inl f_ce)), (rk, .inl (c_rk, 4, .inl u_f_rk_8)), (rw, .inl (c_rw, 4, .inl u_f_rw_9)), (rh, .inl (c_rh, 4, .inl u_f_rh_10))] H := hP
            have hD : va_D A [(so, .inl (c_so, 4, .inl f_so)), (sl, .inl (c_sl, 4, .inl f_sl)), (kd, .inl (c_kd, 4, .inl (upd a1 (jk).toNat (zI z_21)))), (wd, .inl (c_wd, 4, .inl a2)), (hs, .inl (c_hs, 4, .inl a3)), (pf, .inl (c_pf, 4, .inl a4)), (lt, .inl (c_lt, 5, .inl f_lt)), (h0, .inr (9, [.int (zI 0), .int (zI tc), .ref so, .ref sl, .ref ce, .int (zI u_rfn_7), .ref kd, .ref wd, .ref hs, .ref pf, .ref lt, .int (zI mn), .ref wg, .int (zI ta), .long ck, .int (zI u_at9_6), .int (zI u_rfn_7), .ref rk, .ref rw, .ref rh, .int (zI cl), .ref sa, .ref fi, .int (zI bo), .ref ch, .ref cn, .int (zI ad), .int (zI ru), .ref kp, .int (zI dn), .ref rfa])), (ce, .inl (c_ce, 240, .inl f_ce)), (rk, .inl (c_rk, 4, .inl u_f_rk_8)), (rw, .inl (c_rw, 4, .inl u_f_rw_9)), (rh, .inl (c_rh, 4, .inl u_f_rh_10))] := hD
            generalize ef_22 : upd a1 (jk).toNat (zI z_21) = f_22 at hP hD
            refine lv_aload_n hx hb dX9_fonts_118 rfl (lv_at hl 3 rfl) ?_
            refine va_get (D := D) (ci := 9) (v := .ref wd) (C := RX9) (T := TX9) (N := 31) hx hb hts (fun _ h9 => List.mem_cons_of_mem _ (List.mem_append_right _ h9)) hown hK hP 7 rfl rfl 7 (by decide) (hts (.fieldLink RX9 22 "FontRunsModel" "width" "[I") mw_X9_fonts_9) (fun _ h9 => h9) rfl dX9_fonts_119 ?_
            refine lv_iload hx hb dX9_fonts_122 (lv_at hl 0 rfl) ?_
            refine lv_aload_n hx hb dX9_fonts_124 rfl (lv_at hl 3 rfl) ?_
            refine va_get (D := D) (ci := 9) (v := .ref rw) (C := RX9) (T := TX9) (N := 31) hx hb hts (fun _ h9 => List.mem_cons_of_mem _ (List.mem_append_right _ h9)) hown hK hP 7 rfl rfl 18 (by decide) (hts (.fieldLink RX9 40 "FontRunsModel" "readWidth" "[I") mw_X9_fonts_10) (fun _ h9 => h9) rfl dX9_fonts_125 ?_
            refine lv_iload hx hb dX9_fonts_128 (lv_at hl 0 rfl) ?_
            refine kz_iald hx hb hK hP 10 4 rfl rfl (by omega) dX9_fonts_130 (fun z_23 rz_23 ez_23 => ?_)
            refine kz_iast hx hb hK hP hD hS 3 7 rfl rfl (by omega) dX9_fonts_131 (fun H locs hP hD hS => ?_)
            have hP : va_P D vwCl [(so, .inl (c_so, 4, .inl f_so)), (sl, .inl (c_sl, 4, .inl f_sl)), (kd, .inl (c_kd, 4, .inl f_22)), (wd, .inl (c_wd, 4, .inl (upd a2 (jk).toNat (zI z_23)))), (hs, .inl (c_hs, 4, .inl a3)), (pf, .inl (c_pf, 4, .inl a4)), (lt, .inl (c_lt, 5, .inl f_lt)), (h0, .inr (9, [.int (zI 0), .int (zI tc), .ref so, .ref sl, .ref ce, .int (zI u_rfn_7), .ref kd, .ref wd, .ref hs, .ref pf, .ref lt, .int (zI mn), .ref wg, .int (zI ta), .long ck, .int (zI u_at9_6), .int (zI u_rfn_7), .ref rk, .ref rw, .ref rh, .int (zI cl), .ref sa, .ref fi, .int (zI bo), .ref ch, .ref cn, .int (zI ad), .int (zI ru), .ref kp, .int (zI dn), .ref rfa])), (ce, .inl (c_ce, 240, .inl f_ce)), (rk, .inl (c_rk, 4, .inl u_f_rk_8)), (rw, .inl (c_rw, 4, .inl u_f_rw_9)), (rh, .inl (c_rh, 4, .inl u_f_rh_10))] H := hP
            have hD : va_D A [(so, .inl (c_so, 4, .inl f_so)), (sl, .inl (c_sl, 4, .inl f_sl)), (kd, .inl (c_kd, 4, .inl f_22)), (wd, .inl (c_wd, 4, .inl (upd a2 (jk).toNat (zI z_23)))), (hs, .inl (c_hs, 4, .inl a3)), (pf, .inl (c_pf, 4, .inl a4)), (lt, .inl (c_lt, 5, .inl f_lt)), (h0, .inr (9, [.int (zI 0), .int (zI tc), .ref so, .ref sl, .ref ce, .int (zI u_rfn_7), .ref kd, .ref wd, .ref hs, .ref pf, .ref lt, .int (zI mn), .ref wg, .int (zI ta), .long ck, .int (zI u_at9_6), .int (zI u_rfn_7), .ref rk, .ref rw, .ref rh, .int (zI cl), .ref sa, .ref fi, .int (zI bo), .ref ch, .ref cn, .int (zI ad), .int (zI ru), .ref kp, .int (zI dn), .ref rfa])), (ce, .inl (c_ce, 240, .inl f_ce)), (rk, .inl (c_rk, 4, .inl u_f_rk_8)), (rw, .inl (c_rw, 4, .inl u_f_rw_9)), (rh, .inl (c_rh, 4, .inl u_f_rh_10))] := hD
            generalize ef_24 : upd a2 (jk).toNat (zI z_23) = f_24 at hP hD
            refine lv_aload_n hx hb dX9_fonts_132 rfl (lv_at hl 3 rfl) ?_
            refine va_get (D := D) (ci := 9) (v := .ref hs) (C := RX9) (T := TX9) (N := 31) hx hb hts (fun _ h9 => List.mem_cons_of_mem _ (List.mem_append_right _ h9)) hown hK hP 7 rfl rfl 8 (by decide) (hts (.fieldLink RX9 25 "FontRunsModel" "has" "[I") mw_X9_fonts_11) (fun _ h9 => h9) rfl dX9_fonts_133 ?_
            refine lv_iload hx hb dX9_fonts_136 (lv_at hl 0 rfl) ?_
            refine lv_aload_n hx hb dX9_fonts_138 rfl (lv_at hl 3 rfl) ?_
            refine va_get (D := D) (ci := 9) (v := .ref rh) (C := RX9) (T := TX9) (N := 31) hx hb hts (fun _ h9 => List.mem_cons_of_mem _ (List.mem_append_right _ h9)) hown hK hP 7 rfl rfl 19 (by decide) (hts (.fieldLink RX9 43 "FontRunsModel" "readHas" "[I") mw_X9_fonts_12) (fun _ h9 => h9) rfl dX9_fonts_139 ?_
            refine lv_iload hx hb dX9_fonts_142 (lv_at hl 0 rfl) ?_
            refine kz_iald hx hb hK hP 11 5 rfl rfl (by omega) dX9_fonts_144 (fun z_25 rz_25 ez_25 => ?_)
            refine kz_iast hx hb hK hP hD hS 4 8 rfl rfl (by omega) dX9_fonts_145 (fun H locs hP hD hS => ?_)
            have hP : va_P D vwCl [(so, .inl (c_so, 4, .inl f_so)), (sl, .inl (c_sl, 4, .inl f_sl)), (kd, .inl (c_kd, 4, .inl f_22)), (wd, .inl (c_wd, 4, .inl f_24)), (hs, .inl (c_hs, 4, .inl (upd a3 (jk).toNat (zI z_25)))), (pf, .inl (c_pf, 4, .inl a4)), (lt, .inl (c_lt, 5, .inl f_lt)), (h0, .inr (9, [.int (zI 0), .int (zI tc), .ref so, .ref sl, .ref ce, .int (zI u_rfn_7), .ref kd, .ref wd, .ref hs, .ref pf, .ref lt, .int (zI mn), .ref wg, .int (zI ta), .long ck, .int (zI u_at9_6), .int (zI u_rfn_7), .ref rk, .ref rw, .ref rh, .int (zI cl), .ref sa, .ref fi, .int (zI bo), .ref ch, .ref cn, .int (zI ad), .int (zI ru), .ref kp, .int (zI dn), .ref rfa])), (ce, .inl (c_ce, 240, .inl f_ce)), (rk, .inl (c_rk, 4, .inl u_f_rk_8)), (rw, .inl (c_rw, 4, .inl u_f_rw_9)), (rh, .inl (c_rh, 4, .inl u_f_rh_10))] H := hP
            have hD : va_D A [(so, .inl (c_so, 4, .inl f_so)), (sl, .inl (c_sl, 4, .inl f_sl)), (kd, .inl (c_kd, 4, .inl f_22)), (wd, .inl (c_wd, 4, .inl f_24)), (hs, .inl (c_hs, 4, .inl (upd a3 (jk).toNat (zI z_25)))), (pf, .inl (c_pf, 4, .inl a4)), (lt, .inl (c_lt, 5, .inl f_lt)), (h0, .inr (9, [.int (zI 0), .int (zI tc), .ref so, .ref sl, .ref ce, .int (zI u_rfn_7), .ref kd, .ref wd, .ref hs, .ref pf, .ref lt, .int (zI mn), .ref wg, .int (zI ta), .long ck, .int (zI u_at9_6), .int (zI u_rfn_7), .ref rk, .ref rw, .ref rh, .int (zI cl), .ref sa, .ref fi, .int (zI bo), .ref ch, .ref cn, .int (zI ad), .int (zI ru), .ref kp, .int (zI dn), .ref rfa])), (ce, .inl (c_ce, 240, .inl f_ce)), (rk, .inl (c_rk, 4, .inl u_f_rk_8)), (rw, .inl (c_rw, 4, .inl u_f_rw_9)), (rh, .inl (c_rh, 4, .inl u_f_rh_10))] := hD
            generalize ef_26 : upd a3 (jk).toNat (zI z_25) = f_26 at hP hD
            refine lv_aload_n hx hb dX9_fonts_146 rfl (lv_at hl 3 rfl) ?_
            refine va_get (D := D) (ci := 9) (v := .ref pf) (C := RX9) (T := TX9) (N := 31) hx hb hts (fun _ h9 => List.mem_cons_of_mem _ (List.mem_append_right _ h9)) hown hK hP 7 rfl rfl 9 (by decide) (hts (.fieldLink RX9 28 "FontRunsModel" "preference" "[I") mw_X9_fonts_13) (fun _ h9 => h9) rfl dX9_fonts_147 ?_
            refine lv_iload hx hb dX9_fonts_150 (lv_at hl 0 rfl) ?_
            refine lv_iload hx hb dX9_fonts_152 (lv_at hl 0 rfl) ?_
            refine kz_iast hx hb hK hP hD hS 5 9 rfl rfl (by omega) dX9_fonts_154 (fun H locs hP hD hS => ?_)
            have hP : va_P D vwCl [(so, .inl (c_so, 4, .inl f_so)), (sl, .inl (c_sl, 4, .inl f_sl)), (kd, .inl (c_kd, 4, .inl f_22)), (wd, .inl (c_wd, 4, .inl f_24)), (hs, .inl (c_hs, 4, .inl f_26)), (pf, .inl (c_pf, 4, .inl (upd a4 (jk).toNat (zI jk)))), (lt, .inl (c_lt, 5, .inl f_lt)), (h0, .inr (9, [.int (zI 0), .int (zI tc), .ref so, .ref sl, .ref ce, .int (zI u_rfn_7), .ref kd, .ref wd, .ref hs, .ref pf, .ref lt, .int (zI mn), .ref wg, .int (zI ta), .long ck, .int (zI u_at9_6), .int (zI u_rfn_7), .ref rk, .ref rw, .ref rh, .int (zI cl), .ref sa, .ref fi, .int (zI bo), .ref ch, .ref cn, .int (zI ad), .int (zI ru), .ref kp, .int (zI dn), .ref rfa])), (ce, .inl (c_ce, 240, .inl f_ce)), (rk, .inl (c_rk, 4, .inl u_f_rk_8)), (rw, .inl (c_rw, 4, .inl u_f_rw_9)), (rh, .inl (c_rh, 4, .inl u_f_rh_10))] H := hP
            have hD : va_D A [(so, .inl (c_so, 4, .inl f_so)), (sl, .inl (c_sl, 4, .inl f_sl)), (kd, .inl (c_kd, 4, .inl f_22)), (wd, .inl (c_wd, 4, .inl f_24)), (hs, .inl (c_hs, 4, .inl f_26)), (pf, .inl (c_pf, 4, .inl (upd a4 (jk).toNat (zI jk)))), (lt, .inl (c_lt, 5, .inl f_lt)), (h0, .inr (9, [.int (zI 0), .int (zI tc), .ref so, .ref sl, .ref ce, .int (zI u_rfn_7), .ref kd, .ref wd, .ref hs, .ref pf, .ref lt, .int (zI mn), .ref wg, .int (zI ta), .long ck, .int (zI u_at9_6), .int (zI u_rfn_7), .ref rk, .ref rw, .ref rh, .int (zI cl), .ref sa, .ref fi, .int (zI bo), .ref ch, .ref cn, .int (zI ad), .int (zI ru), .ref kp, .int (zI dn), .ref rfa])), (ce, .inl (c_ce, 240, .inl f_ce)), (rk, .inl (c_rk, 4, .inl u_f_rk_8)), (rw, .inl (c_rw, 4, .inl u_f_rw_9)), (rh, .inl (c_rh, 4, .inl u_f_rh_10))] := hD
            generalize ef_27 : upd a4 (jk).toNat (zI jk) = f_27 at hP hD
            refine lv_iinc (v := (zI (jk + 1))) (lv' := [(7, .int (zI (jk + 1))), (6, .int (zI ((60 * k) + i))), (5, .int (zI z_3)), (0, .ref h0), (1, .int (zI k)), (2, .int (zI y)), (3, .int (zI i)), (4, .int (zI z))]) hx hb dX9_fonts_155 hl (k := 0) rfl (kz_inc _ 1) (by decide) rfl (fun ls hl => ?_)
            refine lv_goto (tgt := 95) hx hb dX9_fonts_158 (by decide) ?_
            exact ih95 _ (by omega) _ _ _ ⟨(jk + 1), f_22, f_24, f_26, f_27, rfl, (by omega), (kId_s v_951 (by omega) ef_27), (kEq_s v_952 (by omega) ez_21 ef_22), (kEq_s v_953 (by omega) ez_23 ef_24), (kEq_s v_954 (by omega) ez_25 ef_26), hP, hD, hS, lv_sub hl [0, 1, 2, 3, 4, 5, 6, 7] rfl⟩
        · refine lv_bipush (v := zI (-100)) hx hb dX9_fonts_73 (by decide) ?_
          refine lv_aload_n hx hb dX9_fonts_75 rfl (lv_at hl 2 rfl) ?_
          refine va_get (D := D) (ci := 9) (v := .int (zI u_at9_6)) (C := RX9) (T := TX9) (N := 31) hx hb hts (fun _ h9 => List.mem_cons_of_mem _ (List.mem_append_right _ h9)) hown hK hP 7 rfl rfl 15 (by decide) (hts (.fieldLink RX9 77 "FontRunsModel" "at" "I") mw_X9_fonts_1) (fun _ h9 => h9) rfl dX9_fonts_76 ?_
          refine lv_iload hx hb dX9_fonts_79 (lv_at hl 0 rfl) ?_
          refine kz_isub hx hb dX9_fonts_81 ?_
          refine kz_isub hx hb dX9_fonts_82 ?_
          have hP9 := hP.sub (ws' := [(h0, .inr (9, [.int (zI 0), .int (zI tc), .ref so, .ref sl, .ref ce, .int (zI fn), .ref kd, .ref wd, .ref hs, .ref pf, .ref lt, .int (zI mn), .ref wg, .int (zI ta), .long ck, .int (zI u_at9_6), .int (zI u_rfn_7), .ref rk, .ref rw, .ref rh, .int (zI cl), .ref sa, .ref fi, .int (zI bo), .ref ch, .ref cn, .int (zI ad), .int (zI ru), .ref kp, .int (zI dn), .ref rfa])), (so, .inl (c_so, 4, .inl f_so)), (sl, .inl (c_sl, 4, .inl f_sl)), (ce, .inl (c_ce, 240, .inl f_ce)), (rk, .inl (c_rk, 4, .inl u_f_rk_8)), (rw, .inl (c_rw, 4, .inl u_f_rw_9)), (rh, .inl (c_rh, 4, .inl u_f_rh_10)), (kd, .inl (c_kd, 4, .inl f_kd)), (wd, .inl (c_wd, 4, .inl f_wd)), (hs, .inl (c_hs, 4, .inl f_hs)), (pf, .inl (c_pf, 4, .inl f_pf)), (lt, .inl (c_lt, 5, .inl f_lt))]) [7, 0, 1, 8, 9, 10, 11, 2, 3, 4, 5, 6] rfl
          have hD9 := hD.sub (ws' := [(h0, .inr (9, [.int (zI 0), .int (zI tc), .ref so, .ref sl, .ref ce, .int (zI fn), .ref kd, .ref wd, .ref hs, .ref pf, .ref lt, .int (zI mn), .ref wg, .int (zI ta), .long ck, .int (zI u_at9_6), .int (zI u_rfn_7), .ref rk, .ref rw, .ref rh, .int (zI cl), .ref sa, .ref fi, .int (zI bo), .ref ch, .ref cn, .int (zI ad), .int (zI ru), .ref kp, .int (zI dn), .ref rfa])), (so, .inl (c_so, 4, .inl f_so)), (sl, .inl (c_sl, 4, .inl f_sl)), (ce, .inl (c_ce, 240, .inl f_ce)), (rk, .inl (c_rk, 4, .inl u_f_rk_8)), (rw, .inl (c_rw, 4, .inl u_f_rw_9)), (rh, .inl (c_rh, 4, .inl u_f_rh_10)), (kd, .inl (c_kd, 4, .inl f_kd)), (wd, .inl (c_wd, 4, .inl f_wd)), (hs, .inl (c_hs, 4, .inl f_hs)), (pf, .inl (c_pf, 4, .inl f_pf)), (lt, .inl (c_lt, 5, .inl f_lt))]) [7, 0, 1, 8, 9, 10, 11, 2, 3, 4, 5, 6] (by decide +kernel) rfl
          exact W.iret (v := (zI ((-100) - (u_at9_6 - ((60 * k) + i))))) hx hb hr (fun t ht hW => kQS_of (by omega) ⟨0, u_at9_6, u_rfn_7, u_f_rk_8, u_f_rw_9, u_f_rh_10, fn, f_kd, f_wd, f_hs, f_pf, f_lt, mn, dn, (by omega), (by omega), q7, q8, q9, q10, q11, (kGa_3 (by omega) (fun q => q (by omega)) (kGt_2 (show kAgM _ _ _ _ _ 0 from (show z_3 = 0 from by omega) ▸ h_4.2) (by omega) (kFoJ_1 h_13 (by omega) (by omega) (by omega) (by omega)))), by rw [ht]; exact hP9, hD9⟩ (hS.F ht)) hS.2.2 dX9_fonts_83
      · refine lv_aload_n hx hb dX9_fonts_40 rfl (lv_at hl 1 rfl) ?_
        refine lv_iload hx hb dX9_fonts_41 (lv_at hl 0 rfl) ?_
        have hFc := va_free (wc := [(h0, .inr (9, [.int (zI 0), .int (zI tc), .ref so, .ref sl, .ref ce, .int (zI fn), .ref kd, .ref wd, .ref hs, .ref pf, .ref lt, .int (zI mn), .ref wg, .int (zI ta), .long ck, .int (zI at9), .int (zI rfn), .ref rk, .ref rw, .ref rh, .int (zI cl), .ref sa, .ref fi, .int (zI bo), .ref ch, .ref cn, .int (zI ad), .int (zI ru), .ref kp, .int (zI dn), .ref rfa]))]) hD hS hA [0] ax_X9_fonts_7
        refine va_calli (va_runV (As := [.int (zI z_3)]) (rest := []) ⟨hx, hb, hml, hown, hts⟩ (c_X9_fails_w l D H.size (f := z_3) (h0 := h0) (fa := 0) (tc := tc) (so := so) (sl := sl) (ce := ce) (fn := fn) (kd := kd) (wd := wd) (hs := hs) (pf := pf) (lt := lt) (mn := mn) (wg := wg) (ta := ta) (ck := ck) (at9 := at9) (rfn := rfn) (rk := rk) (rw := rw) (rh := rh) (cl := cl) (sa := sa) (fi := fi) (bo := bo) (ch := ch) (cn := cn) (ad := ad) (ru := ru) (kp := kp) (dn := dn) (rfa := rfa) (by omega) (by omega)) (cwV 1 hts gX9_fonts_X9_fails rfl rfl rfl (by decide +kernel) ⟨Nat.le_of_ble_eq_true rfl, Nat.le_of_ble_eq_true rfl⟩) (kPreV hP (kD0 hD) hK hN [0] [] ax_X9_fonts_7 rfl (by decide +kernel) 0 9 rfl rfl) rfl rfl hl.1 rfl (lv_room (Nat.le_of_ble_eq_true rfl)) dX9_fonts_43 ⟨Nat.le_of_ble_eq_true rfl, Nat.le_of_ble_eq_true rfl⟩) hS (fun q _ h => hFc q h) hFc (fun r u t H1 locs ht hvm hw hB hz1 hk1 hS => ?_)
        obtain ⟨z_29, e9⟩ : ∃ z, z = u := ⟨_, rfl⟩
        subst e9
        obtain ⟨rfl, rz_29⟩ := hw
        refine Exists.elim hB (fun u_fa_28 hB1 => ?_)
        have h_30 := hB1.1
        have h_31 := hB1.2.1
        have h_32 := hB1.2.2.1
        have hP1 := hB1.2.2.2.1
        have hD1 := hB1.2.2.2.2
        clear hB hB1
        rw [ht] at hP1
        obtain ⟨hP, hD⟩ := va_join (wr := [(so, .inl (c_so, 4, .inl f_so)), (sl, .inl (c_sl, 4, .inl f_sl)), (ce, .inl (c_ce, 240, .inl f_ce)), (rk, .inl (c_rk, 4, .inl f_rk)), (rw, .inl (c_rw, 4, .inl f_rw)), (rh, .inl (c_rh, 4, .inl f_rh)), (kd, .inl (c_kd, 4, .inl f_kd)), (wd, .inl (c_wd, 4, .inl f_wd)), (hs, .inl (c_hs, 4, .inl f_hs)), (pf, .inl (c_pf, 4, .inl f_pf)), (lt, .inl (c_lt, 5, .inl f_lt))]) (w1 := [(h0, .inr (9, [.int (zI u_fa_28), .int (zI tc), .ref so, .ref sl, .ref ce, .int (zI fn), .ref kd, .ref wd, .ref hs, .ref pf, .ref lt, .int (zI mn), .ref wg, .int (zI ta), .long ck, .int (zI at9), .int (zI rfn), .ref rk, .ref rw, .ref rh, .int (zI cl), .ref sa, .ref fi, .int (zI bo), .ref ch, .ref cn, .int (zI ad), .int (zI ru), .ref kp, .int (zI dn), .ref rfa]))]) hP hD [0] [1, 2, 3, 4, 5, 6, 7, 8, 9, 10, 11] ax_X9_fonts_7 ax_X9_fonts_8 (by decide +kernel) (by decide +kernel) hk1 hFc hP1 hD1
        have hP := ax_X9_fonts_9 hP
        have hD := ax_X9_fonts_10 hD
        generalize H1 = H at hP hS ⊢
        have hP : va_P D vwCl [(so, .inl (c_so, 4, .inl f_so)), (sl, .inl (c_sl, 4, .inl f_sl)), (ce, .inl (c_ce, 240, .inl f_ce)), (rk, .inl (c_rk, 4, .inl f_rk)), (rw, .inl (c_rw, 4, .inl f_rw)), (rh, .inl (c_rh, 4, .inl f_rh)), (kd, .inl (c_kd, 4, .inl f_kd)), (wd, .inl (c_wd, 4, .inl f_wd)), (hs, .inl (c_hs, 4, .inl f_hs)), (pf, .inl (c_pf, 4, .inl f_pf)), (lt, .inl (c_lt, 5, .inl f_lt)), (h0, .inr (9, [.int (zI u_fa_28), .int (zI tc), .ref so, .ref sl, .ref ce, .int (zI fn), .ref kd, .ref wd, .ref hs, .ref pf, .ref lt, .int (zI mn), .ref wg, .int (zI ta), .long ck, .int (zI at9), .int (zI rfn), .ref rk, .ref rw, .ref rh, .int (zI cl), .ref sa, .ref fi, .int (zI bo), .ref ch, .ref cn, .int (zI ad), .int (zI ru), .ref kp, .int (zI dn), .ref rfa]))] H := hP
        have hD : va_D A [(so, .inl (c_so, 4, .inl f_so)), (sl, .inl (c_sl, 4, .inl f_sl)), (ce, .inl (c_ce, 240, .inl f_ce)), (rk, .inl (c_rk, 4, .inl f_rk)), (rw, .inl (c_rw, 4, .inl f_rw)), (rh, .inl (c_rh, 4, .inl f_rh)), (kd, .inl (c_kd, 4, .inl f_kd)), (wd, .inl (c_wd, 4, .inl f_wd)), (hs, .inl (c_hs, 4, .inl f_hs)), (pf, .inl (c_pf, 4, .inl f_pf)), (lt, .inl (c_lt, 5, .inl f_lt)), (h0, .inr (9, [.int (zI u_fa_28), .int (zI tc), .ref so, .ref sl, .ref ce, .int (zI fn), .ref kd, .ref wd, .ref hs, .ref pf, .ref lt, .int (zI mn), .ref wg, .int (zI ta), .long ck, .int (zI at9), .int (zI rfn), .ref rk, .ref rw, .ref rh, .int (zI cl), .ref sa, .ref fi, .int (zI bo), .ref ch, .ref cn, .int (zI ad), .int (zI ru), .ref kp, .int (zI dn), .ref rfa]))] := hD
        have hP9 := hP.sub (ws' := [(h0, .inr (9, [.int (zI u_fa_28), .int (zI tc), .ref so, .ref sl, .ref ce, .int (zI fn), .ref kd, .ref wd, .ref hs, .ref pf, .ref lt, .int (zI mn), .ref wg, .int (zI ta), .long ck, .int (zI at9), .int (zI rfn), .ref rk, .ref rw, .ref rh, .int (zI cl), .ref sa, .ref fi, .int (zI bo), .ref ch, .ref cn, .int (zI ad), .int (zI ru), .ref kp, .int (zI dn), .ref rfa])), (so, .inl (c_so, 4, .inl f_so)), (sl, .inl (c_sl, 4, .inl f_sl)), (ce, .inl (c_ce, 240, .inl f_ce)), (rk, .inl (c_rk, 4, .inl f_rk)), (rw, .inl (c_rw, 4, .inl f_rw)), (rh, .inl (c_rh, 4, .inl f_rh)), (kd, .inl (c_kd, 4, .inl f_kd)), (wd, .inl (c_wd, 4, .inl f_wd)), (hs, .inl (c_hs, 4, .inl f_hs)), (pf, .inl (c_pf, 4, .inl f_pf)), (lt, .inl (c_lt, 5, .inl f_lt))]) [11, 0, 1, 2, 3, 4, 5, 6, 7, 8, 9, 10] rfl
        have hD9 := hD.sub (ws' := [(h0, .inr (9, [.int (zI u_fa_28), .int (zI tc), .ref so, .ref sl, .ref ce, .int (zI fn), .ref kd, .ref wd, .ref hs, .ref pf, .ref lt, .int (zI mn), .ref wg, .int (zI ta), .long ck, .int (zI at9), .int (zI rfn), .ref rk, .ref rw, .ref rh, .int (zI cl), .ref sa, .ref fi, .int (zI bo), .ref ch, .ref cn, .int (zI ad), .int (zI ru), .ref kp, .int (zI dn), .ref rfa])), (so, .inl (c_so, 4, .inl f_so)), (sl, .inl (c_sl, 4, .inl f_sl)), (ce, .inl (c_ce, 240, .inl f_ce)), (rk, .inl (c_rk, 4, .inl f_rk)), (rw, .inl (c_rw, 4, .inl f_rw)), (rh, .inl (c_rh, 4, .inl f_rh)), (kd, .inl (c_kd, 4, .inl f_kd)), (wd, .inl (c_wd, 4, .inl f_wd)), (hs, .inl (c_hs, 4, .inl f_hs)), (pf, .inl (c_pf, 4, .inl f_pf)), (lt, .inl (c_lt, 5, .inl f_lt))]) [11, 0, 1, 2, 3, 4, 5, 6, 7, 8, 9, 10] (by decide +kernel) rfl
        exact W.iret (v := (zI z_29)) hx hb hr (fun t ht hW => kQS_of (by omega) ⟨u_fa_28, at9, rfn, f_rk, f_rw, f_rh, fn, f_kd, f_wd, f_hs, f_pf, f_lt, mn, dn, h_30, q5, q7, q8, q9, q10, q11, (kGa_3 (by omega) (fun q => q (by omega)) (kGt_1 z_3 h_4.2 (by omega) (by omega) (by omega) rfl)), by rw [ht]; exact hP9, hD9⟩ (hS.F ht)) hS.2.2 dX9_fonts_46
    · have c_2 : ¬ (0 ≤ y ∧ y ≤ 2) := b01f c_2
      refine lv_bipush (v := zI (-2)) hx hb dX9_fonts_21 (by decide) ?_
      have hP9 := hP.sub (ws' := [(h0, .inr (9, [.int (zI 0), .int (zI tc), .ref so, .ref sl, .ref ce, .int (zI fn), .ref kd, .ref wd, .ref hs, .ref pf, .ref lt, .int (zI mn), .ref wg, .int (zI ta), .long ck, .int (zI at9), .int (zI rfn), .ref rk, .ref rw, .ref rh, .int (zI cl), .ref sa, .ref fi, .int (zI bo), .ref ch, .ref cn, .int (zI ad), .int (zI ru), .ref kp, .int (zI dn), .ref rfa])), (so, .inl (c_so, 4, .inl f_so)), (sl, .inl (c_sl, 4, .inl f_sl)), (ce, .inl (c_ce, 240, .inl f_ce)), (rk, .inl (c_rk, 4, .inl f_rk)), (rw, .inl (c_rw, 4, .inl f_rw)), (rh, .inl (c_rh, 4, .inl f_rh)), (kd, .inl (c_kd, 4, .inl f_kd)), (wd, .inl (c_wd, 4, .inl f_wd)), (hs, .inl (c_hs, 4, .inl f_hs)), (pf, .inl (c_pf, 4, .inl f_pf)), (lt, .inl (c_lt, 5, .inl f_lt))]) [0, 1, 2, 3, 4, 5, 6, 7, 8, 9, 10, 11] rfl
      have hD9 := hD.sub (ws' := [(h0, .inr (9, [.int (zI 0), .int (zI tc), .ref so, .ref sl, .ref ce, .int (zI fn), .ref kd, .ref wd, .ref hs, .ref pf, .ref lt, .int (zI mn), .ref wg, .int (zI ta), .long ck, .int (zI at9), .int (zI rfn), .ref rk, .ref rw, .ref rh, .int (zI cl), .ref sa, .ref fi, .int (zI bo), .ref ch, .ref cn, .int (zI ad), .int (zI ru), .ref kp, .int (zI dn), .ref rfa])), (so, .inl (c_so, 4, .inl f_so)), (sl, .inl (c_sl, 4, .inl f_sl)), (ce, .inl (c_ce, 240, .inl f_ce)), (rk, .inl (c_rk, 4, .inl f_rk)), (rw, .inl (c_rw, 4, .inl f_rw)), (rh, .inl (c_rh, 4, .inl f_rh)), (kd, .inl (c_kd, 4, .inl f_kd)), (wd, .inl (c_wd, 4, .inl f_wd)), (hs, .inl (c_hs, 4, .inl f_hs)), (pf, .inl (c_pf, 4, .inl f_pf)), (lt, .inl (c_lt, 5, .inl f_lt))]) [0, 1, 2, 3, 4, 5, 6, 7, 8, 9, 10, 11] (by decide +kernel) rfl
      exact W.iret (v := (zI (-2))) hx hb hr (fun t ht hW => kQS_of (by omega) ⟨0, at9, rfn, f_rk, f_rw, f_rh, fn, f_kd, f_wd, f_hs, f_pf, f_lt, mn, dn, (by omega), q5, q7, q8, q9, q10, q11, (kGa_2 (by omega) (by omega) (by omega) (by omega) rfl), by rw [ht]; exact hP9, hD9⟩ (hS.F ht)) hS.2.2 dX9_fonts_23
  · have c_1 : ¬ (0 ≤ k ∧ k ≤ 3) := b01f c_1
    refine lv_iconst (v := zI (-1)) hx hb dX9_fonts_12 rfl ?_
    have hP9 := hP.sub (ws' := [(h0, .inr (9, [.int (zI 0), .int (zI tc), .ref so, .ref sl, .ref ce, .int (zI fn), .ref kd, .ref wd, .ref hs, .ref pf, .ref lt, .int (zI mn), .ref wg, .int (zI ta), .long ck, .int (zI at9), .int (zI rfn), .ref rk, .ref rw, .ref rh, .int (zI cl), .ref sa, .ref fi, .int (zI bo), .ref ch, .ref cn, .int (zI ad), .int (zI ru), .ref kp, .int (zI dn), .ref rfa])), (so, .inl (c_so, 4, .inl f_so)), (sl, .inl (c_sl, 4, .inl f_sl)), (ce, .inl (c_ce, 240, .inl f_ce)), (rk, .inl (c_rk, 4, .inl f_rk)), (rw, .inl (c_rw, 4, .inl f_rw)), (rh, .inl (c_rh, 4, .inl f_rh)), (kd, .inl (c_kd, 4, .inl f_kd)), (wd, .inl (c_wd, 4, .inl f_wd)), (hs, .inl (c_hs, 4, .inl f_hs)), (pf, .inl (c_pf, 4, .inl f_pf)), (lt, .inl (c_lt, 5, .inl f_lt))]) [0, 1, 2, 3, 4, 5, 6, 7, 8, 9, 10, 11] rfl
    have hD9 := hD.sub (ws' := [(h0, .inr (9, [.int (zI 0), .int (zI tc), .ref so, .ref sl, .ref ce, .int (zI fn), .ref kd, .ref wd, .ref hs, .ref pf, .ref lt, .int (zI mn), .ref wg, .int (zI ta), .long ck, .int (zI at9), .int (zI rfn), .ref rk, .ref rw, .ref rh, .int (zI cl), .ref sa, .ref fi, .int (zI bo), .ref ch, .ref cn, .int (zI ad), .int (zI ru), .ref kp, .int (zI dn), .ref rfa])), (so, .inl (c_so, 4, .inl f_so)), (sl, .inl (c_sl, 4, .inl f_sl)), (ce, .inl (c_ce, 240, .inl f_ce)), (rk, .inl (c_rk, 4, .inl f_rk)), (rw, .inl (c_rw, 4, .inl f_rw)), (rh, .inl (c_rh, 4, .inl f_rh)), (kd, .inl (c_kd, 4, .inl f_kd)), (wd, .inl (c_wd, 4, .inl f_wd)), (hs, .inl (c_hs, 4, .inl f_hs)), (pf, .inl (c_pf, 4, .inl f_pf)), (lt, .inl (c_lt, 5, .inl f_lt))]) [0, 1, 2, 3, 4, 5, 6, 7, 8, 9, 10, 11] (by decide +kernel) rfl
    exact W.iret (v := (zI (-1))) hx hb hr (fun t ht hW => kQS_of (by omega) ⟨0, at9, rfn, f_rk, f_rw, f_rh, fn, f_kd, f_wd, f_hs, f_pf, f_lt, mn, dn, (by omega), q5, q7, q8, q9, q10, q11, (kGa_1 (by omega) (by omega) (by omega) rfl), by rw [ht]; exact hP9, hD9⟩ (hS.F ht)) hS.2.2 dX9_fonts_13
