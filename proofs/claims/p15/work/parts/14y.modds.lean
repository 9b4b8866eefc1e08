theorem krem0 : ∀ a : Nat, a < 17 → ∀ b : Nat, b < 17 → ¬ b = 0 → 0 ≤ (Int64.ofInt (a : Int) - Int64.ofInt (a : Int) / Int64.ofInt (b : Int) * Int64.ofInt (b : Int)).toInt ∧ (Int64.ofInt (a : Int) - Int64.ofInt (a : Int) / Int64.ofInt (b : Int) * Int64.ofInt (b : Int)).toInt < (b : Int) := by decide +kernel
theorem krem {x y v : Int64} (hx : 0 ≤ x.toInt ∧ x.toInt ≤ 16) (hy : 1 ≤ y.toInt ∧ y.toInt ≤ 16) (e : v = x - x / y * y) : 0 ≤ v.toInt ∧ v.toInt < y.toInt := by
  obtain ⟨a, ha⟩ := Int.eq_ofNat_of_zero_le hx.1
  obtain ⟨b, hb⟩ := Int.eq_ofNat_of_zero_le (show 0 ≤ y.toInt by omega)
  have ex : x = Int64.ofInt (a : Int) := by rw [← ha, Int64.ofInt_toInt]
  have ey : y = Int64.ofInt (b : Int) := by rw [← hb, Int64.ofInt_toInt]
  have q := krem0 a (by omega) b (by omega) (by omega)
  rw [← ex, ← ey, ← e, ← hb] at q
  exact q
theorem klcmp {x : Int64} {z : Int} (hz : rg z) (e : lg_cmp x 0 = zI z) : z = 0 ↔ x.toInt = 0 := by
  have q1 : lg_cmp x 0 = 0 ↔ x = 0 := by
    unfold lg_cmp
    by_cases a : x > 0
    · rw [if_pos a]
      constructor
      · intro h; exact absurd h (by decide)
      · intro h; rw [h] at a; exact absurd a (by decide)
    · rw [if_neg a]
      by_cases b : x = 0
      · rw [if_pos b]; exact ⟨fun _ => b, fun _ => rfl⟩
      · rw [if_neg b]; exact ⟨fun h => absurd h (by decide), fun h => absurd h b⟩
  rw [e] at q1
  have q2 : zI z = zI 0 ↔ z = 0 := zI_eq hz (by omega)
  have q3 : x = 0 ↔ x.toInt = (0 : Int64).toInt := Int64.toInt_inj.symm
  have q4 : (0 : Int64).toInt = 0 := by decide
  rw [q4] at q3
  exact q2.symm.trans (q1.trans q3)
theorem knz64 {x : Int64} (h : ¬ x.toInt = 0) : ¬ x = 0 := fun q => h (by rw [q]; decide)
theorem kl64 {z : Int} (h : 0 ≤ z ∧ z ≤ 16) : 0 ≤ ((zI z).toInt64).toInt ∧ ((zI z).toInt64).toInt ≤ 16 := by
  rw [Int32.toInt_toInt64, zI_toInt (by omega)]
  exact h
theorem dX9_inLeastTerms_0 : decode cX9_inLeastTerms 0 = .ok (.lload_n 0, 1) := by decide +kernel
theorem dX9_inLeastTerms_1 : decode cX9_inLeastTerms 1 = .ok (.lstore 5, 2) := by decide +kernel
theorem dX9_inLeastTerms_3 : decode cX9_inLeastTerms 3 = .ok (.lload_n 2, 1) := by decide +kernel
theorem dX9_inLeastTerms_4 : decode cX9_inLeastTerms 4 = .ok (.lstore 7, 2) := by decide +kernel
theorem dX9_inLeastTerms_6 : decode cX9_inLeastTerms 6 = .ok (.lload 7, 2) := by decide +kernel
theorem dX9_inLeastTerms_8 : decode cX9_inLeastTerms 8 = .ok (.lconst 0, 1) := by decide +kernel
theorem dX9_inLeastTerms_9 : decode cX9_inLeastTerms 9 = .ok (.lcmp, 1) := by decide +kernel
theorem dX9_inLeastTerms_10 : decode cX9_inLeastTerms 10 = .ok (.ifCond .eq 21, 3) := by decide +kernel
theorem dX9_inLeastTerms_13 : decode cX9_inLeastTerms 13 = .ok (.lload 5, 2) := by decide +kernel
theorem dX9_inLeastTerms_15 : decode cX9_inLeastTerms 15 = .ok (.lload 7, 2) := by decide +kernel
theorem dX9_inLeastTerms_17 : decode cX9_inLeastTerms 17 = .ok (.lrem, 1) := by decide +kernel
theorem dX9_inLeastTerms_18 : decode cX9_inLeastTerms 18 = .ok (.lstore 9, 2) := by decide +kernel
theorem dX9_inLeastTerms_20 : decode cX9_inLeastTerms 20 = .ok (.lload 7, 2) := by decide +kernel
theorem dX9_inLeastTerms_22 : decode cX9_inLeastTerms 22 = .ok (.lstore 5, 2) := by decide +kernel
theorem dX9_inLeastTerms_24 : decode cX9_inLeastTerms 24 = .ok (.lload 9, 2) := by decide +kernel
theorem dX9_inLeastTerms_26 : decode cX9_inLeastTerms 26 = .ok (.lstore 7, 2) := by decide +kernel
theorem dX9_inLeastTerms_28 : decode cX9_inLeastTerms 28 = .ok (.goto (-22), 3) := by decide +kernel
theorem dX9_inLeastTerms_31 : decode cX9_inLeastTerms 31 = .ok (.iload 4, 2) := by decide +kernel
theorem dX9_inLeastTerms_33 : decode cX9_inLeastTerms 33 = .ok (.ifCond .ne 10, 3) := by decide +kernel
theorem dX9_inLeastTerms_36 : decode cX9_inLeastTerms 36 = .ok (.lload_n 0, 1) := by decide +kernel
theorem dX9_inLeastTerms_37 : decode cX9_inLeastTerms 37 = .ok (.lload 5, 2) := by decide +kernel
theorem dX9_inLeastTerms_39 : decode cX9_inLeastTerms 39 = .ok (.ldiv, 1) := by decide +kernel
theorem dX9_inLeastTerms_40 : decode cX9_inLeastTerms 40 = .ok (.goto 7, 3) := by decide +kernel
theorem dX9_inLeastTerms_43 : decode cX9_inLeastTerms 43 = .ok (.lload_n 2, 1) := by decide +kernel
theorem dX9_inLeastTerms_44 : decode cX9_inLeastTerms 44 = .ok (.lload 5, 2) := by decide +kernel
theorem dX9_inLeastTerms_46 : decode cX9_inLeastTerms 46 = .ok (.ldiv, 1) := by decide +kernel
theorem dX9_inLeastTerms_47 : decode cX9_inLeastTerms 47 = .ok (.lreturn, 1) := by decide +kernel
theorem ax_X9_inLeastTerms_0 : ([] : List Nat).map (fun i => ([] : va_W)[i]?) = ([] : va_W).map some := rfl
set_option maxHeartbeats 4000000 in
set_option maxRecDepth 100000 in
theorem c_X9_inLeastTerms (l : Launch) (D : va_G) (sz : Nat) (u : Int64) (d : Int64) (w : Int) (q0 : 0 ≤ u.toInt ∧ u.toInt ≤ 16) (q1 : d = 16) (q2 : rg w) : Met l yX9_inLeastTerms wsX9_inLeastTerms ({ frames := 0, cells := 0, slots := 0, locals := 0 }) (kPre [.long u, .long d, .int (zI w)] D [] [] sz) (kQL (fun rz t => va_P D vwCl [] t.heap ∧ va_D (va_A [] sz) []) (va_A [] sz)) 0 0 (va_A [] sz) := by
  refine Met.ofW (cc := cX9_inLeastTerms) (maxL := 11) (ret := (some .long)) (by decide) rfl ?_
  intro p e s m args below meth c s₁ B hml hv
  obtain ⟨rfl, hsz, hP, hK, hD0, hN⟩ := hv
  have hx := B.exec
  have hb := B.bytes
  have hr := B.returns
  have hts := atoms_spec (ws := wsX9_inLeastTerms) B.pre
  have hown : s.vm.findClass RX9 = some m.cls := findClass_of_methodNamed B.named
  have hlocks := B.notSynchronized
  subst hsz
  have hD := hD0.self (sz := s.heap.size)
  generalize hAe : va_A [] s.heap.size = A at hD ⊢
  have hA : ∀ q : Nat, s.heap.size ≤ q → A q := fun q h => by rw [← hAe]; exact Or.inr h
  have hS : va_S A s.heap s.heap [] := va_S.rf
  have hP : va_P D vwCl [] s.heap := hP
  have hl := lv_entry ([.long u, .long d, .int (zI w)]) (n := 11) (Nat.le_of_ble_eq_true rfl)
  rw [lg_entry_eq]
  generalize (lg_sl ([.long u, .long d, .int (zI w)]) ++ List.replicate (11 - (lg_sl ([.long u, .long d, .int (zI w)])).length) Slot.unset).toArray = ls at hl ⊢
  have hl : lv_has ls 11 [(0, .long u), (2, .long d), (4, .int (zI w))] := hl
  refine lv_lload_n hx hb dX9_inLeastTerms_0 rfl (lv_at hl 0 rfl) ?_
  refine lv_lstore (lv' := [(5, .long u), (0, .long u), (2, .long d), (4, .int (zI w))]) hx hb dX9_inLeastTerms_1 hl (by decide) rfl (fun ls hl => ?_)
  refine lv_lload_n hx hb dX9_inLeastTerms_3 rfl (lv_at hl 2 rfl) ?_
  refine lv_lstore (lv' := [(7, .long d), (5, .long u), (0, .long u), (2, .long d), (4, .int (zI w))]) hx hb dX9_inLeastTerms_4 hl (by decide) rfl (fun ls hl => ?_)
  refine k_loopM (I := fun n9 H locs ls => ∃ (jx : Int64) (jy : Int64), n9 = (jy.toInt).toNat ∧ (0 ≤ jx.toInt ∧ jx.toInt ≤ 16) ∧ (0 ≤ jy.toInt ∧ jy.toInt ≤ 16) ∧ (1 ≤ jx.toInt ∨ 1 ≤ jy.toInt) ∧ va_P D vwCl [] H ∧ va_D A [] ∧ va_S A s.heap H locs ∧ lv_has ls 11 [(7, .long jy), (5, .long jx), (0, .long u), (2, .long d), (4, .int (zI w))]) ?_ _ ⟨u, d, rfl, q0, (by rw [q1]; decide), (Or.inr (by rw [q1]; decide)), hP, hD, hS, hl⟩
  intro n6 ih6 H locs ls hI
  obtain ⟨jx, jy, en6, v_60, v_61, v_62, hP, hD, hS, hl⟩ := hI
  refine lv_lload hx hb dX9_inLeastTerms_6 (lv_at hl 0 rfl) ?_
  refine lv_lconst (v := 0) hx hb dX9_inLeastTerms_8 (by decide) ?_
  refine W.lcmp hx hb dX9_inLeastTerms_9 ?_
  refine kz_any (fun z_1 rz_1 ez_1 => ?_)
  have bz_1 := klcmp rz_1 ez_1
  refine kz_if_eq (tgt := 31) hx hb dX9_inLeastTerms_10 (by decide) (by omega) (fun c_2 => ?_) (fun c_2 => ?_)
  · refine lv_iload hx hb dX9_inLeastTerms_31 (lv_at hl 4 rfl) ?_
    refine kz_if_ne (tgt := 43) hx hb dX9_inLeastTerms_33 (by decide) (by omega) (fun c_3 => ?_) (fun c_3 => ?_)
    · refine lv_lload_n hx hb dX9_inLeastTerms_43 rfl (lv_at hl 3 rfl) ?_
      refine lv_lload hx hb dX9_inLeastTerms_44 (lv_at hl 1 rfl) ?_
      refine lv_ldiv hx hb dX9_inLeastTerms_46 (knz64 (by omega)) ?_
      refine lv_topl (fun l_4 el_4 => ?_)
      have hP9 := hP.sub (ws' := []) [] rfl
      have hD9 := hD.sub (ws' := []) [] (by decide +kernel) rfl
      exact W.lret (v := l_4) hx hb hr (fun t ht hW => kQL_of ⟨by rw [ht]; exact hP9, hD9⟩ (hS.F ht)) hS.2.2 dX9_inLeastTerms_47
    · refine lv_lload_n hx hb dX9_inLeastTerms_36 rfl (lv_at hl 2 rfl) ?_
      refine lv_lload hx hb dX9_inLeastTerms_37 (lv_at hl 1 rfl) ?_
      refine lv_ldiv hx hb dX9_inLeastTerms_39 (knz64 (by omega)) ?_
      refine lv_topl (fun l_5 el_5 => ?_)
      refine lv_goto (tgt := 47) hx hb dX9_inLeastTerms_40 (by decide) ?_
      have hP9 := hP.sub (ws' := []) [] rfl
      have hD9 := hD.sub (ws' := []) [] (by decide +kernel) rfl
      exact W.lret (v := l_5) hx hb hr (fun t ht hW => kQL_of ⟨by rw [ht]; exact hP9, hD9⟩ (hS.F ht)) hS.2.2 dX9_inLeastTerms_47
  · refine lv_lload hx hb dX9_inLeastTerms_13 (lv_at hl 1 rfl) ?_
    refine lv_lload hx hb dX9_inLeastTerms_15 (lv_at hl 0 rfl) ?_
    refine lv_lrem hx hb dX9_inLeastTerms_17 (knz64 (by omega)) ?_
    refine lv_topl (fun l_6 el_6 => ?_)
    have bl_6 := krem (x := jx) (y := jy) (by omega) (by omega) el_6
    refine lv_lstore (lv' := [(9, .long l_6), (7, .long jy), (5, .long jx), (0, .long u), (2, .long d), (4, .int (zI w))]) hx hb dX9_inLeastTerms_18 hl (by decide) rfl (fun ls hl => ?_)
    refine lv_lload hx hb dX9_inLeastTerms_20 (lv_at hl 1 rfl) ?_
    refine lv_lstore (lv' := [(5, .long jy), (9, .long l_6), (7, .long jy), (0, .long u), (2, .long d), (4, .int (zI w))]) hx hb dX9_inLeastTerms_22 hl (by decide) rfl (fun ls hl => ?_)
    refine lv_lload hx hb dX9_inLeastTerms_24 (lv_at hl 1 rfl) ?_
    refine lv_lstore (lv' := [(7, .long l_6), (5, .long jy), (9, .long l_6), (0, .long u), (2, .long d), (4, .int (zI w))]) hx hb dX9_inLeastTerms_26 hl (by decide) rfl (fun ls hl => ?_)
    refine lv_goto (tgt := 6) hx hb dX9_inLeastTerms_28 (by decide) ?_
    exact ih6 _ (by omega) _ _ _ ⟨jy, l_6, rfl, v_61, (by omega), (by omega), hP, hD, hS, lv_sub hl [0, 1, 3, 4, 5] rfl⟩

