theorem k32 {j : Nat} (h : j < 32) : j = 0 ∨ j = 1 ∨ j = 2 ∨ j = 3 ∨ j = 4 ∨ j = 5 ∨ j = 6 ∨ j = 7 ∨ j = 8 ∨ j = 9 ∨ j = 10 ∨ j = 11 ∨ j = 12 ∨ j = 13 ∨ j = 14 ∨ j = 15 ∨ j = 16 ∨ j = 17 ∨ j = 18 ∨ j = 19 ∨ j = 20 ∨ j = 21 ∨ j = 22 ∨ j = 23 ∨ j = 24 ∨ j = 25 ∨ j = 26 ∨ j = 27 ∨ j = 28 ∨ j = 29 ∨ j = 30 ∨ j = 31 := by omega
theorem k_short : ∀ L : Nat, L < 6 → (Int32.ofNat L) - 6 < (0 : Int32) := by decide
theorem dL_law_0 : decode cL_law 0 = .ok (.new 7, 3) := by decide +kernel
theorem dL_law_3 : decode cL_law 3 = .ok (.dup, 1) := by decide +kernel
theorem dL_law_4 : decode cL_law 4 = .ok (.invokespecial 9, 3) := by decide +kernel
theorem dL_law_7 : decode cL_law 7 = .ok (.astore_n 1, 1) := by decide +kernel
theorem dL_law_8 : decode cL_law 8 = .ok (.new 10, 3) := by decide +kernel
theorem dL_law_11 : decode cL_law 11 = .ok (.dup, 1) := by decide +kernel
theorem dL_law_12 : decode cL_law 12 = .ok (.invokespecial 12, 3) := by decide +kernel
theorem dL_law_15 : decode cL_law 15 = .ok (.astore_n 2, 1) := by decide +kernel
theorem dL_law_16 : decode cL_law 16 = .ok (.iconst 0, 1) := by decide +kernel
theorem dL_law_17 : decode cL_law 17 = .ok (.istore_n 3, 1) := by decide +kernel
theorem dL_law_27 : decode cL_law 27 = .ok (.aload_n 0, 1) := by decide +kernel
theorem dL_law_28 : decode cL_law 28 = .ok (.iload_n 3, 1) := by decide +kernel
theorem dL_law_29 : decode cL_law 29 = .ok (.iaload, 1) := by decide +kernel
theorem dL_law_30 : decode cL_law 30 = .ok (.bipush 31, 2) := by decide +kernel
theorem dL_law_32 : decode cL_law 32 = .ok (.iand, 1) := by decide +kernel
theorem dL_law_33 : decode cL_law 33 = .ok (.tableswitch 1102 0 31 #[143, 196, 229, 262, 315, 338, 361, 394, 427, 450, 473, 486, 500, 563, 586, 609, 632, 655, 678, 701, 724, 758, 801, 824, 867, 911, 974, 997, 1020, 1053, 1066, 1079], 143) := by decide +kernel
set_option maxRecDepth 20000 in
theorem ggL_law_X8_init : GoodIn wsL_law wsX8_init := goodIn_r _ [8, 9, 10, 11, 12, 13, 14, 15, 16, 17, 18, 19, 20, 21, 22, 23, 24, 25, 26, 27, 28, 29, 30, 31, 32, 33, 34, 35, 36, 37, 38, 39, 40, 41, 42, 43, 44, 45, 46, 47, 48, 49, 50, 51, 52, 53, 54, 55, 56, 57, 58, 59, 60, 61, 62, 63, 64, 65, 66, 67, 68, 69, 70, 71, 72, 73, 74, 75, 76, 77, 78, 79, 80, 81, 82, 83, 84, 85, 86, 87, 88, 89, 90, 91, 821, 822, 823, 824, 825, 826, 827, 828, 829, 830, 831, 832, 833, 834, 835, 867, 868, 869, 870, 871, 872, 873, 874, 875, 876, 877, 878, 879, 880, 881, 882, 883, 884, 885, 886, 887, 888, 889, 890, 891, 892, 893, 894, 895] (by decide +kernel) (by decide +kernel)
set_option maxRecDepth 20000 in
theorem gL_law_X8_init : GoodIn wsL_law (wsX8_init) := ggL_law_X8_init
set_option maxRecDepth 20000 in
theorem ggL_law_X9_init : GoodIn wsL_law wsX9_init := goodIn_r _ [94, 95, 10, 11, 50, 96, 97, 98, 99, 100, 101, 102, 103, 104, 105, 106, 107, 108, 109, 110, 111, 112, 113, 836, 837, 838, 839, 840, 841, 842, 843, 844, 845, 846, 847, 848, 849, 850, 851, 852, 853, 854, 855, 856, 857, 858, 859, 860, 861, 862, 863, 864, 865, 866] (by decide +kernel) (by decide +kernel)
set_option maxRecDepth 20000 in
theorem gL_law_X9_init : GoodIn wsL_law (wsX9_init) := ggL_law_X9_init
set_option maxHeartbeats 4000000 in
set_option maxRecDepth 100000 in
theorem whole_start {p : Program} {e : Env} {s : State} {m : MethodId} {below : List Frame} {meth : Method} {c : Code} (l : Launch) (hflags : l.flags = flags0) {b L : Nat} {xs : Nat → Int32} (hL : L ≤ 6) (C0 : lw_At p s m meth c b L xs) : W p l e room_1 s m #[Value.ref b] below meth c s.heap [] 0 0 (lw_Z below #[Value.ref b] s) (entryFrame m ([Value.ref b] : List Value).toArray 4) := by
  obtain ⟨hx, hb, hr, hml, hown, hts, hX, hbl, hlocks, hgv⟩ := id C0
  obtain ⟨A, hAe⟩ : ∃ A : Nat → Prop, A = fun q : Nat => s.heap.size ≤ q := ⟨_, rfl⟩
  have hA : ∀ q : Nat, s.heap.size ≤ q → A q := fun q h => by rw [hAe]; exact h
  have hAf : ∀ q : Nat, A q → s.heap.size ≤ q := fun q h => by rw [hAe] at h; exact h
  have hbA : ¬ A b := fun h => absurd (hAf b h) (Nat.not_le.mpr hbl)
  obtain ⟨c0, iS0, hKn0⟩ := u_known (C := RX0) (T := TX0) (N := 4) (n := 4) hts inX0 (hts (.instantiable RX0 4) (m_wsL_law_r1 _ (by decide +kernel)))
  obtain ⟨c1, iS1, hKn1⟩ := u_known (C := RX1) (T := TX1) (N := 2) (n := 2) hts inX1 (hts (.instantiable RX1 2) (m_wsL_law_r2 _ (by decide +kernel)))
  obtain ⟨c2, iS2, hKn2⟩ := u_known (C := RX2) (T := TX2) (N := 3) (n := 3) hts inX2 (hts (.instantiable RX2 3) (m_wsL_law_r2 _ (by decide +kernel)))
  obtain ⟨c3, iS3, hKn3⟩ := u_known (C := RX3) (T := TX3) (N := 2) (n := 2) hts inX3 (hts (.instantiable RX3 2) (m_wsL_law_r2 _ (by decide +kernel)))
  obtain ⟨c4, iS4, hKn4⟩ := u_known (C := RX4) (T := TX4) (N := 10) (n := 10) hts inX4 (hts (.instantiable RX4 10) (m_wsL_law_r2 _ (by decide +kernel)))
  obtain ⟨c5, iS5, hKn5⟩ := u_known (C := RX5) (T := TX5) (N := 4) (n := 4) hts inX5 (hts (.instantiable RX5 4) (m_wsL_law_r1 _ (by decide +kernel)))
  obtain ⟨c6, iS6, hKn6⟩ := u_known (C := RX6) (T := TX6) (N := 2) (n := 2) hts inX6 (hts (.instantiable RX6 2) (m_wsL_law_r1 _ (by decide +kernel)))
  obtain ⟨c7, iS7, hKn7⟩ := u_known (C := RX7) (T := TX7) (N := 2) (n := 2) hts inX7 (hts (.instantiable RX7 2) (m_wsL_law_r2 _ (by decide +kernel)))
  obtain ⟨c8, iS8, hKn8⟩ := u_known (C := RX8) (T := TX8) (N := 15) (n := 15) hts inX8 (hts (.instantiable RX8 15) (m_wsL_law_r1 _ (by decide +kernel)))
  obtain ⟨c9, iS9, hKn9⟩ := u_known (C := RX9) (T := TX9) (N := 31) (n := 31) hts inX9 (hts (.instantiable RX9 31) (m_wsL_law_r1 _ (by decide +kernel)))
  obtain ⟨D, hKc⟩ : ∃ D : va_G, ∀ (k : Nat) (q : vw_C), vwCl[k]? = some q → u_Kn s q.1 q.2.1 q.2.2 (D.1 k) (D.2 k) := by
    refine ⟨(fun k => if k = 0 then c0 else if k = 1 then c1 else if k = 2 then c2 else if k = 3 then c3 else if k = 4 then c4 else if k = 5 then c5 else if k = 6 then c6 else if k = 7 then c7 else if k = 8 then c8 else c9, fun k => if k = 0 then iS0 else if k = 1 then iS1 else if k = 2 then iS2 else if k = 3 then iS3 else if k = 4 then iS4 else if k = 5 then iS5 else if k = 6 then iS6 else if k = 7 then iS7 else if k = 8 then iS8 else iS9), ?_⟩
    intro k q hq
    match k, hq with
    | 0, hq => cases hq; exact hKn0
    | 1, hq => cases hq; exact hKn1
    | 2, hq => cases hq; exact hKn2
    | 3, hq => cases hq; exact hKn3
    | 4, hq => cases hq; exact hKn4
    | 5, hq => cases hq; exact hKn5
    | 6, hq => cases hq; exact hKn6
    | 7, hq => cases hq; exact hKn7
    | 8, hq => cases hq; exact hKn8
    | 9, hq => cases hq; exact hKn9
    | k + 10, hq => simp [vwCl] at hq
  have hS : va_S A s.heap s.heap [] := va_S.rf
  have hK : va_K D vwCl [] s := ⟨hKc, fun k q h => by simp at h⟩
  have hP : va_P D vwCl [] s.heap := kP0
  have hD : va_D A [] := kDn
  have hN : kN s := ⟨fun q hq => va_Nw.of rfl (hts _ (kNt_in _ (List.mem_map.mpr ⟨q, hq, rfl⟩))), va_AO.of (hts _ ao_in), hts _ aoa_in, by obtain ⟨cy, _, _, h, _⟩ := Cond.arrayClass_spec (hts _ ac_in); exact ⟨cy, h⟩⟩
  have hl := lv_entry ([.ref b]) (n := 4) (Nat.le_of_ble_eq_true rfl)
  rw [lg_entry_eq]
  generalize (lg_sl ([.ref b]) ++ List.replicate (4 - (lg_sl ([.ref b])).length) Slot.unset).toArray = ls at hl ⊢
  have hl : lv_has ls 4 [(0, .ref b)] := hl
  refine va_new (ci := 8) (fs := [.null, .null, .null, .null, .null, .null, .null, .null, .null, .null, .null, .int 0, .long 0, .int 0, .int 0]) (C := RX8) (T := TX8) (N := 15) hx hb hts inX8 tyX8 tyX8_ok hown (hts (.classLink RL 7 RX8) (m_wsL_law_r1 _ (by decide +kernel))) (hts (.instantiable RX8 15) (m_wsL_law_r1 _ (by decide +kernel))) (hts (.initialized RX8) (m_wsL_law_r1 _ (by decide +kernel))) hK hP hD hS hA rfl (by decide +kernel) (Nat.le_of_ble_eq_true rfl) (Nat.le_of_ble_eq_true rfl) dL_law_0 (fun o_1 H hP hD hS => ?_)
  have hP : va_P D vwCl [(o_1, .inr (8, [.null, .null, .null, .null, .null, .null, .null, .null, .null, .null, .null, .int 0, .long 0, .int 0, .int 0]))] H := hP
  have hD : va_D A [(o_1, .inr (8, [.null, .null, .null, .null, .null, .null, .null, .null, .null, .null, .null, .int 0, .long 0, .int 0, .int 0]))] := hD
  refine lv_dup hx hb dL_law_3 rfl ?_
  have hFc := va_free (wc := [(o_1, .inr (8, [.null, .null, .null, .null, .null, .null, .null, .null, .null, .null, .null, .int 0, .long 0, .int 0, .int 0]))]) hD hS hA [0] rfl
  refine va_callv (va_runI (As := []) (rest := [.ref o_1]) ⟨hx, hb, hml, hown, hts⟩ (c_X8_init l D H.size (h0 := o_1)) (cwI 0 hts (goodL gL_law_X8_init) rfl rfl rfl (hts (.initialized RX8) (m_wsL_law_r1 _ (by decide +kernel))) (hts (.methodLink RL 9 yX8_init) (m_wsL_law_r1 _ (by decide +kernel))) (hts (.instanceMethod yX8_init) (m_wsL_law_r1 _ (by decide +kernel))) rfl (by decide +kernel) ⟨Nat.le_of_ble_eq_true rfl, Nat.le_of_ble_eq_true rfl⟩) (kPreS hP (kD0 hD) hK hN [0] [] rfl rfl (by decide)) rfl rfl hl.1 rfl (lv_room (Nat.le_of_ble_eq_true rfl)) dL_law_4 ⟨Nat.le_of_ble_eq_true rfl, Nat.le_of_ble_eq_true rfl⟩) hS (fun q _ h => hFc q h) hFc (fun  u t H1 locs ht hvm hw hB hz1 hk1 hS => ?_)
  obtain ⟨sh, rd, fr, wr, pf, rc, se, rs, sw, sp, ss, s0, s1, s2, s3, e0, e1, e2, e3, k1, k2, k3, w1, y1, g1, g2, g3, g4, g5, g6, g7, z1, z2, cS, ce0, ce1, ce2, ce3⟩ := u
  obtain ⟨hP1, hD1, hK1⟩ := hB
  rw [ht] at hP1
  obtain ⟨hP, hD⟩ := va_join (wr := []) (w1 := [(o_1, .inr (8, [.ref sh, .ref rd, .ref fr, .ref wr, .ref pf, .ref rc, .ref se, .ref rs, .ref sw, .ref sp, .ref ss, .int 0, .long 0, .int 0, .int 0])), (sh, .inl (cS, 4, .inr (.inr (.inr (.inr (va_up (va_up (va_up (va_up (fun _ => none) 0 (some s0)) 1 (some s1)) 2 (some s2)) 3 (some s3))))))), (s0, .inr (5, [.ref e0, .int 0, .int 0, .int 0])), (s1, .inr (5, [.ref e1, .int 0, .int 0, .int 0])), (s2, .inr (5, [.ref e2, .int 0, .int 0, .int 0])), (s3, .inr (5, [.ref e3, .int 0, .int 0, .int 0])), (e0, .inl (ce0, 60, .inl (fun _ => 0))), (e1, .inl (ce1, 60, .inl (fun _ => 0))), (e2, .inl (ce2, 60, .inl (fun _ => 0))), (e3, .inl (ce3, 60, .inl (fun _ => 0))), (fr, .inr (0, [.ref k1, .ref k2, .ref k3, .int 0])), (wr, .inr (7, [.ref w1, .int 0])), (rc, .inr (3, [.ref y1, .int 0])), (se, .inr (4, [.ref g1, .ref g2, .ref g3, .ref g4, .ref g5, .int 0, .int 0, .int 0, .ref g6, .ref g7])), (rs, .inr (2, [.int 0, .ref z1, .ref z2]))]) hP hD [0] [] rfl rfl (by decide) (by decide) hk1 hFc hP1 hD1
  have hK : va_K D vwCl [(cS, .object RX5), (ce0, .int), (ce1, .int), (ce2, .int), (ce3, .int)] s := hK.app (va_K.moved hvm.symm hK1)
  generalize H1 = H at hP hS ⊢
  have hP : va_P D vwCl [(o_1, .inr (8, [.ref sh, .ref rd, .ref fr, .ref wr, .ref pf, .ref rc, .ref se, .ref rs, .ref sw, .ref sp, .ref ss, .int 0, .long 0, .int 0, .int 0])), (sh, .inl (cS, 4, .inr (.inr (.inr (.inr (va_up (va_up (va_up (va_up (fun _ => none) 0 (some s0)) 1 (some s1)) 2 (some s2)) 3 (some s3))))))), (s0, .inr (5, [.ref e0, .int 0, .int 0, .int 0])), (s1, .inr (5, [.ref e1, .int 0, .int 0, .int 0])), (s2, .inr (5, [.ref e2, .int 0, .int 0, .int 0])), (s3, .inr (5, [.ref e3, .int 0, .int 0, .int 0])), (e0, .inl (ce0, 60, .inl (fun _ => 0))), (e1, .inl (ce1, 60, .inl (fun _ => 0))), (e2, .inl (ce2, 60, .inl (fun _ => 0))), (e3, .inl (ce3, 60, .inl (fun _ => 0))), (fr, .inr (0, [.ref k1, .ref k2, .ref k3, .int 0])), (wr, .inr (7, [.ref w1, .int 0])), (rc, .inr (3, [.ref y1, .int 0])), (se, .inr (4, [.ref g1, .ref g2, .ref g3, .ref g4, .ref g5, .int 0, .int 0, .int 0, .ref g6, .ref g7])), (rs, .inr (2, [.int 0, .ref z1, .ref z2]))] H := hP
  have hD : va_D A [(o_1, .inr (8, [.ref sh, .ref rd, .ref fr, .ref wr, .ref pf, .ref rc, .ref se, .ref rs, .ref sw, .ref sp, .ref ss, .int 0, .long 0, .int 0, .int 0])), (sh, .inl (cS, 4, .inr (.inr (.inr (.inr (va_up (va_up (va_up (va_up (fun _ => none) 0 (some s0)) 1 (some s1)) 2 (some s2)) 3 (some s3))))))), (s0, .inr (5, [.ref e0, .int 0, .int 0, .int 0])), (s1, .inr (5, [.ref e1, .int 0, .int 0, .int 0])), (s2, .inr (5, [.ref e2, .int 0, .int 0, .int 0])), (s3, .inr (5, [.ref e3, .int 0, .int 0, .int 0])), (e0, .inl (ce0, 60, .inl (fun _ => 0))), (e1, .inl (ce1, 60, .inl (fun _ => 0))), (e2, .inl (ce2, 60, .inl (fun _ => 0))), (e3, .inl (ce3, 60, .inl (fun _ => 0))), (fr, .inr (0, [.ref k1, .ref k2, .ref k3, .int 0])), (wr, .inr (7, [.ref w1, .int 0])), (rc, .inr (3, [.ref y1, .int 0])), (se, .inr (4, [.ref g1, .ref g2, .ref g3, .ref g4, .ref g5, .int 0, .int 0, .int 0, .ref g6, .ref g7])), (rs, .inr (2, [.int 0, .ref z1, .ref z2]))] := hD
  refine lv_astore_n (lv' := [(1, .ref o_1), (0, .ref b)]) hx hb dL_law_7 rfl hl (by decide) rfl (fun ls hl => ?_)
  refine va_new (ci := 9) (fs := [.int 0, .int 0, .null, .null, .null, .int 0, .null, .null, .null, .null, .null, .int 0, .null, .int 0, .long 0, .int 0, .int 0, .null, .null, .null, .int 0, .null, .null, .int 0, .null, .null, .int 0, .int 0, .null, .int 0, .null]) (C := RX9) (T := TX9) (N := 31) hx hb hts inX9 tyX9 tyX9_ok hown (hts (.classLink RL 10 RX9) (m_wsL_law_r1 _ (by decide +kernel))) (hts (.instantiable RX9 31) (m_wsL_law_r1 _ (by decide +kernel))) (hts (.initialized RX9) (m_wsL_law_r1 _ (by decide +kernel))) hK hP hD hS hA rfl (by decide +kernel) (Nat.le_of_ble_eq_true rfl) (Nat.le_of_ble_eq_true rfl) dL_law_8 (fun o_2 H hP hD hS => ?_)
  have hP : va_P D vwCl [(o_1, .inr (8, [.ref sh, .ref rd, .ref fr, .ref wr, .ref pf, .ref rc, .ref se, .ref rs, .ref sw, .ref sp, .ref ss, .int 0, .long 0, .int 0, .int 0])), (sh, .inl (cS, 4, .inr (.inr (.inr (.inr (va_up (va_up (va_up (va_up (fun _ => none) 0 (some s0)) 1 (some s1)) 2 (some s2)) 3 (some s3))))))), (s0, .inr (5, [.ref e0, .int 0, .int 0, .int 0])), (s1, .inr (5, [.ref e1, .int 0, .int 0, .int 0])), (s2, .inr (5, [.ref e2, .int 0, .int 0, .int 0])), (s3, .inr (5, [.ref e3, .int 0, .int 0, .int 0])), (e0, .inl (ce0, 60, .inl (fun _ => 0))), (e1, .inl (ce1, 60, .inl (fun _ => 0))), (e2, .inl (ce2, 60, .inl (fun _ => 0))), (e3, .inl (ce3, 60, .inl (fun _ => 0))), (fr, .inr (0, [.ref k1, .ref k2, .ref k3, .int 0])), (wr, .inr (7, [.ref w1, .int 0])), (rc, .inr (3, [.ref y1, .int 0])), (se, .inr (4, [.ref g1, .ref g2, .ref g3, .ref g4, .ref g5, .int 0, .int 0, .int 0, .ref g6, .ref g7])), (rs, .inr (2, [.int 0, .ref z1, .ref z2])), (o_2, .inr (9, [.int 0, .int 0, .null, .null, .null, .int 0, .null, .null, .null, .null, .null, .int 0, .null, .int 0, .long 0, .int 0, .int 0, .null, .null, .null, .int 0, .null, .null, .int 0, .null, .null, .int 0, .int 0, .null, .int 0, .null]))] H := hP
  have hD : va_D A [(o_1, .inr (8, [.ref sh, .ref rd, .ref fr, .ref wr, .ref pf, .ref rc, .ref se, .ref rs, .ref sw, .ref sp, .ref ss, .int 0, .long 0, .int 0, .int 0])), (sh, .inl (cS, 4, .inr (.inr (.inr (.inr (va_up (va_up (va_up (va_up (fun _ => none) 0 (some s0)) 1 (some s1)) 2 (some s2)) 3 (some s3))))))), (s0, .inr (5, [.ref e0, .int 0, .int 0, .int 0])), (s1, .inr (5, [.ref e1, .int 0, .int 0, .int 0])), (s2, .inr (5, [.ref e2, .int 0, .int 0, .int 0])), (s3, .inr (5, [.ref e3, .int 0, .int 0, .int 0])), (e0, .inl (ce0, 60, .inl (fun _ => 0))), (e1, .inl (ce1, 60, .inl (fun _ => 0))), (e2, .inl (ce2, 60, .inl (fun _ => 0))), (e3, .inl (ce3, 60, .inl (fun _ => 0))), (fr, .inr (0, [.ref k1, .ref k2, .ref k3, .int 0])), (wr, .inr (7, [.ref w1, .int 0])), (rc, .inr (3, [.ref y1, .int 0])), (se, .inr (4, [.ref g1, .ref g2, .ref g3, .ref g4, .ref g5, .int 0, .int 0, .int 0, .ref g6, .ref g7])), (rs, .inr (2, [.int 0, .ref z1, .ref z2])), (o_2, .inr (9, [.int 0, .int 0, .null, .null, .null, .int 0, .null, .null, .null, .null, .null, .int 0, .null, .int 0, .long 0, .int 0, .int 0, .null, .null, .null, .int 0, .null, .null, .int 0, .null, .null, .int 0, .int 0, .null, .int 0, .null]))] := hD
  refine lv_dup hx hb dL_law_11 rfl ?_
  have hFc := va_free (wc := [(o_2, .inr (9, [.int 0, .int 0, .null, .null, .null, .int 0, .null, .null, .null, .null, .null, .int 0, .null, .int 0, .long 0, .int 0, .int 0, .null, .null, .null, .int 0, .null, .null, .int 0, .null, .null, .int 0, .int 0, .null, .int 0, .null]))]) hD hS hA [15] rfl
  refine va_callv (va_runI (As := []) (rest := [.ref o_2]) ⟨hx, hb, hml, hown, hts⟩ (c_X9_init l D H.size (h0 := o_2)) (cwI 0 hts (goodL gL_law_X9_init) rfl rfl rfl (hts (.initialized RX9) (m_wsL_law_r1 _ (by decide +kernel))) (hts (.methodLink RL 12 yX9_init) (m_wsL_law_r4 _ (by decide +kernel))) (hts (.instanceMethod yX9_init) (m_wsL_law_r4 _ (by decide +kernel))) rfl (by decide +kernel) ⟨Nat.le_of_ble_eq_true rfl, Nat.le_of_ble_eq_true rfl⟩) (kPreS hP (kD0 hD) hK hN [15] [] rfl rfl (by decide)) rfl rfl hl.1 rfl (lv_room (Nat.le_of_ble_eq_true rfl)) dL_law_12 ⟨Nat.le_of_ble_eq_true rfl, Nat.le_of_ble_eq_true rfl⟩) hS (fun q _ h => hFc q h) hFc (fun  u t H1 locs ht hvm hw hB hz1 hk1 hS => ?_)
  obtain ⟨so, sl, ce, kd, wd, hs, pr, la, wg, rk, rw, rh, sa, fi, ch, cn, kp, rfa, cso, csl, cce, csa⟩ := u
  obtain ⟨hP1, hD1, hK1⟩ := hB
  rw [ht] at hP1
  obtain ⟨hP, hD⟩ := va_join (wr := [(o_1, .inr (8, [.ref sh, .ref rd, .ref fr, .ref wr, .ref pf, .ref rc, .ref se, .ref rs, .ref sw, .ref sp, .ref ss, .int 0, .long 0, .int 0, .int 0])), (sh, .inl (cS, 4, .inr (.inr (.inr (.inr (va_up (va_up (va_up (va_up (fun _ => none) 0 (some s0)) 1 (some s1)) 2 (some s2)) 3 (some s3))))))), (s0, .inr (5, [.ref e0, .int 0, .int 0, .int 0])), (s1, .inr (5, [.ref e1, .int 0, .int 0, .int 0])), (s2, .inr (5, [.ref e2, .int 0, .int 0, .int 0])), (s3, .inr (5, [.ref e3, .int 0, .int 0, .int 0])), (e0, .inl (ce0, 60, .inl (fun _ => 0))), (e1, .inl (ce1, 60, .inl (fun _ => 0))), (e2, .inl (ce2, 60, .inl (fun _ => 0))), (e3, .inl (ce3, 60, .inl (fun _ => 0))), (fr, .inr (0, [.ref k1, .ref k2, .ref k3, .int 0])), (wr, .inr (7, [.ref w1, .int 0])), (rc, .inr (3, [.ref y1, .int 0])), (se, .inr (4, [.ref g1, .ref g2, .ref g3, .ref g4, .ref g5, .int 0, .int 0, .int 0, .ref g6, .ref g7])), (rs, .inr (2, [.int 0, .ref z1, .ref z2]))]) (w1 := [(o_2, .inr (9, [.int 0, .int 0, .ref so, .ref sl, .ref ce, .int 0, .ref kd, .ref wd, .ref hs, .ref pr, .ref la, .int 0, .ref wg, .int 0, .long 0, .int 0, .int 0, .ref rk, .ref rw, .ref rh, .int 0, .ref sa, .ref fi, .int 0, .ref ch, .ref cn, .int 0, .int 0, .ref kp, .int 0, .ref rfa])), (so, .inl (cso, 4, .inl kSO)), (sl, .inl (csl, 4, .inl (fun _ => 0))), (ce, .inl (cce, 240, .inl (fun _ => 0))), (sa, .inl (csa, 25, .inl (fun _ => 0)))]) hP hD [15] [0, 1, 2, 3, 4, 5, 6, 7, 8, 9, 10, 11, 12, 13, 14] rfl rfl (by decide) (by decide) hk1 hFc hP1 hD1
  have hK : va_K D vwCl [(cS, .object RX5), (ce0, .int), (ce1, .int), (ce2, .int), (ce3, .int), (cso, .int), (csl, .int), (cce, .int), (csa, .int)] s := hK.app (va_K.moved hvm.symm hK1)
  generalize H1 = H at hP hS ⊢
  have hP : va_P D vwCl [(o_1, .inr (8, [.ref sh, .ref rd, .ref fr, .ref wr, .ref pf, .ref rc, .ref se, .ref rs, .ref sw, .ref sp, .ref ss, .int 0, .long 0, .int 0, .int 0])), (sh, .inl (cS, 4, .inr (.inr (.inr (.inr (va_up (va_up (va_up (va_up (fun _ => none) 0 (some s0)) 1 (some s1)) 2 (some s2)) 3 (some s3))))))), (s0, .inr (5, [.ref e0, .int 0, .int 0, .int 0])), (s1, .inr (5, [.ref e1, .int 0, .int 0, .int 0])), (s2, .inr (5, [.ref e2, .int 0, .int 0, .int 0])), (s3, .inr (5, [.ref e3, .int 0, .int 0, .int 0])), (e0, .inl (ce0, 60, .inl (fun _ => 0))), (e1, .inl (ce1, 60, .inl (fun _ => 0))), (e2, .inl (ce2, 60, .inl (fun _ => 0))), (e3, .inl (ce3, 60, .inl (fun _ => 0))), (fr, .inr (0, [.ref k1, .ref k2, .ref k3, .int 0])), (wr, .inr (7, [.ref w1, .int 0])), (rc, .inr (3, [.ref y1, .int 0])), (se, .inr (4, [.ref g1, .ref g2, .ref g3, .ref g4, .ref g5, .int 0, .int 0, .int 0, .ref g6, .ref g7])), (rs, .inr (2, [.int 0, .ref z1, .ref z2])), (o_2, .inr (9, [.int 0, .int 0, .ref so, .ref sl, .ref ce, .int 0, .ref kd, .ref wd, .ref hs, .ref pr, .ref la, .int 0, .ref wg, .int 0, .long 0, .int 0, .int 0, .ref rk, .ref rw, .ref rh, .int 0, .ref sa, .ref fi, .int 0, .ref ch, .ref cn, .int 0, .int 0, .ref kp, .int 0, .ref rfa])), (so, .inl (cso, 4, .inl kSO)), (sl, .inl (csl, 4, .inl (fun _ => 0))), (ce, .inl (cce, 240, .inl (fun _ => 0))), (sa, .inl (csa, 25, .inl (fun _ => 0)))] H := hP
  have hD : va_D A [(o_1, .inr (8, [.ref sh, .ref rd, .ref fr, .ref wr, .ref pf, .ref rc, .ref se, .ref rs, .ref sw, .ref sp, .ref ss, .int 0, .long 0, .int 0, .int 0])), (sh, .inl (cS, 4, .inr (.inr (.inr (.inr (va_up (va_up (va_up (va_up (fun _ => none) 0 (some s0)) 1 (some s1)) 2 (some s2)) 3 (some s3))))))), (s0, .inr (5, [.ref e0, .int 0, .int 0, .int 0])), (s1, .inr (5, [.ref e1, .int 0, .int 0, .int 0])), (s2, .inr (5, [.ref e2, .int 0, .int 0, .int 0])), (s3, .inr (5, [.ref e3, .int 0, .int 0, .int 0])), (e0, .inl (ce0, 60, .inl (fun _ => 0))), (e1, .inl (ce1, 60, .inl (fun _ => 0))), (e2, .inl (ce2, 60, .inl (fun _ => 0))), (e3, .inl (ce3, 60, .inl (fun _ => 0))), (fr, .inr (0, [.ref k1, .ref k2, .ref k3, .int 0])), (wr, .inr (7, [.ref w1, .int 0])), (rc, .inr (3, [.ref y1, .int 0])), (se, .inr (4, [.ref g1, .ref g2, .ref g3, .ref g4, .ref g5, .int 0, .int 0, .int 0, .ref g6, .ref g7])), (rs, .inr (2, [.int 0, .ref z1, .ref z2])), (o_2, .inr (9, [.int 0, .int 0, .ref so, .ref sl, .ref ce, .int 0, .ref kd, .ref wd, .ref hs, .ref pr, .ref la, .int 0, .ref wg, .int 0, .long 0, .int 0, .int 0, .ref rk, .ref rw, .ref rh, .int 0, .ref sa, .ref fi, .int 0, .ref ch, .ref cn, .int 0, .int 0, .ref kp, .int 0, .ref rfa])), (so, .inl (cso, 4, .inl kSO)), (sl, .inl (csl, 4, .inl (fun _ => 0))), (ce, .inl (cce, 240, .inl (fun _ => 0))), (sa, .inl (csa, 25, .inl (fun _ => 0)))] := hD
  refine lv_astore_n (lv' := [(2, .ref o_2), (1, .ref o_1), (0, .ref b)]) hx hb dL_law_15 rfl hl (by decide) rfl (fun ls hl => ?_)
  refine lv_iconst (v := 0) hx hb dL_law_16 (by decide) ?_
  refine lv_istore_n (lv' := [(3, .int 0), (2, .ref o_2), (1, .ref o_1), (0, .ref b)]) hx hb dL_law_17 rfl hl (by decide) rfl (fun ls hl => ?_)
  rcases (show L < 6 ∨ L = 6 by omega) with hL6 | hL6
  · refine lv_iload_n hx hb dL_law_18 rfl (lv_at hl 0 rfl) ?_
    refine lv_aload_n hx hb dL_law_19 rfl (lv_at hl 3 rfl) ?_
    refine va_slen hx hb hX hbl hbA hS dL_law_20 ?_
    refine lv_bipush (v := 6) hx hb dL_law_21 (by decide) ?_
    refine lv_isub hx hb dL_law_23 ?_
    refine lv_icmp_gt (tgt := 1141) hx hb dL_law_24 (by decide) (fun c_3 => ?_) (fun c_3 => ?_)
    · refine lv_iconst (v := 1) hx hb dL_law_1141 (by decide) ?_
      refine W.widen (k := 600000) (n := 7302250) (Nat.le_of_ble_eq_true rfl) (Nat.le_of_ble_eq_true rfl) ?_
      refine va_forget (fun q hq => hAf _ (hS.2.2 q hq)) ?_
      exact lw_ret hx hb hr hlocks dL_law_1142
    · exact absurd (k_short L hL6) c_3
  · subst hL6
    refine lv_iload_n hx hb dL_law_18 rfl (lv_at hl 0 rfl) ?_
    refine lv_aload_n hx hb dL_law_19 rfl (lv_at hl 3 rfl) ?_
    refine va_slen hx hb hX hbl hbA hS dL_law_20 ?_
    refine kn_i 6 rfl ?_
    refine lv_bipush (v := 6) hx hb dL_law_21 (by decide) ?_
    refine lv_isub hx hb dL_law_23 ?_
    refine kn_i 0 (by decide) ?_
    refine lv_icmp_gt (tgt := 1141) hx hb dL_law_24 (by decide) (fun c9 => absurd c9 (by decide)) (fun _ => ?_)
    refine lv_aload_n hx hb dL_law_27 rfl (lv_at hl 3 rfl) ?_
    refine lv_iload_n hx hb dL_law_28 rfl (lv_at hl 0 rfl) ?_
    refine va_sld hx hb hX hbl hbA hS (by unfold vp_in; decide) dL_law_29 ?_
    refine kn_i (xs 0) rfl ?_
    refine lv_bipush (v := 31) hx hb dL_law_30 (by decide) ?_
    refine lv_iand hx hb dL_law_32 ?_
    obtain ⟨j9, hj9, ej9⟩ := pk_andE (xs 0) (m := 31) 5 (by decide)
    refine kn_i (nI j9) ej9 ?_
    refine W.widen (k := 123) (n := 1521) (Nat.le_of_ble_eq_true rfl) (Nat.le_of_ble_eq_true rfl) ?_
    rcases k32 (show j9 < 32 from hj9) with e9 | e9 | e9 | e9 | e9 | e9 | e9 | e9 | e9 | e9 | e9 | e9 | e9 | e9 | e9 | e9 | e9 | e9 | e9 | e9 | e9 | e9 | e9 | e9 | e9 | e9 | e9 | e9 | e9 | e9 | e9 | e9
    · subst e9
      refine kn_i 0 (by decide) ?_
      refine lv_tableIn (tgt := 176) (off := 143) hx hb dL_law_33 (by decide) (by decide) rfl (by decide) ?_
      exact law_fonts l C0 hA hAf hN D o_1 o_2 sh rd fr wr pf rc se rs sw sp ss cS s0 s1 s2 s3 e0 e1 e2 e3 so sl ce kd wd hs pr la wg rk rw rh sa fi ch cn kp rfa cso (hP.sub [0, 1, 2, 3, 4, 5, 15, 16] rfl) (hD.sub [0, 1, 2, 3, 4, 5, 15, 16] (by decide) rfl) (hK.sub [0, 5] rfl) hS (lv_sub hl [0, 1, 2, 3] rfl)
    · subst e9
      refine kn_i 1 (by decide) ?_
      refine lv_tableIn (tgt := 229) (off := 196) hx hb dL_law_33 (by decide) (by decide) rfl (by decide) ?_
      exact law_ofFont l C0 hA hAf hN D o_1 o_2 sh rd fr wr pf rc se rs sw sp ss k1 k2 k3 so sl ce kd wd hs pr la wg rk rw rh sa fi ch cn kp rfa (hP.sub [0, 10, 15] rfl) (hD.sub [0, 10, 15] (by decide) rfl) (hK.sub [] rfl) hS (lv_sub hl [0, 1, 2, 3] rfl)
    · subst e9
      refine kn_i 2 (by decide) ?_
      refine lv_tableIn (tgt := 262) (off := 229) hx hb dL_law_33 (by decide) (by decide) rfl (by decide) ?_
      exact law_width l C0 hA hAf hN D o_1 o_2 sh rd fr wr pf rc se rs sw sp ss k1 k2 k3 so sl ce kd wd hs pr la wg rk rw rh sa fi ch cn kp rfa (hP.sub [0, 10, 15] rfl) (hD.sub [0, 10, 15] (by decide) rfl) (hK.sub [] rfl) hS (lv_sub hl [0, 1, 2, 3] rfl)
    · subst e9
      refine kn_i 3 (by decide) ?_
      refine lv_tableIn (tgt := 295) (off := 262) hx hb dL_law_33 (by decide) (by decide) rfl (by decide) ?_
      exact law_write l C0 hA hAf hN D o_1 o_2 sh rd fr wr pf rc se rs sw sp ss cS s0 s1 s2 s3 e0 e1 e2 e3 so sl ce kd wd hs pr la wg rk rw rh sa fi ch cn kp rfa cso (hP.sub [0, 1, 2, 3, 4, 5, 15, 16] rfl) (hD.sub [0, 1, 2, 3, 4, 5, 15, 16] (by decide) rfl) (hK.sub [0, 5] rfl) hS (lv_sub hl [0, 1, 2, 3] rfl)
    · subst e9
      refine kn_i 4 (by decide) ?_
      refine lv_tableIn (tgt := 348) (off := 315) hx hb dL_law_33 (by decide) (by decide) rfl (by decide) ?_
      exact law_erase l C0 hA hAf hN D o_1 o_2 sh rd fr wr pf rc se rs sw sp ss k1 k2 k3 w1 g1 g2 g3 g4 g5 g6 g7 so sl ce kd wd hs pr la wg rk rw rh sa fi ch cn kp rfa (hP.sub [0, 10, 11, 13, 15] rfl) (hD.sub [0, 10, 11, 13, 15] (by decide) rfl) (hK.sub [] rfl) hS (lv_sub hl [0, 1, 2, 3] rfl)
    · subst e9
      refine kn_i 5 (by decide) ?_
      refine lv_tableIn (tgt := 371) (off := 338) hx hb dL_law_33 (by decide) (by decide) rfl (by decide) ?_
      exact law_letter l C0 hA hAf hN D o_1 o_2 sh rd fr wr pf rc se rs sw sp ss w1 so sl ce kd wd hs pr la wg rk rw rh sa fi ch cn kp rfa (hP.sub [0, 11, 15] rfl) (hD.sub [0, 11, 15] (by decide) rfl) (hK.sub [] rfl) hS (lv_sub hl [0, 1, 2, 3] rfl)
    · subst e9
      refine kn_i 6 (by decide) ?_
      refine lv_tableIn (tgt := 394) (off := 361) hx hb dL_law_33 (by decide) (by decide) rfl (by decide) ?_
      exact law_ofCluster l C0 hA hAf hN D o_1 o_2 sh rd fr wr pf rc se rs sw sp ss g1 g2 g3 g4 g5 g6 g7 so sl ce kd wd hs pr la wg rk rw rh sa fi ch cn kp rfa csa (hP.sub [0, 13, 15, 19] rfl) (hD.sub [0, 13, 15, 19] (by decide) rfl) (hK.sub [8] rfl) hS (lv_sub hl [0, 1, 2, 3] rfl)
    · subst e9
      refine kn_i 7 (by decide) ?_
      refine lv_tableIn (tgt := 427) (off := 394) hx hb dL_law_33 (by decide) (by decide) rfl (by decide) ?_
      exact law_ofRun l C0 hA hAf hN D o_1 o_2 sh rd fr wr pf rc se rs sw sp ss g1 g2 g3 g4 g5 g6 g7 so sl ce kd wd hs pr la wg rk rw rh sa fi ch cn kp rfa csa (hP.sub [0, 13, 15, 19] rfl) (hD.sub [0, 13, 15, 19] (by decide) rfl) (hK.sub [8] rfl) hS (lv_sub hl [0, 1, 2, 3] rfl)
    · subst e9
      refine kn_i 8 (by decide) ?_
      refine lv_tableIn (tgt := 460) (off := 427) hx hb dL_law_33 (by decide) (by decide) rfl (by decide) ?_
      exact law_prefer l C0 hA hAf hN D o_1 o_2 sh rd fr wr pf rc se rs sw sp ss k1 k2 k3 so sl ce kd wd hs pr la wg rk rw rh sa fi ch cn kp rfa (hP.sub [0, 10, 15] rfl) (hD.sub [0, 10, 15] (by decide) rfl) (hK.sub [] rfl) hS (lv_sub hl [0, 1, 2, 3] rfl)
    · subst e9
      refine kn_i 9 (by decide) ?_
      refine lv_tableIn (tgt := 483) (off := 450) hx hb dL_law_33 (by decide) (by decide) rfl (by decide) ?_
      exact law_latest l C0 hA hAf hN D o_1 o_2 sh rd fr wr pf rc se rs sw sp ss y1 so sl ce kd wd hs pr la wg rk rw rh sa fi ch cn kp rfa (hP.sub [0, 12, 15] rfl) (hD.sub [0, 12, 15] (by decide) rfl) (hK.sub [] rfl) hS (lv_sub hl [0, 1, 2, 3] rfl)
    · subst e9
      refine kn_i 10 (by decide) ?_
      refine lv_tableIn (tgt := 506) (off := 473) hx hb dL_law_33 (by decide) (by decide) rfl (by decide) ?_
      exact law_tally l C0 hA hAf hN D o_1 o_2 sh rd fr wr pf rc se rs sw sp ss so sl ce kd wd hs pr la wg rk rw rh sa fi ch cn kp rfa (hP.sub [0, 15] rfl) (hD.sub [0, 15] (by decide) rfl) (hK.sub [] rfl) hS (lv_sub hl [0, 1, 2, 3] rfl)
    · subst e9
      refine kn_i 11 (by decide) ?_
      refine lv_tableIn (tgt := 519) (off := 486) hx hb dL_law_33 (by decide) (by decide) rfl (by decide) ?_
      exact law_check l C0 hA hAf hN D o_1 o_2 sh rd fr wr pf rc se rs sw sp ss so sl ce kd wd hs pr la wg rk rw rh sa fi ch cn kp rfa (hP.sub [0, 15] rfl) (hD.sub [0, 15] (by decide) rfl) (hK.sub [] rfl) hS (lv_sub hl [0, 1, 2, 3] rfl)
    · subst e9
      refine kn_i 12 (by decide) ?_
      refine lv_tableIn (tgt := 533) (off := 500) hx hb dL_law_33 (by decide) (by decide) rfl (by decide) ?_
      exact law_day l C0 hA hAf hN D o_1 o_2 sh rd fr wr pf rc se rs sw sp ss cS s0 s1 s2 s3 e0 e1 e2 e3 so sl ce kd wd hs pr la wg rk rw rh sa fi ch cn kp rfa cso (hP.sub [0, 1, 2, 3, 4, 5, 15, 16] rfl) (hD.sub [0, 1, 2, 3, 4, 5, 15, 16] (by decide) rfl) (hK.sub [0, 5] rfl) hS (lv_sub hl [0, 1, 2, 3] rfl)
    · subst e9
      refine kn_i 13 (by decide) ?_
      refine lv_tableIn (tgt := 596) (off := 563) hx hb dL_law_33 (by decide) (by decide) rfl (by decide) ?_
      exact law_best l C0 hA hAf hN D o_1 o_2 sh rd fr wr pf rc se rs sw sp ss k1 k2 k3 so sl ce kd wd hs pr la wg rk rw rh sa fi ch cn kp rfa (hP.sub [0, 10, 15] rfl) (hD.sub [0, 10, 15] (by decide) rfl) (hK.sub [] rfl) hS (lv_sub hl [0, 1, 2, 3] rfl)
    · subst e9
      refine kn_i 14 (by decide) ?_
      refine lv_tableIn (tgt := 619) (off := 586) hx hb dL_law_33 (by decide) (by decide) rfl (by decide) ?_
      exact law_without l C0 hA hAf hN D o_1 o_2 sh rd fr wr pf rc se rs sw sp ss k1 k2 k3 so sl ce kd wd hs pr la wg rk rw rh sa fi ch cn kp rfa (hP.sub [0, 10, 15] rfl) (hD.sub [0, 10, 15] (by decide) rfl) (hK.sub [] rfl) hS (lv_sub hl [0, 1, 2, 3] rfl)
    · subst e9
      refine kn_i 15 (by decide) ?_
      refine lv_tableIn (tgt := 642) (off := 609) hx hb dL_law_33 (by decide) (by decide) rfl (by decide) ?_
      exact law_enough l C0 hA hAf hN D o_1 o_2 sh rd fr wr pf rc se rs sw sp ss k1 k2 k3 so sl ce kd wd hs pr la wg rk rw rh sa fi ch cn kp rfa (hP.sub [0, 10, 15] rfl) (hD.sub [0, 10, 15] (by decide) rfl) (hK.sub [] rfl) hS (lv_sub hl [0, 1, 2, 3] rfl)
    · subst e9
      refine kn_i 16 (by decide) ?_
      refine lv_tableIn (tgt := 665) (off := 632) hx hb dL_law_33 (by decide) (by decide) rfl (by decide) ?_
      exact law_reading l C0 hA hAf hN D o_1 o_2 sh rd fr wr pf rc se rs sw sp ss k1 k2 k3 so sl ce kd wd hs pr la wg rk rw rh sa fi ch cn kp rfa (hP.sub [0, 10, 15] rfl) (hD.sub [0, 10, 15] (by decide) rfl) (hK.sub [] rfl) hS (lv_sub hl [0, 1, 2, 3] rfl)
    · subst e9
      refine kn_i 17 (by decide) ?_
      refine lv_tableIn (tgt := 688) (off := 655) hx hb dL_law_33 (by decide) (by decide) rfl (by decide) ?_
      exact law_back l C0 hA hAf hN D o_1 o_2 sh rd fr wr pf rc se rs sw sp ss z1 z2 so sl ce kd wd hs pr la wg rk rw rh sa fi ch cn kp rfa (hP.sub [0, 14, 15] rfl) (hD.sub [0, 14, 15] (by decide) rfl) (hK.sub [] rfl) hS (lv_sub hl [0, 1, 2, 3] rfl)
    · subst e9
      refine kn_i 18 (by decide) ?_
      refine lv_tableIn (tgt := 711) (off := 678) hx hb dL_law_33 (by decide) (by decide) rfl (by decide) ?_
      exact law_kinds l C0 hA hAf hN D o_1 o_2 sh rd fr wr pf rc se rs sw sp ss k1 k2 k3 so sl ce kd wd hs pr la wg rk rw rh sa fi ch cn kp rfa (hP.sub [0, 10, 15] rfl) (hD.sub [0, 10, 15] (by decide) rfl) (hK.sub [] rfl) hS (lv_sub hl [0, 1, 2, 3] rfl)
    · subst e9
      refine kn_i 19 (by decide) ?_
      refine lv_tableIn (tgt := 734) (off := 701) hx hb dL_law_33 (by decide) (by decide) rfl (by decide) ?_
      exact law_widths l C0 hA hAf hN D o_1 o_2 sh rd fr wr pf rc se rs sw sp ss k1 k2 k3 so sl ce kd wd hs pr la wg rk rw rh sa fi ch cn kp rfa (hP.sub [0, 10, 15] rfl) (hD.sub [0, 10, 15] (by decide) rfl) (hK.sub [] rfl) hS (lv_sub hl [0, 1, 2, 3] rfl)
    · subst e9
      refine kn_i 20 (by decide) ?_
      refine lv_tableIn (tgt := 757) (off := 724) hx hb dL_law_33 (by decide) (by decide) rfl (by decide) ?_
      exact law_odds l C0 hA hAf hN D o_1 o_2 sh rd fr wr pf rc se rs sw sp ss k1 k2 k3 so sl ce kd wd hs pr la wg rk rw rh sa fi ch cn kp rfa (hP.sub [0, 10, 15] rfl) (hD.sub [0, 10, 15] (by decide) rfl) (hK.sub [] rfl) hS (lv_sub hl [0, 1, 2, 3] rfl)
    · subst e9
      refine kn_i 21 (by decide) ?_
      refine lv_tableIn (tgt := 791) (off := 758) hx hb dL_law_33 (by decide) (by decide) rfl (by decide) ?_
      exact law_sheet l C0 hA hAf hN D o_1 o_2 sh rd fr wr pf rc se rs sw sp ss cS s0 s1 s2 s3 e0 e1 e2 e3 ce0 ce1 ce2 ce3 so sl ce kd wd hs pr la wg rk rw rh sa fi ch cn kp rfa cso csl cce (hP.sub [0, 1, 2, 3, 4, 5, 6, 7, 8, 9, 15, 16, 17, 18] rfl) (hD.sub [0, 1, 2, 3, 4, 5, 6, 7, 8, 9, 15, 16, 17, 18] (by decide) rfl) (hK.sub [0, 1, 2, 3, 4, 5, 6, 7] rfl) hS (lv_sub hl [0, 1, 2, 3] rfl)
    · subst e9
      refine kn_i 22 (by decide) ?_
      refine lv_tableIn (tgt := 834) (off := 801) hx hb dL_law_33 (by decide) (by decide) rfl (by decide) ?_
      exact law_lose l C0 hA hAf hN D o_1 o_2 sh rd fr wr pf rc se rs sw sp ss cS s0 s1 s2 s3 e0 e1 e2 e3 so sl ce kd wd hs pr la wg rk rw rh sa fi ch cn kp rfa cso (hP.sub [0, 1, 2, 3, 4, 5, 15, 16] rfl) (hD.sub [0, 1, 2, 3, 4, 5, 15, 16] (by decide) rfl) (hK.sub [0, 5] rfl) hS (lv_sub hl [0, 1, 2, 3] rfl)
    · subst e9
      refine kn_i 23 (by decide) ?_
      refine lv_tableIn (tgt := 857) (off := 824) hx hb dL_law_33 (by decide) (by decide) rfl (by decide) ?_
      exact law_put l C0 hA hAf hN D o_1 o_2 sh rd fr wr pf rc se rs sw sp ss cS s0 s1 s2 s3 e0 e1 e2 e3 so sl ce kd wd hs pr la wg rk rw rh sa fi ch cn kp rfa cso (hP.sub [0, 1, 2, 3, 4, 5, 15, 16] rfl) (hD.sub [0, 1, 2, 3, 4, 5, 15, 16] (by decide) rfl) (hK.sub [0, 5] rfl) hS (lv_sub hl [0, 1, 2, 3] rfl)
    · subst e9
      refine kn_i 24 (by decide) ?_
      refine lv_tableIn (tgt := 900) (off := 867) hx hb dL_law_33 (by decide) (by decide) rfl (by decide) ?_
      exact law_cell l C0 hA hAf hN D o_1 o_2 sh rd fr wr pf rc se rs sw sp ss cS s0 s1 s2 s3 e0 e1 e2 e3 so sl ce kd wd hs pr la wg rk rw rh sa fi ch cn kp rfa cso (hP.sub [0, 1, 2, 3, 4, 5, 15, 16] rfl) (hD.sub [0, 1, 2, 3, 4, 5, 15, 16] (by decide) rfl) (hK.sub [0, 5] rfl) hS (lv_sub hl [0, 1, 2, 3] rfl)
    · subst e9
      refine kn_i 25 (by decide) ?_
      refine lv_tableIn (tgt := 944) (off := 911) hx hb dL_law_33 (by decide) (by decide) rfl (by decide) ?_
      exact law_copy l C0 hA hAf hN D o_1 o_2 sh rd fr wr pf rc se rs sw sp ss cS s0 s1 s2 s3 e0 e1 e2 e3 so sl ce kd wd hs pr la wg rk rw rh sa fi ch cn kp rfa cso (hP.sub [0, 1, 2, 3, 4, 5, 15, 16] rfl) (hD.sub [0, 1, 2, 3, 4, 5, 15, 16] (by decide) rfl) (hK.sub [0, 5] rfl) hS (lv_sub hl [0, 1, 2, 3] rfl)
    · subst e9
      refine kn_i 26 (by decide) ?_
      refine lv_tableIn (tgt := 1007) (off := 974) hx hb dL_law_33 (by decide) (by decide) rfl (by decide) ?_
      exact law_tell l C0 hA hAf hN D o_1 o_2 sh rd fr wr pf rc se rs sw sp ss k1 k2 k3 so sl ce kd wd hs pr la wg rk rw rh sa fi ch cn kp rfa (hP.sub [0, 10, 15] rfl) (hD.sub [0, 10, 15] (by decide) rfl) (hK.sub [] rfl) hS (lv_sub hl [0, 1, 2, 3] rfl)
    · subst e9
      refine kn_i 27 (by decide) ?_
      refine lv_tableIn (tgt := 1030) (off := 997) hx hb dL_law_33 (by decide) (by decide) rfl (by decide) ?_
      exact law_sample l C0 hA hAf hN D o_1 o_2 sh rd fr wr pf rc se rs sw sp ss k1 k2 k3 so sl ce kd wd hs pr la wg rk rw rh sa fi ch cn kp rfa (hP.sub [0, 10, 15] rfl) (hD.sub [0, 10, 15] (by decide) rfl) (hK.sub [] rfl) hS (lv_sub hl [0, 1, 2, 3] rfl)
    · subst e9
      refine kn_i 28 (by decide) ?_
      refine lv_tableIn (tgt := 1053) (off := 1020) hx hb dL_law_33 (by decide) (by decide) rfl (by decide) ?_
      exact law_as l C0 hA hAf hN D o_1 o_2 sh rd fr wr pf rc se rs sw sp ss k1 k2 k3 so sl ce kd wd hs pr la wg rk rw rh sa fi ch cn kp rfa (hP.sub [0, 10, 15] rfl) (hD.sub [0, 10, 15] (by decide) rfl) (hK.sub [] rfl) hS (lv_sub hl [0, 1, 2, 3] rfl)
    · subst e9
      refine kn_i 29 (by decide) ?_
      refine lv_tableIn (tgt := 1086) (off := 1053) hx hb dL_law_33 (by decide) (by decide) rfl (by decide) ?_
      exact law_trace l C0 hA hAf hN D o_1 o_2 sh rd fr wr pf rc se rs sw sp ss so sl ce kd wd hs pr la wg rk rw rh sa fi ch cn kp rfa (hP.sub [0, 15] rfl) (hD.sub [0, 15] (by decide) rfl) (hK.sub [] rfl) hS (lv_sub hl [0, 1, 2, 3] rfl)
    · subst e9
      refine kn_i 30 (by decide) ?_
      refine lv_tableIn (tgt := 1099) (off := 1066) hx hb dL_law_33 (by decide) (by decide) rfl (by decide) ?_
      exact law_fault l C0 hA hAf hN D o_1 o_2 sh rd fr wr pf rc se rs sw sp ss so sl ce kd wd hs pr la wg rk rw rh sa fi ch cn kp rfa (hP.sub [0, 15] rfl) (hD.sub [0, 15] (by decide) rfl) (hK.sub [] rfl) hS (lv_sub hl [0, 1, 2, 3] rfl)
    · subst e9
      refine kn_i 31 (by decide) ?_
      refine lv_tableIn (tgt := 1112) (off := 1079) hx hb dL_law_33 (by decide) (by decide) rfl (by decide) ?_
      exact law_many l C0 hA hAf hN D o_1 o_2 sh rd fr wr pf rc se rs sw sp ss k1 k2 k3 w1 g1 g2 g3 g4 g5 g6 g7 z1 z2 so sl ce kd wd hs pr la wg rk rw rh sa fi ch cn kp rfa csa (hP.sub [0, 10, 11, 13, 14, 15, 19] rfl) (hD.sub [0, 10, 11, 13, 14, 15, 19] (by decide) rfl) (hK.sub [8] rfl) hS (lv_sub hl [0, 1, 2, 3] rfl)
