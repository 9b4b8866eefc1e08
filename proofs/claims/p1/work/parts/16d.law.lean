theorem dL_law_900 : decode cL_law 900 = .ok (.aload_n 1, 1) := by decide +kernel
theorem dL_law_901 : decode cL_law 901 = .ok (.aload_n 0, 1) := by decide +kernel
theorem dL_law_902 : decode cL_law 902 = .ok (.iload_n 3, 1) := by decide +kernel
theorem dL_law_903 : decode cL_law 903 = .ok (.iconst 1, 1) := by decide +kernel
theorem dL_law_904 : decode cL_law 904 = .ok (.iadd, 1) := by decide +kernel
theorem dL_law_905 : decode cL_law 905 = .ok (.iaload, 1) := by decide +kernel
theorem dL_law_906 : decode cL_law 906 = .ok (.aload_n 0, 1) := by decide +kernel
theorem dL_law_907 : decode cL_law 907 = .ok (.iload_n 3, 1) := by decide +kernel
theorem dL_law_908 : decode cL_law 908 = .ok (.iconst 2, 1) := by decide +kernel
theorem dL_law_909 : decode cL_law 909 = .ok (.iadd, 1) := by decide +kernel
theorem dL_law_910 : decode cL_law 910 = .ok (.iaload, 1) := by decide +kernel
theorem dL_law_911 : decode cL_law 911 = .ok (.aload_n 0, 1) := by decide +kernel
theorem dL_law_912 : decode cL_law 912 = .ok (.iload_n 3, 1) := by decide +kernel
theorem dL_law_913 : decode cL_law 913 = .ok (.iconst 3, 1) := by decide +kernel
theorem dL_law_914 : decode cL_law 914 = .ok (.iadd, 1) := by decide +kernel
theorem dL_law_915 : decode cL_law 915 = .ok (.iaload, 1) := by decide +kernel
theorem dL_law_916 : decode cL_law 916 = .ok (.invokevirtual 117, 3) := by decide +kernel
theorem dL_law_919 : decode cL_law 919 = .ok (.aload_n 2, 1) := by decide +kernel
theorem dL_law_920 : decode cL_law 920 = .ok (.aload_n 0, 1) := by decide +kernel
theorem dL_law_921 : decode cL_law 921 = .ok (.iload_n 3, 1) := by decide +kernel
theorem dL_law_922 : decode cL_law 922 = .ok (.iconst 1, 1) := by decide +kernel
theorem dL_law_923 : decode cL_law 923 = .ok (.iadd, 1) := by decide +kernel
theorem dL_law_924 : decode cL_law 924 = .ok (.iaload, 1) := by decide +kernel
theorem dL_law_925 : decode cL_law 925 = .ok (.aload_n 0, 1) := by decide +kernel
theorem dL_law_926 : decode cL_law 926 = .ok (.iload_n 3, 1) := by decide +kernel
theorem dL_law_927 : decode cL_law 927 = .ok (.iconst 2, 1) := by decide +kernel
theorem dL_law_928 : decode cL_law 928 = .ok (.iadd, 1) := by decide +kernel
theorem dL_law_929 : decode cL_law 929 = .ok (.iaload, 1) := by decide +kernel
theorem dL_law_930 : decode cL_law 930 = .ok (.aload_n 0, 1) := by decide +kernel
theorem dL_law_931 : decode cL_law 931 = .ok (.iload_n 3, 1) := by decide +kernel
theorem dL_law_932 : decode cL_law 932 = .ok (.iconst 3, 1) := by decide +kernel
theorem dL_law_933 : decode cL_law 933 = .ok (.iadd, 1) := by decide +kernel
theorem dL_law_934 : decode cL_law 934 = .ok (.iaload, 1) := by decide +kernel
theorem dL_law_935 : decode cL_law 935 = .ok (.invokevirtual 121, 3) := by decide +kernel
theorem dL_law_938 : decode cL_law 938 = .ok (.lcmp, 1) := by decide +kernel
theorem dL_law_939 : decode cL_law 939 = .ok (.ifCond .eq 196, 3) := by decide +kernel
set_option maxRecDepth 20000 in
theorem ggL_law_X8_cell : GoodIn wsL_law wsX8_cell := goodIn_r _ [730, 118, 678, 13, 120, 121, 2, 122, 123, 124, 125, 126, 127, 128, 129, 130, 131, 132, 133, 718, 155, 156, 15, 157, 138, 139, 360, 151, 152, 153, 51, 154, 821, 822, 823, 824, 825, 826, 827, 828, 829, 830, 831, 832, 833, 834, 835, 867, 868, 869, 870] (by decide +kernel) (by decide +kernel)
set_option maxRecDepth 20000 in
theorem gL_law_X8_cell : GoodIn wsL_law (wsV RL 117 RX8 yX8_cell wsX8_cell) := goodIn_app (goodIn_of _ (by decide +kernel)) ggL_law_X8_cell
set_option maxRecDepth 20000 in
theorem ggL_law_X9_cell : GoodIn wsL_law wsX9_cell := goodIn_r _ [734, 266, 687, 96, 97, 98, 272, 273, 5, 274, 275, 276, 277, 278, 279, 280, 735, 736, 737, 738, 836, 837, 838, 839, 840, 841, 842, 843, 844, 845, 846, 847, 848, 849, 850, 851, 852, 853, 854, 855, 856, 857, 858, 859, 860, 861, 862, 863, 864, 865, 866] (by decide +kernel) (by decide +kernel)
set_option maxRecDepth 20000 in
theorem gL_law_X9_cell : GoodIn wsL_law (wsV RL 121 RX9 yX9_cell wsX9_cell) := goodIn_app (goodIn_of _ (by decide +kernel)) ggL_law_X9_cell
set_option maxHeartbeats 4000000 in
set_option maxRecDepth 100000 in
theorem law_cell {p : Program} {e : Env} {s : State} {m : MethodId} {below : List Frame} {meth : Method} {c : Code} (l : Launch) {b : Nat} {xs : Nat → Int32} {A : Nat → Prop} (C0 : lw_At p s m meth c b 6 xs) (hA : ∀ q, s.heap.size ≤ q → A q) (hAf : ∀ q, A q → s.heap.size ≤ q) (hN : kN s) (D : va_G) (h0 m0 : Nat) (sh : Nat) (rd : Nat) (fr : Nat) (wr : Nat) (pf : Nat) (rc : Nat) (se : Nat) (rs : Nat) (sw : Nat) (sp : Nat) (ss : Nat) (cS : ClassId) (s0 : Nat) (s1 : Nat) (s2 : Nat) (s3 : Nat) (e0 : Nat) (e1 : Nat) (e2 : Nat) (e3 : Nat) (so : Nat) (sl : Nat) (ce : Nat) (kd : Nat) (wd : Nat) (hs : Nat) (pr : Nat) (la : Nat) (wg : Nat) (rk : Nat) (rw : Nat) (rh : Nat) (sa : Nat) (fi : Nat) (ch : Nat) (cn : Nat) (kp : Nat) (rfa : Nat) (cso : ClassId) {H : Heap} {locs : List Loc} (hP : va_P D vwCl [(h0, .inr (8, [.ref sh, .ref rd, .ref fr, .ref wr, .ref pf, .ref rc, .ref se, .ref rs, .ref sw, .ref sp, .ref ss, .int 0, .long 0, .int 0, .int 0])), (sh, .inl (cS, 4, .inr (.inr (.inr (.inr (va_up (va_up (va_up (va_up (fun _ => none) 0 (some s0)) 1 (some s1)) 2 (some s2)) 3 (some s3))))))), (s0, .inr (5, [.ref e0, .int 0, .int 0, .int 0])), (s1, .inr (5, [.ref e1, .int 0, .int 0, .int 0])), (s2, .inr (5, [.ref e2, .int 0, .int 0, .int 0])), (s3, .inr (5, [.ref e3, .int 0, .int 0, .int 0])), (m0, .inr (9, [.int 0, .int 0, .ref so, .ref sl, .ref ce, .int 0, .ref kd, .ref wd, .ref hs, .ref pr, .ref la, .int 0, .ref wg, .int 0, .long 0, .int 0, .int 0, .ref rk, .ref rw, .ref rh, .int 0, .ref sa, .ref fi, .int 0, .ref ch, .ref cn, .int 0, .int 0, .ref kp, .int 0, .ref rfa])), (so, .inl (cso, 4, .inl kSO))] H) (hD : va_D A [(h0, .inr (8, [.ref sh, .ref rd, .ref fr, .ref wr, .ref pf, .ref rc, .ref se, .ref rs, .ref sw, .ref sp, .ref ss, .int 0, .long 0, .int 0, .int 0])), (sh, .inl (cS, 4, .inr (.inr (.inr (.inr (va_up (va_up (va_up (va_up (fun _ => none) 0 (some s0)) 1 (some s1)) 2 (some s2)) 3 (some s3))))))), (s0, .inr (5, [.ref e0, .int 0, .int 0, .int 0])), (s1, .inr (5, [.ref e1, .int 0, .int 0, .int 0])), (s2, .inr (5, [.ref e2, .int 0, .int 0, .int 0])), (s3, .inr (5, [.ref e3, .int 0, .int 0, .int 0])), (m0, .inr (9, [.int 0, .int 0, .ref so, .ref sl, .ref ce, .int 0, .ref kd, .ref wd, .ref hs, .ref pr, .ref la, .int 0, .ref wg, .int 0, .long 0, .int 0, .int 0, .ref rk, .ref rw, .ref rh, .int 0, .ref sa, .ref fi, .int 0, .ref ch, .ref cn, .int 0, .int 0, .ref kp, .int 0, .ref rfa])), (so, .inl (cso, 4, .inl kSO))]) (hK : va_K D vwCl [(cS, .object RX5), (cso, .int)] s) (hS : va_S A s.heap H locs) {ls : Array Slot} (hl : lv_has ls 4 [(3, .int 0), (2, .ref m0), (1, .ref h0), (0, .ref b)]) : W p l e room_1 s m #[Value.ref b] below meth c H locs 123 1521 (lw_Z below #[Value.ref b] s) (F0 m 900 ls []) := by
  obtain ⟨hx, hb, hr, hml, hown, hts, hX, hbl, hlocks, hgv⟩ := id C0
  have hbA : ¬ A b := fun h => absurd (hAf b h) (Nat.not_le.mpr hbl)
  refine lv_aload_n hx hb dL_law_900 rfl (lv_at hl 2 rfl) ?_
  refine lv_aload_n hx hb dL_law_901 rfl (lv_at hl 3 rfl) ?_
  refine lv_iload_n hx hb dL_law_902 rfl (lv_at hl 0 rfl) ?_
  refine lv_iconst (v := 1) hx hb dL_law_903 (by decide) ?_
  refine lv_iadd hx hb dL_law_904 ?_
  refine kn_i 1 (by decide) ?_
  refine va_sld hx hb hX hbl hbA hS (by unfold vp_in; decide) dL_law_905 ?_
  refine kn_i (xs 1) rfl ?_
  refine lv_aload_n hx hb dL_law_906 rfl (lv_at hl 3 rfl) ?_
  refine lv_iload_n hx hb dL_law_907 rfl (lv_at hl 0 rfl) ?_
  refine lv_iconst (v := 2) hx hb dL_law_908 (by decide) ?_
  refine lv_iadd hx hb dL_law_909 ?_
  refine kn_i 2 (by decide) ?_
  refine va_sld hx hb hX hbl hbA hS (by unfold vp_in; decide) dL_law_910 ?_
  refine kn_i (xs 2) rfl ?_
  refine lv_aload_n hx hb dL_law_911 rfl (lv_at hl 3 rfl) ?_
  refine lv_iload_n hx hb dL_law_912 rfl (lv_at hl 0 rfl) ?_
  refine lv_iconst (v := 3) hx hb dL_law_913 (by decide) ?_
  refine lv_iadd hx hb dL_law_914 ?_
  refine kn_i 3 (by decide) ?_
  refine va_sld hx hb hX hbl hbA hS (by unfold vp_in; decide) dL_law_915 ?_
  refine kn_i (xs 3) rfl ?_
  have hFc := va_free (wc := [(h0, .inr (8, [.ref sh, .ref rd, .ref fr, .ref wr, .ref pf, .ref rc, .ref se, .ref rs, .ref sw, .ref sp, .ref ss, .int 0, .long 0, .int 0, .int 0])), (sh, .inl (cS, 4, .inr (.inr (.inr (.inr (va_up (va_up (va_up (va_up (fun _ => none) 0 (some s0)) 1 (some s1)) 2 (some s2)) 3 (some s3))))))), (s0, .inr (5, [.ref e0, .int 0, .int 0, .int 0])), (s1, .inr (5, [.ref e1, .int 0, .int 0, .int 0])), (s2, .inr (5, [.ref e2, .int 0, .int 0, .int 0])), (s3, .inr (5, [.ref e3, .int 0, .int 0, .int 0]))]) hD hS hA [0, 1, 2, 3, 4, 5] rfl
  refine va_calll (va_runV (As := [.int (xs 1), .int (xs 2), .int (xs 3)]) (rest := []) ⟨hx, hb, hml, hown, hts⟩ (c_X8_cell l D H.size (k := (xs 1)) (i := (xs 2)) (n := (xs 3)) (h0 := h0) (sh := sh) (rd := rd) (fr := fr) (wr := wr) (pf := pf) (rc := rc) (se := se) (rs := rs) (sw := sw) (sp := sp) (ss := ss) (ew := 0) (wc := 0) (tr := 0) (lf := 0) (cS := cS) (s0 := s0) (s1 := s1) (s2 := s2) (s3 := s3) (e0 := e0) (e1 := e1) (e2 := e2) (e3 := e3)) (cwV 3 hts (goodL gL_law_X8_cell) rfl rfl rfl (by decide +kernel) ⟨Nat.le_of_ble_eq_true rfl, Nat.le_of_ble_eq_true rfl⟩) (kPreV hP (kD0 hD) hK hN [0, 1, 2, 3, 4, 5] [0] rfl rfl (by decide) 0 8 rfl rfl) rfl rfl hl.1 rfl (lv_room (Nat.le_of_ble_eq_true rfl)) dL_law_916 ⟨Nat.le_of_ble_eq_true rfl, Nat.le_of_ble_eq_true rfl⟩) hS (fun q _ h => hFc q h) hFc (fun r_1 u t H1 locs ht hvm hw hB hz1 hk1 hS => ?_)
  obtain ⟨hP, hD⟩ := va_join (wr := [(m0, .inr (9, [.int 0, .int 0, .ref so, .ref sl, .ref ce, .int 0, .ref kd, .ref wd, .ref hs, .ref pr, .ref la, .int 0, .ref wg, .int 0, .long 0, .int 0, .int 0, .ref rk, .ref rw, .ref rh, .int 0, .ref sa, .ref fi, .int 0, .ref ch, .ref cn, .int 0, .int 0, .ref kp, .int 0, .ref rfa])), (so, .inl (cso, 4, .inl kSO))]) (w1 := []) hP hD [0, 1, 2, 3, 4, 5] [6, 7] rfl rfl (by decide) (by decide) hk1 hFc kP0 kDn
  generalize H1 = H at hP hS ⊢
  have hP : va_P D vwCl [(m0, .inr (9, [.int 0, .int 0, .ref so, .ref sl, .ref ce, .int 0, .ref kd, .ref wd, .ref hs, .ref pr, .ref la, .int 0, .ref wg, .int 0, .long 0, .int 0, .int 0, .ref rk, .ref rw, .ref rh, .int 0, .ref sa, .ref fi, .int 0, .ref ch, .ref cn, .int 0, .int 0, .ref kp, .int 0, .ref rfa])), (so, .inl (cso, 4, .inl kSO))] H := hP
  have hD : va_D A [(m0, .inr (9, [.int 0, .int 0, .ref so, .ref sl, .ref ce, .int 0, .ref kd, .ref wd, .ref hs, .ref pr, .ref la, .int 0, .ref wg, .int 0, .long 0, .int 0, .int 0, .ref rk, .ref rw, .ref rh, .int 0, .ref sa, .ref fi, .int 0, .ref ch, .ref cn, .int 0, .int 0, .ref kp, .int 0, .ref rfa])), (so, .inl (cso, 4, .inl kSO))] := hD
  refine kn_l (-9223372036854775808) hw ?_
  refine lv_aload_n hx hb dL_law_919 rfl (lv_at hl 1 rfl) ?_
  refine lv_aload_n hx hb dL_law_920 rfl (lv_at hl 3 rfl) ?_
  refine lv_iload_n hx hb dL_law_921 rfl (lv_at hl 0 rfl) ?_
  refine lv_iconst (v := 1) hx hb dL_law_922 (by decide) ?_
  refine lv_iadd hx hb dL_law_923 ?_
  refine kn_i 1 (by decide) ?_
  refine va_sld hx hb hX hbl hbA hS (by unfold vp_in; decide) dL_law_924 ?_
  refine kn_i (xs 1) rfl ?_
  refine lv_aload_n hx hb dL_law_925 rfl (lv_at hl 3 rfl) ?_
  refine lv_iload_n hx hb dL_law_926 rfl (lv_at hl 0 rfl) ?_
  refine lv_iconst (v := 2) hx hb dL_law_927 (by decide) ?_
  refine lv_iadd hx hb dL_law_928 ?_
  refine kn_i 2 (by decide) ?_
  refine va_sld hx hb hX hbl hbA hS (by unfold vp_in; decide) dL_law_929 ?_
  refine kn_i (xs 2) rfl ?_
  refine lv_aload_n hx hb dL_law_930 rfl (lv_at hl 3 rfl) ?_
  refine lv_iload_n hx hb dL_law_931 rfl (lv_at hl 0 rfl) ?_
  refine lv_iconst (v := 3) hx hb dL_law_932 (by decide) ?_
  refine lv_iadd hx hb dL_law_933 ?_
  refine kn_i 3 (by decide) ?_
  refine va_sld hx hb hX hbl hbA hS (by unfold vp_in; decide) dL_law_934 ?_
  refine kn_i (xs 3) rfl ?_
  have hFc := va_free (wc := [(m0, .inr (9, [.int 0, .int 0, .ref so, .ref sl, .ref ce, .int 0, .ref kd, .ref wd, .ref hs, .ref pr, .ref la, .int 0, .ref wg, .int 0, .long 0, .int 0, .int 0, .ref rk, .ref rw, .ref rh, .int 0, .ref sa, .ref fi, .int 0, .ref ch, .ref cn, .int 0, .int 0, .ref kp, .int 0, .ref rfa])), (so, .inl (cso, 4, .inl kSO))]) hD hS hA [0, 1] rfl
  refine va_calll (va_runV (As := [.int (xs 1), .int (xs 2), .int (xs 3)]) (rest := [.long (-9223372036854775808)]) ⟨hx, hb, hml, hown, hts⟩ (c_X9_cell l D H.size (k := (xs 1)) (i := (xs 2)) (n := (xs 3)) (h0 := m0) (fa := 0) (tc := 0) (so := so) (sl := sl) (ce := ce) (kd := kd) (wd := wd) (hs := hs) (pr := pr) (la := la) (wg := wg) (ta := 0) (ck := 0) (at9 := 0) (rfn := 0) (rk := rk) (rw := rw) (rh := rh) (cl := 0) (sa := sa) (fi := fi) (bo := 0) (ch := ch) (cn := cn) (ad := 0) (ru := 0) (kp := kp) (rfa := rfa) (cso := cso)) (cwV 3 hts (goodL gL_law_X9_cell) rfl rfl rfl (by decide +kernel) ⟨Nat.le_of_ble_eq_true rfl, Nat.le_of_ble_eq_true rfl⟩) (kPreV hP (kD0 hD) hK hN [0, 1] [1] rfl rfl (by decide) 0 9 rfl rfl) rfl rfl hl.1 rfl (lv_room (Nat.le_of_ble_eq_true rfl)) dL_law_935 ⟨Nat.le_of_ble_eq_true rfl, Nat.le_of_ble_eq_true rfl⟩) hS (fun q _ h => hFc q h) hFc (fun r_2 u t H1 locs ht hvm hw hB hz1 hk1 hS => ?_)
  obtain ⟨hP, hD⟩ := va_join (wr := []) (w1 := []) hP hD [0, 1] [] rfl rfl (by decide) (by decide) hk1 hFc kP0 kDn
  generalize H1 = H at hP hS ⊢
  have hP : va_P D vwCl [] H := hP
  have hD : va_D A [] := hD
  refine kn_l (-9223372036854775808) hw ?_
  refine W.lcmp hx hb dL_law_938 ?_
  refine kn_i 0 klc ?_
  refine lv_if_eq (tgt := 1135) hx hb dL_law_939 (by decide) (fun _ => ?_) (fun c9 => absurd (by decide) c9)
  exact law_end l C0 hAf hS (Nat.le_of_ble_eq_true rfl) (Nat.le_of_ble_eq_true rfl) (lv_sub hl [0, 3] rfl)
theorem dL_law_944 : decode cL_law 944 = .ok (.aload_n 1, 1) := by decide +kernel
theorem dL_law_945 : decode cL_law 945 = .ok (.aload_n 0, 1) := by decide +kernel
theorem dL_law_946 : decode cL_law 946 = .ok (.iload_n 3, 1) := by decide +kernel
theorem dL_law_947 : decode cL_law 947 = .ok (.iconst 1, 1) := by decide +kernel
theorem dL_law_948 : decode cL_law 948 = .ok (.iadd, 1) := by decide +kernel
theorem dL_law_949 : decode cL_law 949 = .ok (.iaload, 1) := by decide +kernel
theorem dL_law_950 : decode cL_law 950 = .ok (.aload_n 0, 1) := by decide +kernel
theorem dL_law_951 : decode cL_law 951 = .ok (.iload_n 3, 1) := by decide +kernel
theorem dL_law_952 : decode cL_law 952 = .ok (.iconst 2, 1) := by decide +kernel
theorem dL_law_953 : decode cL_law 953 = .ok (.iadd, 1) := by decide +kernel
theorem dL_law_954 : decode cL_law 954 = .ok (.iaload, 1) := by decide +kernel
theorem dL_law_955 : decode cL_law 955 = .ok (.aload_n 0, 1) := by decide +kernel
theorem dL_law_956 : decode cL_law 956 = .ok (.iload_n 3, 1) := by decide +kernel
theorem dL_law_957 : decode cL_law 957 = .ok (.iconst 3, 1) := by decide +kernel
theorem dL_law_958 : decode cL_law 958 = .ok (.iadd, 1) := by decide +kernel
theorem dL_law_959 : decode cL_law 959 = .ok (.iaload, 1) := by decide +kernel
theorem dL_law_960 : decode cL_law 960 = .ok (.aload_n 0, 1) := by decide +kernel
theorem dL_law_961 : decode cL_law 961 = .ok (.iload_n 3, 1) := by decide +kernel
theorem dL_law_962 : decode cL_law 962 = .ok (.iconst 4, 1) := by decide +kernel
theorem dL_law_963 : decode cL_law 963 = .ok (.iadd, 1) := by decide +kernel
theorem dL_law_964 : decode cL_law 964 = .ok (.iaload, 1) := by decide +kernel
theorem dL_law_965 : decode cL_law 965 = .ok (.aload_n 0, 1) := by decide +kernel
theorem dL_law_966 : decode cL_law 966 = .ok (.iload_n 3, 1) := by decide +kernel
theorem dL_law_967 : decode cL_law 967 = .ok (.iconst 5, 1) := by decide +kernel
theorem dL_law_968 : decode cL_law 968 = .ok (.iadd, 1) := by decide +kernel
theorem dL_law_969 : decode cL_law 969 = .ok (.iaload, 1) := by decide +kernel
theorem dL_law_970 : decode cL_law 970 = .ok (.invokevirtual 122, 3) := by decide +kernel
theorem dL_law_973 : decode cL_law 973 = .ok (.aload_n 2, 1) := by decide +kernel
theorem dL_law_974 : decode cL_law 974 = .ok (.aload_n 0, 1) := by decide +kernel
theorem dL_law_975 : decode cL_law 975 = .ok (.iload_n 3, 1) := by decide +kernel
theorem dL_law_976 : decode cL_law 976 = .ok (.iconst 1, 1) := by decide +kernel
theorem dL_law_977 : decode cL_law 977 = .ok (.iadd, 1) := by decide +kernel
theorem dL_law_978 : decode cL_law 978 = .ok (.iaload, 1) := by decide +kernel
theorem dL_law_979 : decode cL_law 979 = .ok (.aload_n 0, 1) := by decide +kernel
theorem dL_law_980 : decode cL_law 980 = .ok (.iload_n 3, 1) := by decide +kernel
theorem dL_law_981 : decode cL_law 981 = .ok (.iconst 2, 1) := by decide +kernel
theorem dL_law_982 : decode cL_law 982 = .ok (.iadd, 1) := by decide +kernel
theorem dL_law_983 : decode cL_law 983 = .ok (.iaload, 1) := by decide +kernel
theorem dL_law_984 : decode cL_law 984 = .ok (.aload_n 0, 1) := by decide +kernel
theorem dL_law_985 : decode cL_law 985 = .ok (.iload_n 3, 1) := by decide +kernel
theorem dL_law_986 : decode cL_law 986 = .ok (.iconst 3, 1) := by decide +kernel
theorem dL_law_987 : decode cL_law 987 = .ok (.iadd, 1) := by decide +kernel
theorem dL_law_988 : decode cL_law 988 = .ok (.iaload, 1) := by decide +kernel
theorem dL_law_989 : decode cL_law 989 = .ok (.aload_n 0, 1) := by decide +kernel
theorem dL_law_990 : decode cL_law 990 = .ok (.iload_n 3, 1) := by decide +kernel
theorem dL_law_991 : decode cL_law 991 = .ok (.iconst 4, 1) := by decide +kernel
theorem dL_law_992 : decode cL_law 992 = .ok (.iadd, 1) := by decide +kernel
theorem dL_law_993 : decode cL_law 993 = .ok (.iaload, 1) := by decide +kernel
theorem dL_law_994 : decode cL_law 994 = .ok (.aload_n 0, 1) := by decide +kernel
theorem dL_law_995 : decode cL_law 995 = .ok (.iload_n 3, 1) := by decide +kernel
theorem dL_law_996 : decode cL_law 996 = .ok (.iconst 5, 1) := by decide +kernel
theorem dL_law_997 : decode cL_law 997 = .ok (.iadd, 1) := by decide +kernel
theorem dL_law_998 : decode cL_law 998 = .ok (.iaload, 1) := by decide +kernel
theorem dL_law_999 : decode cL_law 999 = .ok (.invokevirtual 125, 3) := by decide +kernel
theorem dL_law_1002 : decode cL_law 1002 = .ok (.if_icmp .eq 133, 3) := by decide +kernel
set_option maxRecDepth 20000 in
theorem ggL_law_X8_copy : GoodIn wsL_law wsX8_copy := goodIn_r _ [742, 118, 13, 132, 133, 717, 743, 744, 745, 746, 120, 121, 2, 122, 123, 124, 125, 140, 141, 142, 143, 134, 135, 136, 15, 137, 138, 139, 821, 822, 823, 824, 825, 826, 827, 828, 829, 830, 831, 832, 833, 834, 835, 867, 868, 869, 870] (by decide +kernel) (by decide +kernel)
set_option maxRecDepth 20000 in
theorem gL_law_X8_copy : GoodIn wsL_law (wsV RL 122 RX8 yX8_copy wsX8_copy) := goodIn_app (goodIn_of _ (by decide +kernel)) ggL_law_X8_copy
set_option maxRecDepth 20000 in
theorem ggL_law_X9_copy : GoodIn wsL_law wsX9_copy := goodIn_r _ [750, 266, 96, 97, 98, 272, 273, 5, 274, 275, 276, 277, 285, 286, 287, 288, 836, 837, 838, 839, 840, 841, 842, 843, 844, 845, 846, 847, 848, 849, 850, 851, 852, 853, 854, 855, 856, 857, 858, 859, 860, 861, 862, 863, 864, 865, 866] (by decide +kernel) (by decide +kernel)
set_option maxRecDepth 20000 in
theorem gL_law_X9_copy : GoodIn wsL_law (wsV RL 125 RX9 yX9_copy wsX9_copy) := goodIn_app (goodIn_of _ (by decide +kernel)) ggL_law_X9_copy
set_option maxHeartbeats 4000000 in
set_option maxRecDepth 100000 in
theorem law_copy {p : Program} {e : Env} {s : State} {m : MethodId} {below : List Frame} {meth : Method} {c : Code} (l : Launch) {b : Nat} {xs : Nat → Int32} {A : Nat → Prop} (C0 : lw_At p s m meth c b 6 xs) (hA : ∀ q, s.heap.size ≤ q → A q) (hAf : ∀ q, A q → s.heap.size ≤ q) (hN : kN s) (D : va_G) (h0 m0 : Nat) (sh : Nat) (rd : Nat) (fr : Nat) (wr : Nat) (pf : Nat) (rc : Nat) (se : Nat) (rs : Nat) (sw : Nat) (sp : Nat) (ss : Nat) (cS : ClassId) (s0 : Nat) (s1 : Nat) (s2 : Nat) (s3 : Nat) (e0 : Nat) (e1 : Nat) (e2 : Nat) (e3 : Nat) (so : Nat) (sl : Nat) (ce : Nat) (kd : Nat) (wd : Nat) (hs : Nat) (pr : Nat) (la : Nat) (wg : Nat) (rk : Nat) (rw : Nat) (rh : Nat) (sa : Nat) (fi : Nat) (ch : Nat) (cn : Nat) (kp : Nat) (rfa : Nat) (cso : ClassId) {H : Heap} {locs : List Loc} (hP : va_P D vwCl [(h0, .inr (8, [.ref sh, .ref rd, .ref fr, .ref wr, .ref pf, .ref rc, .ref se, .ref rs, .ref sw, .ref sp, .ref ss, .int 0, .long 0, .int 0, .int 0])), (sh, .inl (cS, 4, .inr (.inr (.inr (.inr (va_up (va_up (va_up (va_up (fun _ => none) 0 (some s0)) 1 (some s1)) 2 (some s2)) 3 (some s3))))))), (s0, .inr (5, [.ref e0, .int 0, .int 0, .int 0])), (s1, .inr (5, [.ref e1, .int 0, .int 0, .int 0])), (s2, .inr (5, [.ref e2, .int 0, .int 0, .int 0])), (s3, .inr (5, [.ref e3, .int 0, .int 0, .int 0])), (m0, .inr (9, [.int 0, .int 0, .ref so, .ref sl, .ref ce, .int 0, .ref kd, .ref wd, .ref hs, .ref pr, .ref la, .int 0, .ref wg, .int 0, .long 0, .int 0, .int 0, .ref rk, .ref rw, .ref rh, .int 0, .ref sa, .ref fi, .int 0, .ref ch, .ref cn, .int 0, .int 0, .ref kp, .int 0, .ref rfa])), (so, .inl (cso, 4, .inl kSO))] H) (hD : va_D A [(h0, .inr (8, [.ref sh, .ref rd, .ref fr, .ref wr, .ref pf, .ref rc, .ref se, .ref rs, .ref sw, .ref sp, .ref ss, .int 0, .long 0, .int 0, .int 0])), (sh, .inl (cS, 4, .inr (.inr (.inr (.inr (va_up (va_up (va_up (va_up (fun _ => none) 0 (some s0)) 1 (some s1)) 2 (some s2)) 3 (some s3))))))), (s0, .inr (5, [.ref e0, .int 0, .int 0, .int 0])), (s1, .inr (5, [.ref e1, .int 0, .int 0, .int 0])), (s2, .inr (5, [.ref e2, .int 0, .int 0, .int 0])), (s3, .inr (5, [.ref e3, .int 0, .int 0, .int 0])), (m0, .inr (9, [.int 0, .int 0, .ref so, .ref sl, .ref ce, .int 0, .ref kd, .ref wd, .ref hs, .ref pr, .ref la, .int 0, .ref wg, .int 0, .long 0, .int 0, .int 0, .ref rk, .ref rw, .ref rh, .int 0, .ref sa, .ref fi, .int 0, .ref ch, .ref cn, .int 0, .int 0, .ref kp, .int 0, .ref rfa])), (so, .inl (cso, 4, .inl kSO))]) (hK : va_K D vwCl [(cS, .object RX5), (cso, .int)] s) (hS : va_S A s.heap H locs) {ls : Array Slot} (hl : lv_has ls 4 [(3, .int 0), (2, .ref m0), (1, .ref h0), (0, .ref b)]) : W p l e room_1 s m #[Value.ref b] below meth c H locs 123 1521 (lw_Z below #[Value.ref b] s) (F0 m 944 ls []) := by
  obtain ⟨hx, hb, hr, hml, hown, hts, hX, hbl, hlocks, hgv⟩ := id C0
  have hbA : ¬ A b := fun h => absurd (hAf b h) (Nat.not_le.mpr hbl)
  refine lv_aload_n hx hb dL_law_944 rfl (lv_at hl 2 rfl) ?_
  refine lv_aload_n hx hb dL_law_945 rfl (lv_at hl 3 rfl) ?_
  refine lv_iload_n hx hb dL_law_946 rfl (lv_at hl 0 rfl) ?_
  refine lv_iconst (v := 1) hx hb dL_law_947 (by decide) ?_
  refine lv_iadd hx hb dL_law_948 ?_
  refine kn_i 1 (by decide) ?_
  refine va_sld hx hb hX hbl hbA hS (by unfold vp_in; decide) dL_law_949 ?_
  refine kn_i (xs 1) rfl ?_
  refine lv_aload_n hx hb dL_law_950 rfl (lv_at hl 3 rfl) ?_
  refine lv_iload_n hx hb dL_law_951 rfl (lv_at hl 0 rfl) ?_
  refine lv_iconst (v := 2) hx hb dL_law_952 (by decide) ?_
  refine lv_iadd hx hb dL_law_953 ?_
  refine kn_i 2 (by decide) ?_
  refine va_sld hx hb hX hbl hbA hS (by unfold vp_in; decide) dL_law_954 ?_
  refine kn_i (xs 2) rfl ?_
  refine lv_aload_n hx hb dL_law_955 rfl (lv_at hl 3 rfl) ?_
  refine lv_iload_n hx hb dL_law_956 rfl (lv_at hl 0 rfl) ?_
  refine lv_iconst (v := 3) hx hb dL_law_957 (by decide) ?_
  refine lv_iadd hx hb dL_law_958 ?_
  refine kn_i 3 (by decide) ?_
  refine va_sld hx hb hX hbl hbA hS (by unfold vp_in; decide) dL_law_959 ?_
  refine kn_i (xs 3) rfl ?_
  refine lv_aload_n hx hb dL_law_960 rfl (lv_at hl 3 rfl) ?_
  refine lv_iload_n hx hb dL_law_961 rfl (lv_at hl 0 rfl) ?_
  refine lv_iconst (v := 4) hx hb dL_law_962 (by decide) ?_
  refine lv_iadd hx hb dL_law_963 ?_
  refine kn_i 4 (by decide) ?_
  refine va_sld hx hb hX hbl hbA hS (by unfold vp_in; decide) dL_law_964 ?_
  refine kn_i (xs 4) rfl ?_
  refine lv_aload_n hx hb dL_law_965 rfl (lv_at hl 3 rfl) ?_
  refine lv_iload_n hx hb dL_law_966 rfl (lv_at hl 0 rfl) ?_
  refine lv_iconst (v := 5) hx hb dL_law_967 (by decide) ?_
  refine lv_iadd hx hb dL_law_968 ?_
  refine kn_i 5 (by decide) ?_
  refine va_sld hx hb hX hbl hbA hS (by unfold vp_in; decide) dL_law_969 ?_
  refine kn_i (xs 5) rfl ?_
  have hFc := va_free (wc := [(h0, .inr (8, [.ref sh, .ref rd, .ref fr, .ref wr, .ref pf, .ref rc, .ref se, .ref rs, .ref sw, .ref sp, .ref ss, .int 0, .long 0, .int 0, .int 0])), (sh, .inl (cS, 4, .inr (.inr (.inr (.inr (va_up (va_up (va_up (va_up (fun _ => none) 0 (some s0)) 1 (some s1)) 2 (some s2)) 3 (some s3))))))), (s0, .inr (5, [.ref e0, .int 0, .int 0, .int 0])), (s1, .inr (5, [.ref e1, .int 0, .int 0, .int 0])), (s2, .inr (5, [.ref e2, .int 0, .int 0, .int 0])), (s3, .inr (5, [.ref e3, .int 0, .int 0, .int 0]))]) hD hS hA [0, 1, 2, 3, 4, 5] rfl
  refine va_calli (va_runV (As := [.int (xs 1), .int (xs 2), .int (xs 3), .int (xs 4), .int (xs 5)]) (rest := []) ⟨hx, hb, hml, hown, hts⟩ (c_X8_copy l D H.size (k := (xs 1)) (i := (xs 2)) (o := (xs 3)) (j := (xs 4)) (n := (xs 5)) (h0 := h0) (sh := sh) (rd := rd) (fr := fr) (wr := wr) (pf := pf) (rc := rc) (se := se) (rs := rs) (sw := sw) (sp := sp) (ss := ss) (ew := 0) (wc := 0) (tr := 0) (lf := 0) (cS := cS) (s0 := s0) (s1 := s1) (s2 := s2) (s3 := s3) (e0 := e0) (e1 := e1) (e2 := e2) (e3 := e3)) (cwV 5 hts (goodL gL_law_X8_copy) rfl rfl rfl (by decide +kernel) ⟨Nat.le_of_ble_eq_true rfl, Nat.le_of_ble_eq_true rfl⟩) (kPreV hP (kD0 hD) hK hN [0, 1, 2, 3, 4, 5] [0] rfl rfl (by decide) 0 8 rfl rfl) rfl rfl hl.1 rfl (lv_room (Nat.le_of_ble_eq_true rfl)) dL_law_970 ⟨Nat.le_of_ble_eq_true rfl, Nat.le_of_ble_eq_true rfl⟩) hS (fun q _ h => hFc q h) hFc (fun r_1 u t H1 locs ht hvm hw hB hz1 hk1 hS => ?_)
  obtain ⟨hP, hD⟩ := va_join (wr := [(m0, .inr (9, [.int 0, .int 0, .ref so, .ref sl, .ref ce, .int 0, .ref kd, .ref wd, .ref hs, .ref pr, .ref la, .int 0, .ref wg, .int 0, .long 0, .int 0, .int 0, .ref rk, .ref rw, .ref rh, .int 0, .ref sa, .ref fi, .int 0, .ref ch, .ref cn, .int 0, .int 0, .ref kp, .int 0, .ref rfa])), (so, .inl (cso, 4, .inl kSO))]) (w1 := []) hP hD [0, 1, 2, 3, 4, 5] [6, 7] rfl rfl (by decide) (by decide) hk1 hFc kP0 kDn
  generalize H1 = H at hP hS ⊢
  have hP : va_P D vwCl [(m0, .inr (9, [.int 0, .int 0, .ref so, .ref sl, .ref ce, .int 0, .ref kd, .ref wd, .ref hs, .ref pr, .ref la, .int 0, .ref wg, .int 0, .long 0, .int 0, .int 0, .ref rk, .ref rw, .ref rh, .int 0, .ref sa, .ref fi, .int 0, .ref ch, .ref cn, .int 0, .int 0, .ref kp, .int 0, .ref rfa])), (so, .inl (cso, 4, .inl kSO))] H := hP
  have hD : va_D A [(m0, .inr (9, [.int 0, .int 0, .ref so, .ref sl, .ref ce, .int 0, .ref kd, .ref wd, .ref hs, .ref pr, .ref la, .int 0, .ref wg, .int 0, .long 0, .int 0, .int 0, .ref rk, .ref rw, .ref rh, .int 0, .ref sa, .ref fi, .int 0, .ref ch, .ref cn, .int 0, .int 0, .ref kp, .int 0, .ref rfa])), (so, .inl (cso, 4, .inl kSO))] := hD
  refine kn_i (sp_copy (xs 1) (xs 3)) hw ?_
  refine lv_aload_n hx hb dL_law_973 rfl (lv_at hl 1 rfl) ?_
  refine lv_aload_n hx hb dL_law_974 rfl (lv_at hl 3 rfl) ?_
  refine lv_iload_n hx hb dL_law_975 rfl (lv_at hl 0 rfl) ?_
  refine lv_iconst (v := 1) hx hb dL_law_976 (by decide) ?_
  refine lv_iadd hx hb dL_law_977 ?_
  refine kn_i 1 (by decide) ?_
  refine va_sld hx hb hX hbl hbA hS (by unfold vp_in; decide) dL_law_978 ?_
  refine kn_i (xs 1) rfl ?_
  refine lv_aload_n hx hb dL_law_979 rfl (lv_at hl 3 rfl) ?_
  refine lv_iload_n hx hb dL_law_980 rfl (lv_at hl 0 rfl) ?_
  refine lv_iconst (v := 2) hx hb dL_law_981 (by decide) ?_
  refine lv_iadd hx hb dL_law_982 ?_
  refine kn_i 2 (by decide) ?_
  refine va_sld hx hb hX hbl hbA hS (by unfold vp_in; decide) dL_law_983 ?_
  refine kn_i (xs 2) rfl ?_
  refine lv_aload_n hx hb dL_law_984 rfl (lv_at hl 3 rfl) ?_
  refine lv_iload_n hx hb dL_law_985 rfl (lv_at hl 0 rfl) ?_
  refine lv_iconst (v := 3) hx hb dL_law_986 (by decide) ?_
  refine lv_iadd hx hb dL_law_987 ?_
  refine kn_i 3 (by decide) ?_
  refine va_sld hx hb hX hbl hbA hS (by unfold vp_in; decide) dL_law_988 ?_
  refine kn_i (xs 3) rfl ?_
  refine lv_aload_n hx hb dL_law_989 rfl (lv_at hl 3 rfl) ?_
  refine lv_iload_n hx hb dL_law_990 rfl (lv_at hl 0 rfl) ?_
  refine lv_iconst (v := 4) hx hb dL_law_991 (by decide) ?_
  refine lv_iadd hx hb dL_law_992 ?_
  refine kn_i 4 (by decide) ?_
  refine va_sld hx hb hX hbl hbA hS (by unfold vp_in; decide) dL_law_993 ?_
  refine kn_i (xs 4) rfl ?_
  refine lv_aload_n hx hb dL_law_994 rfl (lv_at hl 3 rfl) ?_
  refine lv_iload_n hx hb dL_law_995 rfl (lv_at hl 0 rfl) ?_
  refine lv_iconst (v := 5) hx hb dL_law_996 (by decide) ?_
  refine lv_iadd hx hb dL_law_997 ?_
  refine kn_i 5 (by decide) ?_
  refine va_sld hx hb hX hbl hbA hS (by unfold vp_in; decide) dL_law_998 ?_
  refine kn_i (xs 5) rfl ?_
  have hFc := va_free (wc := [(m0, .inr (9, [.int 0, .int 0, .ref so, .ref sl, .ref ce, .int 0, .ref kd, .ref wd, .ref hs, .ref pr, .ref la, .int 0, .ref wg, .int 0, .long 0, .int 0, .int 0, .ref rk, .ref rw, .ref rh, .int 0, .ref sa, .ref fi, .int 0, .ref ch, .ref cn, .int 0, .int 0, .ref kp, .int 0, .ref rfa])), (so, .inl (cso, 4, .inl kSO))]) hD hS hA [0, 1] rfl
  refine va_calli (va_runV (As := [.int (xs 1), .int (xs 2), .int (xs 3), .int (xs 4), .int (xs 5)]) (rest := [.int (sp_copy (xs 1) (xs 3))]) ⟨hx, hb, hml, hown, hts⟩ (c_X9_copy l D H.size (k := (xs 1)) (i := (xs 2)) (o := (xs 3)) (j := (xs 4)) (n := (xs 5)) (h0 := m0) (fa := 0) (tc := 0) (so := so) (sl := sl) (ce := ce) (kd := kd) (wd := wd) (hs := hs) (pr := pr) (la := la) (wg := wg) (ta := 0) (ck := 0) (at9 := 0) (rfn := 0) (rk := rk) (rw := rw) (rh := rh) (cl := 0) (sa := sa) (fi := fi) (bo := 0) (ch := ch) (cn := cn) (ad := 0) (ru := 0) (kp := kp) (rfa := rfa) (cso := cso)) (cwV 5 hts (goodL gL_law_X9_copy) rfl rfl rfl (by decide +kernel) ⟨Nat.le_of_ble_eq_true rfl, Nat.le_of_ble_eq_true rfl⟩) (kPreV hP (kD0 hD) hK hN [0, 1] [1] rfl rfl (by decide) 0 9 rfl rfl) rfl rfl hl.1 rfl (lv_room (Nat.le_of_ble_eq_true rfl)) dL_law_999 ⟨Nat.le_of_ble_eq_true rfl, Nat.le_of_ble_eq_true rfl⟩) hS (fun q _ h => hFc q h) hFc (fun r_2 u t H1 locs ht hvm hw hB hz1 hk1 hS => ?_)
  obtain ⟨hP, hD⟩ := va_join (wr := []) (w1 := []) hP hD [0, 1] [] rfl rfl (by decide) (by decide) hk1 hFc kP0 kDn
  generalize H1 = H at hP hS ⊢
  have hP : va_P D vwCl [] H := hP
  have hD : va_D A [] := hD
  refine kn_i (sp_copy (xs 1) (xs 3)) hw ?_
  refine lv_icmp_eq (tgt := 1135) hx hb dL_law_1002 (by decide) (fun _ => ?_) (fun c9 => absurd rfl c9)
  exact law_end l C0 hAf hS (Nat.le_of_ble_eq_true rfl) (Nat.le_of_ble_eq_true rfl) (lv_sub hl [0, 3] rfl)
theorem dL_law_1007 : decode cL_law 1007 = .ok (.aload_n 1, 1) := by decide +kernel
theorem dL_law_1008 : decode cL_law 1008 = .ok (.aload_n 0, 1) := by decide +kernel
theorem dL_law_1009 : decode cL_law 1009 = .ok (.iload_n 3, 1) := by decide +kernel
theorem dL_law_1010 : decode cL_law 1010 = .ok (.iconst 1, 1) := by decide +kernel
theorem dL_law_1011 : decode cL_law 1011 = .ok (.iadd, 1) := by decide +kernel
theorem dL_law_1012 : decode cL_law 1012 = .ok (.iaload, 1) := by decide +kernel
theorem dL_law_1013 : decode cL_law 1013 = .ok (.invokevirtual 126, 3) := by decide +kernel
theorem dL_law_1016 : decode cL_law 1016 = .ok (.aload_n 2, 1) := by decide +kernel
theorem dL_law_1017 : decode cL_law 1017 = .ok (.aload_n 0, 1) := by decide +kernel
theorem dL_law_1018 : decode cL_law 1018 = .ok (.iload_n 3, 1) := by decide +kernel
theorem dL_law_1019 : decode cL_law 1019 = .ok (.iconst 1, 1) := by decide +kernel
theorem dL_law_1020 : decode cL_law 1020 = .ok (.iadd, 1) := by decide +kernel
theorem dL_law_1021 : decode cL_law 1021 = .ok (.iaload, 1) := by decide +kernel
theorem dL_law_1022 : decode cL_law 1022 = .ok (.invokevirtual 129, 3) := by decide +kernel
theorem dL_law_1025 : decode cL_law 1025 = .ok (.if_icmp .eq 110, 3) := by decide +kernel
set_option maxRecDepth 20000 in
theorem ggL_law_X8_tell : GoodIn wsL_law wsX8_tell := goodIn_r _ [754, 23, 312, 311, 314, 177, 178, 22, 179, 180, 124, 2, 125, 755, 756, 757, 758, 759, 760, 761, 762, 763, 764, 765, 766, 767, 768, 769, 770, 771, 821, 822, 823, 824, 825, 826, 827, 828, 829, 830, 831, 832, 833, 834, 835, 873, 874, 875, 876] (by decide +kernel) (by decide +kernel)
set_option maxRecDepth 20000 in
theorem gL_law_X8_tell : GoodIn wsL_law (wsV RL 126 RX8 yX8_tell wsX8_tell) := goodIn_app (goodIn_of _ (by decide +kernel)) ggL_law_X8_tell
set_option maxRecDepth 20000 in
theorem ggL_law_X9_tell : GoodIn wsL_law wsX9_tell := goodIn_r _ [775, 100, 99, 330, 331, 332, 5, 333, 269, 776, 777, 778, 779, 780, 836, 837, 838, 839, 840, 841, 842, 843, 844, 845, 846, 847, 848, 849, 850, 851, 852, 853, 854, 855, 856, 857, 858, 859, 860, 861, 862, 863, 864, 865, 866] (by decide +kernel) (by decide +kernel)
set_option maxRecDepth 20000 in
theorem gL_law_X9_tell : GoodIn wsL_law (wsV RL 129 RX9 yX9_tell wsX9_tell) := goodIn_app (goodIn_of _ (by decide +kernel)) ggL_law_X9_tell
set_option maxHeartbeats 4000000 in
set_option maxRecDepth 100000 in
theorem law_tell {p : Program} {e : Env} {s : State} {m : MethodId} {below : List Frame} {meth : Method} {c : Code} (l : Launch) {b : Nat} {xs : Nat → Int32} {A : Nat → Prop} (C0 : lw_At p s m meth c b 6 xs) (hA : ∀ q, s.heap.size ≤ q → A q) (hAf : ∀ q, A q → s.heap.size ≤ q) (hN : kN s) (D : va_G) (h0 m0 : Nat) (sh : Nat) (rd : Nat) (fr : Nat) (wr : Nat) (pf : Nat) (rc : Nat) (se : Nat) (rs : Nat) (sw : Nat) (sp : Nat) (ss : Nat) (k1 : Nat) (k2 : Nat) (k3 : Nat) (so : Nat) (sl : Nat) (ce : Nat) (kd : Nat) (wd : Nat) (hs : Nat) (pr : Nat) (la : Nat) (wg : Nat) (rk : Nat) (rw : Nat) (rh : Nat) (sa : Nat) (fi : Nat) (ch : Nat) (cn : Nat) (kp : Nat) (rfa : Nat) {H : Heap} {locs : List Loc} (hP : va_P D vwCl [(h0, .inr (8, [.ref sh, .ref rd, .ref fr, .ref wr, .ref pf, .ref rc, .ref se, .ref rs, .ref sw, .ref sp, .ref ss, .int 0, .long 0, .int 0, .int 0])), (fr, .inr (0, [.ref k1, .ref k2, .ref k3, .int 0])), (m0, .inr (9, [.int 0, .int 0, .ref so, .ref sl, .ref ce, .int 0, .ref kd, .ref wd, .ref hs, .ref pr, .ref la, .int 0, .ref wg, .int 0, .long 0, .int 0, .int 0, .ref rk, .ref rw, .ref rh, .int 0, .ref sa, .ref fi, .int 0, .ref ch, .ref cn, .int 0, .int 0, .ref kp, .int 0, .ref rfa]))] H) (hD : va_D A [(h0, .inr (8, [.ref sh, .ref rd, .ref fr, .ref wr, .ref pf, .ref rc, .ref se, .ref rs, .ref sw, .ref sp, .ref ss, .int 0, .long 0, .int 0, .int 0])), (fr, .inr (0, [.ref k1, .ref k2, .ref k3, .int 0])), (m0, .inr (9, [.int 0, .int 0, .ref so, .ref sl, .ref ce, .int 0, .ref kd, .ref wd, .ref hs, .ref pr, .ref la, .int 0, .ref wg, .int 0, .long 0, .int 0, .int 0, .ref rk, .ref rw, .ref rh, .int 0, .ref sa, .ref fi, .int 0, .ref ch, .ref cn, .int 0, .int 0, .ref kp, .int 0, .ref rfa]))]) (hK : va_K D vwCl [] s) (hS : va_S A s.heap H locs) {ls : Array Slot} (hl : lv_has ls 4 [(3, .int 0), (2, .ref m0), (1, .ref h0), (0, .ref b)]) : W p l e room_1 s m #[Value.ref b] below meth c H locs 123 1521 (lw_Z below #[Value.ref b] s) (F0 m 1007 ls []) := by
  obtain ⟨hx, hb, hr, hml, hown, hts, hX, hbl, hlocks, hgv⟩ := id C0
  have hbA : ¬ A b := fun h => absurd (hAf b h) (Nat.not_le.mpr hbl)
  refine lv_aload_n hx hb dL_law_1007 rfl (lv_at hl 2 rfl) ?_
  refine lv_aload_n hx hb dL_law_1008 rfl (lv_at hl 3 rfl) ?_
  refine lv_iload_n hx hb dL_law_1009 rfl (lv_at hl 0 rfl) ?_
  refine lv_iconst (v := 1) hx hb dL_law_1010 (by decide) ?_
  refine lv_iadd hx hb dL_law_1011 ?_
  refine kn_i 1 (by decide) ?_
  refine va_sld hx hb hX hbl hbA hS (by unfold vp_in; decide) dL_law_1012 ?_
  refine kn_i (xs 1) rfl ?_
  refine k_callR (va_runV (As := [.int (xs 1)]) (rest := []) ⟨hx, hb, hml, hown, hts⟩ (c_X8_tell l D H.size (f := (xs 1)) (h0 := h0) (sh := sh) (rd := rd) (fr := fr) (wr := wr) (pf := pf) (rc := rc) (se := se) (rs := rs) (sw := sw) (sp := sp) (ss := ss) (ew := 0) (wc := 0) (tr := 0) (lf := 0) (k1 := k1) (k2 := k2) (k3 := k3)) (cwV 1 hts (goodL gL_law_X8_tell) rfl rfl rfl (by decide +kernel) ⟨Nat.le_of_ble_eq_true rfl, Nat.le_of_ble_eq_true rfl⟩) (kPreV hP (kD0 hD) hK hN [0, 1] [] rfl rfl (by decide) 0 8 rfl rfl) rfl rfl hl.1 rfl (lv_room (Nat.le_of_ble_eq_true rfl)) dL_law_1013 ⟨Nat.le_of_ble_eq_true rfl, Nat.le_of_ble_eq_true rfl⟩) ?_
  refine lv_aload_n hx hb dL_law_1016 rfl (lv_at hl 1 rfl) ?_
  refine lv_aload_n hx hb dL_law_1017 rfl (lv_at hl 3 rfl) ?_
  refine lv_iload_n hx hb dL_law_1018 rfl (lv_at hl 0 rfl) ?_
  refine lv_iconst (v := 1) hx hb dL_law_1019 (by decide) ?_
  refine lv_iadd hx hb dL_law_1020 ?_
  refine kn_i 1 (by decide) ?_
  refine va_sld hx hb hX hbl hbA hS (by unfold vp_in; decide) dL_law_1021 ?_
  refine kn_i (xs 1) rfl ?_
  refine k_callR (va_runV (As := [.int (xs 1)]) (rest := [.int (-1)]) ⟨hx, hb, hml, hown, hts⟩ (c_X9_tell l D H.size (f := (xs 1)) (h0 := m0) (fa := 0) (tc := 0) (so := so) (sl := sl) (ce := ce) (kd := kd) (wd := wd) (hs := hs) (pr := pr) (la := la) (wg := wg) (ta := 0) (ck := 0) (at9 := 0) (rfn := 0) (rk := rk) (rw := rw) (rh := rh) (cl := 0) (sa := sa) (fi := fi) (bo := 0) (ch := ch) (cn := cn) (ad := 0) (ru := 0) (kp := kp) (rfa := rfa)) (cwV 1 hts (goodL gL_law_X9_tell) rfl rfl rfl (by decide +kernel) ⟨Nat.le_of_ble_eq_true rfl, Nat.le_of_ble_eq_true rfl⟩) (kPreV hP (kD0 hD) hK hN [2] [] rfl rfl (by decide) 2 9 rfl rfl) rfl rfl hl.1 rfl (lv_room (Nat.le_of_ble_eq_true rfl)) dL_law_1022 ⟨Nat.le_of_ble_eq_true rfl, Nat.le_of_ble_eq_true rfl⟩) ?_
  refine lv_icmp_eq (tgt := 1135) hx hb dL_law_1025 (by decide) (fun _ => ?_) (fun c9 => absurd (by decide) c9)
  exact law_end l C0 hAf hS (Nat.le_of_ble_eq_true rfl) (Nat.le_of_ble_eq_true rfl) (lv_sub hl [0, 3] rfl)
theorem dL_law_1030 : decode cL_law 1030 = .ok (.aload_n 1, 1) := by decide +kernel
theorem dL_law_1031 : decode cL_law 1031 = .ok (.aload_n 0, 1) := by decide +kernel
theorem dL_law_1032 : decode cL_law 1032 = .ok (.iload_n 3, 1) := by decide +kernel
theorem dL_law_1033 : decode cL_law 1033 = .ok (.iconst 1, 1) := by decide +kernel
theorem dL_law_1034 : decode cL_law 1034 = .ok (.iadd, 1) := by decide +kernel
theorem dL_law_1035 : decode cL_law 1035 = .ok (.iaload, 1) := by decide +kernel
theorem dL_law_1036 : decode cL_law 1036 = .ok (.invokevirtual 130, 3) := by decide +kernel
theorem dL_law_1039 : decode cL_law 1039 = .ok (.aload_n 2, 1) := by decide +kernel
theorem dL_law_1040 : decode cL_law 1040 = .ok (.aload_n 0, 1) := by decide +kernel
theorem dL_law_1041 : decode cL_law 1041 = .ok (.iload_n 3, 1) := by decide +kernel
theorem dL_law_1042 : decode cL_law 1042 = .ok (.iconst 1, 1) := by decide +kernel
theorem dL_law_1043 : decode cL_law 1043 = .ok (.iadd, 1) := by decide +kernel
theorem dL_law_1044 : decode cL_law 1044 = .ok (.iaload, 1) := by decide +kernel
theorem dL_law_1045 : decode cL_law 1045 = .ok (.invokevirtual 133, 3) := by decide +kernel
theorem dL_law_1048 : decode cL_law 1048 = .ok (.if_icmp .eq 87, 3) := by decide +kernel
set_option maxRecDepth 20000 in
theorem ggL_law_X8_sample : GoodIn wsL_law wsX8_sample := goodIn_r _ [784, 23, 311, 313, 314, 177, 178, 22, 179, 180, 124, 2, 125, 759, 760, 761, 762, 763, 617, 191, 192, 193, 194, 195, 196, 821, 822, 823, 824, 825, 826, 827, 828, 829, 830, 831, 832, 833, 834, 835, 873, 874, 875, 876] (by decide +kernel) (by decide +kernel)
set_option maxRecDepth 20000 in
theorem gL_law_X8_sample : GoodIn wsL_law (wsV RL 130 RX8 yX8_sample wsX8_sample) := goodIn_app (goodIn_of _ (by decide +kernel)) ggL_law_X8_sample
set_option maxRecDepth 20000 in
theorem ggL_law_X9_sample : GoodIn wsL_law wsX9_sample := goodIn_r _ [788, 99, 101, 330, 331, 332, 5, 333, 269, 776, 777, 778, 779, 780, 301, 302, 303, 836, 837, 838, 839, 840, 841, 842, 843, 844, 845, 846, 847, 848, 849, 850, 851, 852, 853, 854, 855, 856, 857, 858, 859, 860, 861, 862, 863, 864, 865, 866] (by decide +kernel) (by decide +kernel)
set_option maxRecDepth 20000 in
theorem gL_law_X9_sample : GoodIn wsL_law (wsV RL 133 RX9 yX9_sample wsX9_sample) := goodIn_app (goodIn_of _ (by decide +kernel)) ggL_law_X9_sample
set_option maxHeartbeats 4000000 in
set_option maxRecDepth 100000 in
theorem law_sample {p : Program} {e : Env} {s : State} {m : MethodId} {below : List Frame} {meth : Method} {c : Code} (l : Launch) {b : Nat} {xs : Nat → Int32} {A : Nat → Prop} (C0 : lw_At p s m meth c b 6 xs) (hA : ∀ q, s.heap.size ≤ q → A q) (hAf : ∀ q, A q → s.heap.size ≤ q) (hN : kN s) (D : va_G) (h0 m0 : Nat) (sh : Nat) (rd : Nat) (fr : Nat) (wr : Nat) (pf : Nat) (rc : Nat) (se : Nat) (rs : Nat) (sw : Nat) (sp : Nat) (ss : Nat) (k1 : Nat) (k2 : Nat) (k3 : Nat) (so : Nat) (sl : Nat) (ce : Nat) (kd : Nat) (wd : Nat) (hs : Nat) (pr : Nat) (la : Nat) (wg : Nat) (rk : Nat) (rw : Nat) (rh : Nat) (sa : Nat) (fi : Nat) (ch : Nat) (cn : Nat) (kp : Nat) (rfa : Nat) {H : Heap} {locs : List Loc} (hP : va_P D vwCl [(h0, .inr (8, [.ref sh, .ref rd, .ref fr, .ref wr, .ref pf, .ref rc, .ref se, .ref rs, .ref sw, .ref sp, .ref ss, .int 0, .long 0, .int 0, .int 0])), (fr, .inr (0, [.ref k1, .ref k2, .ref k3, .int 0])), (m0, .inr (9, [.int 0, .int 0, .ref so, .ref sl, .ref ce, .int 0, .ref kd, .ref wd, .ref hs, .ref pr, .ref la, .int 0, .ref wg, .int 0, .long 0, .int 0, .int 0, .ref rk, .ref rw, .ref rh, .int 0, .ref sa, .ref fi, .int 0, .ref ch, .ref cn, .int 0, .int 0, .ref kp, .int 0, .ref rfa]))] H) (hD : va_D A [(h0, .inr (8, [.ref sh, .ref rd, .ref fr, .ref wr, .ref pf, .ref rc, .ref se, .ref rs, .ref sw, .ref sp, .ref ss, .int 0, .long 0, .int 0, .int 0])), (fr, .inr (0, [.ref k1, .ref k2, .ref k3, .int 0])), (m0, .inr (9, [.int 0, .int 0, .ref so, .ref sl, .ref ce, .int 0, .ref kd, .ref wd, .ref hs, .ref pr, .ref la, .int 0, .ref wg, .int 0, .long 0, .int 0, .int 0, .ref rk, .ref rw, .ref rh, .int 0, .ref sa, .ref fi, .int 0, .ref ch, .ref cn, .int 0, .int 0, .ref kp, .int 0, .ref rfa]))]) (hK : va_K D vwCl [] s) (hS : va_S A s.heap H locs) {ls : Array Slot} (hl : lv_has ls 4 [(3, .int 0), (2, .ref m0), (1, .ref h0), (0, .ref b)]) : W p l e room_1 s m #[Value.ref b] below meth c H locs 123 1521 (lw_Z below #[Value.ref b] s) (F0 m 1030 ls []) := by
  obtain ⟨hx, hb, hr, hml, hown, hts, hX, hbl, hlocks, hgv⟩ := id C0
  have hbA : ¬ A b := fun h => absurd (hAf b h) (Nat.not_le.mpr hbl)
  refine lv_aload_n hx hb dL_law_1030 rfl (lv_at hl 2 rfl) ?_
  refine lv_aload_n hx hb dL_law_1031 rfl (lv_at hl 3 rfl) ?_
  refine lv_iload_n hx hb dL_law_1032 rfl (lv_at hl 0 rfl) ?_
  refine lv_iconst (v := 1) hx hb dL_law_1033 (by decide) ?_
  refine lv_iadd hx hb dL_law_1034 ?_
  refine kn_i 1 (by decide) ?_
  refine va_sld hx hb hX hbl hbA hS (by unfold vp_in; decide) dL_law_1035 ?_
  refine kn_i (xs 1) rfl ?_
  refine k_callR (va_runV (As := [.int (xs 1)]) (rest := []) ⟨hx, hb, hml, hown, hts⟩ (c_X8_sample l D H.size (f := (xs 1)) (h0 := h0) (sh := sh) (rd := rd) (fr := fr) (wr := wr) (pf := pf) (rc := rc) (se := se) (rs := rs) (sw := sw) (sp := sp) (ss := ss) (ew := 0) (wc := 0) (tr := 0) (lf := 0) (k1 := k1) (k2 := k2) (k3 := k3)) (cwV 1 hts (goodL gL_law_X8_sample) rfl rfl rfl (by decide +kernel) ⟨Nat.le_of_ble_eq_true rfl, Nat.le_of_ble_eq_true rfl⟩) (kPreV hP (kD0 hD) hK hN [0, 1] [] rfl rfl (by decide) 0 8 rfl rfl) rfl rfl hl.1 rfl (lv_room (Nat.le_of_ble_eq_true rfl)) dL_law_1036 ⟨Nat.le_of_ble_eq_true rfl, Nat.le_of_ble_eq_true rfl⟩) ?_
  refine lv_aload_n hx hb dL_law_1039 rfl (lv_at hl 1 rfl) ?_
  refine lv_aload_n hx hb dL_law_1040 rfl (lv_at hl 3 rfl) ?_
  refine lv_iload_n hx hb dL_law_1041 rfl (lv_at hl 0 rfl) ?_
  refine lv_iconst (v := 1) hx hb dL_law_1042 (by decide) ?_
  refine lv_iadd hx hb dL_law_1043 ?_
  refine kn_i 1 (by decide) ?_
  refine va_sld hx hb hX hbl hbA hS (by unfold vp_in; decide) dL_law_1044 ?_
  refine kn_i (xs 1) rfl ?_
  refine k_callR (va_runV (As := [.int (xs 1)]) (rest := [.int (-1)]) ⟨hx, hb, hml, hown, hts⟩ (c_X9_sample l D H.size (f := (xs 1)) (h0 := m0) (fa := 0) (tc := 0) (so := so) (sl := sl) (ce := ce) (kd := kd) (wd := wd) (hs := hs) (pr := pr) (la := la) (wg := wg) (ta := 0) (ck := 0) (at9 := 0) (rfn := 0) (rk := rk) (rw := rw) (rh := rh) (cl := 0) (sa := sa) (fi := fi) (bo := 0) (ch := ch) (cn := cn) (ad := 0) (ru := 0) (kp := kp) (rfa := rfa)) (cwV 1 hts (goodL gL_law_X9_sample) rfl rfl rfl (by decide +kernel) ⟨Nat.le_of_ble_eq_true rfl, Nat.le_of_ble_eq_true rfl⟩) (kPreV hP (kD0 hD) hK hN [2] [] rfl rfl (by decide) 2 9 rfl rfl) rfl rfl hl.1 rfl (lv_room (Nat.le_of_ble_eq_true rfl)) dL_law_1045 ⟨Nat.le_of_ble_eq_true rfl, Nat.le_of_ble_eq_true rfl⟩) ?_
  refine lv_icmp_eq (tgt := 1135) hx hb dL_law_1048 (by decide) (fun _ => ?_) (fun c9 => absurd (by decide) c9)
  exact law_end l C0 hAf hS (Nat.le_of_ble_eq_true rfl) (Nat.le_of_ble_eq_true rfl) (lv_sub hl [0, 3] rfl)
theorem dL_law_1053 : decode cL_law 1053 = .ok (.aload_n 1, 1) := by decide +kernel
theorem dL_law_1054 : decode cL_law 1054 = .ok (.aload_n 0, 1) := by decide +kernel
theorem dL_law_1055 : decode cL_law 1055 = .ok (.iload_n 3, 1) := by decide +kernel
theorem dL_law_1056 : decode cL_law 1056 = .ok (.iconst 1, 1) := by decide +kernel
theorem dL_law_1057 : decode cL_law 1057 = .ok (.iadd, 1) := by decide +kernel
theorem dL_law_1058 : decode cL_law 1058 = .ok (.iaload, 1) := by decide +kernel
theorem dL_law_1059 : decode cL_law 1059 = .ok (.aload_n 0, 1) := by decide +kernel
theorem dL_law_1060 : decode cL_law 1060 = .ok (.iload_n 3, 1) := by decide +kernel
theorem dL_law_1061 : decode cL_law 1061 = .ok (.iconst 2, 1) := by decide +kernel
theorem dL_law_1062 : decode cL_law 1062 = .ok (.iadd, 1) := by decide +kernel
theorem dL_law_1063 : decode cL_law 1063 = .ok (.iaload, 1) := by decide +kernel
theorem dL_law_1064 : decode cL_law 1064 = .ok (.invokevirtual 134, 3) := by decide +kernel
theorem dL_law_1067 : decode cL_law 1067 = .ok (.aload_n 2, 1) := by decide +kernel
theorem dL_law_1068 : decode cL_law 1068 = .ok (.aload_n 0, 1) := by decide +kernel
theorem dL_law_1069 : decode cL_law 1069 = .ok (.iload_n 3, 1) := by decide +kernel
theorem dL_law_1070 : decode cL_law 1070 = .ok (.iconst 1, 1) := by decide +kernel
theorem dL_law_1071 : decode cL_law 1071 = .ok (.iadd, 1) := by decide +kernel
theorem dL_law_1072 : decode cL_law 1072 = .ok (.iaload, 1) := by decide +kernel
theorem dL_law_1073 : decode cL_law 1073 = .ok (.aload_n 0, 1) := by decide +kernel
theorem dL_law_1074 : decode cL_law 1074 = .ok (.iload_n 3, 1) := by decide +kernel
theorem dL_law_1075 : decode cL_law 1075 = .ok (.iconst 2, 1) := by decide +kernel
theorem dL_law_1076 : decode cL_law 1076 = .ok (.iadd, 1) := by decide +kernel
theorem dL_law_1077 : decode cL_law 1077 = .ok (.iaload, 1) := by decide +kernel
theorem dL_law_1078 : decode cL_law 1078 = .ok (.invokevirtual 137, 3) := by decide +kernel
theorem dL_law_1081 : decode cL_law 1081 = .ok (.if_icmp .eq 54, 3) := by decide +kernel
set_option maxRecDepth 20000 in
theorem ggL_law_X8_as : GoodIn wsL_law wsX8_as := goodIn_r _ [792, 118, 23, 311, 314, 177, 178, 22, 179, 180, 124, 2, 125, 123, 140, 141, 142, 143, 821, 822, 823, 824, 825, 826, 827, 828, 829, 830, 831, 832, 833, 834, 835, 873, 874, 875, 876] (by decide +kernel) (by decide +kernel)
set_option maxRecDepth 20000 in
theorem gL_law_X8_as : GoodIn wsL_law (wsV RL 134 RX8 yX8_as wsX8_as) := goodIn_app (goodIn_of _ (by decide +kernel)) ggL_law_X8_as
set_option maxRecDepth 20000 in
theorem ggL_law_X9_as : GoodIn wsL_law wsX9_as := goodIn_r _ [796, 266, 99, 330, 331, 332, 5, 333, 269, 275, 276, 277, 285, 286, 287, 288, 836, 837, 838, 839, 840, 841, 842, 843, 844, 845, 846, 847, 848, 849, 850, 851, 852, 853, 854, 855, 856, 857, 858, 859, 860, 861, 862, 863, 864, 865, 866] (by decide +kernel) (by decide +kernel)
set_option maxRecDepth 20000 in
theorem gL_law_X9_as : GoodIn wsL_law (wsV RL 137 RX9 yX9_as wsX9_as) := goodIn_app (goodIn_of _ (by decide +kernel)) ggL_law_X9_as
set_option maxHeartbeats 4000000 in
set_option maxRecDepth 100000 in
theorem law_as {p : Program} {e : Env} {s : State} {m : MethodId} {below : List Frame} {meth : Method} {c : Code} (l : Launch) {b : Nat} {xs : Nat → Int32} {A : Nat → Prop} (C0 : lw_At p s m meth c b 6 xs) (hA : ∀ q, s.heap.size ≤ q → A q) (hAf : ∀ q, A q → s.heap.size ≤ q) (hN : kN s) (D : va_G) (h0 m0 : Nat) (sh : Nat) (rd : Nat) (fr : Nat) (wr : Nat) (pf : Nat) (rc : Nat) (se : Nat) (rs : Nat) (sw : Nat) (sp : Nat) (ss : Nat) (k1 : Nat) (k2 : Nat) (k3 : Nat) (so : Nat) (sl : Nat) (ce : Nat) (kd : Nat) (wd : Nat) (hs : Nat) (pr : Nat) (la : Nat) (wg : Nat) (rk : Nat) (rw : Nat) (rh : Nat) (sa : Nat) (fi : Nat) (ch : Nat) (cn : Nat) (kp : Nat) (rfa : Nat) {H : Heap} {locs : List Loc} (hP : va_P D vwCl [(h0, .inr (8, [.ref sh, .ref rd, .ref fr, .ref wr, .ref pf, .ref rc, .ref se, .ref rs, .ref sw, .ref sp, .ref ss, .int 0, .long 0, .int 0, .int 0])), (fr, .inr (0, [.ref k1, .ref k2, .ref k3, .int 0])), (m0, .inr (9, [.int 0, .int 0, .ref so, .ref sl, .ref ce, .int 0, .ref kd, .ref wd, .ref hs, .ref pr, .ref la, .int 0, .ref wg, .int 0, .long 0, .int 0, .int 0, .ref rk, .ref rw, .ref rh, .int 0, .ref sa, .ref fi, .int 0, .ref ch, .ref cn, .int 0, .int 0, .ref kp, .int 0, .ref rfa]))] H) (hD : va_D A [(h0, .inr (8, [.ref sh, .ref rd, .ref fr, .ref wr, .ref pf, .ref rc, .ref se, .ref rs, .ref sw, .ref sp, .ref ss, .int 0, .long 0, .int 0, .int 0])), (fr, .inr (0, [.ref k1, .ref k2, .ref k3, .int 0])), (m0, .inr (9, [.int 0, .int 0, .ref so, .ref sl, .ref ce, .int 0, .ref kd, .ref wd, .ref hs, .ref pr, .ref la, .int 0, .ref wg, .int 0, .long 0, .int 0, .int 0, .ref rk, .ref rw, .ref rh, .int 0, .ref sa, .ref fi, .int 0, .ref ch, .ref cn, .int 0, .int 0, .ref kp, .int 0, .ref rfa]))]) (hK : va_K D vwCl [] s) (hS : va_S A s.heap H locs) {ls : Array Slot} (hl : lv_has ls 4 [(3, .int 0), (2, .ref m0), (1, .ref h0), (0, .ref b)]) : W p l e room_1 s m #[Value.ref b] below meth c H locs 123 1521 (lw_Z below #[Value.ref b] s) (F0 m 1053 ls []) := by
  obtain ⟨hx, hb, hr, hml, hown, hts, hX, hbl, hlocks, hgv⟩ := id C0
  have hbA : ¬ A b := fun h => absurd (hAf b h) (Nat.not_le.mpr hbl)
  refine lv_aload_n hx hb dL_law_1053 rfl (lv_at hl 2 rfl) ?_
  refine lv_aload_n hx hb dL_law_1054 rfl (lv_at hl 3 rfl) ?_
  refine lv_iload_n hx hb dL_law_1055 rfl (lv_at hl 0 rfl) ?_
  refine lv_iconst (v := 1) hx hb dL_law_1056 (by decide) ?_
  refine lv_iadd hx hb dL_law_1057 ?_
  refine kn_i 1 (by decide) ?_
  refine va_sld hx hb hX hbl hbA hS (by unfold vp_in; decide) dL_law_1058 ?_
  refine kn_i (xs 1) rfl ?_
  refine lv_aload_n hx hb dL_law_1059 rfl (lv_at hl 3 rfl) ?_
  refine lv_iload_n hx hb dL_law_1060 rfl (lv_at hl 0 rfl) ?_
  refine lv_iconst (v := 2) hx hb dL_law_1061 (by decide) ?_
  refine lv_iadd hx hb dL_law_1062 ?_
  refine kn_i 2 (by decide) ?_
  refine va_sld hx hb hX hbl hbA hS (by unfold vp_in; decide) dL_law_1063 ?_
  refine kn_i (xs 2) rfl ?_
  have hFc := va_free (wc := [(h0, .inr (8, [.ref sh, .ref rd, .ref fr, .ref wr, .ref pf, .ref rc, .ref se, .ref rs, .ref sw, .ref sp, .ref ss, .int 0, .long 0, .int 0, .int 0])), (fr, .inr (0, [.ref k1, .ref k2, .ref k3, .int 0]))]) hD hS hA [0, 1] rfl
  refine va_calli (va_runV (As := [.int (xs 1), .int (xs 2)]) (rest := []) ⟨hx, hb, hml, hown, hts⟩ (c_X8_as l D H.size (f := (xs 1)) (w := (xs 2)) (h0 := h0) (sh := sh) (rd := rd) (fr := fr) (wr := wr) (pf := pf) (rc := rc) (se := se) (rs := rs) (sw := sw) (sp := sp) (ss := ss) (ew := 0) (wc := 0) (tr := 0) (lf := 0) (k1 := k1) (k2 := k2) (k3 := k3)) (cwV 2 hts (goodL gL_law_X8_as) rfl rfl rfl (by decide +kernel) ⟨Nat.le_of_ble_eq_true rfl, Nat.le_of_ble_eq_true rfl⟩) (kPreV hP (kD0 hD) hK hN [0, 1] [] rfl rfl (by decide) 0 8 rfl rfl) rfl rfl hl.1 rfl (lv_room (Nat.le_of_ble_eq_true rfl)) dL_law_1064 ⟨Nat.le_of_ble_eq_true rfl, Nat.le_of_ble_eq_true rfl⟩) hS (fun q _ h => hFc q h) hFc (fun r_1 u t H1 locs ht hvm hw hB hz1 hk1 hS => ?_)
  obtain ⟨hP, hD⟩ := va_join (wr := [(m0, .inr (9, [.int 0, .int 0, .ref so, .ref sl, .ref ce, .int 0, .ref kd, .ref wd, .ref hs, .ref pr, .ref la, .int 0, .ref wg, .int 0, .long 0, .int 0, .int 0, .ref rk, .ref rw, .ref rh, .int 0, .ref sa, .ref fi, .int 0, .ref ch, .ref cn, .int 0, .int 0, .ref kp, .int 0, .ref rfa]))]) (w1 := []) hP hD [0, 1] [2] rfl rfl (by decide) (by decide) hk1 hFc kP0 kDn
  generalize H1 = H at hP hS ⊢
  have hP : va_P D vwCl [(m0, .inr (9, [.int 0, .int 0, .ref so, .ref sl, .ref ce, .int 0, .ref kd, .ref wd, .ref hs, .ref pr, .ref la, .int 0, .ref wg, .int 0, .long 0, .int 0, .int 0, .ref rk, .ref rw, .ref rh, .int 0, .ref sa, .ref fi, .int 0, .ref ch, .ref cn, .int 0, .int 0, .ref kp, .int 0, .ref rfa]))] H := hP
  have hD : va_D A [(m0, .inr (9, [.int 0, .int 0, .ref so, .ref sl, .ref ce, .int 0, .ref kd, .ref wd, .ref hs, .ref pr, .ref la, .int 0, .ref wg, .int 0, .long 0, .int 0, .int 0, .ref rk, .ref rw, .ref rh, .int 0, .ref sa, .ref fi, .int 0, .ref ch, .ref cn, .int 0, .int 0, .ref kp, .int 0, .ref rfa]))] := hD
  refine kn_i (-1) hw ?_
  refine lv_aload_n hx hb dL_law_1067 rfl (lv_at hl 1 rfl) ?_
  refine lv_aload_n hx hb dL_law_1068 rfl (lv_at hl 3 rfl) ?_
  refine lv_iload_n hx hb dL_law_1069 rfl (lv_at hl 0 rfl) ?_
  refine lv_iconst (v := 1) hx hb dL_law_1070 (by decide) ?_
  refine lv_iadd hx hb dL_law_1071 ?_
  refine kn_i 1 (by decide) ?_
  refine va_sld hx hb hX hbl hbA hS (by unfold vp_in; decide) dL_law_1072 ?_
  refine kn_i (xs 1) rfl ?_
  refine lv_aload_n hx hb dL_law_1073 rfl (lv_at hl 3 rfl) ?_
  refine lv_iload_n hx hb dL_law_1074 rfl (lv_at hl 0 rfl) ?_
  refine lv_iconst (v := 2) hx hb dL_law_1075 (by decide) ?_
  refine lv_iadd hx hb dL_law_1076 ?_
  refine kn_i 2 (by decide) ?_
  refine va_sld hx hb hX hbl hbA hS (by unfold vp_in; decide) dL_law_1077 ?_
  refine kn_i (xs 2) rfl ?_
  have hFc := va_free (wc := [(m0, .inr (9, [.int 0, .int 0, .ref so, .ref sl, .ref ce, .int 0, .ref kd, .ref wd, .ref hs, .ref pr, .ref la, .int 0, .ref wg, .int 0, .long 0, .int 0, .int 0, .ref rk, .ref rw, .ref rh, .int 0, .ref sa, .ref fi, .int 0, .ref ch, .ref cn, .int 0, .int 0, .ref kp, .int 0, .ref rfa]))]) hD hS hA [0] rfl
  refine va_calli (va_runV (As := [.int (xs 1), .int (xs 2)]) (rest := [.int (-1)]) ⟨hx, hb, hml, hown, hts⟩ (c_X9_as l D H.size (f := (xs 1)) (w := (xs 2)) (h0 := m0) (fa := 0) (tc := 0) (so := so) (sl := sl) (ce := ce) (kd := kd) (wd := wd) (hs := hs) (pr := pr) (la := la) (wg := wg) (ta := 0) (ck := 0) (at9 := 0) (rfn := 0) (rk := rk) (rw := rw) (rh := rh) (cl := 0) (sa := sa) (fi := fi) (bo := 0) (ch := ch) (cn := cn) (ad := 0) (ru := 0) (kp := kp) (rfa := rfa)) (cwV 2 hts (goodL gL_law_X9_as) rfl rfl rfl (by decide +kernel) ⟨Nat.le_of_ble_eq_true rfl, Nat.le_of_ble_eq_true rfl⟩) (kPreV hP (kD0 hD) hK hN [0] [] rfl rfl (by decide) 0 9 rfl rfl) rfl rfl hl.1 rfl (lv_room (Nat.le_of_ble_eq_true rfl)) dL_law_1078 ⟨Nat.le_of_ble_eq_true rfl, Nat.le_of_ble_eq_true rfl⟩) hS (fun q _ h => hFc q h) hFc (fun r_2 u t H1 locs ht hvm hw hB hz1 hk1 hS => ?_)
  obtain ⟨hP, hD⟩ := va_join (wr := []) (w1 := []) hP hD [0] [] rfl rfl (by decide) (by decide) hk1 hFc kP0 kDn
  generalize H1 = H at hP hS ⊢
  have hP : va_P D vwCl [] H := hP
  have hD : va_D A [] := hD
  refine kn_i (-1) hw ?_
  refine lv_icmp_eq (tgt := 1135) hx hb dL_law_1081 (by decide) (fun _ => ?_) (fun c9 => absurd (by decide) c9)
  exact law_end l C0 hAf hS (Nat.le_of_ble_eq_true rfl) (Nat.le_of_ble_eq_true rfl) (lv_sub hl [0, 3] rfl)
theorem dL_law_1086 : decode cL_law 1086 = .ok (.aload_n 1, 1) := by decide +kernel
theorem dL_law_1087 : decode cL_law 1087 = .ok (.invokevirtual 138, 3) := by decide +kernel
theorem dL_law_1090 : decode cL_law 1090 = .ok (.aload_n 2, 1) := by decide +kernel
theorem dL_law_1091 : decode cL_law 1091 = .ok (.invokevirtual 141, 3) := by decide +kernel
theorem dL_law_1094 : decode cL_law 1094 = .ok (.if_icmp .eq 41, 3) := by decide +kernel
set_option maxRecDepth 20000 in
theorem ggL_law_X8_trace : GoodIn wsL_law wsX8_trace := goodIn_r _ [800, 763, 821, 822, 823, 824, 825, 826, 827, 828, 829, 830, 831, 832, 833, 834, 835] (by decide +kernel) (by decide +kernel)
set_option maxRecDepth 20000 in
theorem gL_law_X8_trace : GoodIn wsL_law (wsV RL 138 RX8 yX8_trace wsX8_trace) := goodIn_app (goodIn_of _ (by decide +kernel)) ggL_law_X8_trace
set_option maxRecDepth 20000 in
theorem ggL_law_X9_trace : GoodIn wsL_law wsX9_trace := goodIn_r _ [804, 780, 836, 837, 838, 839, 840, 841, 842, 843, 844, 845, 846, 847, 848, 849, 850, 851, 852, 853, 854, 855, 856, 857, 858, 859, 860, 861, 862, 863, 864, 865, 866] (by decide +kernel) (by decide +kernel)
set_option maxRecDepth 20000 in
theorem gL_law_X9_trace : GoodIn wsL_law (wsV RL 141 RX9 yX9_trace wsX9_trace) := goodIn_app (goodIn_of _ (by decide +kernel)) ggL_law_X9_trace
set_option maxHeartbeats 4000000 in
set_option maxRecDepth 100000 in
theorem law_trace {p : Program} {e : Env} {s : State} {m : MethodId} {below : List Frame} {meth : Method} {c : Code} (l : Launch) {b : Nat} {xs : Nat → Int32} {A : Nat → Prop} (C0 : lw_At p s m meth c b 6 xs) (hA : ∀ q, s.heap.size ≤ q → A q) (hAf : ∀ q, A q → s.heap.size ≤ q) (hN : kN s) (D : va_G) (h0 m0 : Nat) (sh : Nat) (rd : Nat) (fr : Nat) (wr : Nat) (pf : Nat) (rc : Nat) (se : Nat) (rs : Nat) (sw : Nat) (sp : Nat) (ss : Nat) (so : Nat) (sl : Nat) (ce : Nat) (kd : Nat) (wd : Nat) (hs : Nat) (pr : Nat) (la : Nat) (wg : Nat) (rk : Nat) (rw : Nat) (rh : Nat) (sa : Nat) (fi : Nat) (ch : Nat) (cn : Nat) (kp : Nat) (rfa : Nat) {H : Heap} {locs : List Loc} (hP : va_P D vwCl [(h0, .inr (8, [.ref sh, .ref rd, .ref fr, .ref wr, .ref pf, .ref rc, .ref se, .ref rs, .ref sw, .ref sp, .ref ss, .int 0, .long 0, .int 0, .int 0])), (m0, .inr (9, [.int 0, .int 0, .ref so, .ref sl, .ref ce, .int 0, .ref kd, .ref wd, .ref hs, .ref pr, .ref la, .int 0, .ref wg, .int 0, .long 0, .int 0, .int 0, .ref rk, .ref rw, .ref rh, .int 0, .ref sa, .ref fi, .int 0, .ref ch, .ref cn, .int 0, .int 0, .ref kp, .int 0, .ref rfa]))] H) (hD : va_D A [(h0, .inr (8, [.ref sh, .ref rd, .ref fr, .ref wr, .ref pf, .ref rc, .ref se, .ref rs, .ref sw, .ref sp, .ref ss, .int 0, .long 0, .int 0, .int 0])), (m0, .inr (9, [.int 0, .int 0, .ref so, .ref sl, .ref ce, .int 0, .ref kd, .ref wd, .ref hs, .ref pr, .ref la, .int 0, .ref wg, .int 0, .long 0, .int 0, .int 0, .ref rk, .ref rw, .ref rh, .int 0, .ref sa, .ref fi, .int 0, .ref ch, .ref cn, .int 0, .int 0, .ref kp, .int 0, .ref rfa]))]) (hK : va_K D vwCl [] s) (hS : va_S A s.heap H locs) {ls : Array Slot} (hl : lv_has ls 4 [(3, .int 0), (2, .ref m0), (1, .ref h0), (0, .ref b)]) : W p l e room_1 s m #[Value.ref b] below meth c H locs 123 1521 (lw_Z below #[Value.ref b] s) (F0 m 1086 ls []) := by
  obtain ⟨hx, hb, hr, hml, hown, hts, hX, hbl, hlocks, hgv⟩ := id C0
  have hbA : ¬ A b := fun h => absurd (hAf b h) (Nat.not_le.mpr hbl)
  refine lv_aload_n hx hb dL_law_1086 rfl (lv_at hl 2 rfl) ?_
  refine k_callR (va_runV (As := []) (rest := []) ⟨hx, hb, hml, hown, hts⟩ (c_X8_trace l D H.size (h0 := h0) (sh := sh) (rd := rd) (fr := fr) (wr := wr) (pf := pf) (rc := rc) (se := se) (rs := rs) (sw := sw) (sp := sp) (ss := ss) (ew := 0) (wc := 0) (tr := 0) (lf := 0)) (cwV 0 hts (goodL gL_law_X8_trace) rfl rfl rfl (by decide +kernel) ⟨Nat.le_of_ble_eq_true rfl, Nat.le_of_ble_eq_true rfl⟩) (kPreV hP (kD0 hD) hK hN [0] [] rfl rfl (by decide) 0 8 rfl rfl) rfl rfl hl.1 rfl (lv_room (Nat.le_of_ble_eq_true rfl)) dL_law_1087 ⟨Nat.le_of_ble_eq_true rfl, Nat.le_of_ble_eq_true rfl⟩) ?_
  refine lv_aload_n hx hb dL_law_1090 rfl (lv_at hl 1 rfl) ?_
  refine k_callR (va_runV (As := []) (rest := [.int 0]) ⟨hx, hb, hml, hown, hts⟩ (c_X9_trace l D H.size (h0 := m0) (fa := 0) (tc := 0) (so := so) (sl := sl) (ce := ce) (kd := kd) (wd := wd) (hs := hs) (pr := pr) (la := la) (wg := wg) (ta := 0) (ck := 0) (at9 := 0) (rfn := 0) (rk := rk) (rw := rw) (rh := rh) (cl := 0) (sa := sa) (fi := fi) (bo := 0) (ch := ch) (cn := cn) (ad := 0) (ru := 0) (kp := kp) (rfa := rfa)) (cwV 0 hts (goodL gL_law_X9_trace) rfl rfl rfl (by decide +kernel) ⟨Nat.le_of_ble_eq_true rfl, Nat.le_of_ble_eq_true rfl⟩) (kPreV hP (kD0 hD) hK hN [1] [] rfl rfl (by decide) 1 9 rfl rfl) rfl rfl hl.1 rfl (lv_room (Nat.le_of_ble_eq_true rfl)) dL_law_1091 ⟨Nat.le_of_ble_eq_true rfl, Nat.le_of_ble_eq_true rfl⟩) ?_
  refine lv_icmp_eq (tgt := 1135) hx hb dL_law_1094 (by decide) (fun _ => ?_) (fun c9 => absurd (by decide) c9)
  exact law_end l C0 hAf hS (Nat.le_of_ble_eq_true rfl) (Nat.le_of_ble_eq_true rfl) (lv_sub hl [0, 3] rfl)
theorem dL_law_1099 : decode cL_law 1099 = .ok (.aload_n 1, 1) := by decide +kernel
theorem dL_law_1100 : decode cL_law 1100 = .ok (.invokevirtual 142, 3) := by decide +kernel
theorem dL_law_1103 : decode cL_law 1103 = .ok (.aload_n 2, 1) := by decide +kernel
theorem dL_law_1104 : decode cL_law 1104 = .ok (.invokevirtual 145, 3) := by decide +kernel
theorem dL_law_1107 : decode cL_law 1107 = .ok (.if_icmp .eq 28, 3) := by decide +kernel
set_option maxRecDepth 20000 in
theorem ggL_law_X8_fault : GoodIn wsL_law wsX8_fault := goodIn_r _ [808, 118, 821, 822, 823, 824, 825, 826, 827, 828, 829, 830, 831, 832, 833, 834, 835] (by decide +kernel) (by decide +kernel)
set_option maxRecDepth 20000 in
theorem gL_law_X8_fault : GoodIn wsL_law (wsV RL 142 RX8 yX8_fault wsX8_fault) := goodIn_app (goodIn_of _ (by decide +kernel)) ggL_law_X8_fault
set_option maxRecDepth 20000 in
theorem ggL_law_X9_fault : GoodIn wsL_law wsX9_fault := goodIn_r _ [812, 266, 836, 837, 838, 839, 840, 841, 842, 843, 844, 845, 846, 847, 848, 849, 850, 851, 852, 853, 854, 855, 856, 857, 858, 859, 860, 861, 862, 863, 864, 865, 866] (by decide +kernel) (by decide +kernel)
set_option maxRecDepth 20000 in
theorem gL_law_X9_fault : GoodIn wsL_law (wsV RL 145 RX9 yX9_fault wsX9_fault) := goodIn_app (goodIn_of _ (by decide +kernel)) ggL_law_X9_fault
set_option maxHeartbeats 4000000 in
set_option maxRecDepth 100000 in
theorem law_fault {p : Program} {e : Env} {s : State} {m : MethodId} {below : List Frame} {meth : Method} {c : Code} (l : Launch) {b : Nat} {xs : Nat → Int32} {A : Nat → Prop} (C0 : lw_At p s m meth c b 6 xs) (hA : ∀ q, s.heap.size ≤ q → A q) (hAf : ∀ q, A q → s.heap.size ≤ q) (hN : kN s) (D : va_G) (h0 m0 : Nat) (sh : Nat) (rd : Nat) (fr : Nat) (wr : Nat) (pf : Nat) (rc : Nat) (se : Nat) (rs : Nat) (sw : Nat) (sp : Nat) (ss : Nat) (so : Nat) (sl : Nat) (ce : Nat) (kd : Nat) (wd : Nat) (hs : Nat) (pr : Nat) (la : Nat) (wg : Nat) (rk : Nat) (rw : Nat) (rh : Nat) (sa : Nat) (fi : Nat) (ch : Nat) (cn : Nat) (kp : Nat) (rfa : Nat) {H : Heap} {locs : List Loc} (hP : va_P D vwCl [(h0, .inr (8, [.ref sh, .ref rd, .ref fr, .ref wr, .ref pf, .ref rc, .ref se, .ref rs, .ref sw, .ref sp, .ref ss, .int 0, .long 0, .int 0, .int 0])), (m0, .inr (9, [.int 0, .int 0, .ref so, .ref sl, .ref ce, .int 0, .ref kd, .ref wd, .ref hs, .ref pr, .ref la, .int 0, .ref wg, .int 0, .long 0, .int 0, .int 0, .ref rk, .ref rw, .ref rh, .int 0, .ref sa, .ref fi, .int 0, .ref ch, .ref cn, .int 0, .int 0, .ref kp, .int 0, .ref rfa]))] H) (hD : va_D A [(h0, .inr (8, [.ref sh, .ref rd, .ref fr, .ref wr, .ref pf, .ref rc, .ref se, .ref rs, .ref sw, .ref sp, .ref ss, .int 0, .long 0, .int 0, .int 0])), (m0, .inr (9, [.int 0, .int 0, .ref so, .ref sl, .ref ce, .int 0, .ref kd, .ref wd, .ref hs, .ref pr, .ref la, .int 0, .ref wg, .int 0, .long 0, .int 0, .int 0, .ref rk, .ref rw, .ref rh, .int 0, .ref sa, .ref fi, .int 0, .ref ch, .ref cn, .int 0, .int 0, .ref kp, .int 0, .ref rfa]))]) (hK : va_K D vwCl [] s) (hS : va_S A s.heap H locs) {ls : Array Slot} (hl : lv_has ls 4 [(3, .int 0), (2, .ref m0), (1, .ref h0), (0, .ref b)]) : W p l e room_1 s m #[Value.ref b] below meth c H locs 123 1521 (lw_Z below #[Value.ref b] s) (F0 m 1099 ls []) := by
  obtain ⟨hx, hb, hr, hml, hown, hts, hX, hbl, hlocks, hgv⟩ := id C0
  have hbA : ¬ A b := fun h => absurd (hAf b h) (Nat.not_le.mpr hbl)
  refine lv_aload_n hx hb dL_law_1099 rfl (lv_at hl 2 rfl) ?_
  refine k_callR (va_runV (As := []) (rest := []) ⟨hx, hb, hml, hown, hts⟩ (c_X8_fault l D H.size (h0 := h0) (sh := sh) (rd := rd) (fr := fr) (wr := wr) (pf := pf) (rc := rc) (se := se) (rs := rs) (sw := sw) (sp := sp) (ss := ss) (ew := 0) (wc := 0) (tr := 0) (lf := 0)) (cwV 0 hts (goodL gL_law_X8_fault) rfl rfl rfl (by decide +kernel) ⟨Nat.le_of_ble_eq_true rfl, Nat.le_of_ble_eq_true rfl⟩) (kPreV hP (kD0 hD) hK hN [0] [] rfl rfl (by decide) 0 8 rfl rfl) rfl rfl hl.1 rfl (lv_room (Nat.le_of_ble_eq_true rfl)) dL_law_1100 ⟨Nat.le_of_ble_eq_true rfl, Nat.le_of_ble_eq_true rfl⟩) ?_
  refine lv_aload_n hx hb dL_law_1103 rfl (lv_at hl 1 rfl) ?_
  refine k_callR (va_runV (As := []) (rest := [.int 0]) ⟨hx, hb, hml, hown, hts⟩ (c_X9_fault l D H.size (h0 := m0) (fa := 0) (tc := 0) (so := so) (sl := sl) (ce := ce) (kd := kd) (wd := wd) (hs := hs) (pr := pr) (la := la) (wg := wg) (ta := 0) (ck := 0) (at9 := 0) (rfn := 0) (rk := rk) (rw := rw) (rh := rh) (cl := 0) (sa := sa) (fi := fi) (bo := 0) (ch := ch) (cn := cn) (ad := 0) (ru := 0) (kp := kp) (rfa := rfa)) (cwV 0 hts (goodL gL_law_X9_fault) rfl rfl rfl (by decide +kernel) ⟨Nat.le_of_ble_eq_true rfl, Nat.le_of_ble_eq_true rfl⟩) (kPreV hP (kD0 hD) hK hN [1] [] rfl rfl (by decide) 1 9 rfl rfl) rfl rfl hl.1 rfl (lv_room (Nat.le_of_ble_eq_true rfl)) dL_law_1104 ⟨Nat.le_of_ble_eq_true rfl, Nat.le_of_ble_eq_true rfl⟩) ?_
  refine lv_icmp_eq (tgt := 1135) hx hb dL_law_1107 (by decide) (fun _ => ?_) (fun c9 => absurd (by decide) c9)
  exact law_end l C0 hAf hS (Nat.le_of_ble_eq_true rfl) (Nat.le_of_ble_eq_true rfl) (lv_sub hl [0, 3] rfl)
theorem dL_law_1112 : decode cL_law 1112 = .ok (.aload_n 1, 1) := by decide +kernel
theorem dL_law_1113 : decode cL_law 1113 = .ok (.aload_n 0, 1) := by decide +kernel
theorem dL_law_1114 : decode cL_law 1114 = .ok (.iload_n 3, 1) := by decide +kernel
theorem dL_law_1115 : decode cL_law 1115 = .ok (.iconst 1, 1) := by decide +kernel
theorem dL_law_1116 : decode cL_law 1116 = .ok (.iadd, 1) := by decide +kernel
theorem dL_law_1117 : decode cL_law 1117 = .ok (.iaload, 1) := by decide +kernel
theorem dL_law_1118 : decode cL_law 1118 = .ok (.invokevirtual 146, 3) := by decide +kernel
theorem dL_law_1121 : decode cL_law 1121 = .ok (.aload_n 2, 1) := by decide +kernel
theorem dL_law_1122 : decode cL_law 1122 = .ok (.aload_n 0, 1) := by decide +kernel
theorem dL_law_1123 : decode cL_law 1123 = .ok (.iload_n 3, 1) := by decide +kernel
theorem dL_law_1124 : decode cL_law 1124 = .ok (.iconst 1, 1) := by decide +kernel
theorem dL_law_1125 : decode cL_law 1125 = .ok (.iadd, 1) := by decide +kernel
theorem dL_law_1126 : decode cL_law 1126 = .ok (.iaload, 1) := by decide +kernel
theorem dL_law_1127 : decode cL_law 1127 = .ok (.invokevirtual 149, 3) := by decide +kernel
theorem dL_law_1130 : decode cL_law 1130 = .ok (.if_icmp .eq 5, 3) := by decide +kernel
set_option maxRecDepth 20000 in
theorem ggL_law_X8_many : GoodIn wsL_law wsX8_many := goodIn_r _ [816, 23, 119, 27, 202, 39, 548, 43, 204, 821, 822, 823, 824, 825, 826, 827, 828, 829, 830, 831, 832, 833, 834, 835, 873, 874, 875, 876, 877, 878, 883, 884, 885, 886, 887, 888, 889, 890, 891, 892, 893, 894, 895] (by decide +kernel) (by decide +kernel)
set_option maxRecDepth 20000 in
theorem gL_law_X8_many : GoodIn wsL_law (wsV RL 146 RX8 yX8_many wsX8_many) := goodIn_app (goodIn_of _ (by decide +kernel)) ggL_law_X8_many
set_option maxRecDepth 20000 in
theorem ggL_law_X9_many : GoodIn wsL_law wsX9_many := goodIn_r _ [820, 269, 270, 418, 271, 429, 430, 431, 5, 432, 433, 104, 108, 109, 101, 836, 837, 838, 839, 840, 841, 842, 843, 844, 845, 846, 847, 848, 849, 850, 851, 852, 853, 854, 855, 856, 857, 858, 859, 860, 861, 862, 863, 864, 865, 866] (by decide +kernel) (by decide +kernel)
set_option maxRecDepth 20000 in
theorem gL_law_X9_many : GoodIn wsL_law (wsV RL 149 RX9 yX9_many wsX9_many) := goodIn_app (goodIn_of _ (by decide +kernel)) ggL_law_X9_many
set_option maxHeartbeats 4000000 in
set_option maxRecDepth 100000 in
theorem law_many {p : Program} {e : Env} {s : State} {m : MethodId} {below : List Frame} {meth : Method} {c : Code} (l : Launch) {b : Nat} {xs : Nat → Int32} {A : Nat → Prop} (C0 : lw_At p s m meth c b 6 xs) (hA : ∀ q, s.heap.size ≤ q → A q) (hAf : ∀ q, A q → s.heap.size ≤ q) (hN : kN s) (D : va_G) (h0 m0 : Nat) (sh : Nat) (rd : Nat) (fr : Nat) (wr : Nat) (pf : Nat) (rc : Nat) (se : Nat) (rs : Nat) (sw : Nat) (sp : Nat) (ss : Nat) (k1 : Nat) (k2 : Nat) (k3 : Nat) (w1 : Nat) (g1 : Nat) (g2 : Nat) (g3 : Nat) (g4 : Nat) (g5 : Nat) (g6 : Nat) (g7 : Nat) (z1 : Nat) (z2 : Nat) (so : Nat) (sl : Nat) (ce : Nat) (kd : Nat) (wd : Nat) (hs : Nat) (pr : Nat) (la : Nat) (wg : Nat) (rk : Nat) (rw : Nat) (rh : Nat) (sa : Nat) (fi : Nat) (ch : Nat) (cn : Nat) (kp : Nat) (rfa : Nat) (csa : ClassId) {H : Heap} {locs : List Loc} (hP : va_P D vwCl [(h0, .inr (8, [.ref sh, .ref rd, .ref fr, .ref wr, .ref pf, .ref rc, .ref se, .ref rs, .ref sw, .ref sp, .ref ss, .int 0, .long 0, .int 0, .int 0])), (fr, .inr (0, [.ref k1, .ref k2, .ref k3, .int 0])), (wr, .inr (7, [.ref w1, .int 0])), (se, .inr (4, [.ref g1, .ref g2, .ref g3, .ref g4, .ref g5, .int 0, .int 0, .int 0, .ref g6, .ref g7])), (rs, .inr (2, [.int 0, .ref z1, .ref z2])), (m0, .inr (9, [.int 0, .int 0, .ref so, .ref sl, .ref ce, .int 0, .ref kd, .ref wd, .ref hs, .ref pr, .ref la, .int 0, .ref wg, .int 0, .long 0, .int 0, .int 0, .ref rk, .ref rw, .ref rh, .int 0, .ref sa, .ref fi, .int 0, .ref ch, .ref cn, .int 0, .int 0, .ref kp, .int 0, .ref rfa])), (sa, .inl (csa, 25, .inl (fun _ => 0)))] H) (hD : va_D A [(h0, .inr (8, [.ref sh, .ref rd, .ref fr, .ref wr, .ref pf, .ref rc, .ref se, .ref rs, .ref sw, .ref sp, .ref ss, .int 0, .long 0, .int 0, .int 0])), (fr, .inr (0, [.ref k1, .ref k2, .ref k3, .int 0])), (wr, .inr (7, [.ref w1, .int 0])), (se, .inr (4, [.ref g1, .ref g2, .ref g3, .ref g4, .ref g5, .int 0, .int 0, .int 0, .ref g6, .ref g7])), (rs, .inr (2, [.int 0, .ref z1, .ref z2])), (m0, .inr (9, [.int 0, .int 0, .ref so, .ref sl, .ref ce, .int 0, .ref kd, .ref wd, .ref hs, .ref pr, .ref la, .int 0, .ref wg, .int 0, .long 0, .int 0, .int 0, .ref rk, .ref rw, .ref rh, .int 0, .ref sa, .ref fi, .int 0, .ref ch, .ref cn, .int 0, .int 0, .ref kp, .int 0, .ref rfa])), (sa, .inl (csa, 25, .inl (fun _ => 0)))]) (hK : va_K D vwCl [(csa, .int)] s) (hS : va_S A s.heap H locs) {ls : Array Slot} (hl : lv_has ls 4 [(3, .int 0), (2, .ref m0), (1, .ref h0), (0, .ref b)]) : W p l e room_1 s m #[Value.ref b] below meth c H locs 123 1521 (lw_Z below #[Value.ref b] s) (F0 m 1112 ls []) := by
  obtain ⟨hx, hb, hr, hml, hown, hts, hX, hbl, hlocks, hgv⟩ := id C0
  have hbA : ¬ A b := fun h => absurd (hAf b h) (Nat.not_le.mpr hbl)
  refine lv_aload_n hx hb dL_law_1112 rfl (lv_at hl 2 rfl) ?_
  refine lv_aload_n hx hb dL_law_1113 rfl (lv_at hl 3 rfl) ?_
  refine lv_iload_n hx hb dL_law_1114 rfl (lv_at hl 0 rfl) ?_
  refine lv_iconst (v := 1) hx hb dL_law_1115 (by decide) ?_
  refine lv_iadd hx hb dL_law_1116 ?_
  refine kn_i 1 (by decide) ?_
  refine va_sld hx hb hX hbl hbA hS (by unfold vp_in; decide) dL_law_1117 ?_
  refine kn_i (xs 1) rfl ?_
  refine k_callR (va_runV (As := [.int (xs 1)]) (rest := []) ⟨hx, hb, hml, hown, hts⟩ (c_X8_many l D H.size (k := (xs 1)) (h0 := h0) (sh := sh) (rd := rd) (fr := fr) (wr := wr) (pf := pf) (rc := rc) (se := se) (rs := rs) (sw := sw) (sp := sp) (ss := ss) (ew := 0) (wc := 0) (tr := 0) (lf := 0) (k1 := k1) (k2 := k2) (k3 := k3) (w1 := w1) (g1 := g1) (g2 := g2) (g3 := g3) (g4 := g4) (g5 := g5) (g6 := g6) (g7 := g7) (z1 := z1) (z2 := z2)) (cwV 1 hts (goodL gL_law_X8_many) rfl rfl rfl (by decide +kernel) ⟨Nat.le_of_ble_eq_true rfl, Nat.le_of_ble_eq_true rfl⟩) (kPreV hP (kD0 hD) hK hN [0, 1, 2, 3, 4] [] rfl rfl (by decide) 0 8 rfl rfl) rfl rfl hl.1 rfl (lv_room (Nat.le_of_ble_eq_true rfl)) dL_law_1118 ⟨Nat.le_of_ble_eq_true rfl, Nat.le_of_ble_eq_true rfl⟩) ?_
  refine lv_aload_n hx hb dL_law_1121 rfl (lv_at hl 1 rfl) ?_
  refine lv_aload_n hx hb dL_law_1122 rfl (lv_at hl 3 rfl) ?_
  refine lv_iload_n hx hb dL_law_1123 rfl (lv_at hl 0 rfl) ?_
  refine lv_iconst (v := 1) hx hb dL_law_1124 (by decide) ?_
  refine lv_iadd hx hb dL_law_1125 ?_
  refine kn_i 1 (by decide) ?_
  refine va_sld hx hb hX hbl hbA hS (by unfold vp_in; decide) dL_law_1126 ?_
  refine kn_i (xs 1) rfl ?_
  have hFc := va_free (wc := [(m0, .inr (9, [.int 0, .int 0, .ref so, .ref sl, .ref ce, .int 0, .ref kd, .ref wd, .ref hs, .ref pr, .ref la, .int 0, .ref wg, .int 0, .long 0, .int 0, .int 0, .ref rk, .ref rw, .ref rh, .int 0, .ref sa, .ref fi, .int 0, .ref ch, .ref cn, .int 0, .int 0, .ref kp, .int 0, .ref rfa])), (sa, .inl (csa, 25, .inl (fun _ => 0)))]) hD hS hA [5, 6] rfl
  refine va_calli (va_runV (As := [.int (xs 1)]) (rest := [.int (sp_many (xs 1))]) ⟨hx, hb, hml, hown, hts⟩ (c_X9_many l D H.size (k := (xs 1)) (h0 := m0) (fa := 0) (tc := 0) (so := so) (sl := sl) (ce := ce) (kd := kd) (wd := wd) (hs := hs) (pr := pr) (la := la) (wg := wg) (ta := 0) (ck := 0) (at9 := 0) (rfn := 0) (rk := rk) (rw := rw) (rh := rh) (cl := 0) (sa := sa) (fi := fi) (bo := 0) (ch := ch) (cn := cn) (ad := 0) (ru := 0) (kp := kp) (rfa := rfa) (csa := csa) (fsa := (fun _ => 0))) (cwV 1 hts (goodL gL_law_X9_many) rfl rfl rfl (by decide +kernel) ⟨Nat.le_of_ble_eq_true rfl, Nat.le_of_ble_eq_true rfl⟩) (kPreV hP (kD0 hD) hK hN [5, 6] [0] rfl rfl (by decide) 5 9 rfl rfl) rfl rfl hl.1 rfl (lv_room (Nat.le_of_ble_eq_true rfl)) dL_law_1127 ⟨Nat.le_of_ble_eq_true rfl, Nat.le_of_ble_eq_true rfl⟩) hS (fun q _ h => hFc q h) hFc (fun r_1 u t H1 locs ht hvm hw hB hz1 hk1 hS => ?_)
  obtain ⟨hP, hD⟩ := va_join (wr := [(h0, .inr (8, [.ref sh, .ref rd, .ref fr, .ref wr, .ref pf, .ref rc, .ref se, .ref rs, .ref sw, .ref sp, .ref ss, .int 0, .long 0, .int 0, .int 0])), (fr, .inr (0, [.ref k1, .ref k2, .ref k3, .int 0])), (wr, .inr (7, [.ref w1, .int 0])), (se, .inr (4, [.ref g1, .ref g2, .ref g3, .ref g4, .ref g5, .int 0, .int 0, .int 0, .ref g6, .ref g7])), (rs, .inr (2, [.int 0, .ref z1, .ref z2]))]) (w1 := []) hP hD [5, 6] [0, 1, 2, 3, 4] rfl rfl (by decide) (by decide) hk1 hFc kP0 kDn
  generalize H1 = H at hP hS ⊢
  have hP : va_P D vwCl [(h0, .inr (8, [.ref sh, .ref rd, .ref fr, .ref wr, .ref pf, .ref rc, .ref se, .ref rs, .ref sw, .ref sp, .ref ss, .int 0, .long 0, .int 0, .int 0])), (fr, .inr (0, [.ref k1, .ref k2, .ref k3, .int 0])), (wr, .inr (7, [.ref w1, .int 0])), (se, .inr (4, [.ref g1, .ref g2, .ref g3, .ref g4, .ref g5, .int 0, .int 0, .int 0, .ref g6, .ref g7])), (rs, .inr (2, [.int 0, .ref z1, .ref z2]))] H := hP
  have hD : va_D A [(h0, .inr (8, [.ref sh, .ref rd, .ref fr, .ref wr, .ref pf, .ref rc, .ref se, .ref rs, .ref sw, .ref sp, .ref ss, .int 0, .long 0, .int 0, .int 0])), (fr, .inr (0, [.ref k1, .ref k2, .ref k3, .int 0])), (wr, .inr (7, [.ref w1, .int 0])), (se, .inr (4, [.ref g1, .ref g2, .ref g3, .ref g4, .ref g5, .int 0, .int 0, .int 0, .ref g6, .ref g7])), (rs, .inr (2, [.int 0, .ref z1, .ref z2]))] := hD
  refine kn_i (sp_many (xs 1)) hw ?_
  refine lv_icmp_eq (tgt := 1135) hx hb dL_law_1130 (by decide) (fun _ => ?_) (fun c9 => absurd rfl c9)
  exact law_end l C0 hAf hS (Nat.le_of_ble_eq_true rfl) (Nat.le_of_ble_eq_true rfl) (lv_sub hl [0, 3] rfl)
