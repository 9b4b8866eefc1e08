theorem k32 {j : Nat} (h : j < 32) : j = 0 ∨ j = 1 ∨ j = 2 ∨ j = 3 ∨ j = 4 ∨ j = 5 ∨ j = 6 ∨ j = 7 ∨ j = 8 ∨ j = 9 ∨ j = 10 ∨ j = 11 ∨ j = 12 ∨ j = 13 ∨ j = 14 ∨ j = 15 ∨ j = 16 ∨ j = 17 ∨ j = 18 ∨ j = 19 ∨ j = 20 ∨ j = 21 ∨ j = 22 ∨ j = 23 ∨ j = 24 ∨ j = 25 ∨ j = 26 ∨ j = 27 ∨ j = 28 ∨ j = 29 ∨ j = 30 ∨ j = 31 := by omega
theorem dL_law_18 : decode cL_law 18 = .ok (.iload_n 3, 1) := by decide +kernel
theorem dL_law_19 : decode cL_law 19 = .ok (.aload_n 0, 1) := by decide +kernel
theorem dL_law_20 : decode cL_law 20 = .ok (.arraylength, 1) := by decide +kernel
theorem dL_law_21 : decode cL_law 21 = .ok (.bipush 6, 2) := by decide +kernel
theorem dL_law_23 : decode cL_law 23 = .ok (.isub, 1) := by decide +kernel
theorem dL_law_24 : decode cL_law 24 = .ok (.if_icmp .gt 1114, 3) := by decide +kernel
theorem dL_law_27 : decode cL_law 27 = .ok (.aload_n 0, 1) := by decide +kernel
theorem dL_law_28 : decode cL_law 28 = .ok (.iload_n 3, 1) := by decide +kernel
theorem dL_law_29 : decode cL_law 29 = .ok (.iaload, 1) := by decide +kernel
theorem dL_law_30 : decode cL_law 30 = .ok (.bipush 31, 2) := by decide +kernel
theorem dL_law_32 : decode cL_law 32 = .ok (.iand, 1) := by decide +kernel
theorem dL_law_33 : decode cL_law 33 = .ok (.tableswitch 1099 0 31 #[143, 196, 229, 262, 315, 338, 361, 394, 427, 450, 473, 486, 499, 562, 585, 608, 631, 654, 677, 700, 723, 756, 799, 822, 865, 908, 971, 994, 1017, 1050, 1063, 1076], 143) := by decide +kernel
theorem dL_law_1132 : decode cL_law 1132 = .ok (.iinc 3 6, 3) := by decide +kernel
theorem dL_law_1135 : decode cL_law 1135 = .ok (.goto (-1117), 3) := by decide +kernel
theorem dL_law_1138 : decode cL_law 1138 = .ok (.iconst 1, 1) := by decide +kernel
theorem dL_law_1139 : decode cL_law 1139 = .ok (.ireturn, 1) := by decide +kernel
set_option maxHeartbeats 4000000 in
set_option maxRecDepth 100000 in
theorem law_loop {p : Program} {e : Env} {s : State} {m : MethodId} {below : List Frame} {meth : Method} {c : Code} (l : Launch) {b L : Nat} {xs : Nat → Int32} {A : Nat → Prop} (C0 : lw_At p s m meth c b L xs) (hL : L ≤ 3072) (hA : ∀ q, s.heap.size ≤ q → A q) (hAf : ∀ q, A q → s.heap.size ≤ q) (hN : kN s) (D : va_G) (h0 : Nat) (sh : Nat) (rd : Nat) (fr : Nat) (wr : Nat) (pf : Nat) (rc : Nat) (se : Nat) (rs : Nat) (sw : Nat) (sp : Nat) (ss : Nat) (cS : ClassId) (s0 : Nat) (s1 : Nat) (s2 : Nat) (s3 : Nat) (e0 : Nat) (e1 : Nat) (e2 : Nat) (e3 : Nat) (ce0 : ClassId) (ce1 : ClassId) (ce2 : ClassId) (ce3 : ClassId) (td : Nat) (t1_ : Nat) (t2_ : Nat) (t3_ : Nat) (ct1 : ClassId) (ct2 : ClassId) (ct3 : ClassId) (k1 : Nat) (k2 : Nat) (k3 : Nat) (ck1 : ClassId) (ck2 : ClassId) (ck3 : ClassId) (w1 : Nat) (cw1 : ClassId) (p1 : Nat) (cp1 : ClassId) (y1 : Nat) (cy1 : ClassId) (g1 : Nat) (g2 : Nat) (g3 : Nat) (g4 : Nat) (g5 : Nat) (g6 : Nat) (g7 : Nat) (cg1 : ClassId) (cg2 : ClassId) (cg3 : ClassId) (cg4 : ClassId) (cg5 : ClassId) (cg6 : ClassId) (cg7 : ClassId) (fo : Nat → Option Nat) (o : Nat) (v1 : Nat) (v2 : Nat) (cv1 : ClassId) (cv2 : ClassId) (fq : Nat → Option Nat) (o2 : Nat) (sw1 : Nat) (csw1 : ClassId) (sp1 : Nat) (csp1 : ClassId) (sg1 : Nat) (sg2 : Nat) (sg3 : Nat) (sg4 : Nat) (sg5 : Nat) (sg6 : Nat) (sg7 : Nat) (scg1 : ClassId) (scg2 : ClassId) (scg3 : ClassId) (scg4 : ClassId) (scg5 : ClassId) (scg6 : ClassId) (scg7 : ClassId) (sfo : Nat → Option Nat) (o3 : Nat) (m_h0 : Nat) (m_so : Nat) (m_sl : Nat) (m_ce : Nat) (m_kd : Nat) (m_wd : Nat) (m_hs : Nat) (m_pf : Nat) (m_lt : Nat) (m_wg : Nat) (m_rk : Nat) (m_rw : Nat) (m_rh : Nat) (m_sa : Nat) (m_fi : Nat) (m_ch : Nat) (m_cn : Nat) (m_kp : Nat) (m_rfa : Nat) (m_c_so : ClassId) (m_c_sl : ClassId) (m_c_ce : ClassId) (m_c_kd : ClassId) (m_c_wd : ClassId) (m_c_hs : ClassId) (m_c_pf : ClassId) (m_c_lt : ClassId) (m_c_wg : ClassId) (m_c_rk : ClassId) (m_c_rw : ClassId) (m_c_rh : ClassId) (m_c_sa : ClassId) (m_c_fi : ClassId) (m_c_ch : ClassId) (m_c_cn : ClassId) (m_c_kp : ClassId) (m_c_rfa : ClassId) (pr : Nat → Nat) (cy : ClassId) (hk0 : kOut fo pr o 24) (hk1 : o + 24 ≤ 56) (hk2 : kOut fq pr o2 8) (hk3 : o2 + 8 ≤ 56) (hk4 : kOut sfo pr o3 24) (hk5 : o3 + 24 ≤ 56) (hK : va_K D vwCl [(cS, .object RX5), (ce0, .int), (ce1, .int), (ce2, .int), (ce3, .int), (ct1, .int), (ct2, .int), (ct3, .int), (ck1, .int), (ck2, .int), (ck3, .int), (cw1, .int), (cp1, .int), (cy1, .int), (cg1, .int), (cg2, .int), (cg3, .int), (cg4, .int), (cg5, .int), (cg6, .int), (cg7, .array .int), (cv1, .int), (cv2, .array .int), (csw1, .int), (csp1, .int), (scg1, .int), (scg2, .int), (scg3, .int), (scg4, .int), (scg5, .int), (scg6, .int), (scg7, .array .int), (cy, .int), (m_c_so, .int), (m_c_sl, .int), (m_c_ce, .int), (m_c_kd, .int), (m_c_wd, .int), (m_c_hs, .int), (m_c_pf, .int), (m_c_lt, .int), (m_c_wg, .int), (m_c_rk, .int), (m_c_rw, .int), (m_c_rh, .int), (m_c_sa, .int), (m_c_fi, .int), (m_c_ch, .int), (m_c_cn, .int), (m_c_kp, .int), (m_c_rfa, .int)] s) {Li : Int} (hLi : Li = (L : Int)) {H : Heap} {locs : List Loc} {ls : Array Slot} (hI0 : kInv D A s.heap h0 sh rd fr wr pf rc se rs sw sp ss cS s0 s1 s2 s3 e0 e1 e2 e3 ce0 ce1 ce2 ce3 td t1_ t2_ t3_ ct1 ct2 ct3 k1 k2 k3 ck1 ck2 ck3 w1 cw1 p1 cp1 y1 cy1 g1 g2 g3 g4 g5 g6 g7 cg1 cg2 cg3 cg4 cg5 cg6 cg7 fo o v1 v2 cv1 cv2 fq o2 sw1 csw1 sp1 csp1 sg1 sg2 sg3 sg4 sg5 sg6 sg7 scg1 scg2 scg3 scg4 scg5 scg6 scg7 sfo o3 m_h0 m_so m_sl m_ce m_kd m_wd m_hs m_pf m_lt m_wg m_rk m_rw m_rh m_sa m_fi m_ch m_cn m_kp m_rfa m_c_so m_c_sl m_c_ce m_c_kd m_c_wd m_c_hs m_c_pf m_c_lt m_c_wg m_c_rk m_c_rw m_c_rh m_c_sa m_c_fi m_c_ch m_c_cn m_c_kp m_c_rfa pr cy H locs) (hl0 : lv_has ls 4 [(3, .int (zI 0)), (2, .ref m_h0), (1, .ref h0), (0, .ref b)]) : W p l e room_1 s m #[Value.ref b] below meth c H locs 123 1521 (lw_Z below #[Value.ref b] s) (F0 m 18 ls []) := by
  refine k_loopM (I := fun n9 H locs ls => ∃ ji : Int, n9 = (Li - ji).toNat ∧ 0 ≤ ji ∧ ji ≤ Li ∧ kInv D A s.heap h0 sh rd fr wr pf rc se rs sw sp ss cS s0 s1 s2 s3 e0 e1 e2 e3 ce0 ce1 ce2 ce3 td t1_ t2_ t3_ ct1 ct2 ct3 k1 k2 k3 ck1 ck2 ck3 w1 cw1 p1 cp1 y1 cy1 g1 g2 g3 g4 g5 g6 g7 cg1 cg2 cg3 cg4 cg5 cg6 cg7 fo o v1 v2 cv1 cv2 fq o2 sw1 csw1 sp1 csp1 sg1 sg2 sg3 sg4 sg5 sg6 sg7 scg1 scg2 scg3 scg4 scg5 scg6 scg7 sfo o3 m_h0 m_so m_sl m_ce m_kd m_wd m_hs m_pf m_lt m_wg m_rk m_rw m_rh m_sa m_fi m_ch m_cn m_kp m_rfa m_c_so m_c_sl m_c_ce m_c_kd m_c_wd m_c_hs m_c_pf m_c_lt m_c_wg m_c_rk m_c_rw m_c_rh m_c_sa m_c_fi m_c_ch m_c_cn m_c_kp m_c_rfa pr cy H locs ∧ lv_has ls 4 [(3, .int (zI ji)), (2, .ref m_h0), (1, .ref h0), (0, .ref b)]) ?_ _ ⟨0, rfl, by omega, by omega, hI0, hl0⟩
  intro n9 ih H locs ls hI
  obtain ⟨ji, en, hj0, hj1, hI, hl⟩ := hI
  obtain ⟨hx, hb, hr, hml, hown, hts, hX, hbl, hlocks, hgv⟩ := id C0
  have hbA : ¬ A b := fun h => absurd (hAf b h) (Nat.not_le.mpr hbl)
  have hS : va_S A s.heap H locs := kInv_elim hI (fun _ _ _ _ _ _ _ _ _ _ _ _ _ _ _ _ _ _ _ _ _ _ _ _ _ _ _ _ _ _ _ _ _ _ _ _ _ _ _ _ _ _ _ _ _ _ _ _ _ _ _ _ _ _ _ _ _ _ _ _ _ _ _ _ _ _ _ _ _ _ _ _ _ _ _ _ _ _ _ _ _ _ _ _ _ _ _ _ _ _ _ _ _ _ _ _ _ _ _ _ _ _ _ _ _ _ _ _ _ _ _ _ _ _ _ _ _ _ _ _ _ _ _ _ _ _ _ _ _ _ _ _ _ _ _ _ _ _ _ _ _ _ _ _ _ _ _ _ hP hD hS => hS)
  refine lv_iload_n hx hb dL_law_18 rfl (lv_at hl 0 rfl) ?_
  refine lv_aload_n hx hb dL_law_19 rfl (lv_at hl 3 rfl) ?_
  refine va_slen hx hb hX hbl hbA hS dL_law_20 ?_
  refine kn_i (zI Li) (by rw [hLi]; rfl) ?_
  refine lv_bipush (v := zI 6) hx hb dL_law_21 (by decide) ?_
  refine kz_isub hx hb dL_law_23 ?_
  refine kz_icmp_gt (tgt := 1138) hx hb dL_law_24 (by decide) (by omega) (by omega) (fun c9 => ?_) (fun c9 => ?_)
  · refine lv_iconst (v := 1) hx hb dL_law_1138 (by decide) ?_
    refine W.widen (k := 600000) (n := 7302250) (Nat.le_of_ble_eq_true rfl) (Nat.le_of_ble_eq_true rfl) ?_
    refine va_forget (fun q hq => hAf _ (hS.2.2 q hq)) ?_
    exact lw_ret hx hb hr hlocks dL_law_1139
  · have hji : 0 ≤ ji ∧ ji ≤ Li - 6 := ⟨hj0, by omega⟩
    have kk : ∀ (H : Heap) (locs : List Loc) (ls : Array Slot), kInv D A s.heap h0 sh rd fr wr pf rc se rs sw sp ss cS s0 s1 s2 s3 e0 e1 e2 e3 ce0 ce1 ce2 ce3 td t1_ t2_ t3_ ct1 ct2 ct3 k1 k2 k3 ck1 ck2 ck3 w1 cw1 p1 cp1 y1 cy1 g1 g2 g3 g4 g5 g6 g7 cg1 cg2 cg3 cg4 cg5 cg6 cg7 fo o v1 v2 cv1 cv2 fq o2 sw1 csw1 sp1 csp1 sg1 sg2 sg3 sg4 sg5 sg6 sg7 scg1 scg2 scg3 scg4 scg5 scg6 scg7 sfo o3 m_h0 m_so m_sl m_ce m_kd m_wd m_hs m_pf m_lt m_wg m_rk m_rw m_rh m_sa m_fi m_ch m_cn m_kp m_rfa m_c_so m_c_sl m_c_ce m_c_kd m_c_wd m_c_hs m_c_pf m_c_lt m_c_wg m_c_rk m_c_rw m_c_rh m_c_sa m_c_fi m_c_ch m_c_cn m_c_kp m_c_rfa pr cy H locs → lv_has ls 4 [(3, .int (zI ji)), (2, .ref m_h0), (1, .ref h0), (0, .ref b)] → W p l e room_1 s m #[Value.ref b] below meth c H locs 123 1521 (lw_Z below #[Value.ref b] s) (F0 m 1132 ls []) := by
      intro H locs ls hI2 hl2
      refine lv_iinc (v := zI (ji + 6)) (lv' := [(3, .int (zI (ji + 6))), (2, .ref m_h0), (1, .ref h0), (0, .ref b)]) hx hb dL_law_1132 hl2 (k := 0) rfl (kz_inc _ 6) (by decide) rfl (fun ls hl2 => ?_)
      refine lv_goto (tgt := 18) hx hb dL_law_1135 (by decide) ?_
      exact ih _ (by omega) _ _ _ ⟨ji + 6, rfl, by omega, by omega, hI2, hl2⟩
    refine lv_aload_n hx hb dL_law_27 rfl (lv_at hl 3 rfl) ?_
    refine lv_iload_n hx hb dL_law_28 rfl (lv_at hl 0 rfl) ?_
    refine va_sld hx hb hX hbl hbA hS (zI_in (ksc0 hji hLi hL)) dL_law_29 ?_
    refine lv_bipush (v := 31) hx hb dL_law_30 (by decide) ?_
    refine lv_iand hx hb dL_law_32 ?_
    obtain ⟨j9, hj9, ej9⟩ := pk_andE (xs (zI ji).toNatClampNeg) (m := 31) 5 (by decide)
    refine kn_i (nI j9) ej9 ?_
    clear ej9 ih en
    rcases k32 (show j9 < 32 from hj9) with e9 | e9 | e9 | e9 | e9 | e9 | e9 | e9 | e9 | e9 | e9 | e9 | e9 | e9 | e9 | e9 | e9 | e9 | e9 | e9 | e9 | e9 | e9 | e9 | e9 | e9 | e9 | e9 | e9 | e9 | e9 | e9
    · subst e9
      refine kn_i 0 (by decide) ?_
      refine lv_tableIn (tgt := 176) (off := 143) hx hb dL_law_33 (by decide) (by decide) rfl (by decide) ?_
      exact lawc_fonts l C0 hL hA hAf hN D h0 sh rd fr wr pf rc se rs sw sp ss cS s0 s1 s2 s3 e0 e1 e2 e3 ce0 ce1 ce2 ce3 td t1_ t2_ t3_ ct1 ct2 ct3 k1 k2 k3 ck1 ck2 ck3 w1 cw1 p1 cp1 y1 cy1 g1 g2 g3 g4 g5 g6 g7 cg1 cg2 cg3 cg4 cg5 cg6 cg7 fo o v1 v2 cv1 cv2 fq o2 sw1 csw1 sp1 csp1 sg1 sg2 sg3 sg4 sg5 sg6 sg7 scg1 scg2 scg3 scg4 scg5 scg6 scg7 sfo o3 m_h0 m_so m_sl m_ce m_kd m_wd m_hs m_pf m_lt m_wg m_rk m_rw m_rh m_sa m_fi m_ch m_cn m_kp m_rfa m_c_so m_c_sl m_c_ce m_c_kd m_c_wd m_c_hs m_c_pf m_c_lt m_c_wg m_c_rk m_c_rw m_c_rh m_c_sa m_c_fi m_c_ch m_c_cn m_c_kp m_c_rfa pr cy hk0 hk1 hk2 hk3 hk4 hk5 hK hji hLi kk hI hl
    · subst e9
      refine kn_i 1 (by decide) ?_
      refine lv_tableIn (tgt := 229) (off := 196) hx hb dL_law_33 (by decide) (by decide) rfl (by decide) ?_
      exact lawc_ofFont l C0 hL hA hAf hN D h0 sh rd fr wr pf rc se rs sw sp ss cS s0 s1 s2 s3 e0 e1 e2 e3 ce0 ce1 ce2 ce3 td t1_ t2_ t3_ ct1 ct2 ct3 k1 k2 k3 ck1 ck2 ck3 w1 cw1 p1 cp1 y1 cy1 g1 g2 g3 g4 g5 g6 g7 cg1 cg2 cg3 cg4 cg5 cg6 cg7 fo o v1 v2 cv1 cv2 fq o2 sw1 csw1 sp1 csp1 sg1 sg2 sg3 sg4 sg5 sg6 sg7 scg1 scg2 scg3 scg4 scg5 scg6 scg7 sfo o3 m_h0 m_so m_sl m_ce m_kd m_wd m_hs m_pf m_lt m_wg m_rk m_rw m_rh m_sa m_fi m_ch m_cn m_kp m_rfa m_c_so m_c_sl m_c_ce m_c_kd m_c_wd m_c_hs m_c_pf m_c_lt m_c_wg m_c_rk m_c_rw m_c_rh m_c_sa m_c_fi m_c_ch m_c_cn m_c_kp m_c_rfa pr cy hk0 hk1 hk2 hk3 hk4 hk5 hK hji hLi kk hI hl
    · subst e9
      refine kn_i 2 (by decide) ?_
      refine lv_tableIn (tgt := 262) (off := 229) hx hb dL_law_33 (by decide) (by decide) rfl (by decide) ?_
      exact lawc_width l C0 hL hA hAf hN D h0 sh rd fr wr pf rc se rs sw sp ss cS s0 s1 s2 s3 e0 e1 e2 e3 ce0 ce1 ce2 ce3 td t1_ t2_ t3_ ct1 ct2 ct3 k1 k2 k3 ck1 ck2 ck3 w1 cw1 p1 cp1 y1 cy1 g1 g2 g3 g4 g5 g6 g7 cg1 cg2 cg3 cg4 cg5 cg6 cg7 fo o v1 v2 cv1 cv2 fq o2 sw1 csw1 sp1 csp1 sg1 sg2 sg3 sg4 sg5 sg6 sg7 scg1 scg2 scg3 scg4 scg5 scg6 scg7 sfo o3 m_h0 m_so m_sl m_ce m_kd m_wd m_hs m_pf m_lt m_wg m_rk m_rw m_rh m_sa m_fi m_ch m_cn m_kp m_rfa m_c_so m_c_sl m_c_ce m_c_kd m_c_wd m_c_hs m_c_pf m_c_lt m_c_wg m_c_rk m_c_rw m_c_rh m_c_sa m_c_fi m_c_ch m_c_cn m_c_kp m_c_rfa pr cy hk0 hk1 hk2 hk3 hk4 hk5 hK hji hLi kk hI hl
    · subst e9
      refine kn_i 3 (by decide) ?_
      refine lv_tableIn (tgt := 295) (off := 262) hx hb dL_law_33 (by decide) (by decide) rfl (by decide) ?_
      exact lawc_write l C0 hL hA hAf hN D h0 sh rd fr wr pf rc se rs sw sp ss cS s0 s1 s2 s3 e0 e1 e2 e3 ce0 ce1 ce2 ce3 td t1_ t2_ t3_ ct1 ct2 ct3 k1 k2 k3 ck1 ck2 ck3 w1 cw1 p1 cp1 y1 cy1 g1 g2 g3 g4 g5 g6 g7 cg1 cg2 cg3 cg4 cg5 cg6 cg7 fo o v1 v2 cv1 cv2 fq o2 sw1 csw1 sp1 csp1 sg1 sg2 sg3 sg4 sg5 sg6 sg7 scg1 scg2 scg3 scg4 scg5 scg6 scg7 sfo o3 m_h0 m_so m_sl m_ce m_kd m_wd m_hs m_pf m_lt m_wg m_rk m_rw m_rh m_sa m_fi m_ch m_cn m_kp m_rfa m_c_so m_c_sl m_c_ce m_c_kd m_c_wd m_c_hs m_c_pf m_c_lt m_c_wg m_c_rk m_c_rw m_c_rh m_c_sa m_c_fi m_c_ch m_c_cn m_c_kp m_c_rfa pr cy hk0 hk1 hk2 hk3 hk4 hk5 hK hji hLi kk hI hl
    · subst e9
      refine kn_i 4 (by decide) ?_
      refine lv_tableIn (tgt := 348) (off := 315) hx hb dL_law_33 (by decide) (by decide) rfl (by decide) ?_
      exact lawc_erase l C0 hL hA hAf hN D h0 sh rd fr wr pf rc se rs sw sp ss cS s0 s1 s2 s3 e0 e1 e2 e3 ce0 ce1 ce2 ce3 td t1_ t2_ t3_ ct1 ct2 ct3 k1 k2 k3 ck1 ck2 ck3 w1 cw1 p1 cp1 y1 cy1 g1 g2 g3 g4 g5 g6 g7 cg1 cg2 cg3 cg4 cg5 cg6 cg7 fo o v1 v2 cv1 cv2 fq o2 sw1 csw1 sp1 csp1 sg1 sg2 sg3 sg4 sg5 sg6 sg7 scg1 scg2 scg3 scg4 scg5 scg6 scg7 sfo o3 m_h0 m_so m_sl m_ce m_kd m_wd m_hs m_pf m_lt m_wg m_rk m_rw m_rh m_sa m_fi m_ch m_cn m_kp m_rfa m_c_so m_c_sl m_c_ce m_c_kd m_c_wd m_c_hs m_c_pf m_c_lt m_c_wg m_c_rk m_c_rw m_c_rh m_c_sa m_c_fi m_c_ch m_c_cn m_c_kp m_c_rfa pr cy hk0 hk1 hk2 hk3 hk4 hk5 hK hji hLi kk hI hl
    · subst e9
      refine kn_i 5 (by decide) ?_
      refine lv_tableIn (tgt := 371) (off := 338) hx hb dL_law_33 (by decide) (by decide) rfl (by decide) ?_
      exact lawc_letter l C0 hL hA hAf hN D h0 sh rd fr wr pf rc se rs sw sp ss cS s0 s1 s2 s3 e0 e1 e2 e3 ce0 ce1 ce2 ce3 td t1_ t2_ t3_ ct1 ct2 ct3 k1 k2 k3 ck1 ck2 ck3 w1 cw1 p1 cp1 y1 cy1 g1 g2 g3 g4 g5 g6 g7 cg1 cg2 cg3 cg4 cg5 cg6 cg7 fo o v1 v2 cv1 cv2 fq o2 sw1 csw1 sp1 csp1 sg1 sg2 sg3 sg4 sg5 sg6 sg7 scg1 scg2 scg3 scg4 scg5 scg6 scg7 sfo o3 m_h0 m_so m_sl m_ce m_kd m_wd m_hs m_pf m_lt m_wg m_rk m_rw m_rh m_sa m_fi m_ch m_cn m_kp m_rfa m_c_so m_c_sl m_c_ce m_c_kd m_c_wd m_c_hs m_c_pf m_c_lt m_c_wg m_c_rk m_c_rw m_c_rh m_c_sa m_c_fi m_c_ch m_c_cn m_c_kp m_c_rfa pr cy hk0 hk1 hk2 hk3 hk4 hk5 hK hji hLi kk hI hl
    · subst e9
      refine kn_i 6 (by decide) ?_
      refine lv_tableIn (tgt := 394) (off := 361) hx hb dL_law_33 (by decide) (by decide) rfl (by decide) ?_
      exact lawc_ofCluster l C0 hL hA hAf hN D h0 sh rd fr wr pf rc se rs sw sp ss cS s0 s1 s2 s3 e0 e1 e2 e3 ce0 ce1 ce2 ce3 td t1_ t2_ t3_ ct1 ct2 ct3 k1 k2 k3 ck1 ck2 ck3 w1 cw1 p1 cp1 y1 cy1 g1 g2 g3 g4 g5 g6 g7 cg1 cg2 cg3 cg4 cg5 cg6 cg7 fo o v1 v2 cv1 cv2 fq o2 sw1 csw1 sp1 csp1 sg1 sg2 sg3 sg4 sg5 sg6 sg7 scg1 scg2 scg3 scg4 scg5 scg6 scg7 sfo o3 m_h0 m_so m_sl m_ce m_kd m_wd m_hs m_pf m_lt m_wg m_rk m_rw m_rh m_sa m_fi m_ch m_cn m_kp m_rfa m_c_so m_c_sl m_c_ce m_c_kd m_c_wd m_c_hs m_c_pf m_c_lt m_c_wg m_c_rk m_c_rw m_c_rh m_c_sa m_c_fi m_c_ch m_c_cn m_c_kp m_c_rfa pr cy hk0 hk1 hk2 hk3 hk4 hk5 hK hji hLi kk hI hl
    · subst e9
      refine kn_i 7 (by decide) ?_
      refine lv_tableIn (tgt := 427) (off := 394) hx hb dL_law_33 (by decide) (by decide) rfl (by decide) ?_
      exact lawc_ofRun l C0 hL hA hAf hN D h0 sh rd fr wr pf rc se rs sw sp ss cS s0 s1 s2 s3 e0 e1 e2 e3 ce0 ce1 ce2 ce3 td t1_ t2_ t3_ ct1 ct2 ct3 k1 k2 k3 ck1 ck2 ck3 w1 cw1 p1 cp1 y1 cy1 g1 g2 g3 g4 g5 g6 g7 cg1 cg2 cg3 cg4 cg5 cg6 cg7 fo o v1 v2 cv1 cv2 fq o2 sw1 csw1 sp1 csp1 sg1 sg2 sg3 sg4 sg5 sg6 sg7 scg1 scg2 scg3 scg4 scg5 scg6 scg7 sfo o3 m_h0 m_so m_sl m_ce m_kd m_wd m_hs m_pf m_lt m_wg m_rk m_rw m_rh m_sa m_fi m_ch m_cn m_kp m_rfa m_c_so m_c_sl m_c_ce m_c_kd m_c_wd m_c_hs m_c_pf m_c_lt m_c_wg m_c_rk m_c_rw m_c_rh m_c_sa m_c_fi m_c_ch m_c_cn m_c_kp m_c_rfa pr cy hk0 hk1 hk2 hk3 hk4 hk5 hK hji hLi kk hI hl
    · subst e9
      refine kn_i 8 (by decide) ?_
      refine lv_tableIn (tgt := 460) (off := 427) hx hb dL_law_33 (by decide) (by decide) rfl (by decide) ?_
      exact lawc_prefer l C0 hL hA hAf hN D h0 sh rd fr wr pf rc se rs sw sp ss cS s0 s1 s2 s3 e0 e1 e2 e3 ce0 ce1 ce2 ce3 td t1_ t2_ t3_ ct1 ct2 ct3 k1 k2 k3 ck1 ck2 ck3 w1 cw1 p1 cp1 y1 cy1 g1 g2 g3 g4 g5 g6 g7 cg1 cg2 cg3 cg4 cg5 cg6 cg7 fo o v1 v2 cv1 cv2 fq o2 sw1 csw1 sp1 csp1 sg1 sg2 sg3 sg4 sg5 sg6 sg7 scg1 scg2 scg3 scg4 scg5 scg6 scg7 sfo o3 m_h0 m_so m_sl m_ce m_kd m_wd m_hs m_pf m_lt m_wg m_rk m_rw m_rh m_sa m_fi m_ch m_cn m_kp m_rfa m_c_so m_c_sl m_c_ce m_c_kd m_c_wd m_c_hs m_c_pf m_c_lt m_c_wg m_c_rk m_c_rw m_c_rh m_c_sa m_c_fi m_c_ch m_c_cn m_c_kp m_c_rfa pr cy hk0 hk1 hk2 hk3 hk4 hk5 hK hji hLi kk hI hl
    · subst e9
      refine kn_i 9 (by decide) ?_
      refine lv_tableIn (tgt := 483) (off := 450) hx hb dL_law_33 (by decide) (by decide) rfl (by decide) ?_
      exact lawc_latest l C0 hL hA hAf hN D h0 sh rd fr wr pf rc se rs sw sp ss cS s0 s1 s2 s3 e0 e1 e2 e3 ce0 ce1 ce2 ce3 td t1_ t2_ t3_ ct1 ct2 ct3 k1 k2 k3 ck1 ck2 ck3 w1 cw1 p1 cp1 y1 cy1 g1 g2 g3 g4 g5 g6 g7 cg1 cg2 cg3 cg4 cg5 cg6 cg7 fo o v1 v2 cv1 cv2 fq o2 sw1 csw1 sp1 csp1 sg1 sg2 sg3 sg4 sg5 sg6 sg7 scg1 scg2 scg3 scg4 scg5 scg6 scg7 sfo o3 m_h0 m_so m_sl m_ce m_kd m_wd m_hs m_pf m_lt m_wg m_rk m_rw m_rh m_sa m_fi m_ch m_cn m_kp m_rfa m_c_so m_c_sl m_c_ce m_c_kd m_c_wd m_c_hs m_c_pf m_c_lt m_c_wg m_c_rk m_c_rw m_c_rh m_c_sa m_c_fi m_c_ch m_c_cn m_c_kp m_c_rfa pr cy hk0 hk1 hk2 hk3 hk4 hk5 hK hji hLi kk hI hl
    · subst e9
      refine kn_i 10 (by decide) ?_
      refine lv_tableIn (tgt := 506) (off := 473) hx hb dL_law_33 (by decide) (by decide) rfl (by decide) ?_
      exact lawc_tally l C0 hL hA hAf hN D h0 sh rd fr wr pf rc se rs sw sp ss cS s0 s1 s2 s3 e0 e1 e2 e3 ce0 ce1 ce2 ce3 td t1_ t2_ t3_ ct1 ct2 ct3 k1 k2 k3 ck1 ck2 ck3 w1 cw1 p1 cp1 y1 cy1 g1 g2 g3 g4 g5 g6 g7 cg1 cg2 cg3 cg4 cg5 cg6 cg7 fo o v1 v2 cv1 cv2 fq o2 sw1 csw1 sp1 csp1 sg1 sg2 sg3 sg4 sg5 sg6 sg7 scg1 scg2 scg3 scg4 scg5 scg6 scg7 sfo o3 m_h0 m_so m_sl m_ce m_kd m_wd m_hs m_pf m_lt m_wg m_rk m_rw m_rh m_sa m_fi m_ch m_cn m_kp m_rfa m_c_so m_c_sl m_c_ce m_c_kd m_c_wd m_c_hs m_c_pf m_c_lt m_c_wg m_c_rk m_c_rw m_c_rh m_c_sa m_c_fi m_c_ch m_c_cn m_c_kp m_c_rfa pr cy hk0 hk1 hk2 hk3 hk4 hk5 hK hji hLi kk hI hl
    · subst e9
      refine kn_i 11 (by decide) ?_
      refine lv_tableIn (tgt := 519) (off := 486) hx hb dL_law_33 (by decide) (by decide) rfl (by decide) ?_
      exact lawc_check l C0 hL hA hAf hN D h0 sh rd fr wr pf rc se rs sw sp ss cS s0 s1 s2 s3 e0 e1 e2 e3 ce0 ce1 ce2 ce3 td t1_ t2_ t3_ ct1 ct2 ct3 k1 k2 k3 ck1 ck2 ck3 w1 cw1 p1 cp1 y1 cy1 g1 g2 g3 g4 g5 g6 g7 cg1 cg2 cg3 cg4 cg5 cg6 cg7 fo o v1 v2 cv1 cv2 fq o2 sw1 csw1 sp1 csp1 sg1 sg2 sg3 sg4 sg5 sg6 sg7 scg1 scg2 scg3 scg4 scg5 scg6 scg7 sfo o3 m_h0 m_so m_sl m_ce m_kd m_wd m_hs m_pf m_lt m_wg m_rk m_rw m_rh m_sa m_fi m_ch m_cn m_kp m_rfa m_c_so m_c_sl m_c_ce m_c_kd m_c_wd m_c_hs m_c_pf m_c_lt m_c_wg m_c_rk m_c_rw m_c_rh m_c_sa m_c_fi m_c_ch m_c_cn m_c_kp m_c_rfa pr cy hk0 hk1 hk2 hk3 hk4 hk5 hK hji hLi kk hI hl
    · subst e9
      refine kn_i 12 (by decide) ?_
      refine lv_tableIn (tgt := 532) (off := 499) hx hb dL_law_33 (by decide) (by decide) rfl (by decide) ?_
      exact lawc_day l C0 hL hA hAf hN D h0 sh rd fr wr pf rc se rs sw sp ss cS s0 s1 s2 s3 e0 e1 e2 e3 ce0 ce1 ce2 ce3 td t1_ t2_ t3_ ct1 ct2 ct3 k1 k2 k3 ck1 ck2 ck3 w1 cw1 p1 cp1 y1 cy1 g1 g2 g3 g4 g5 g6 g7 cg1 cg2 cg3 cg4 cg5 cg6 cg7 fo o v1 v2 cv1 cv2 fq o2 sw1 csw1 sp1 csp1 sg1 sg2 sg3 sg4 sg5 sg6 sg7 scg1 scg2 scg3 scg4 scg5 scg6 scg7 sfo o3 m_h0 m_so m_sl m_ce m_kd m_wd m_hs m_pf m_lt m_wg m_rk m_rw m_rh m_sa m_fi m_ch m_cn m_kp m_rfa m_c_so m_c_sl m_c_ce m_c_kd m_c_wd m_c_hs m_c_pf m_c_lt m_c_wg m_c_rk m_c_rw m_c_rh m_c_sa m_c_fi m_c_ch m_c_cn m_c_kp m_c_rfa pr cy hk0 hk1 hk2 hk3 hk4 hk5 hK hji hLi kk hI hl
    · subst e9
      refine kn_i 13 (by decide) ?_
      refine lv_tableIn (tgt := 595) (off := 562) hx hb dL_law_33 (by decide) (by decide) rfl (by decide) ?_
      exact lawc_best l C0 hL hA hAf hN D h0 sh rd fr wr pf rc se rs sw sp ss cS s0 s1 s2 s3 e0 e1 e2 e3 ce0 ce1 ce2 ce3 td t1_ t2_ t3_ ct1 ct2 ct3 k1 k2 k3 ck1 ck2 ck3 w1 cw1 p1 cp1 y1 cy1 g1 g2 g3 g4 g5 g6 g7 cg1 cg2 cg3 cg4 cg5 cg6 cg7 fo o v1 v2 cv1 cv2 fq o2 sw1 csw1 sp1 csp1 sg1 sg2 sg3 sg4 sg5 sg6 sg7 scg1 scg2 scg3 scg4 scg5 scg6 scg7 sfo o3 m_h0 m_so m_sl m_ce m_kd m_wd m_hs m_pf m_lt m_wg m_rk m_rw m_rh m_sa m_fi m_ch m_cn m_kp m_rfa m_c_so m_c_sl m_c_ce m_c_kd m_c_wd m_c_hs m_c_pf m_c_lt m_c_wg m_c_rk m_c_rw m_c_rh m_c_sa m_c_fi m_c_ch m_c_cn m_c_kp m_c_rfa pr cy hk0 hk1 hk2 hk3 hk4 hk5 hK hji hLi kk hI hl
    · subst e9
      refine kn_i 14 (by decide) ?_
      refine lv_tableIn (tgt := 618) (off := 585) hx hb dL_law_33 (by decide) (by decide) rfl (by decide) ?_
      exact lawc_without l C0 hL hA hAf hN D h0 sh rd fr wr pf rc se rs sw sp ss cS s0 s1 s2 s3 e0 e1 e2 e3 ce0 ce1 ce2 ce3 td t1_ t2_ t3_ ct1 ct2 ct3 k1 k2 k3 ck1 ck2 ck3 w1 cw1 p1 cp1 y1 cy1 g1 g2 g3 g4 g5 g6 g7 cg1 cg2 cg3 cg4 cg5 cg6 cg7 fo o v1 v2 cv1 cv2 fq o2 sw1 csw1 sp1 csp1 sg1 sg2 sg3 sg4 sg5 sg6 sg7 scg1 scg2 scg3 scg4 scg5 scg6 scg7 sfo o3 m_h0 m_so m_sl m_ce m_kd m_wd m_hs m_pf m_lt m_wg m_rk m_rw m_rh m_sa m_fi m_ch m_cn m_kp m_rfa m_c_so m_c_sl m_c_ce m_c_kd m_c_wd m_c_hs m_c_pf m_c_lt m_c_wg m_c_rk m_c_rw m_c_rh m_c_sa m_c_fi m_c_ch m_c_cn m_c_kp m_c_rfa pr cy hk0 hk1 hk2 hk3 hk4 hk5 hK hji hLi kk hI hl
    · subst e9
      refine kn_i 15 (by decide) ?_
      refine lv_tableIn (tgt := 641) (off := 608) hx hb dL_law_33 (by decide) (by decide) rfl (by decide) ?_
      exact lawc_enough l C0 hL hA hAf hN D h0 sh rd fr wr pf rc se rs sw sp ss cS s0 s1 s2 s3 e0 e1 e2 e3 ce0 ce1 ce2 ce3 td t1_ t2_ t3_ ct1 ct2 ct3 k1 k2 k3 ck1 ck2 ck3 w1 cw1 p1 cp1 y1 cy1 g1 g2 g3 g4 g5 g6 g7 cg1 cg2 cg3 cg4 cg5 cg6 cg7 fo o v1 v2 cv1 cv2 fq o2 sw1 csw1 sp1 csp1 sg1 sg2 sg3 sg4 sg5 sg6 sg7 scg1 scg2 scg3 scg4 scg5 scg6 scg7 sfo o3 m_h0 m_so m_sl m_ce m_kd m_wd m_hs m_pf m_lt m_wg m_rk m_rw m_rh m_sa m_fi m_ch m_cn m_kp m_rfa m_c_so m_c_sl m_c_ce m_c_kd m_c_wd m_c_hs m_c_pf m_c_lt m_c_wg m_c_rk m_c_rw m_c_rh m_c_sa m_c_fi m_c_ch m_c_cn m_c_kp m_c_rfa pr cy hk0 hk1 hk2 hk3 hk4 hk5 hK hji hLi kk hI hl
    · subst e9
      refine kn_i 16 (by decide) ?_
      refine lv_tableIn (tgt := 664) (off := 631) hx hb dL_law_33 (by decide) (by decide) rfl (by decide) ?_
      exact lawc_reading l C0 hL hA hAf hN D h0 sh rd fr wr pf rc se rs sw sp ss cS s0 s1 s2 s3 e0 e1 e2 e3 ce0 ce1 ce2 ce3 td t1_ t2_ t3_ ct1 ct2 ct3 k1 k2 k3 ck1 ck2 ck3 w1 cw1 p1 cp1 y1 cy1 g1 g2 g3 g4 g5 g6 g7 cg1 cg2 cg3 cg4 cg5 cg6 cg7 fo o v1 v2 cv1 cv2 fq o2 sw1 csw1 sp1 csp1 sg1 sg2 sg3 sg4 sg5 sg6 sg7 scg1 scg2 scg3 scg4 scg5 scg6 scg7 sfo o3 m_h0 m_so m_sl m_ce m_kd m_wd m_hs m_pf m_lt m_wg m_rk m_rw m_rh m_sa m_fi m_ch m_cn m_kp m_rfa m_c_so m_c_sl m_c_ce m_c_kd m_c_wd m_c_hs m_c_pf m_c_lt m_c_wg m_c_rk m_c_rw m_c_rh m_c_sa m_c_fi m_c_ch m_c_cn m_c_kp m_c_rfa pr cy hk0 hk1 hk2 hk3 hk4 hk5 hK hji hLi kk hI hl
    · subst e9
      refine kn_i 17 (by decide) ?_
      refine lv_tableIn (tgt := 687) (off := 654) hx hb dL_law_33 (by decide) (by decide) rfl (by decide) ?_
      exact lawc_back l C0 hL hA hAf hN D h0 sh rd fr wr pf rc se rs sw sp ss cS s0 s1 s2 s3 e0 e1 e2 e3 ce0 ce1 ce2 ce3 td t1_ t2_ t3_ ct1 ct2 ct3 k1 k2 k3 ck1 ck2 ck3 w1 cw1 p1 cp1 y1 cy1 g1 g2 g3 g4 g5 g6 g7 cg1 cg2 cg3 cg4 cg5 cg6 cg7 fo o v1 v2 cv1 cv2 fq o2 sw1 csw1 sp1 csp1 sg1 sg2 sg3 sg4 sg5 sg6 sg7 scg1 scg2 scg3 scg4 scg5 scg6 scg7 sfo o3 m_h0 m_so m_sl m_ce m_kd m_wd m_hs m_pf m_lt m_wg m_rk m_rw m_rh m_sa m_fi m_ch m_cn m_kp m_rfa m_c_so m_c_sl m_c_ce m_c_kd m_c_wd m_c_hs m_c_pf m_c_lt m_c_wg m_c_rk m_c_rw m_c_rh m_c_sa m_c_fi m_c_ch m_c_cn m_c_kp m_c_rfa pr cy hk0 hk1 hk2 hk3 hk4 hk5 hK hji hLi kk hI hl
    · subst e9
      refine kn_i 18 (by decide) ?_
      refine lv_tableIn (tgt := 710) (off := 677) hx hb dL_law_33 (by decide) (by decide) rfl (by decide) ?_
      exact lawc_kinds l C0 hL hA hAf hN D h0 sh rd fr wr pf rc se rs sw sp ss cS s0 s1 s2 s3 e0 e1 e2 e3 ce0 ce1 ce2 ce3 td t1_ t2_ t3_ ct1 ct2 ct3 k1 k2 k3 ck1 ck2 ck3 w1 cw1 p1 cp1 y1 cy1 g1 g2 g3 g4 g5 g6 g7 cg1 cg2 cg3 cg4 cg5 cg6 cg7 fo o v1 v2 cv1 cv2 fq o2 sw1 csw1 sp1 csp1 sg1 sg2 sg3 sg4 sg5 sg6 sg7 scg1 scg2 scg3 scg4 scg5 scg6 scg7 sfo o3 m_h0 m_so m_sl m_ce m_kd m_wd m_hs m_pf m_lt m_wg m_rk m_rw m_rh m_sa m_fi m_ch m_cn m_kp m_rfa m_c_so m_c_sl m_c_ce m_c_kd m_c_wd m_c_hs m_c_pf m_c_lt m_c_wg m_c_rk m_c_rw m_c_rh m_c_sa m_c_fi m_c_ch m_c_cn m_c_kp m_c_rfa pr cy hk0 hk1 hk2 hk3 hk4 hk5 hK hji hLi kk hI hl
    · subst e9
      refine kn_i 19 (by decide) ?_
      refine lv_tableIn (tgt := 733) (off := 700) hx hb dL_law_33 (by decide) (by decide) rfl (by decide) ?_
      exact lawc_widths l C0 hL hA hAf hN D h0 sh rd fr wr pf rc se rs sw sp ss cS s0 s1 s2 s3 e0 e1 e2 e3 ce0 ce1 ce2 ce3 td t1_ t2_ t3_ ct1 ct2 ct3 k1 k2 k3 ck1 ck2 ck3 w1 cw1 p1 cp1 y1 cy1 g1 g2 g3 g4 g5 g6 g7 cg1 cg2 cg3 cg4 cg5 cg6 cg7 fo o v1 v2 cv1 cv2 fq o2 sw1 csw1 sp1 csp1 sg1 sg2 sg3 sg4 sg5 sg6 sg7 scg1 scg2 scg3 scg4 scg5 scg6 scg7 sfo o3 m_h0 m_so m_sl m_ce m_kd m_wd m_hs m_pf m_lt m_wg m_rk m_rw m_rh m_sa m_fi m_ch m_cn m_kp m_rfa m_c_so m_c_sl m_c_ce m_c_kd m_c_wd m_c_hs m_c_pf m_c_lt m_c_wg m_c_rk m_c_rw m_c_rh m_c_sa m_c_fi m_c_ch m_c_cn m_c_kp m_c_rfa pr cy hk0 hk1 hk2 hk3 hk4 hk5 hK hji hLi kk hI hl
    · subst e9
      refine kn_i 20 (by decide) ?_
      refine lv_tableIn (tgt := 756) (off := 723) hx hb dL_law_33 (by decide) (by decide) rfl (by decide) ?_
      exact lawc_odds l C0 hL hA hAf hN D h0 sh rd fr wr pf rc se rs sw sp ss cS s0 s1 s2 s3 e0 e1 e2 e3 ce0 ce1 ce2 ce3 td t1_ t2_ t3_ ct1 ct2 ct3 k1 k2 k3 ck1 ck2 ck3 w1 cw1 p1 cp1 y1 cy1 g1 g2 g3 g4 g5 g6 g7 cg1 cg2 cg3 cg4 cg5 cg6 cg7 fo o v1 v2 cv1 cv2 fq o2 sw1 csw1 sp1 csp1 sg1 sg2 sg3 sg4 sg5 sg6 sg7 scg1 scg2 scg3 scg4 scg5 scg6 scg7 sfo o3 m_h0 m_so m_sl m_ce m_kd m_wd m_hs m_pf m_lt m_wg m_rk m_rw m_rh m_sa m_fi m_ch m_cn m_kp m_rfa m_c_so m_c_sl m_c_ce m_c_kd m_c_wd m_c_hs m_c_pf m_c_lt m_c_wg m_c_rk m_c_rw m_c_rh m_c_sa m_c_fi m_c_ch m_c_cn m_c_kp m_c_rfa pr cy hk0 hk1 hk2 hk3 hk4 hk5 hK hji hLi kk hI hl
    · subst e9
      refine kn_i 21 (by decide) ?_
      refine lv_tableIn (tgt := 789) (off := 756) hx hb dL_law_33 (by decide) (by decide) rfl (by decide) ?_
      exact lawc_sheet l C0 hL hA hAf hN D h0 sh rd fr wr pf rc se rs sw sp ss cS s0 s1 s2 s3 e0 e1 e2 e3 ce0 ce1 ce2 ce3 td t1_ t2_ t3_ ct1 ct2 ct3 k1 k2 k3 ck1 ck2 ck3 w1 cw1 p1 cp1 y1 cy1 g1 g2 g3 g4 g5 g6 g7 cg1 cg2 cg3 cg4 cg5 cg6 cg7 fo o v1 v2 cv1 cv2 fq o2 sw1 csw1 sp1 csp1 sg1 sg2 sg3 sg4 sg5 sg6 sg7 scg1 scg2 scg3 scg4 scg5 scg6 scg7 sfo o3 m_h0 m_so m_sl m_ce m_kd m_wd m_hs m_pf m_lt m_wg m_rk m_rw m_rh m_sa m_fi m_ch m_cn m_kp m_rfa m_c_so m_c_sl m_c_ce m_c_kd m_c_wd m_c_hs m_c_pf m_c_lt m_c_wg m_c_rk m_c_rw m_c_rh m_c_sa m_c_fi m_c_ch m_c_cn m_c_kp m_c_rfa pr cy hk0 hk1 hk2 hk3 hk4 hk5 hK hji hLi kk hI hl
    · subst e9
      refine kn_i 22 (by decide) ?_
      refine lv_tableIn (tgt := 832) (off := 799) hx hb dL_law_33 (by decide) (by decide) rfl (by decide) ?_
      exact lawc_lose l C0 hL hA hAf hN D h0 sh rd fr wr pf rc se rs sw sp ss cS s0 s1 s2 s3 e0 e1 e2 e3 ce0 ce1 ce2 ce3 td t1_ t2_ t3_ ct1 ct2 ct3 k1 k2 k3 ck1 ck2 ck3 w1 cw1 p1 cp1 y1 cy1 g1 g2 g3 g4 g5 g6 g7 cg1 cg2 cg3 cg4 cg5 cg6 cg7 fo o v1 v2 cv1 cv2 fq o2 sw1 csw1 sp1 csp1 sg1 sg2 sg3 sg4 sg5 sg6 sg7 scg1 scg2 scg3 scg4 scg5 scg6 scg7 sfo o3 m_h0 m_so m_sl m_ce m_kd m_wd m_hs m_pf m_lt m_wg m_rk m_rw m_rh m_sa m_fi m_ch m_cn m_kp m_rfa m_c_so m_c_sl m_c_ce m_c_kd m_c_wd m_c_hs m_c_pf m_c_lt m_c_wg m_c_rk m_c_rw m_c_rh m_c_sa m_c_fi m_c_ch m_c_cn m_c_kp m_c_rfa pr cy hk0 hk1 hk2 hk3 hk4 hk5 hK hji hLi kk hI hl
    · subst e9
      refine kn_i 23 (by decide) ?_
      refine lv_tableIn (tgt := 855) (off := 822) hx hb dL_law_33 (by decide) (by decide) rfl (by decide) ?_
      exact lawc_put l C0 hL hA hAf hN D h0 sh rd fr wr pf rc se rs sw sp ss cS s0 s1 s2 s3 e0 e1 e2 e3 ce0 ce1 ce2 ce3 td t1_ t2_ t3_ ct1 ct2 ct3 k1 k2 k3 ck1 ck2 ck3 w1 cw1 p1 cp1 y1 cy1 g1 g2 g3 g4 g5 g6 g7 cg1 cg2 cg3 cg4 cg5 cg6 cg7 fo o v1 v2 cv1 cv2 fq o2 sw1 csw1 sp1 csp1 sg1 sg2 sg3 sg4 sg5 sg6 sg7 scg1 scg2 scg3 scg4 scg5 scg6 scg7 sfo o3 m_h0 m_so m_sl m_ce m_kd m_wd m_hs m_pf m_lt m_wg m_rk m_rw m_rh m_sa m_fi m_ch m_cn m_kp m_rfa m_c_so m_c_sl m_c_ce m_c_kd m_c_wd m_c_hs m_c_pf m_c_lt m_c_wg m_c_rk m_c_rw m_c_rh m_c_sa m_c_fi m_c_ch m_c_cn m_c_kp m_c_rfa pr cy hk0 hk1 hk2 hk3 hk4 hk5 hK hji hLi kk hI hl
    · subst e9
      refine kn_i 24 (by decide) ?_
      refine lv_tableIn (tgt := 898) (off := 865) hx hb dL_law_33 (by decide) (by decide) rfl (by decide) ?_
      exact lawc_cell l C0 hL hA hAf hN D h0 sh rd fr wr pf rc se rs sw sp ss cS s0 s1 s2 s3 e0 e1 e2 e3 ce0 ce1 ce2 ce3 td t1_ t2_ t3_ ct1 ct2 ct3 k1 k2 k3 ck1 ck2 ck3 w1 cw1 p1 cp1 y1 cy1 g1 g2 g3 g4 g5 g6 g7 cg1 cg2 cg3 cg4 cg5 cg6 cg7 fo o v1 v2 cv1 cv2 fq o2 sw1 csw1 sp1 csp1 sg1 sg2 sg3 sg4 sg5 sg6 sg7 scg1 scg2 scg3 scg4 scg5 scg6 scg7 sfo o3 m_h0 m_so m_sl m_ce m_kd m_wd m_hs m_pf m_lt m_wg m_rk m_rw m_rh m_sa m_fi m_ch m_cn m_kp m_rfa m_c_so m_c_sl m_c_ce m_c_kd m_c_wd m_c_hs m_c_pf m_c_lt m_c_wg m_c_rk m_c_rw m_c_rh m_c_sa m_c_fi m_c_ch m_c_cn m_c_kp m_c_rfa pr cy hk0 hk1 hk2 hk3 hk4 hk5 hK hji hLi kk hI hl
    · subst e9
      refine kn_i 25 (by decide) ?_
      refine lv_tableIn (tgt := 941) (off := 908) hx hb dL_law_33 (by decide) (by decide) rfl (by decide) ?_
      exact lawc_copy l C0 hL hA hAf hN D h0 sh rd fr wr pf rc se rs sw sp ss cS s0 s1 s2 s3 e0 e1 e2 e3 ce0 ce1 ce2 ce3 td t1_ t2_ t3_ ct1 ct2 ct3 k1 k2 k3 ck1 ck2 ck3 w1 cw1 p1 cp1 y1 cy1 g1 g2 g3 g4 g5 g6 g7 cg1 cg2 cg3 cg4 cg5 cg6 cg7 fo o v1 v2 cv1 cv2 fq o2 sw1 csw1 sp1 csp1 sg1 sg2 sg3 sg4 sg5 sg6 sg7 scg1 scg2 scg3 scg4 scg5 scg6 scg7 sfo o3 m_h0 m_so m_sl m_ce m_kd m_wd m_hs m_pf m_lt m_wg m_rk m_rw m_rh m_sa m_fi m_ch m_cn m_kp m_rfa m_c_so m_c_sl m_c_ce m_c_kd m_c_wd m_c_hs m_c_pf m_c_lt m_c_wg m_c_rk m_c_rw m_c_rh m_c_sa m_c_fi m_c_ch m_c_cn m_c_kp m_c_rfa pr cy hk0 hk1 hk2 hk3 hk4 hk5 hK hji hLi kk hI hl
    · subst e9
      refine kn_i 26 (by decide) ?_
      refine lv_tableIn (tgt := 1004) (off := 971) hx hb dL_law_33 (by decide) (by decide) rfl (by decide) ?_
      exact lawc_tell l C0 hL hA hAf hN D h0 sh rd fr wr pf rc se rs sw sp ss cS s0 s1 s2 s3 e0 e1 e2 e3 ce0 ce1 ce2 ce3 td t1_ t2_ t3_ ct1 ct2 ct3 k1 k2 k3 ck1 ck2 ck3 w1 cw1 p1 cp1 y1 cy1 g1 g2 g3 g4 g5 g6 g7 cg1 cg2 cg3 cg4 cg5 cg6 cg7 fo o v1 v2 cv1 cv2 fq o2 sw1 csw1 sp1 csp1 sg1 sg2 sg3 sg4 sg5 sg6 sg7 scg1 scg2 scg3 scg4 scg5 scg6 scg7 sfo o3 m_h0 m_so m_sl m_ce m_kd m_wd m_hs m_pf m_lt m_wg m_rk m_rw m_rh m_sa m_fi m_ch m_cn m_kp m_rfa m_c_so m_c_sl m_c_ce m_c_kd m_c_wd m_c_hs m_c_pf m_c_lt m_c_wg m_c_rk m_c_rw m_c_rh m_c_sa m_c_fi m_c_ch m_c_cn m_c_kp m_c_rfa pr cy hk0 hk1 hk2 hk3 hk4 hk5 hK hji hLi kk hI hl
    · subst e9
      refine kn_i 27 (by decide) ?_
      refine lv_tableIn (tgt := 1027) (off := 994) hx hb dL_law_33 (by decide) (by decide) rfl (by decide) ?_
      exact lawc_sample l C0 hL hA hAf hN D h0 sh rd fr wr pf rc se rs sw sp ss cS s0 s1 s2 s3 e0 e1 e2 e3 ce0 ce1 ce2 ce3 td t1_ t2_ t3_ ct1 ct2 ct3 k1 k2 k3 ck1 ck2 ck3 w1 cw1 p1 cp1 y1 cy1 g1 g2 g3 g4 g5 g6 g7 cg1 cg2 cg3 cg4 cg5 cg6 cg7 fo o v1 v2 cv1 cv2 fq o2 sw1 csw1 sp1 csp1 sg1 sg2 sg3 sg4 sg5 sg6 sg7 scg1 scg2 scg3 scg4 scg5 scg6 scg7 sfo o3 m_h0 m_so m_sl m_ce m_kd m_wd m_hs m_pf m_lt m_wg m_rk m_rw m_rh m_sa m_fi m_ch m_cn m_kp m_rfa m_c_so m_c_sl m_c_ce m_c_kd m_c_wd m_c_hs m_c_pf m_c_lt m_c_wg m_c_rk m_c_rw m_c_rh m_c_sa m_c_fi m_c_ch m_c_cn m_c_kp m_c_rfa pr cy hk0 hk1 hk2 hk3 hk4 hk5 hK hji hLi kk hI hl
    · subst e9
      refine kn_i 28 (by decide) ?_
      refine lv_tableIn (tgt := 1050) (off := 1017) hx hb dL_law_33 (by decide) (by decide) rfl (by decide) ?_
      exact lawc_as l C0 hL hA hAf hN D h0 sh rd fr wr pf rc se rs sw sp ss cS s0 s1 s2 s3 e0 e1 e2 e3 ce0 ce1 ce2 ce3 td t1_ t2_ t3_ ct1 ct2 ct3 k1 k2 k3 ck1 ck2 ck3 w1 cw1 p1 cp1 y1 cy1 g1 g2 g3 g4 g5 g6 g7 cg1 cg2 cg3 cg4 cg5 cg6 cg7 fo o v1 v2 cv1 cv2 fq o2 sw1 csw1 sp1 csp1 sg1 sg2 sg3 sg4 sg5 sg6 sg7 scg1 scg2 scg3 scg4 scg5 scg6 scg7 sfo o3 m_h0 m_so m_sl m_ce m_kd m_wd m_hs m_pf m_lt m_wg m_rk m_rw m_rh m_sa m_fi m_ch m_cn m_kp m_rfa m_c_so m_c_sl m_c_ce m_c_kd m_c_wd m_c_hs m_c_pf m_c_lt m_c_wg m_c_rk m_c_rw m_c_rh m_c_sa m_c_fi m_c_ch m_c_cn m_c_kp m_c_rfa pr cy hk0 hk1 hk2 hk3 hk4 hk5 hK hji hLi kk hI hl
    · subst e9
      refine kn_i 29 (by decide) ?_
      refine lv_tableIn (tgt := 1083) (off := 1050) hx hb dL_law_33 (by decide) (by decide) rfl (by decide) ?_
      exact lawc_trace l C0 hL hA hAf hN D h0 sh rd fr wr pf rc se rs sw sp ss cS s0 s1 s2 s3 e0 e1 e2 e3 ce0 ce1 ce2 ce3 td t1_ t2_ t3_ ct1 ct2 ct3 k1 k2 k3 ck1 ck2 ck3 w1 cw1 p1 cp1 y1 cy1 g1 g2 g3 g4 g5 g6 g7 cg1 cg2 cg3 cg4 cg5 cg6 cg7 fo o v1 v2 cv1 cv2 fq o2 sw1 csw1 sp1 csp1 sg1 sg2 sg3 sg4 sg5 sg6 sg7 scg1 scg2 scg3 scg4 scg5 scg6 scg7 sfo o3 m_h0 m_so m_sl m_ce m_kd m_wd m_hs m_pf m_lt m_wg m_rk m_rw m_rh m_sa m_fi m_ch m_cn m_kp m_rfa m_c_so m_c_sl m_c_ce m_c_kd m_c_wd m_c_hs m_c_pf m_c_lt m_c_wg m_c_rk m_c_rw m_c_rh m_c_sa m_c_fi m_c_ch m_c_cn m_c_kp m_c_rfa pr cy hk0 hk1 hk2 hk3 hk4 hk5 hK hji hLi kk hI hl
    · subst e9
      refine kn_i 30 (by decide) ?_
      refine lv_tableIn (tgt := 1096) (off := 1063) hx hb dL_law_33 (by decide) (by decide) rfl (by decide) ?_
      exact lawc_fault l C0 hL hA hAf hN D h0 sh rd fr wr pf rc se rs sw sp ss cS s0 s1 s2 s3 e0 e1 e2 e3 ce0 ce1 ce2 ce3 td t1_ t2_ t3_ ct1 ct2 ct3 k1 k2 k3 ck1 ck2 ck3 w1 cw1 p1 cp1 y1 cy1 g1 g2 g3 g4 g5 g6 g7 cg1 cg2 cg3 cg4 cg5 cg6 cg7 fo o v1 v2 cv1 cv2 fq o2 sw1 csw1 sp1 csp1 sg1 sg2 sg3 sg4 sg5 sg6 sg7 scg1 scg2 scg3 scg4 scg5 scg6 scg7 sfo o3 m_h0 m_so m_sl m_ce m_kd m_wd m_hs m_pf m_lt m_wg m_rk m_rw m_rh m_sa m_fi m_ch m_cn m_kp m_rfa m_c_so m_c_sl m_c_ce m_c_kd m_c_wd m_c_hs m_c_pf m_c_lt m_c_wg m_c_rk m_c_rw m_c_rh m_c_sa m_c_fi m_c_ch m_c_cn m_c_kp m_c_rfa pr cy hk0 hk1 hk2 hk3 hk4 hk5 hK hji hLi kk hI hl
    · subst e9
      refine kn_i 31 (by decide) ?_
      refine lv_tableIn (tgt := 1109) (off := 1076) hx hb dL_law_33 (by decide) (by decide) rfl (by decide) ?_
      exact lawc_many l C0 hL hA hAf hN D h0 sh rd fr wr pf rc se rs sw sp ss cS s0 s1 s2 s3 e0 e1 e2 e3 ce0 ce1 ce2 ce3 td t1_ t2_ t3_ ct1 ct2 ct3 k1 k2 k3 ck1 ck2 ck3 w1 cw1 p1 cp1 y1 cy1 g1 g2 g3 g4 g5 g6 g7 cg1 cg2 cg3 cg4 cg5 cg6 cg7 fo o v1 v2 cv1 cv2 fq o2 sw1 csw1 sp1 csp1 sg1 sg2 sg3 sg4 sg5 sg6 sg7 scg1 scg2 scg3 scg4 scg5 scg6 scg7 sfo o3 m_h0 m_so m_sl m_ce m_kd m_wd m_hs m_pf m_lt m_wg m_rk m_rw m_rh m_sa m_fi m_ch m_cn m_kp m_rfa m_c_so m_c_sl m_c_ce m_c_kd m_c_wd m_c_hs m_c_pf m_c_lt m_c_wg m_c_rk m_c_rw m_c_rh m_c_sa m_c_fi m_c_ch m_c_cn m_c_kp m_c_rfa pr cy hk0 hk1 hk2 hk3 hk4 hk5 hK hji hLi kk hI hl
