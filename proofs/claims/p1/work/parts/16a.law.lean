theorem klc {x : Int64} : lg_cmp x x = 0 := by unfold lg_cmp; rw [if_neg Int64.lt_irrefl, if_pos rfl]
theorem dL_law_18 : decode cL_law 18 = .ok (.iload_n 3, 1) := by decide +kernel
theorem dL_law_19 : decode cL_law 19 = .ok (.aload_n 0, 1) := by decide +kernel
theorem dL_law_20 : decode cL_law 20 = .ok (.arraylength, 1) := by decide +kernel
theorem dL_law_21 : decode cL_law 21 = .ok (.bipush 6, 2) := by decide +kernel
theorem dL_law_23 : decode cL_law 23 = .ok (.isub, 1) := by decide +kernel
theorem dL_law_24 : decode cL_law 24 = .ok (.if_icmp .gt 1117, 3) := by decide +kernel
theorem dL_law_1135 : decode cL_law 1135 = .ok (.iinc 3 6, 3) := by decide +kernel
theorem dL_law_1138 : decode cL_law 1138 = .ok (.goto (-1120), 3) := by decide +kernel
theorem dL_law_1141 : decode cL_law 1141 = .ok (.iconst 1, 1) := by decide +kernel
theorem dL_law_1142 : decode cL_law 1142 = .ok (.ireturn, 1) := by decide +kernel
set_option maxHeartbeats 4000000 in
theorem law_end {p : Program} {e : Env} {s : State} {m : MethodId} {below : List Frame} {meth : Method} {c : Code} (l : Launch) {b : Nat} {xs : Nat → Int32} {A : Nat → Prop} (C0 : lw_At p s m meth c b 6 xs) (hAf : ∀ q, A q → s.heap.size ≤ q) {H : Heap} {locs : List Loc} {cells slots : Nat} (hS : va_S A s.heap H locs) (hc9 : cells ≤ 600000) (hs9 : slots ≤ 7302250) {ls : Array Slot} (hl : lv_has ls 4 [(3, .int 0), (0, .ref b)]) : W p l e room_1 s m #[Value.ref b] below meth c H locs cells slots (lw_Z below #[Value.ref b] s) (F0 m 1135 ls []) := by
  obtain ⟨hx, hb, hr, hml, hown, hts, hX, hbl, hlocks, hgv⟩ := id C0
  have hbA : ¬ A b := fun h => absurd (hAf b h) (Nat.not_le.mpr hbl)
  refine lv_iinc (v := 6) (lv' := [(3, .int 6), (0, .ref b)]) hx hb dL_law_1135 hl (k := 0) rfl (by decide) (by decide) rfl (fun ls hl => ?_)
  refine lv_goto (tgt := 18) hx hb dL_law_1138 (by decide) ?_
  refine lv_iload_n hx hb dL_law_18 rfl (lv_at hl 0 rfl) ?_
  refine lv_aload_n hx hb dL_law_19 rfl (lv_at hl 1 rfl) ?_
  refine va_slen hx hb hX hbl hbA hS dL_law_20 ?_
  refine kn_i 6 rfl ?_
  refine lv_bipush (v := 6) hx hb dL_law_21 (by decide) ?_
  refine lv_isub hx hb dL_law_23 ?_
  refine kn_i 0 (by decide) ?_
  refine lv_icmp_gt (tgt := 1141) hx hb dL_law_24 (by decide) (fun _ => ?_) (fun c9 => absurd (by decide) c9)
  refine lv_iconst (v := 1) hx hb dL_law_1141 (by decide) ?_
  refine W.widen (k := 600000) (n := 7302250) hc9 hs9 ?_
  refine va_forget (fun q hq => hAf _ (hS.2.2 q hq)) ?_
  exact lw_ret hx hb hr hlocks dL_law_1142
theorem dL_law_176 : decode cL_law 176 = .ok (.aload_n 1, 1) := by decide +kernel
theorem dL_law_177 : decode cL_law 177 = .ok (.aload_n 0, 1) := by decide +kernel
theorem dL_law_178 : decode cL_law 178 = .ok (.iload_n 3, 1) := by decide +kernel
theorem dL_law_179 : decode cL_law 179 = .ok (.iconst 1, 1) := by decide +kernel
theorem dL_law_180 : decode cL_law 180 = .ok (.iadd, 1) := by decide +kernel
theorem dL_law_181 : decode cL_law 181 = .ok (.iaload, 1) := by decide +kernel
theorem dL_law_182 : decode cL_law 182 = .ok (.aload_n 0, 1) := by decide +kernel
theorem dL_law_183 : decode cL_law 183 = .ok (.iload_n 3, 1) := by decide +kernel
theorem dL_law_184 : decode cL_law 184 = .ok (.iconst 2, 1) := by decide +kernel
theorem dL_law_185 : decode cL_law 185 = .ok (.iadd, 1) := by decide +kernel
theorem dL_law_186 : decode cL_law 186 = .ok (.iaload, 1) := by decide +kernel
theorem dL_law_187 : decode cL_law 187 = .ok (.aload_n 0, 1) := by decide +kernel
theorem dL_law_188 : decode cL_law 188 = .ok (.iload_n 3, 1) := by decide +kernel
theorem dL_law_189 : decode cL_law 189 = .ok (.iconst 3, 1) := by decide +kernel
theorem dL_law_190 : decode cL_law 190 = .ok (.iadd, 1) := by decide +kernel
theorem dL_law_191 : decode cL_law 191 = .ok (.iaload, 1) := by decide +kernel
theorem dL_law_192 : decode cL_law 192 = .ok (.aload_n 0, 1) := by decide +kernel
theorem dL_law_193 : decode cL_law 193 = .ok (.iload_n 3, 1) := by decide +kernel
theorem dL_law_194 : decode cL_law 194 = .ok (.iconst 4, 1) := by decide +kernel
theorem dL_law_195 : decode cL_law 195 = .ok (.iadd, 1) := by decide +kernel
theorem dL_law_196 : decode cL_law 196 = .ok (.iaload, 1) := by decide +kernel
theorem dL_law_197 : decode cL_law 197 = .ok (.invokevirtual 13, 3) := by decide +kernel
theorem dL_law_200 : decode cL_law 200 = .ok (.aload_n 2, 1) := by decide +kernel
theorem dL_law_201 : decode cL_law 201 = .ok (.aload_n 0, 1) := by decide +kernel
theorem dL_law_202 : decode cL_law 202 = .ok (.iload_n 3, 1) := by decide +kernel
theorem dL_law_203 : decode cL_law 203 = .ok (.iconst 1, 1) := by decide +kernel
theorem dL_law_204 : decode cL_law 204 = .ok (.iadd, 1) := by decide +kernel
theorem dL_law_205 : decode cL_law 205 = .ok (.iaload, 1) := by decide +kernel
theorem dL_law_206 : decode cL_law 206 = .ok (.aload_n 0, 1) := by decide +kernel
theorem dL_law_207 : decode cL_law 207 = .ok (.iload_n 3, 1) := by decide +kernel
theorem dL_law_208 : decode cL_law 208 = .ok (.iconst 2, 1) := by decide +kernel
theorem dL_law_209 : decode cL_law 209 = .ok (.iadd, 1) := by decide +kernel
theorem dL_law_210 : decode cL_law 210 = .ok (.iaload, 1) := by decide +kernel
theorem dL_law_211 : decode cL_law 211 = .ok (.aload_n 0, 1) := by decide +kernel
theorem dL_law_212 : decode cL_law 212 = .ok (.iload_n 3, 1) := by decide +kernel
theorem dL_law_213 : decode cL_law 213 = .ok (.iconst 3, 1) := by decide +kernel
theorem dL_law_214 : decode cL_law 214 = .ok (.iadd, 1) := by decide +kernel
theorem dL_law_215 : decode cL_law 215 = .ok (.iaload, 1) := by decide +kernel
theorem dL_law_216 : decode cL_law 216 = .ok (.aload_n 0, 1) := by decide +kernel
theorem dL_law_217 : decode cL_law 217 = .ok (.iload_n 3, 1) := by decide +kernel
theorem dL_law_218 : decode cL_law 218 = .ok (.iconst 4, 1) := by decide +kernel
theorem dL_law_219 : decode cL_law 219 = .ok (.iadd, 1) := by decide +kernel
theorem dL_law_220 : decode cL_law 220 = .ok (.iaload, 1) := by decide +kernel
theorem dL_law_221 : decode cL_law 221 = .ok (.invokevirtual 17, 3) := by decide +kernel
theorem dL_law_224 : decode cL_law 224 = .ok (.if_icmp .eq 911, 3) := by decide +kernel
set_option maxRecDepth 20000 in
theorem ggL_law_X8_fonts : GoodIn wsL_law wsX8_fonts := goodIn_r _ [117, 118, 13, 19, 23, 119, 120, 121, 2, 122, 123, 124, 125, 126, 127, 128, 129, 130, 131, 132, 133, 134, 135, 136, 15, 137, 138, 139, 140, 141, 142, 143, 144, 145, 146, 18, 147, 56, 148, 149, 150, 151, 152, 153, 51, 154, 155, 156, 157, 158, 159, 160, 161, 162, 163, 164, 165, 166, 167, 168, 169, 170, 171, 172, 173, 174, 175, 176, 177, 178, 22, 179, 180, 181, 182, 183, 184, 185, 186, 187, 188, 189, 190, 191, 192, 193, 194, 195, 196, 197, 198, 199, 200, 201, 27, 202, 31, 35, 203, 43, 204, 205, 206, 207, 208, 60, 61, 62, 209, 210, 211, 30, 212, 213, 214, 215, 216, 217, 70, 218, 219, 220, 221, 39, 222, 223, 224, 225, 226, 227, 228, 38, 229, 230, 231, 232, 233, 234, 235, 236, 78, 79, 83, 237, 238, 239, 240, 241, 80, 242, 243, 244, 245, 246, 247, 248, 249, 85, 250, 251, 252, 253, 254, 255, 81, 82, 256, 257, 258, 259, 260, 261, 821, 822, 823, 824, 825, 826, 827, 828, 829, 830, 831, 832, 833, 834, 835, 873, 874, 875, 876, 867, 868, 869, 870, 871, 872, 877, 878, 881, 882, 893, 894, 895, 879, 880, 883, 884, 885, 886, 887, 888, 889, 890, 891, 892] (by decide +kernel) (by decide +kernel)
set_option maxRecDepth 20000 in
theorem gL_law_X8_fonts : GoodIn wsL_law (wsV RL 13 RX8 yX8_fonts wsX8_fonts) := goodIn_app (goodIn_of _ (by decide +kernel)) ggL_law_X8_fonts
set_option maxRecDepth 20000 in
theorem ggL_law_X9_fonts : GoodIn wsL_law wsX9_fonts := goodIn_r _ [265, 266, 267, 268, 269, 99, 105, 100, 106, 101, 107, 102, 103, 270, 271, 272, 273, 5, 274, 275, 276, 277, 278, 279, 280, 281, 282, 283, 284, 96, 97, 285, 286, 287, 288, 289, 290, 291, 292, 293, 294, 295, 296, 98, 297, 298, 299, 300, 301, 302, 303, 304, 305, 306, 836, 837, 838, 839, 840, 841, 842, 843, 844, 845, 846, 847, 848, 849, 850, 851, 852, 853, 854, 855, 856, 857, 858, 859, 860, 861, 862, 863, 864, 865, 866] (by decide +kernel) (by decide +kernel)
set_option maxRecDepth 20000 in
theorem gL_law_X9_fonts : GoodIn wsL_law (wsV RL 17 RX9 yX9_fonts wsX9_fonts) := goodIn_app (goodIn_of _ (by decide +kernel)) ggL_law_X9_fonts
set_option maxHeartbeats 4000000 in
set_option maxRecDepth 100000 in
theorem law_fonts {p : Program} {e : Env} {s : State} {m : MethodId} {below : List Frame} {meth : Method} {c : Code} (l : Launch) {b : Nat} {xs : Nat → Int32} {A : Nat → Prop} (C0 : lw_At p s m meth c b 6 xs) (hA : ∀ q, s.heap.size ≤ q → A q) (hAf : ∀ q, A q → s.heap.size ≤ q) (hN : kN s) (D : va_G) (h0 m0 : Nat) (sh : Nat) (rd : Nat) (fr : Nat) (wr : Nat) (pf : Nat) (rc : Nat) (se : Nat) (rs : Nat) (sw : Nat) (sp : Nat) (ss : Nat) (cS : ClassId) (s0 : Nat) (s1 : Nat) (s2 : Nat) (s3 : Nat) (e0 : Nat) (e1 : Nat) (e2 : Nat) (e3 : Nat) (so : Nat) (sl : Nat) (ce : Nat) (kd : Nat) (wd : Nat) (hs : Nat) (pr : Nat) (la : Nat) (wg : Nat) (rk : Nat) (rw : Nat) (rh : Nat) (sa : Nat) (fi : Nat) (ch : Nat) (cn : Nat) (kp : Nat) (rfa : Nat) (cso : ClassId) {H : Heap} {locs : List Loc} (hP : va_P D vwCl [(h0, .inr (8, [.ref sh, .ref rd, .ref fr, .ref wr, .ref pf, .ref rc, .ref se, .ref rs, .ref sw, .ref sp, .ref ss, .int 0, .long 0, .int 0, .int 0])), (sh, .inl (cS, 4, .inr (.inr (.inr (.inr (va_up (va_up (va_up (va_up (fun _ => none) 0 (some s0)) 1 (some s1)) 2 (some s2)) 3 (some s3))))))), (s0, .inr (5, [.ref e0, .int 0, .int 0, .int 0])), (s1, .inr (5, [.ref e1, .int 0, .int 0, .int 0])), (s2, .inr (5, [.ref e2, .int 0, .int 0, .int 0])), (s3, .inr (5, [.ref e3, .int 0, .int 0, .int 0])), (m0, .inr (9, [.int 0, .int 0, .ref so, .ref sl, .ref ce, .int 0, .ref kd, .ref wd, .ref hs, .ref pr, .ref la, .int 0, .ref wg, .int 0, .long 0, .int 0, .int 0, .ref rk, .ref rw, .ref rh, .int 0, .ref sa, .ref fi, .int 0, .ref ch, .ref cn, .int 0, .int 0, .ref kp, .int 0, .ref rfa])), (so, .inl (cso, 4, .inl kSO))] H) (hD : va_D A [(h0, .inr (8, [.ref sh, .ref rd, .ref fr, .ref wr, .ref pf, .ref rc, .ref se, .ref rs, .ref sw, .ref sp, .ref ss, .int 0, .long 0, .int 0, .int 0])), (sh, .inl (cS, 4, .inr (.inr (.inr (.inr (va_up (va_up (va_up (va_up (fun _ => none) 0 (some s0)) 1 (some s1)) 2 (some s2)) 3 (some s3))))))), (s0, .inr (5, [.ref e0, .int 0, .int 0, .int 0])), (s1, .inr (5, [.ref e1, .int 0, .int 0, .int 0])), (s2, .inr (5, [.ref e2, .int 0, .int 0, .int 0])), (s3, .inr (5, [.ref e3, .int 0, .int 0, .int 0])), (m0, .inr (9, [.int 0, .int 0, .ref so, .ref sl, .ref ce, .int 0, .ref kd, .ref wd, .ref hs, .ref pr, .ref la, .int 0, .ref wg, .int 0, .long 0, .int 0, .int 0, .ref rk, .ref rw, .ref rh, .int 0, .ref sa, .ref fi, .int 0, .ref ch, .ref cn, .int 0, .int 0, .ref kp, .int 0, .ref rfa])), (so, .inl (cso, 4, .inl kSO))]) (hK : va_K D vwCl [(cS, .object RX5), (cso, .int)] s) (hS : va_S A s.heap H locs) {ls : Array Slot} (hl : lv_has ls 4 [(3, .int 0), (2, .ref m0), (1, .ref h0), (0, .ref b)]) : W p l e room_1 s m #[Value.ref b] below meth c H locs 123 1521 (lw_Z below #[Value.ref b] s) (F0 m 176 ls []) := by
  obtain ⟨hx, hb, hr, hml, hown, hts, hX, hbl, hlocks, hgv⟩ := id C0
  have hbA : ¬ A b := fun h => absurd (hAf b h) (Nat.not_le.mpr hbl)
  refine lv_aload_n hx hb dL_law_176 rfl (lv_at hl 2 rfl) ?_
  refine lv_aload_n hx hb dL_law_177 rfl (lv_at hl 3 rfl) ?_
  refine lv_iload_n hx hb dL_law_178 rfl (lv_at hl 0 rfl) ?_
  refine lv_iconst (v := 1) hx hb dL_law_179 (by decide) ?_
  refine lv_iadd hx hb dL_law_180 ?_
  refine kn_i 1 (by decide) ?_
  refine va_sld hx hb hX hbl hbA hS (by unfold vp_in; decide) dL_law_181 ?_
  refine kn_i (xs 1) rfl ?_
  refine lv_aload_n hx hb dL_law_182 rfl (lv_at hl 3 rfl) ?_
  refine lv_iload_n hx hb dL_law_183 rfl (lv_at hl 0 rfl) ?_
  refine lv_iconst (v := 2) hx hb dL_law_184 (by decide) ?_
  refine lv_iadd hx hb dL_law_185 ?_
  refine kn_i 2 (by decide) ?_
  refine va_sld hx hb hX hbl hbA hS (by unfold vp_in; decide) dL_law_186 ?_
  refine kn_i (xs 2) rfl ?_
  refine lv_aload_n hx hb dL_law_187 rfl (lv_at hl 3 rfl) ?_
  refine lv_iload_n hx hb dL_law_188 rfl (lv_at hl 0 rfl) ?_
  refine lv_iconst (v := 3) hx hb dL_law_189 (by decide) ?_
  refine lv_iadd hx hb dL_law_190 ?_
  refine kn_i 3 (by decide) ?_
  refine va_sld hx hb hX hbl hbA hS (by unfold vp_in; decide) dL_law_191 ?_
  refine kn_i (xs 3) rfl ?_
  refine lv_aload_n hx hb dL_law_192 rfl (lv_at hl 3 rfl) ?_
  refine lv_iload_n hx hb dL_law_193 rfl (lv_at hl 0 rfl) ?_
  refine lv_iconst (v := 4) hx hb dL_law_194 (by decide) ?_
  refine lv_iadd hx hb dL_law_195 ?_
  refine kn_i 4 (by decide) ?_
  refine va_sld hx hb hX hbl hbA hS (by unfold vp_in; decide) dL_law_196 ?_
  refine kn_i (xs 4) rfl ?_
  have hFc := va_free (wc := [(h0, .inr (8, [.ref sh, .ref rd, .ref fr, .ref wr, .ref pf, .ref rc, .ref se, .ref rs, .ref sw, .ref sp, .ref ss, .int 0, .long 0, .int 0, .int 0])), (sh, .inl (cS, 4, .inr (.inr (.inr (.inr (va_up (va_up (va_up (va_up (fun _ => none) 0 (some s0)) 1 (some s1)) 2 (some s2)) 3 (some s3))))))), (s0, .inr (5, [.ref e0, .int 0, .int 0, .int 0])), (s1, .inr (5, [.ref e1, .int 0, .int 0, .int 0])), (s2, .inr (5, [.ref e2, .int 0, .int 0, .int 0])), (s3, .inr (5, [.ref e3, .int 0, .int 0, .int 0]))]) hD hS hA [0, 1, 2, 3, 4, 5] rfl
  refine va_calli (va_runV (As := [.int (xs 1), .int (xs 2), .int (xs 3), .int (xs 4)]) (rest := []) ⟨hx, hb, hml, hown, hts⟩ (c_X8_fonts l D H.size (k := (xs 1)) (n := (xs 2)) (i := (xs 3)) (z := (xs 4)) (h0 := h0) (sh := sh) (rd := rd) (fr := fr) (wr := wr) (pf := pf) (rc := rc) (se := se) (rs := rs) (sw := sw) (sp := sp) (ss := ss) (ew := 0) (wc := 0) (tr := 0) (lf := 0) (cS := cS) (s0 := s0) (s1 := s1) (s2 := s2) (s3 := s3) (e0 := e0) (e1 := e1) (e2 := e2) (e3 := e3)) (cwV 4 hts (goodL gL_law_X8_fonts) rfl rfl rfl (by decide +kernel) ⟨Nat.le_of_ble_eq_true rfl, Nat.le_of_ble_eq_true rfl⟩) (kPreV hP (kD0 hD) hK hN [0, 1, 2, 3, 4, 5] [0] rfl rfl (by decide) 0 8 rfl rfl) rfl rfl hl.1 rfl (lv_room (Nat.le_of_ble_eq_true rfl)) dL_law_197 ⟨Nat.le_of_ble_eq_true rfl, Nat.le_of_ble_eq_true rfl⟩) hS (fun q _ h => hFc q h) hFc (fun r_1 u t H1 locs ht hvm hw hB hz1 hk1 hS => ?_)
  obtain ⟨hP, hD⟩ := va_join (wr := [(m0, .inr (9, [.int 0, .int 0, .ref so, .ref sl, .ref ce, .int 0, .ref kd, .ref wd, .ref hs, .ref pr, .ref la, .int 0, .ref wg, .int 0, .long 0, .int 0, .int 0, .ref rk, .ref rw, .ref rh, .int 0, .ref sa, .ref fi, .int 0, .ref ch, .ref cn, .int 0, .int 0, .ref kp, .int 0, .ref rfa])), (so, .inl (cso, 4, .inl kSO))]) (w1 := []) hP hD [0, 1, 2, 3, 4, 5] [6, 7] rfl rfl (by decide) (by decide) hk1 hFc kP0 kDn
  generalize H1 = H at hP hS ⊢
  have hP : va_P D vwCl [(m0, .inr (9, [.int 0, .int 0, .ref so, .ref sl, .ref ce, .int 0, .ref kd, .ref wd, .ref hs, .ref pr, .ref la, .int 0, .ref wg, .int 0, .long 0, .int 0, .int 0, .ref rk, .ref rw, .ref rh, .int 0, .ref sa, .ref fi, .int 0, .ref ch, .ref cn, .int 0, .int 0, .ref kp, .int 0, .ref rfa])), (so, .inl (cso, 4, .inl kSO))] H := hP
  have hD : va_D A [(m0, .inr (9, [.int 0, .int 0, .ref so, .ref sl, .ref ce, .int 0, .ref kd, .ref wd, .ref hs, .ref pr, .ref la, .int 0, .ref wg, .int 0, .long 0, .int 0, .int 0, .ref rk, .ref rw, .ref rh, .int 0, .ref sa, .ref fi, .int 0, .ref ch, .ref cn, .int 0, .int 0, .ref kp, .int 0, .ref rfa])), (so, .inl (cso, 4, .inl kSO))] := hD
  refine kn_i (sp_fonts (xs 1) (xs 2)) hw ?_
  refine lv_aload_n hx hb dL_law_200 rfl (lv_at hl 1 rfl) ?_
  refine lv_aload_n hx hb dL_law_201 rfl (lv_at hl 3 rfl) ?_
  refine lv_iload_n hx hb dL_law_202 rfl (lv_at hl 0 rfl) ?_
  refine lv_iconst (v := 1) hx hb dL_law_203 (by decide) ?_
  refine lv_iadd hx hb dL_law_204 ?_
  refine kn_i 1 (by decide) ?_
  refine va_sld hx hb hX hbl hbA hS (by unfold vp_in; decide) dL_law_205 ?_
  refine kn_i (xs 1) rfl ?_
  refine lv_aload_n hx hb dL_law_206 rfl (lv_at hl 3 rfl) ?_
  refine lv_iload_n hx hb dL_law_207 rfl (lv_at hl 0 rfl) ?_
  refine lv_iconst (v := 2) hx hb dL_law_208 (by decide) ?_
  refine lv_iadd hx hb dL_law_209 ?_
  refine kn_i 2 (by decide) ?_
  refine va_sld hx hb hX hbl hbA hS (by unfold vp_in; decide) dL_law_210 ?_
  refine kn_i (xs 2) rfl ?_
  refine lv_aload_n hx hb dL_law_211 rfl (lv_at hl 3 rfl) ?_
  refine lv_iload_n hx hb dL_law_212 rfl (lv_at hl 0 rfl) ?_
  refine lv_iconst (v := 3) hx hb dL_law_213 (by decide) ?_
  refine lv_iadd hx hb dL_law_214 ?_
  refine kn_i 3 (by decide) ?_
  refine va_sld hx hb hX hbl hbA hS (by unfold vp_in; decide) dL_law_215 ?_
  refine kn_i (xs 3) rfl ?_
  refine lv_aload_n hx hb dL_law_216 rfl (lv_at hl 3 rfl) ?_
  refine lv_iload_n hx hb dL_law_217 rfl (lv_at hl 0 rfl) ?_
  refine lv_iconst (v := 4) hx hb dL_law_218 (by decide) ?_
  refine lv_iadd hx hb dL_law_219 ?_
  refine kn_i 4 (by decide) ?_
  refine va_sld hx hb hX hbl hbA hS (by unfold vp_in; decide) dL_law_220 ?_
  refine kn_i (xs 4) rfl ?_
  have hFc := va_free (wc := [(m0, .inr (9, [.int 0, .int 0, .ref so, .ref sl, .ref ce, .int 0, .ref kd, .ref wd, .ref hs, .ref pr, .ref la, .int 0, .ref wg, .int 0, .long 0, .int 0, .int 0, .ref rk, .ref rw, .ref rh, .int 0, .ref sa, .ref fi, .int 0, .ref ch, .ref cn, .int 0, .int 0, .ref kp, .int 0, .ref rfa])), (so, .inl (cso, 4, .inl kSO))]) hD hS hA [0, 1] rfl
  refine va_calli (va_runV (As := [.int (xs 1), .int (xs 2), .int (xs 3), .int (xs 4)]) (rest := [.int (sp_fonts (xs 1) (xs 2))]) ⟨hx, hb, hml, hown, hts⟩ (c_X9_fonts l D H.size (k := (xs 1)) (n := (xs 2)) (i := (xs 3)) (z := (xs 4)) (h0 := m0) (fa := 0) (tc := 0) (so := so) (sl := sl) (ce := ce) (kd := kd) (wd := wd) (hs := hs) (pr := pr) (la := la) (wg := wg) (ta := 0) (ck := 0) (at9 := 0) (rfn := 0) (rk := rk) (rw := rw) (rh := rh) (cl := 0) (sa := sa) (fi := fi) (bo := 0) (ch := ch) (cn := cn) (ad := 0) (ru := 0) (kp := kp) (rfa := rfa) (cso := cso)) (cwV 4 hts (goodL gL_law_X9_fonts) rfl rfl rfl (by decide +kernel) ⟨Nat.le_of_ble_eq_true rfl, Nat.le_of_ble_eq_true rfl⟩) (kPreV hP (kD0 hD) hK hN [0, 1] [1] rfl rfl (by decide) 0 9 rfl rfl) rfl rfl hl.1 rfl (lv_room (Nat.le_of_ble_eq_true rfl)) dL_law_221 ⟨Nat.le_of_ble_eq_true rfl, Nat.le_of_ble_eq_true rfl⟩) hS (fun q _ h => hFc q h) hFc (fun r_2 u t H1 locs ht hvm hw hB hz1 hk1 hS => ?_)
  obtain ⟨hP, hD⟩ := va_join (wr := []) (w1 := []) hP hD [0, 1] [] rfl rfl (by decide) (by decide) hk1 hFc kP0 kDn
  generalize H1 = H at hP hS ⊢
  have hP : va_P D vwCl [] H := hP
  have hD : va_D A [] := hD
  refine kn_i (sp_fonts (xs 1) (xs 2)) hw ?_
  refine lv_icmp_eq (tgt := 1135) hx hb dL_law_224 (by decide) (fun _ => ?_) (fun c9 => absurd rfl c9)
  exact law_end l C0 hAf hS (Nat.le_of_ble_eq_true rfl) (Nat.le_of_ble_eq_true rfl) (lv_sub hl [0, 3] rfl)
theorem dL_law_229 : decode cL_law 229 = .ok (.aload_n 1, 1) := by decide +kernel
theorem dL_law_230 : decode cL_law 230 = .ok (.aload_n 0, 1) := by decide +kernel
theorem dL_law_231 : decode cL_law 231 = .ok (.iload_n 3, 1) := by decide +kernel
theorem dL_law_232 : decode cL_law 232 = .ok (.iconst 1, 1) := by decide +kernel
theorem dL_law_233 : decode cL_law 233 = .ok (.iadd, 1) := by decide +kernel
theorem dL_law_234 : decode cL_law 234 = .ok (.iaload, 1) := by decide +kernel
theorem dL_law_235 : decode cL_law 235 = .ok (.aload_n 0, 1) := by decide +kernel
theorem dL_law_236 : decode cL_law 236 = .ok (.iload_n 3, 1) := by decide +kernel
theorem dL_law_237 : decode cL_law 237 = .ok (.iconst 2, 1) := by decide +kernel
theorem dL_law_238 : decode cL_law 238 = .ok (.iadd, 1) := by decide +kernel
theorem dL_law_239 : decode cL_law 239 = .ok (.iaload, 1) := by decide +kernel
theorem dL_law_240 : decode cL_law 240 = .ok (.invokevirtual 18, 3) := by decide +kernel
theorem dL_law_243 : decode cL_law 243 = .ok (.aload_n 2, 1) := by decide +kernel
theorem dL_law_244 : decode cL_law 244 = .ok (.aload_n 0, 1) := by decide +kernel
theorem dL_law_245 : decode cL_law 245 = .ok (.iload_n 3, 1) := by decide +kernel
theorem dL_law_246 : decode cL_law 246 = .ok (.iconst 1, 1) := by decide +kernel
theorem dL_law_247 : decode cL_law 247 = .ok (.iadd, 1) := by decide +kernel
theorem dL_law_248 : decode cL_law 248 = .ok (.iaload, 1) := by decide +kernel
theorem dL_law_249 : decode cL_law 249 = .ok (.aload_n 0, 1) := by decide +kernel
theorem dL_law_250 : decode cL_law 250 = .ok (.iload_n 3, 1) := by decide +kernel
theorem dL_law_251 : decode cL_law 251 = .ok (.iconst 2, 1) := by decide +kernel
theorem dL_law_252 : decode cL_law 252 = .ok (.iadd, 1) := by decide +kernel
theorem dL_law_253 : decode cL_law 253 = .ok (.iaload, 1) := by decide +kernel
theorem dL_law_254 : decode cL_law 254 = .ok (.invokevirtual 22, 3) := by decide +kernel
theorem dL_law_257 : decode cL_law 257 = .ok (.if_icmp .eq 878, 3) := by decide +kernel
set_option maxRecDepth 20000 in
theorem ggL_law_X8_ofFont : GoodIn wsL_law wsX8_ofFont := goodIn_r _ [310, 23, 311, 312, 313, 31, 314, 177, 178, 22, 179, 180, 124, 2, 125, 315, 316, 317, 318, 60, 61, 319, 320, 321, 322, 323, 324, 30, 325, 217, 70, 821, 822, 823, 824, 825, 826, 827, 828, 829, 830, 831, 832, 833, 834, 835, 873, 874, 875, 876, 879, 880] (by decide +kernel) (by decide +kernel)
set_option maxRecDepth 20000 in
theorem gL_law_X8_ofFont : GoodIn wsL_law (wsV RL 18 RX8 yX8_ofFont wsX8_ofFont) := goodIn_app (goodIn_of _ (by decide +kernel)) ggL_law_X8_ofFont
set_option maxRecDepth 20000 in
theorem ggL_law_X9_ofFont : GoodIn wsL_law wsX9_ofFont := goodIn_r _ [329, 99, 100, 101, 330, 331, 332, 5, 333, 269, 334, 335, 336, 337, 338, 339, 340, 341, 102, 836, 837, 838, 839, 840, 841, 842, 843, 844, 845, 846, 847, 848, 849, 850, 851, 852, 853, 854, 855, 856, 857, 858, 859, 860, 861, 862, 863, 864, 865, 866] (by decide +kernel) (by decide +kernel)
set_option maxRecDepth 20000 in
theorem gL_law_X9_ofFont : GoodIn wsL_law (wsV RL 22 RX9 yX9_ofFont wsX9_ofFont) := goodIn_app (goodIn_of _ (by decide +kernel)) ggL_law_X9_ofFont
set_option maxHeartbeats 4000000 in
set_option maxRecDepth 100000 in
theorem law_ofFont {p : Program} {e : Env} {s : State} {m : MethodId} {below : List Frame} {meth : Method} {c : Code} (l : Launch) {b : Nat} {xs : Nat → Int32} {A : Nat → Prop} (C0 : lw_At p s m meth c b 6 xs) (hA : ∀ q, s.heap.size ≤ q → A q) (hAf : ∀ q, A q → s.heap.size ≤ q) (hN : kN s) (D : va_G) (h0 m0 : Nat) (sh : Nat) (rd : Nat) (fr : Nat) (wr : Nat) (pf : Nat) (rc : Nat) (se : Nat) (rs : Nat) (sw : Nat) (sp : Nat) (ss : Nat) (k1 : Nat) (k2 : Nat) (k3 : Nat) (so : Nat) (sl : Nat) (ce : Nat) (kd : Nat) (wd : Nat) (hs : Nat) (pr : Nat) (la : Nat) (wg : Nat) (rk : Nat) (rw : Nat) (rh : Nat) (sa : Nat) (fi : Nat) (ch : Nat) (cn : Nat) (kp : Nat) (rfa : Nat) {H : Heap} {locs : List Loc} (hP : va_P D vwCl [(h0, .inr (8, [.ref sh, .ref rd, .ref fr, .ref wr, .ref pf, .ref rc, .ref se, .ref rs, .ref sw, .ref sp, .ref ss, .int 0, .long 0, .int 0, .int 0])), (fr, .inr (0, [.ref k1, .ref k2, .ref k3, .int 0])), (m0, .inr (9, [.int 0, .int 0, .ref so, .ref sl, .ref ce, .int 0, .ref kd, .ref wd, .ref hs, .ref pr, .ref la, .int 0, .ref wg, .int 0, .long 0, .int 0, .int 0, .ref rk, .ref rw, .ref rh, .int 0, .ref sa, .ref fi, .int 0, .ref ch, .ref cn, .int 0, .int 0, .ref kp, .int 0, .ref rfa]))] H) (hD : va_D A [(h0, .inr (8, [.ref sh, .ref rd, .ref fr, .ref wr, .ref pf, .ref rc, .ref se, .ref rs, .ref sw, .ref sp, .ref ss, .int 0, .long 0, .int 0, .int 0])), (fr, .inr (0, [.ref k1, .ref k2, .ref k3, .int 0])), (m0, .inr (9, [.int 0, .int 0, .ref so, .ref sl, .ref ce, .int 0, .ref kd, .ref wd, .ref hs, .ref pr, .ref la, .int 0, .ref wg, .int 0, .long 0, .int 0, .int 0, .ref rk, .ref rw, .ref rh, .int 0, .ref sa, .ref fi, .int 0, .ref ch, .ref cn, .int 0, .int 0, .ref kp, .int 0, .ref rfa]))]) (hK : va_K D vwCl [] s) (hS : va_S A s.heap H locs) {ls : Array Slot} (hl : lv_has ls 4 [(3, .int 0), (2, .ref m0), (1, .ref h0), (0, .ref b)]) : W p l e room_1 s m #[Value.ref b] below meth c H locs 123 1521 (lw_Z below #[Value.ref b] s) (F0 m 229 ls []) := by
  obtain ⟨hx, hb, hr, hml, hown, hts, hX, hbl, hlocks, hgv⟩ := id C0
  have hbA : ¬ A b := fun h => absurd (hAf b h) (Nat.not_le.mpr hbl)
  refine lv_aload_n hx hb dL_law_229 rfl (lv_at hl 2 rfl) ?_
  refine lv_aload_n hx hb dL_law_230 rfl (lv_at hl 3 rfl) ?_
  refine lv_iload_n hx hb dL_law_231 rfl (lv_at hl 0 rfl) ?_
  refine lv_iconst (v := 1) hx hb dL_law_232 (by decide) ?_
  refine lv_iadd hx hb dL_law_233 ?_
  refine kn_i 1 (by decide) ?_
  refine va_sld hx hb hX hbl hbA hS (by unfold vp_in; decide) dL_law_234 ?_
  refine kn_i (xs 1) rfl ?_
  refine lv_aload_n hx hb dL_law_235 rfl (lv_at hl 3 rfl) ?_
  refine lv_iload_n hx hb dL_law_236 rfl (lv_at hl 0 rfl) ?_
  refine lv_iconst (v := 2) hx hb dL_law_237 (by decide) ?_
  refine lv_iadd hx hb dL_law_238 ?_
  refine kn_i 2 (by decide) ?_
  refine va_sld hx hb hX hbl hbA hS (by unfold vp_in; decide) dL_law_239 ?_
  refine kn_i (xs 2) rfl ?_
  refine k_callR (va_runV (As := [.int (xs 1), .int (xs 2)]) (rest := []) ⟨hx, hb, hml, hown, hts⟩ (c_X8_ofFont l D H.size (f := (xs 1)) (w := (xs 2)) (h0 := h0) (sh := sh) (rd := rd) (fr := fr) (wr := wr) (pf := pf) (rc := rc) (se := se) (rs := rs) (sw := sw) (sp := sp) (ss := ss) (ew := 0) (wc := 0) (tr := 0) (lf := 0) (k1 := k1) (k2 := k2) (k3 := k3)) (cwV 2 hts (goodL gL_law_X8_ofFont) rfl rfl rfl (by decide +kernel) ⟨Nat.le_of_ble_eq_true rfl, Nat.le_of_ble_eq_true rfl⟩) (kPreV hP (kD0 hD) hK hN [0, 1] [] rfl rfl (by decide) 0 8 rfl rfl) rfl rfl hl.1 rfl (lv_room (Nat.le_of_ble_eq_true rfl)) dL_law_240 ⟨Nat.le_of_ble_eq_true rfl, Nat.le_of_ble_eq_true rfl⟩) ?_
  refine lv_aload_n hx hb dL_law_243 rfl (lv_at hl 1 rfl) ?_
  refine lv_aload_n hx hb dL_law_244 rfl (lv_at hl 3 rfl) ?_
  refine lv_iload_n hx hb dL_law_245 rfl (lv_at hl 0 rfl) ?_
  refine lv_iconst (v := 1) hx hb dL_law_246 (by decide) ?_
  refine lv_iadd hx hb dL_law_247 ?_
  refine kn_i 1 (by decide) ?_
  refine va_sld hx hb hX hbl hbA hS (by unfold vp_in; decide) dL_law_248 ?_
  refine kn_i (xs 1) rfl ?_
  refine lv_aload_n hx hb dL_law_249 rfl (lv_at hl 3 rfl) ?_
  refine lv_iload_n hx hb dL_law_250 rfl (lv_at hl 0 rfl) ?_
  refine lv_iconst (v := 2) hx hb dL_law_251 (by decide) ?_
  refine lv_iadd hx hb dL_law_252 ?_
  refine kn_i 2 (by decide) ?_
  refine va_sld hx hb hX hbl hbA hS (by unfold vp_in; decide) dL_law_253 ?_
  refine kn_i (xs 2) rfl ?_
  refine k_callR (va_runV (As := [.int (xs 1), .int (xs 2)]) (rest := [.int (-1)]) ⟨hx, hb, hml, hown, hts⟩ (c_X9_ofFont l D H.size (f := (xs 1)) (w := (xs 2)) (h0 := m0) (fa := 0) (tc := 0) (so := so) (sl := sl) (ce := ce) (kd := kd) (wd := wd) (hs := hs) (pr := pr) (la := la) (wg := wg) (ta := 0) (ck := 0) (at9 := 0) (rfn := 0) (rk := rk) (rw := rw) (rh := rh) (cl := 0) (sa := sa) (fi := fi) (bo := 0) (ch := ch) (cn := cn) (ad := 0) (ru := 0) (kp := kp) (rfa := rfa)) (cwV 2 hts (goodL gL_law_X9_ofFont) rfl rfl rfl (by decide +kernel) ⟨Nat.le_of_ble_eq_true rfl, Nat.le_of_ble_eq_true rfl⟩) (kPreV hP (kD0 hD) hK hN [2] [] rfl rfl (by decide) 2 9 rfl rfl) rfl rfl hl.1 rfl (lv_room (Nat.le_of_ble_eq_true rfl)) dL_law_254 ⟨Nat.le_of_ble_eq_true rfl, Nat.le_of_ble_eq_true rfl⟩) ?_
  refine lv_icmp_eq (tgt := 1135) hx hb dL_law_257 (by decide) (fun _ => ?_) (fun c9 => absurd (by decide) c9)
  exact law_end l C0 hAf hS (Nat.le_of_ble_eq_true rfl) (Nat.le_of_ble_eq_true rfl) (lv_sub hl [0, 3] rfl)
theorem dL_law_262 : decode cL_law 262 = .ok (.aload_n 1, 1) := by decide +kernel
theorem dL_law_263 : decode cL_law 263 = .ok (.aload_n 0, 1) := by decide +kernel
theorem dL_law_264 : decode cL_law 264 = .ok (.iload_n 3, 1) := by decide +kernel
theorem dL_law_265 : decode cL_law 265 = .ok (.iconst 1, 1) := by decide +kernel
theorem dL_law_266 : decode cL_law 266 = .ok (.iadd, 1) := by decide +kernel
theorem dL_law_267 : decode cL_law 267 = .ok (.iaload, 1) := by decide +kernel
theorem dL_law_268 : decode cL_law 268 = .ok (.aload_n 0, 1) := by decide +kernel
theorem dL_law_269 : decode cL_law 269 = .ok (.iload_n 3, 1) := by decide +kernel
theorem dL_law_270 : decode cL_law 270 = .ok (.iconst 2, 1) := by decide +kernel
theorem dL_law_271 : decode cL_law 271 = .ok (.iadd, 1) := by decide +kernel
theorem dL_law_272 : decode cL_law 272 = .ok (.iaload, 1) := by decide +kernel
theorem dL_law_273 : decode cL_law 273 = .ok (.invokevirtual 23, 3) := by decide +kernel
theorem dL_law_276 : decode cL_law 276 = .ok (.aload_n 2, 1) := by decide +kernel
theorem dL_law_277 : decode cL_law 277 = .ok (.aload_n 0, 1) := by decide +kernel
theorem dL_law_278 : decode cL_law 278 = .ok (.iload_n 3, 1) := by decide +kernel
theorem dL_law_279 : decode cL_law 279 = .ok (.iconst 1, 1) := by decide +kernel
theorem dL_law_280 : decode cL_law 280 = .ok (.iadd, 1) := by decide +kernel
theorem dL_law_281 : decode cL_law 281 = .ok (.iaload, 1) := by decide +kernel
theorem dL_law_282 : decode cL_law 282 = .ok (.aload_n 0, 1) := by decide +kernel
theorem dL_law_283 : decode cL_law 283 = .ok (.iload_n 3, 1) := by decide +kernel
theorem dL_law_284 : decode cL_law 284 = .ok (.iconst 2, 1) := by decide +kernel
theorem dL_law_285 : decode cL_law 285 = .ok (.iadd, 1) := by decide +kernel
theorem dL_law_286 : decode cL_law 286 = .ok (.iaload, 1) := by decide +kernel
theorem dL_law_287 : decode cL_law 287 = .ok (.invokevirtual 26, 3) := by decide +kernel
theorem dL_law_290 : decode cL_law 290 = .ok (.if_icmp .eq 845, 3) := by decide +kernel
set_option maxRecDepth 20000 in
theorem ggL_law_X8_width : GoodIn wsL_law wsX8_width := goodIn_r _ [345, 23, 312, 314, 177, 178, 22, 179, 180, 124, 2, 125, 123, 821, 822, 823, 824, 825, 826, 827, 828, 829, 830, 831, 832, 833, 834, 835, 873, 874, 875, 876] (by decide +kernel) (by decide +kernel)
set_option maxRecDepth 20000 in
theorem gL_law_X8_width : GoodIn wsL_law (wsV RL 23 RX8 yX8_width wsX8_width) := goodIn_app (goodIn_of _ (by decide +kernel)) ggL_law_X8_width
set_option maxRecDepth 20000 in
theorem ggL_law_X9_width : GoodIn wsL_law wsX9_width := goodIn_r _ [349, 100, 330, 331, 332, 5, 333, 269, 275, 276, 277, 836, 837, 838, 839, 840, 841, 842, 843, 844, 845, 846, 847, 848, 849, 850, 851, 852, 853, 854, 855, 856, 857, 858, 859, 860, 861, 862, 863, 864, 865, 866] (by decide +kernel) (by decide +kernel)
set_option maxRecDepth 20000 in
theorem gL_law_X9_width : GoodIn wsL_law (wsV RL 26 RX9 yX9_width wsX9_width) := goodIn_app (goodIn_of _ (by decide +kernel)) ggL_law_X9_width
set_option maxHeartbeats 4000000 in
set_option maxRecDepth 100000 in
theorem law_width {p : Program} {e : Env} {s : State} {m : MethodId} {below : List Frame} {meth : Method} {c : Code} (l : Launch) {b : Nat} {xs : Nat → Int32} {A : Nat → Prop} (C0 : lw_At p s m meth c b 6 xs) (hA : ∀ q, s.heap.size ≤ q → A q) (hAf : ∀ q, A q → s.heap.size ≤ q) (hN : kN s) (D : va_G) (h0 m0 : Nat) (sh : Nat) (rd : Nat) (fr : Nat) (wr : Nat) (pf : Nat) (rc : Nat) (se : Nat) (rs : Nat) (sw : Nat) (sp : Nat) (ss : Nat) (k1 : Nat) (k2 : Nat) (k3 : Nat) (so : Nat) (sl : Nat) (ce : Nat) (kd : Nat) (wd : Nat) (hs : Nat) (pr : Nat) (la : Nat) (wg : Nat) (rk : Nat) (rw : Nat) (rh : Nat) (sa : Nat) (fi : Nat) (ch : Nat) (cn : Nat) (kp : Nat) (rfa : Nat) {H : Heap} {locs : List Loc} (hP : va_P D vwCl [(h0, .inr (8, [.ref sh, .ref rd, .ref fr, .ref wr, .ref pf, .ref rc, .ref se, .ref rs, .ref sw, .ref sp, .ref ss, .int 0, .long 0, .int 0, .int 0])), (fr, .inr (0, [.ref k1, .ref k2, .ref k3, .int 0])), (m0, .inr (9, [.int 0, .int 0, .ref so, .ref sl, .ref ce, .int 0, .ref kd, .ref wd, .ref hs, .ref pr, .ref la, .int 0, .ref wg, .int 0, .long 0, .int 0, .int 0, .ref rk, .ref rw, .ref rh, .int 0, .ref sa, .ref fi, .int 0, .ref ch, .ref cn, .int 0, .int 0, .ref kp, .int 0, .ref rfa]))] H) (hD : va_D A [(h0, .inr (8, [.ref sh, .ref rd, .ref fr, .ref wr, .ref pf, .ref rc, .ref se, .ref rs, .ref sw, .ref sp, .ref ss, .int 0, .long 0, .int 0, .int 0])), (fr, .inr (0, [.ref k1, .ref k2, .ref k3, .int 0])), (m0, .inr (9, [.int 0, .int 0, .ref so, .ref sl, .ref ce, .int 0, .ref kd, .ref wd, .ref hs, .ref pr, .ref la, .int 0, .ref wg, .int 0, .long 0, .int 0, .int 0, .ref rk, .ref rw, .ref rh, .int 0, .ref sa, .ref fi, .int 0, .ref ch, .ref cn, .int 0, .int 0, .ref kp, .int 0, .ref rfa]))]) (hK : va_K D vwCl [] s) (hS : va_S A s.heap H locs) {ls : Array Slot} (hl : lv_has ls 4 [(3, .int 0), (2, .ref m0), (1, .ref h0), (0, .ref b)]) : W p l e room_1 s m #[Value.ref b] below meth c H locs 123 1521 (lw_Z below #[Value.ref b] s) (F0 m 262 ls []) := by
  obtain ⟨hx, hb, hr, hml, hown, hts, hX, hbl, hlocks, hgv⟩ := id C0
  have hbA : ¬ A b := fun h => absurd (hAf b h) (Nat.not_le.mpr hbl)
  refine lv_aload_n hx hb dL_law_262 rfl (lv_at hl 2 rfl) ?_
  refine lv_aload_n hx hb dL_law_263 rfl (lv_at hl 3 rfl) ?_
  refine lv_iload_n hx hb dL_law_264 rfl (lv_at hl 0 rfl) ?_
  refine lv_iconst (v := 1) hx hb dL_law_265 (by decide) ?_
  refine lv_iadd hx hb dL_law_266 ?_
  refine kn_i 1 (by decide) ?_
  refine va_sld hx hb hX hbl hbA hS (by unfold vp_in; decide) dL_law_267 ?_
  refine kn_i (xs 1) rfl ?_
  refine lv_aload_n hx hb dL_law_268 rfl (lv_at hl 3 rfl) ?_
  refine lv_iload_n hx hb dL_law_269 rfl (lv_at hl 0 rfl) ?_
  refine lv_iconst (v := 2) hx hb dL_law_270 (by decide) ?_
  refine lv_iadd hx hb dL_law_271 ?_
  refine kn_i 2 (by decide) ?_
  refine va_sld hx hb hX hbl hbA hS (by unfold vp_in; decide) dL_law_272 ?_
  refine kn_i (xs 2) rfl ?_
  refine k_callR (va_runV (As := [.int (xs 1), .int (xs 2)]) (rest := []) ⟨hx, hb, hml, hown, hts⟩ (c_X8_width l D H.size (f := (xs 1)) (w := (xs 2)) (h0 := h0) (sh := sh) (rd := rd) (fr := fr) (wr := wr) (pf := pf) (rc := rc) (se := se) (rs := rs) (sw := sw) (sp := sp) (ss := ss) (ew := 0) (wc := 0) (tr := 0) (lf := 0) (k1 := k1) (k2 := k2) (k3 := k3)) (cwV 2 hts (goodL gL_law_X8_width) rfl rfl rfl (by decide +kernel) ⟨Nat.le_of_ble_eq_true rfl, Nat.le_of_ble_eq_true rfl⟩) (kPreV hP (kD0 hD) hK hN [0, 1] [] rfl rfl (by decide) 0 8 rfl rfl) rfl rfl hl.1 rfl (lv_room (Nat.le_of_ble_eq_true rfl)) dL_law_273 ⟨Nat.le_of_ble_eq_true rfl, Nat.le_of_ble_eq_true rfl⟩) ?_
  refine lv_aload_n hx hb dL_law_276 rfl (lv_at hl 1 rfl) ?_
  refine lv_aload_n hx hb dL_law_277 rfl (lv_at hl 3 rfl) ?_
  refine lv_iload_n hx hb dL_law_278 rfl (lv_at hl 0 rfl) ?_
  refine lv_iconst (v := 1) hx hb dL_law_279 (by decide) ?_
  refine lv_iadd hx hb dL_law_280 ?_
  refine kn_i 1 (by decide) ?_
  refine va_sld hx hb hX hbl hbA hS (by unfold vp_in; decide) dL_law_281 ?_
  refine kn_i (xs 1) rfl ?_
  refine lv_aload_n hx hb dL_law_282 rfl (lv_at hl 3 rfl) ?_
  refine lv_iload_n hx hb dL_law_283 rfl (lv_at hl 0 rfl) ?_
  refine lv_iconst (v := 2) hx hb dL_law_284 (by decide) ?_
  refine lv_iadd hx hb dL_law_285 ?_
  refine kn_i 2 (by decide) ?_
  refine va_sld hx hb hX hbl hbA hS (by unfold vp_in; decide) dL_law_286 ?_
  refine kn_i (xs 2) rfl ?_
  refine k_callR (va_runV (As := [.int (xs 1), .int (xs 2)]) (rest := [.int (-1)]) ⟨hx, hb, hml, hown, hts⟩ (c_X9_width l D H.size (f := (xs 1)) (w := (xs 2)) (h0 := m0) (fa := 0) (tc := 0) (so := so) (sl := sl) (ce := ce) (kd := kd) (wd := wd) (hs := hs) (pr := pr) (la := la) (wg := wg) (ta := 0) (ck := 0) (at9 := 0) (rfn := 0) (rk := rk) (rw := rw) (rh := rh) (cl := 0) (sa := sa) (fi := fi) (bo := 0) (ch := ch) (cn := cn) (ad := 0) (ru := 0) (kp := kp) (rfa := rfa)) (cwV 2 hts (goodL gL_law_X9_width) rfl rfl rfl (by decide +kernel) ⟨Nat.le_of_ble_eq_true rfl, Nat.le_of_ble_eq_true rfl⟩) (kPreV hP (kD0 hD) hK hN [2] [] rfl rfl (by decide) 2 9 rfl rfl) rfl rfl hl.1 rfl (lv_room (Nat.le_of_ble_eq_true rfl)) dL_law_287 ⟨Nat.le_of_ble_eq_true rfl, Nat.le_of_ble_eq_true rfl⟩) ?_
  refine lv_icmp_eq (tgt := 1135) hx hb dL_law_290 (by decide) (fun _ => ?_) (fun c9 => absurd (by decide) c9)
  exact law_end l C0 hAf hS (Nat.le_of_ble_eq_true rfl) (Nat.le_of_ble_eq_true rfl) (lv_sub hl [0, 3] rfl)
theorem dL_law_295 : decode cL_law 295 = .ok (.aload_n 1, 1) := by decide +kernel
theorem dL_law_296 : decode cL_law 296 = .ok (.aload_n 0, 1) := by decide +kernel
theorem dL_law_297 : decode cL_law 297 = .ok (.iload_n 3, 1) := by decide +kernel
theorem dL_law_298 : decode cL_law 298 = .ok (.iconst 1, 1) := by decide +kernel
theorem dL_law_299 : decode cL_law 299 = .ok (.iadd, 1) := by decide +kernel
theorem dL_law_300 : decode cL_law 300 = .ok (.iaload, 1) := by decide +kernel
theorem dL_law_301 : decode cL_law 301 = .ok (.aload_n 0, 1) := by decide +kernel
theorem dL_law_302 : decode cL_law 302 = .ok (.iload_n 3, 1) := by decide +kernel
theorem dL_law_303 : decode cL_law 303 = .ok (.iconst 2, 1) := by decide +kernel
theorem dL_law_304 : decode cL_law 304 = .ok (.iadd, 1) := by decide +kernel
theorem dL_law_305 : decode cL_law 305 = .ok (.iaload, 1) := by decide +kernel
theorem dL_law_306 : decode cL_law 306 = .ok (.aload_n 0, 1) := by decide +kernel
theorem dL_law_307 : decode cL_law 307 = .ok (.iload_n 3, 1) := by decide +kernel
theorem dL_law_308 : decode cL_law 308 = .ok (.iconst 3, 1) := by decide +kernel
theorem dL_law_309 : decode cL_law 309 = .ok (.iadd, 1) := by decide +kernel
theorem dL_law_310 : decode cL_law 310 = .ok (.iaload, 1) := by decide +kernel
theorem dL_law_311 : decode cL_law 311 = .ok (.aload_n 0, 1) := by decide +kernel
theorem dL_law_312 : decode cL_law 312 = .ok (.iload_n 3, 1) := by decide +kernel
theorem dL_law_313 : decode cL_law 313 = .ok (.iconst 4, 1) := by decide +kernel
theorem dL_law_314 : decode cL_law 314 = .ok (.iadd, 1) := by decide +kernel
theorem dL_law_315 : decode cL_law 315 = .ok (.iaload, 1) := by decide +kernel
theorem dL_law_316 : decode cL_law 316 = .ok (.invokevirtual 27, 3) := by decide +kernel
theorem dL_law_319 : decode cL_law 319 = .ok (.aload_n 2, 1) := by decide +kernel
theorem dL_law_320 : decode cL_law 320 = .ok (.aload_n 0, 1) := by decide +kernel
theorem dL_law_321 : decode cL_law 321 = .ok (.iload_n 3, 1) := by decide +kernel
theorem dL_law_322 : decode cL_law 322 = .ok (.iconst 1, 1) := by decide +kernel
theorem dL_law_323 : decode cL_law 323 = .ok (.iadd, 1) := by decide +kernel
theorem dL_law_324 : decode cL_law 324 = .ok (.iaload, 1) := by decide +kernel
theorem dL_law_325 : decode cL_law 325 = .ok (.aload_n 0, 1) := by decide +kernel
theorem dL_law_326 : decode cL_law 326 = .ok (.iload_n 3, 1) := by decide +kernel
theorem dL_law_327 : decode cL_law 327 = .ok (.iconst 2, 1) := by decide +kernel
theorem dL_law_328 : decode cL_law 328 = .ok (.iadd, 1) := by decide +kernel
theorem dL_law_329 : decode cL_law 329 = .ok (.iaload, 1) := by decide +kernel
theorem dL_law_330 : decode cL_law 330 = .ok (.aload_n 0, 1) := by decide +kernel
theorem dL_law_331 : decode cL_law 331 = .ok (.iload_n 3, 1) := by decide +kernel
theorem dL_law_332 : decode cL_law 332 = .ok (.iconst 3, 1) := by decide +kernel
theorem dL_law_333 : decode cL_law 333 = .ok (.iadd, 1) := by decide +kernel
theorem dL_law_334 : decode cL_law 334 = .ok (.iaload, 1) := by decide +kernel
theorem dL_law_335 : decode cL_law 335 = .ok (.aload_n 0, 1) := by decide +kernel
theorem dL_law_336 : decode cL_law 336 = .ok (.iload_n 3, 1) := by decide +kernel
theorem dL_law_337 : decode cL_law 337 = .ok (.iconst 4, 1) := by decide +kernel
theorem dL_law_338 : decode cL_law 338 = .ok (.iadd, 1) := by decide +kernel
theorem dL_law_339 : decode cL_law 339 = .ok (.iaload, 1) := by decide +kernel
theorem dL_law_340 : decode cL_law 340 = .ok (.invokevirtual 30, 3) := by decide +kernel
theorem dL_law_343 : decode cL_law 343 = .ok (.if_icmp .eq 792, 3) := by decide +kernel
set_option maxRecDepth 20000 in
theorem ggL_law_X8_write : GoodIn wsL_law wsX8_write := goodIn_r _ [353, 118, 13, 23, 119, 27, 202, 120, 121, 2, 122, 123, 124, 125, 126, 127, 128, 354, 355, 356, 129, 130, 131, 132, 133, 134, 135, 136, 15, 137, 138, 139, 140, 141, 142, 143, 357, 358, 359, 360, 151, 152, 153, 51, 154, 155, 156, 157, 361, 362, 363, 364, 365, 366, 367, 368, 369, 370, 26, 371, 372, 66, 218, 219, 220, 221, 39, 31, 222, 223, 224, 22, 225, 180, 226, 227, 228, 38, 229, 230, 231, 232, 233, 234, 235, 236, 78, 79, 83, 237, 238, 239, 240, 241, 80, 242, 243, 244, 245, 62, 246, 247, 248, 249, 85, 250, 214, 215, 216, 251, 252, 253, 254, 255, 81, 82, 256, 257, 258, 259, 260, 261, 821, 822, 823, 824, 825, 826, 827, 828, 829, 830, 831, 832, 833, 834, 835, 873, 874, 875, 876, 877, 878, 867, 868, 869, 870, 883, 884, 885, 886, 887, 888, 889, 890, 891, 892, 879, 880] (by decide +kernel) (by decide +kernel)
set_option maxRecDepth 20000 in
theorem gL_law_X8_write : GoodIn wsL_law (wsV RL 27 RX8 yX8_write wsX8_write) := goodIn_app (goodIn_of _ (by decide +kernel)) ggL_law_X8_write
set_option maxRecDepth 20000 in
theorem ggL_law_X9_write : GoodIn wsL_law wsX9_write := goodIn_r _ [376, 266, 269, 98, 270, 104, 377, 378, 379, 272, 273, 5, 274, 275, 276, 277, 278, 279, 280, 281, 282, 283, 284, 96, 97, 285, 286, 287, 288, 836, 837, 838, 839, 840, 841, 842, 843, 844, 845, 846, 847, 848, 849, 850, 851, 852, 853, 854, 855, 856, 857, 858, 859, 860, 861, 862, 863, 864, 865, 866] (by decide +kernel) (by decide +kernel)
set_option maxRecDepth 20000 in
theorem gL_law_X9_write : GoodIn wsL_law (wsV RL 30 RX9 yX9_write wsX9_write) := goodIn_app (goodIn_of _ (by decide +kernel)) ggL_law_X9_write
set_option maxHeartbeats 4000000 in
set_option maxRecDepth 100000 in
theorem law_write {p : Program} {e : Env} {s : State} {m : MethodId} {below : List Frame} {meth : Method} {c : Code} (l : Launch) {b : Nat} {xs : Nat → Int32} {A : Nat → Prop} (C0 : lw_At p s m meth c b 6 xs) (hA : ∀ q, s.heap.size ≤ q → A q) (hAf : ∀ q, A q → s.heap.size ≤ q) (hN : kN s) (D : va_G) (h0 m0 : Nat) (sh : Nat) (rd : Nat) (fr : Nat) (wr : Nat) (pf : Nat) (rc : Nat) (se : Nat) (rs : Nat) (sw : Nat) (sp : Nat) (ss : Nat) (cS : ClassId) (s0 : Nat) (s1 : Nat) (s2 : Nat) (s3 : Nat) (e0 : Nat) (e1 : Nat) (e2 : Nat) (e3 : Nat) (so : Nat) (sl : Nat) (ce : Nat) (kd : Nat) (wd : Nat) (hs : Nat) (pr : Nat) (la : Nat) (wg : Nat) (rk : Nat) (rw : Nat) (rh : Nat) (sa : Nat) (fi : Nat) (ch : Nat) (cn : Nat) (kp : Nat) (rfa : Nat) (cso : ClassId) {H : Heap} {locs : List Loc} (hP : va_P D vwCl [(h0, .inr (8, [.ref sh, .ref rd, .ref fr, .ref wr, .ref pf, .ref rc, .ref se, .ref rs, .ref sw, .ref sp, .ref ss, .int 0, .long 0, .int 0, .int 0])), (sh, .inl (cS, 4, .inr (.inr (.inr (.inr (va_up (va_up (va_up (va_up (fun _ => none) 0 (some s0)) 1 (some s1)) 2 (some s2)) 3 (some s3))))))), (s0, .inr (5, [.ref e0, .int 0, .int 0, .int 0])), (s1, .inr (5, [.ref e1, .int 0, .int 0, .int 0])), (s2, .inr (5, [.ref e2, .int 0, .int 0, .int 0])), (s3, .inr (5, [.ref e3, .int 0, .int 0, .int 0])), (m0, .inr (9, [.int 0, .int 0, .ref so, .ref sl, .ref ce, .int 0, .ref kd, .ref wd, .ref hs, .ref pr, .ref la, .int 0, .ref wg, .int 0, .long 0, .int 0, .int 0, .ref rk, .ref rw, .ref rh, .int 0, .ref sa, .ref fi, .int 0, .ref ch, .ref cn, .int 0, .int 0, .ref kp, .int 0, .ref rfa])), (so, .inl (cso, 4, .inl kSO))] H) (hD : va_D A [(h0, .inr (8, [.ref sh, .ref rd, .ref fr, .ref wr, .ref pf, .ref rc, .ref se, .ref rs, .ref sw, .ref sp, .ref ss, .int 0, .long 0, .int 0, .int 0])), (sh, .inl (cS, 4, .inr (.inr (.inr (.inr (va_up (va_up (va_up (va_up (fun _ => none) 0 (some s0)) 1 (some s1)) 2 (some s2)) 3 (some s3))))))), (s0, .inr (5, [.ref e0, .int 0, .int 0, .int 0])), (s1, .inr (5, [.ref e1, .int 0, .int 0, .int 0])), (s2, .inr (5, [.ref e2, .int 0, .int 0, .int 0])), (s3, .inr (5, [.ref e3, .int 0, .int 0, .int 0])), (m0, .inr (9, [.int 0, .int 0, .ref so, .ref sl, .ref ce, .int 0, .ref kd, .ref wd, .ref hs, .ref pr, .ref la, .int 0, .ref wg, .int 0, .long 0, .int 0, .int 0, .ref rk, .ref rw, .ref rh, .int 0, .ref sa, .ref fi, .int 0, .ref ch, .ref cn, .int 0, .int 0, .ref kp, .int 0, .ref rfa])), (so, .inl (cso, 4, .inl kSO))]) (hK : va_K D vwCl [(cS, .object RX5), (cso, .int)] s) (hS : va_S A s.heap H locs) {ls : Array Slot} (hl : lv_has ls 4 [(3, .int 0), (2, .ref m0), (1, .ref h0), (0, .ref b)]) : W p l e room_1 s m #[Value.ref b] below meth c H locs 123 1521 (lw_Z below #[Value.ref b] s) (F0 m 295 ls []) := by
  obtain ⟨hx, hb, hr, hml, hown, hts, hX, hbl, hlocks, hgv⟩ := id C0
  have hbA : ¬ A b := fun h => absurd (hAf b h) (Nat.not_le.mpr hbl)
  refine lv_aload_n hx hb dL_law_295 rfl (lv_at hl 2 rfl) ?_
  refine lv_aload_n hx hb dL_law_296 rfl (lv_at hl 3 rfl) ?_
  refine lv_iload_n hx hb dL_law_297 rfl (lv_at hl 0 rfl) ?_
  refine lv_iconst (v := 1) hx hb dL_law_298 (by decide) ?_
  refine lv_iadd hx hb dL_law_299 ?_
  refine kn_i 1 (by decide) ?_
  refine va_sld hx hb hX hbl hbA hS (by unfold vp_in; decide) dL_law_300 ?_
  refine kn_i (xs 1) rfl ?_
  refine lv_aload_n hx hb dL_law_301 rfl (lv_at hl 3 rfl) ?_
  refine lv_iload_n hx hb dL_law_302 rfl (lv_at hl 0 rfl) ?_
  refine lv_iconst (v := 2) hx hb dL_law_303 (by decide) ?_
  refine lv_iadd hx hb dL_law_304 ?_
  refine kn_i 2 (by decide) ?_
  refine va_sld hx hb hX hbl hbA hS (by unfold vp_in; decide) dL_law_305 ?_
  refine kn_i (xs 2) rfl ?_
  refine lv_aload_n hx hb dL_law_306 rfl (lv_at hl 3 rfl) ?_
  refine lv_iload_n hx hb dL_law_307 rfl (lv_at hl 0 rfl) ?_
  refine lv_iconst (v := 3) hx hb dL_law_308 (by decide) ?_
  refine lv_iadd hx hb dL_law_309 ?_
  refine kn_i 3 (by decide) ?_
  refine va_sld hx hb hX hbl hbA hS (by unfold vp_in; decide) dL_law_310 ?_
  refine kn_i (xs 3) rfl ?_
  refine lv_aload_n hx hb dL_law_311 rfl (lv_at hl 3 rfl) ?_
  refine lv_iload_n hx hb dL_law_312 rfl (lv_at hl 0 rfl) ?_
  refine lv_iconst (v := 4) hx hb dL_law_313 (by decide) ?_
  refine lv_iadd hx hb dL_law_314 ?_
  refine kn_i 4 (by decide) ?_
  refine va_sld hx hb hX hbl hbA hS (by unfold vp_in; decide) dL_law_315 ?_
  refine kn_i (xs 4) rfl ?_
  have hFc := va_free (wc := [(h0, .inr (8, [.ref sh, .ref rd, .ref fr, .ref wr, .ref pf, .ref rc, .ref se, .ref rs, .ref sw, .ref sp, .ref ss, .int 0, .long 0, .int 0, .int 0])), (sh, .inl (cS, 4, .inr (.inr (.inr (.inr (va_up (va_up (va_up (va_up (fun _ => none) 0 (some s0)) 1 (some s1)) 2 (some s2)) 3 (some s3))))))), (s0, .inr (5, [.ref e0, .int 0, .int 0, .int 0])), (s1, .inr (5, [.ref e1, .int 0, .int 0, .int 0])), (s2, .inr (5, [.ref e2, .int 0, .int 0, .int 0])), (s3, .inr (5, [.ref e3, .int 0, .int 0, .int 0]))]) hD hS hA [0, 1, 2, 3, 4, 5] rfl
  refine va_calli (va_runV (As := [.int (xs 1), .int (xs 2), .int (xs 3), .int (xs 4)]) (rest := []) ⟨hx, hb, hml, hown, hts⟩ (c_X8_write l D H.size (k := (xs 1)) (n := (xs 2)) (i := (xs 3)) (z := (xs 4)) (h0 := h0) (sh := sh) (rd := rd) (fr := fr) (wr := wr) (pf := pf) (rc := rc) (se := se) (rs := rs) (sw := sw) (sp := sp) (ss := ss) (ew := 0) (wc := 0) (tr := 0) (lf := 0) (cS := cS) (s0 := s0) (s1 := s1) (s2 := s2) (s3 := s3) (e0 := e0) (e1 := e1) (e2 := e2) (e3 := e3)) (cwV 4 hts (goodL gL_law_X8_write) rfl rfl rfl (by decide +kernel) ⟨Nat.le_of_ble_eq_true rfl, Nat.le_of_ble_eq_true rfl⟩) (kPreV hP (kD0 hD) hK hN [0, 1, 2, 3, 4, 5] [0] rfl rfl (by decide) 0 8 rfl rfl) rfl rfl hl.1 rfl (lv_room (Nat.le_of_ble_eq_true rfl)) dL_law_316 ⟨Nat.le_of_ble_eq_true rfl, Nat.le_of_ble_eq_true rfl⟩) hS (fun q _ h => hFc q h) hFc (fun r_1 u t H1 locs ht hvm hw hB hz1 hk1 hS => ?_)
  obtain ⟨hP, hD⟩ := va_join (wr := [(m0, .inr (9, [.int 0, .int 0, .ref so, .ref sl, .ref ce, .int 0, .ref kd, .ref wd, .ref hs, .ref pr, .ref la, .int 0, .ref wg, .int 0, .long 0, .int 0, .int 0, .ref rk, .ref rw, .ref rh, .int 0, .ref sa, .ref fi, .int 0, .ref ch, .ref cn, .int 0, .int 0, .ref kp, .int 0, .ref rfa])), (so, .inl (cso, 4, .inl kSO))]) (w1 := []) hP hD [0, 1, 2, 3, 4, 5] [6, 7] rfl rfl (by decide) (by decide) hk1 hFc kP0 kDn
  generalize H1 = H at hP hS ⊢
  have hP : va_P D vwCl [(m0, .inr (9, [.int 0, .int 0, .ref so, .ref sl, .ref ce, .int 0, .ref kd, .ref wd, .ref hs, .ref pr, .ref la, .int 0, .ref wg, .int 0, .long 0, .int 0, .int 0, .ref rk, .ref rw, .ref rh, .int 0, .ref sa, .ref fi, .int 0, .ref ch, .ref cn, .int 0, .int 0, .ref kp, .int 0, .ref rfa])), (so, .inl (cso, 4, .inl kSO))] H := hP
  have hD : va_D A [(m0, .inr (9, [.int 0, .int 0, .ref so, .ref sl, .ref ce, .int 0, .ref kd, .ref wd, .ref hs, .ref pr, .ref la, .int 0, .ref wg, .int 0, .long 0, .int 0, .int 0, .ref rk, .ref rw, .ref rh, .int 0, .ref sa, .ref fi, .int 0, .ref ch, .ref cn, .int 0, .int 0, .ref kp, .int 0, .ref rfa])), (so, .inl (cso, 4, .inl kSO))] := hD
  refine kn_i (sp_write (xs 1) (xs 2) (xs 4)) hw ?_
  refine lv_aload_n hx hb dL_law_319 rfl (lv_at hl 1 rfl) ?_
  refine lv_aload_n hx hb dL_law_320 rfl (lv_at hl 3 rfl) ?_
  refine lv_iload_n hx hb dL_law_321 rfl (lv_at hl 0 rfl) ?_
  refine lv_iconst (v := 1) hx hb dL_law_322 (by decide) ?_
  refine lv_iadd hx hb dL_law_323 ?_
  refine kn_i 1 (by decide) ?_
  refine va_sld hx hb hX hbl hbA hS (by unfold vp_in; decide) dL_law_324 ?_
  refine kn_i (xs 1) rfl ?_
  refine lv_aload_n hx hb dL_law_325 rfl (lv_at hl 3 rfl) ?_
  refine lv_iload_n hx hb dL_law_326 rfl (lv_at hl 0 rfl) ?_
  refine lv_iconst (v := 2) hx hb dL_law_327 (by decide) ?_
  refine lv_iadd hx hb dL_law_328 ?_
  refine kn_i 2 (by decide) ?_
  refine va_sld hx hb hX hbl hbA hS (by unfold vp_in; decide) dL_law_329 ?_
  refine kn_i (xs 2) rfl ?_
  refine lv_aload_n hx hb dL_law_330 rfl (lv_at hl 3 rfl) ?_
  refine lv_iload_n hx hb dL_law_331 rfl (lv_at hl 0 rfl) ?_
  refine lv_iconst (v := 3) hx hb dL_law_332 (by decide) ?_
  refine lv_iadd hx hb dL_law_333 ?_
  refine kn_i 3 (by decide) ?_
  refine va_sld hx hb hX hbl hbA hS (by unfold vp_in; decide) dL_law_334 ?_
  refine kn_i (xs 3) rfl ?_
  refine lv_aload_n hx hb dL_law_335 rfl (lv_at hl 3 rfl) ?_
  refine lv_iload_n hx hb dL_law_336 rfl (lv_at hl 0 rfl) ?_
  refine lv_iconst (v := 4) hx hb dL_law_337 (by decide) ?_
  refine lv_iadd hx hb dL_law_338 ?_
  refine kn_i 4 (by decide) ?_
  refine va_sld hx hb hX hbl hbA hS (by unfold vp_in; decide) dL_law_339 ?_
  refine kn_i (xs 4) rfl ?_
  have hFc := va_free (wc := [(m0, .inr (9, [.int 0, .int 0, .ref so, .ref sl, .ref ce, .int 0, .ref kd, .ref wd, .ref hs, .ref pr, .ref la, .int 0, .ref wg, .int 0, .long 0, .int 0, .int 0, .ref rk, .ref rw, .ref rh, .int 0, .ref sa, .ref fi, .int 0, .ref ch, .ref cn, .int 0, .int 0, .ref kp, .int 0, .ref rfa])), (so, .inl (cso, 4, .inl kSO))]) hD hS hA [0, 1] rfl
  refine va_calli (va_runV (As := [.int (xs 1), .int (xs 2), .int (xs 3), .int (xs 4)]) (rest := [.int (sp_write (xs 1) (xs 2) (xs 4))]) ⟨hx, hb, hml, hown, hts⟩ (c_X9_write l D H.size (k := (xs 1)) (n := (xs 2)) (i := (xs 3)) (z := (xs 4)) (h0 := m0) (fa := 0) (tc := 0) (so := so) (sl := sl) (ce := ce) (kd := kd) (wd := wd) (hs := hs) (pr := pr) (la := la) (wg := wg) (ta := 0) (ck := 0) (at9 := 0) (rfn := 0) (rk := rk) (rw := rw) (rh := rh) (cl := 0) (sa := sa) (fi := fi) (bo := 0) (ch := ch) (cn := cn) (ad := 0) (ru := 0) (kp := kp) (rfa := rfa) (cso := cso)) (cwV 4 hts (goodL gL_law_X9_write) rfl rfl rfl (by decide +kernel) ⟨Nat.le_of_ble_eq_true rfl, Nat.le_of_ble_eq_true rfl⟩) (kPreV hP (kD0 hD) hK hN [0, 1] [1] rfl rfl (by decide) 0 9 rfl rfl) rfl rfl hl.1 rfl (lv_room (Nat.le_of_ble_eq_true rfl)) dL_law_340 ⟨Nat.le_of_ble_eq_true rfl, Nat.le_of_ble_eq_true rfl⟩) hS (fun q _ h => hFc q h) hFc (fun r_2 u t H1 locs ht hvm hw hB hz1 hk1 hS => ?_)
  obtain ⟨hP, hD⟩ := va_join (wr := []) (w1 := []) hP hD [0, 1] [] rfl rfl (by decide) (by decide) hk1 hFc kP0 kDn
  generalize H1 = H at hP hS ⊢
  have hP : va_P D vwCl [] H := hP
  have hD : va_D A [] := hD
  refine kn_i (sp_write (xs 1) (xs 2) (xs 4)) hw ?_
  refine lv_icmp_eq (tgt := 1135) hx hb dL_law_343 (by decide) (fun _ => ?_) (fun c9 => absurd rfl c9)
  exact law_end l C0 hAf hS (Nat.le_of_ble_eq_true rfl) (Nat.le_of_ble_eq_true rfl) (lv_sub hl [0, 3] rfl)
theorem dL_law_348 : decode cL_law 348 = .ok (.aload_n 1, 1) := by decide +kernel
theorem dL_law_349 : decode cL_law 349 = .ok (.aload_n 0, 1) := by decide +kernel
theorem dL_law_350 : decode cL_law 350 = .ok (.iload_n 3, 1) := by decide +kernel
theorem dL_law_351 : decode cL_law 351 = .ok (.iconst 1, 1) := by decide +kernel
theorem dL_law_352 : decode cL_law 352 = .ok (.iadd, 1) := by decide +kernel
theorem dL_law_353 : decode cL_law 353 = .ok (.iaload, 1) := by decide +kernel
theorem dL_law_354 : decode cL_law 354 = .ok (.invokevirtual 31, 3) := by decide +kernel
theorem dL_law_357 : decode cL_law 357 = .ok (.aload_n 2, 1) := by decide +kernel
theorem dL_law_358 : decode cL_law 358 = .ok (.aload_n 0, 1) := by decide +kernel
theorem dL_law_359 : decode cL_law 359 = .ok (.iload_n 3, 1) := by decide +kernel
theorem dL_law_360 : decode cL_law 360 = .ok (.iconst 1, 1) := by decide +kernel
theorem dL_law_361 : decode cL_law 361 = .ok (.iadd, 1) := by decide +kernel
theorem dL_law_362 : decode cL_law 362 = .ok (.iaload, 1) := by decide +kernel
theorem dL_law_363 : decode cL_law 363 = .ok (.invokevirtual 35, 3) := by decide +kernel
theorem dL_law_366 : decode cL_law 366 = .ok (.if_icmp .eq 769, 3) := by decide +kernel
set_option maxRecDepth 20000 in
theorem ggL_law_X8_erase : GoodIn wsL_law wsX8_erase := goodIn_r _ [383, 27, 202, 123, 124, 2, 125, 384, 385, 386, 26, 387, 372, 218, 219, 220, 221, 39, 23, 31, 222, 223, 224, 22, 225, 180, 226, 227, 228, 38, 229, 230, 231, 232, 233, 234, 235, 236, 78, 79, 83, 237, 238, 239, 240, 241, 80, 242, 243, 244, 245, 62, 246, 247, 248, 249, 85, 250, 214, 215, 216, 251, 252, 253, 254, 255, 81, 82, 256, 257, 258, 259, 260, 261, 821, 822, 823, 824, 825, 826, 827, 828, 829, 830, 831, 832, 833, 834, 835, 877, 878, 873, 874, 875, 876, 883, 884, 885, 886, 887, 888, 889, 890, 891, 892, 879, 880] (by decide +kernel) (by decide +kernel)
set_option maxRecDepth 20000 in
theorem gL_law_X8_erase : GoodIn wsL_law (wsV RL 31 RX8 yX8_erase wsX8_erase) := goodIn_app (goodIn_of _ (by decide +kernel)) ggL_law_X8_erase
set_option maxRecDepth 20000 in
theorem ggL_law_X9_erase : GoodIn wsL_law wsX9_erase := goodIn_r _ [391, 270, 275, 276, 5, 277, 836, 837, 838, 839, 840, 841, 842, 843, 844, 845, 846, 847, 848, 849, 850, 851, 852, 853, 854, 855, 856, 857, 858, 859, 860, 861, 862, 863, 864, 865, 866] (by decide +kernel) (by decide +kernel)
set_option maxRecDepth 20000 in
theorem gL_law_X9_erase : GoodIn wsL_law (wsV RL 35 RX9 yX9_erase wsX9_erase) := goodIn_app (goodIn_of _ (by decide +kernel)) ggL_law_X9_erase
set_option maxHeartbeats 4000000 in
set_option maxRecDepth 100000 in
theorem law_erase {p : Program} {e : Env} {s : State} {m : MethodId} {below : List Frame} {meth : Method} {c : Code} (l : Launch) {b : Nat} {xs : Nat → Int32} {A : Nat → Prop} (C0 : lw_At p s m meth c b 6 xs) (hA : ∀ q, s.heap.size ≤ q → A q) (hAf : ∀ q, A q → s.heap.size ≤ q) (hN : kN s) (D : va_G) (h0 m0 : Nat) (sh : Nat) (rd : Nat) (fr : Nat) (wr : Nat) (pf : Nat) (rc : Nat) (se : Nat) (rs : Nat) (sw : Nat) (sp : Nat) (ss : Nat) (k1 : Nat) (k2 : Nat) (k3 : Nat) (w1 : Nat) (g1 : Nat) (g2 : Nat) (g3 : Nat) (g4 : Nat) (g5 : Nat) (g6 : Nat) (g7 : Nat) (so : Nat) (sl : Nat) (ce : Nat) (kd : Nat) (wd : Nat) (hs : Nat) (pr : Nat) (la : Nat) (wg : Nat) (rk : Nat) (rw : Nat) (rh : Nat) (sa : Nat) (fi : Nat) (ch : Nat) (cn : Nat) (kp : Nat) (rfa : Nat) {H : Heap} {locs : List Loc} (hP : va_P D vwCl [(h0, .inr (8, [.ref sh, .ref rd, .ref fr, .ref wr, .ref pf, .ref rc, .ref se, .ref rs, .ref sw, .ref sp, .ref ss, .int 0, .long 0, .int 0, .int 0])), (fr, .inr (0, [.ref k1, .ref k2, .ref k3, .int 0])), (wr, .inr (7, [.ref w1, .int 0])), (se, .inr (4, [.ref g1, .ref g2, .ref g3, .ref g4, .ref g5, .int 0, .int 0, .int 0, .ref g6, .ref g7])), (m0, .inr (9, [.int 0, .int 0, .ref so, .ref sl, .ref ce, .int 0, .ref kd, .ref wd, .ref hs, .ref pr, .ref la, .int 0, .ref wg, .int 0, .long 0, .int 0, .int 0, .ref rk, .ref rw, .ref rh, .int 0, .ref sa, .ref fi, .int 0, .ref ch, .ref cn, .int 0, .int 0, .ref kp, .int 0, .ref rfa]))] H) (hD : va_D A [(h0, .inr (8, [.ref sh, .ref rd, .ref fr, .ref wr, .ref pf, .ref rc, .ref se, .ref rs, .ref sw, .ref sp, .ref ss, .int 0, .long 0, .int 0, .int 0])), (fr, .inr (0, [.ref k1, .ref k2, .ref k3, .int 0])), (wr, .inr (7, [.ref w1, .int 0])), (se, .inr (4, [.ref g1, .ref g2, .ref g3, .ref g4, .ref g5, .int 0, .int 0, .int 0, .ref g6, .ref g7])), (m0, .inr (9, [.int 0, .int 0, .ref so, .ref sl, .ref ce, .int 0, .ref kd, .ref wd, .ref hs, .ref pr, .ref la, .int 0, .ref wg, .int 0, .long 0, .int 0, .int 0, .ref rk, .ref rw, .ref rh, .int 0, .ref sa, .ref fi, .int 0, .ref ch, .ref cn, .int 0, .int 0, .ref kp, .int 0, .ref rfa]))]) (hK : va_K D vwCl [] s) (hS : va_S A s.heap H locs) {ls : Array Slot} (hl : lv_has ls 4 [(3, .int 0), (2, .ref m0), (1, .ref h0), (0, .ref b)]) : W p l e room_1 s m #[Value.ref b] below meth c H locs 123 1521 (lw_Z below #[Value.ref b] s) (F0 m 348 ls []) := by
  obtain ⟨hx, hb, hr, hml, hown, hts, hX, hbl, hlocks, hgv⟩ := id C0
  have hbA : ¬ A b := fun h => absurd (hAf b h) (Nat.not_le.mpr hbl)
  refine lv_aload_n hx hb dL_law_348 rfl (lv_at hl 2 rfl) ?_
  refine lv_aload_n hx hb dL_law_349 rfl (lv_at hl 3 rfl) ?_
  refine lv_iload_n hx hb dL_law_350 rfl (lv_at hl 0 rfl) ?_
  refine lv_iconst (v := 1) hx hb dL_law_351 (by decide) ?_
  refine lv_iadd hx hb dL_law_352 ?_
  refine kn_i 1 (by decide) ?_
  refine va_sld hx hb hX hbl hbA hS (by unfold vp_in; decide) dL_law_353 ?_
  refine kn_i (xs 1) rfl ?_
  have hFc := va_free (wc := [(h0, .inr (8, [.ref sh, .ref rd, .ref fr, .ref wr, .ref pf, .ref rc, .ref se, .ref rs, .ref sw, .ref sp, .ref ss, .int 0, .long 0, .int 0, .int 0])), (wr, .inr (7, [.ref w1, .int 0])), (fr, .inr (0, [.ref k1, .ref k2, .ref k3, .int 0])), (se, .inr (4, [.ref g1, .ref g2, .ref g3, .ref g4, .ref g5, .int 0, .int 0, .int 0, .ref g6, .ref g7]))]) hD hS hA [0, 2, 1, 3] rfl
  refine va_calli (va_runV (As := [.int (xs 1)]) (rest := []) ⟨hx, hb, hml, hown, hts⟩ (c_X8_erase l D H.size (n := (xs 1)) (h0 := h0) (sh := sh) (rd := rd) (fr := fr) (wr := wr) (pf := pf) (rc := rc) (se := se) (rs := rs) (sw := sw) (sp := sp) (ss := ss) (ew := 0) (wc := 0) (tr := 0) (lf := 0) (w1 := w1) (k1 := k1) (k2 := k2) (k3 := k3) (g1 := g1) (g2 := g2) (g3 := g3) (g4 := g4) (g5 := g5) (cn := 0) (bo := 0) (ru := 0) (g6 := g6) (g7 := g7)) (cwV 1 hts (goodL gL_law_X8_erase) rfl rfl rfl (by decide +kernel) ⟨Nat.le_of_ble_eq_true rfl, Nat.le_of_ble_eq_true rfl⟩) (kPreV hP (kD0 hD) hK hN [0, 2, 1, 3] [] rfl rfl (by decide) 0 8 rfl rfl) rfl rfl hl.1 rfl (lv_room (Nat.le_of_ble_eq_true rfl)) dL_law_354 ⟨Nat.le_of_ble_eq_true rfl, Nat.le_of_ble_eq_true rfl⟩) hS (fun q _ h => hFc q h) hFc (fun r_1 u t H1 locs ht hvm hw hB hz1 hk1 hS => ?_)
  obtain ⟨hP, hD⟩ := va_join (wr := [(m0, .inr (9, [.int 0, .int 0, .ref so, .ref sl, .ref ce, .int 0, .ref kd, .ref wd, .ref hs, .ref pr, .ref la, .int 0, .ref wg, .int 0, .long 0, .int 0, .int 0, .ref rk, .ref rw, .ref rh, .int 0, .ref sa, .ref fi, .int 0, .ref ch, .ref cn, .int 0, .int 0, .ref kp, .int 0, .ref rfa]))]) (w1 := []) hP hD [0, 2, 1, 3] [4] rfl rfl (by decide) (by decide) hk1 hFc kP0 kDn
  generalize H1 = H at hP hS ⊢
  have hP : va_P D vwCl [(m0, .inr (9, [.int 0, .int 0, .ref so, .ref sl, .ref ce, .int 0, .ref kd, .ref wd, .ref hs, .ref pr, .ref la, .int 0, .ref wg, .int 0, .long 0, .int 0, .int 0, .ref rk, .ref rw, .ref rh, .int 0, .ref sa, .ref fi, .int 0, .ref ch, .ref cn, .int 0, .int 0, .ref kp, .int 0, .ref rfa]))] H := hP
  have hD : va_D A [(m0, .inr (9, [.int 0, .int 0, .ref so, .ref sl, .ref ce, .int 0, .ref kd, .ref wd, .ref hs, .ref pr, .ref la, .int 0, .ref wg, .int 0, .long 0, .int 0, .int 0, .ref rk, .ref rw, .ref rh, .int 0, .ref sa, .ref fi, .int 0, .ref ch, .ref cn, .int 0, .int 0, .ref kp, .int 0, .ref rfa]))] := hD
  refine kn_i (sp_zero (xs 1)) hw ?_
  refine lv_aload_n hx hb dL_law_357 rfl (lv_at hl 1 rfl) ?_
  refine lv_aload_n hx hb dL_law_358 rfl (lv_at hl 3 rfl) ?_
  refine lv_iload_n hx hb dL_law_359 rfl (lv_at hl 0 rfl) ?_
  refine lv_iconst (v := 1) hx hb dL_law_360 (by decide) ?_
  refine lv_iadd hx hb dL_law_361 ?_
  refine kn_i 1 (by decide) ?_
  refine va_sld hx hb hX hbl hbA hS (by unfold vp_in; decide) dL_law_362 ?_
  refine kn_i (xs 1) rfl ?_
  have hFc := va_free (wc := [(m0, .inr (9, [.int 0, .int 0, .ref so, .ref sl, .ref ce, .int 0, .ref kd, .ref wd, .ref hs, .ref pr, .ref la, .int 0, .ref wg, .int 0, .long 0, .int 0, .int 0, .ref rk, .ref rw, .ref rh, .int 0, .ref sa, .ref fi, .int 0, .ref ch, .ref cn, .int 0, .int 0, .ref kp, .int 0, .ref rfa]))]) hD hS hA [0] rfl
  refine va_calli (va_runV (As := [.int (xs 1)]) (rest := [.int (sp_zero (xs 1))]) ⟨hx, hb, hml, hown, hts⟩ (c_X9_erase l D H.size (n := (xs 1)) (h0 := m0) (fa := 0) (tc := 0) (so := so) (sl := sl) (ce := ce) (kd := kd) (wd := wd) (hs := hs) (pr := pr) (la := la) (wg := wg) (ta := 0) (ck := 0) (at9 := 0) (rfn := 0) (rk := rk) (rw := rw) (rh := rh) (cl := 0) (sa := sa) (fi := fi) (bo := 0) (ch := ch) (cn := cn) (ad := 0) (ru := 0) (kp := kp) (rfa := rfa)) (cwV 1 hts (goodL gL_law_X9_erase) rfl rfl rfl (by decide +kernel) ⟨Nat.le_of_ble_eq_true rfl, Nat.le_of_ble_eq_true rfl⟩) (kPreV hP (kD0 hD) hK hN [0] [] rfl rfl (by decide) 0 9 rfl rfl) rfl rfl hl.1 rfl (lv_room (Nat.le_of_ble_eq_true rfl)) dL_law_363 ⟨Nat.le_of_ble_eq_true rfl, Nat.le_of_ble_eq_true rfl⟩) hS (fun q _ h => hFc q h) hFc (fun r_2 u t H1 locs ht hvm hw hB hz1 hk1 hS => ?_)
  obtain ⟨hP, hD⟩ := va_join (wr := []) (w1 := []) hP hD [0] [] rfl rfl (by decide) (by decide) hk1 hFc kP0 kDn
  generalize H1 = H at hP hS ⊢
  have hP : va_P D vwCl [] H := hP
  have hD : va_D A [] := hD
  refine kn_i (sp_zero (xs 1)) hw ?_
  refine lv_icmp_eq (tgt := 1135) hx hb dL_law_366 (by decide) (fun _ => ?_) (fun c9 => absurd rfl c9)
  exact law_end l C0 hAf hS (Nat.le_of_ble_eq_true rfl) (Nat.le_of_ble_eq_true rfl) (lv_sub hl [0, 3] rfl)
theorem dL_law_371 : decode cL_law 371 = .ok (.aload_n 1, 1) := by decide +kernel
theorem dL_law_372 : decode cL_law 372 = .ok (.aload_n 0, 1) := by decide +kernel
theorem dL_law_373 : decode cL_law 373 = .ok (.iload_n 3, 1) := by decide +kernel
theorem dL_law_374 : decode cL_law 374 = .ok (.iconst 1, 1) := by decide +kernel
theorem dL_law_375 : decode cL_law 375 = .ok (.iadd, 1) := by decide +kernel
theorem dL_law_376 : decode cL_law 376 = .ok (.iaload, 1) := by decide +kernel
theorem dL_law_377 : decode cL_law 377 = .ok (.invokevirtual 36, 3) := by decide +kernel
theorem dL_law_380 : decode cL_law 380 = .ok (.aload_n 2, 1) := by decide +kernel
theorem dL_law_381 : decode cL_law 381 = .ok (.aload_n 0, 1) := by decide +kernel
theorem dL_law_382 : decode cL_law 382 = .ok (.iload_n 3, 1) := by decide +kernel
theorem dL_law_383 : decode cL_law 383 = .ok (.iconst 1, 1) := by decide +kernel
theorem dL_law_384 : decode cL_law 384 = .ok (.iadd, 1) := by decide +kernel
theorem dL_law_385 : decode cL_law 385 = .ok (.iaload, 1) := by decide +kernel
theorem dL_law_386 : decode cL_law 386 = .ok (.invokevirtual 39, 3) := by decide +kernel
theorem dL_law_389 : decode cL_law 389 = .ok (.if_icmp .eq 746, 3) := by decide +kernel
set_option maxRecDepth 20000 in
theorem ggL_law_X8_letter : GoodIn wsL_law wsX8_letter := goodIn_r _ [395, 27, 202, 396, 123, 124, 2, 125, 821, 822, 823, 824, 825, 826, 827, 828, 829, 830, 831, 832, 833, 834, 835, 877, 878] (by decide +kernel) (by decide +kernel)
set_option maxRecDepth 20000 in
theorem gL_law_X8_letter : GoodIn wsL_law (wsV RL 36 RX8 yX8_letter wsX8_letter) := goodIn_app (goodIn_of _ (by decide +kernel)) ggL_law_X8_letter
set_option maxRecDepth 20000 in
theorem ggL_law_X9_letter : GoodIn wsL_law wsX9_letter := goodIn_r _ [400, 270, 104, 275, 276, 5, 277, 836, 837, 838, 839, 840, 841, 842, 843, 844, 845, 846, 847, 848, 849, 850, 851, 852, 853, 854, 855, 856, 857, 858, 859, 860, 861, 862, 863, 864, 865, 866] (by decide +kernel) (by decide +kernel)
set_option maxRecDepth 20000 in
theorem gL_law_X9_letter : GoodIn wsL_law (wsV RL 39 RX9 yX9_letter wsX9_letter) := goodIn_app (goodIn_of _ (by decide +kernel)) ggL_law_X9_letter
set_option maxHeartbeats 4000000 in
set_option maxRecDepth 100000 in
theorem law_letter {p : Program} {e : Env} {s : State} {m : MethodId} {below : List Frame} {meth : Method} {c : Code} (l : Launch) {b : Nat} {xs : Nat → Int32} {A : Nat → Prop} (C0 : lw_At p s m meth c b 6 xs) (hA : ∀ q, s.heap.size ≤ q → A q) (hAf : ∀ q, A q → s.heap.size ≤ q) (hN : kN s) (D : va_G) (h0 m0 : Nat) (sh : Nat) (rd : Nat) (fr : Nat) (wr : Nat) (pf : Nat) (rc : Nat) (se : Nat) (rs : Nat) (sw : Nat) (sp : Nat) (ss : Nat) (w1 : Nat) (so : Nat) (sl : Nat) (ce : Nat) (kd : Nat) (wd : Nat) (hs : Nat) (pr : Nat) (la : Nat) (wg : Nat) (rk : Nat) (rw : Nat) (rh : Nat) (sa : Nat) (fi : Nat) (ch : Nat) (cn : Nat) (kp : Nat) (rfa : Nat) {H : Heap} {locs : List Loc} (hP : va_P D vwCl [(h0, .inr (8, [.ref sh, .ref rd, .ref fr, .ref wr, .ref pf, .ref rc, .ref se, .ref rs, .ref sw, .ref sp, .ref ss, .int 0, .long 0, .int 0, .int 0])), (wr, .inr (7, [.ref w1, .int 0])), (m0, .inr (9, [.int 0, .int 0, .ref so, .ref sl, .ref ce, .int 0, .ref kd, .ref wd, .ref hs, .ref pr, .ref la, .int 0, .ref wg, .int 0, .long 0, .int 0, .int 0, .ref rk, .ref rw, .ref rh, .int 0, .ref sa, .ref fi, .int 0, .ref ch, .ref cn, .int 0, .int 0, .ref kp, .int 0, .ref rfa]))] H) (hD : va_D A [(h0, .inr (8, [.ref sh, .ref rd, .ref fr, .ref wr, .ref pf, .ref rc, .ref se, .ref rs, .ref sw, .ref sp, .ref ss, .int 0, .long 0, .int 0, .int 0])), (wr, .inr (7, [.ref w1, .int 0])), (m0, .inr (9, [.int 0, .int 0, .ref so, .ref sl, .ref ce, .int 0, .ref kd, .ref wd, .ref hs, .ref pr, .ref la, .int 0, .ref wg, .int 0, .long 0, .int 0, .int 0, .ref rk, .ref rw, .ref rh, .int 0, .ref sa, .ref fi, .int 0, .ref ch, .ref cn, .int 0, .int 0, .ref kp, .int 0, .ref rfa]))]) (hK : va_K D vwCl [] s) (hS : va_S A s.heap H locs) {ls : Array Slot} (hl : lv_has ls 4 [(3, .int 0), (2, .ref m0), (1, .ref h0), (0, .ref b)]) : W p l e room_1 s m #[Value.ref b] below meth c H locs 123 1521 (lw_Z below #[Value.ref b] s) (F0 m 371 ls []) := by
  obtain ⟨hx, hb, hr, hml, hown, hts, hX, hbl, hlocks, hgv⟩ := id C0
  have hbA : ¬ A b := fun h => absurd (hAf b h) (Nat.not_le.mpr hbl)
  refine lv_aload_n hx hb dL_law_371 rfl (lv_at hl 2 rfl) ?_
  refine lv_aload_n hx hb dL_law_372 rfl (lv_at hl 3 rfl) ?_
  refine lv_iload_n hx hb dL_law_373 rfl (lv_at hl 0 rfl) ?_
  refine lv_iconst (v := 1) hx hb dL_law_374 (by decide) ?_
  refine lv_iadd hx hb dL_law_375 ?_
  refine kn_i 1 (by decide) ?_
  refine va_sld hx hb hX hbl hbA hS (by unfold vp_in; decide) dL_law_376 ?_
  refine kn_i (xs 1) rfl ?_
  refine k_callR (va_runV (As := [.int (xs 1)]) (rest := []) ⟨hx, hb, hml, hown, hts⟩ (c_X8_letter l D H.size (k := (xs 1)) (h0 := h0) (sh := sh) (rd := rd) (fr := fr) (wr := wr) (pf := pf) (rc := rc) (se := se) (rs := rs) (sw := sw) (sp := sp) (ss := ss) (ew := 0) (wc := 0) (tr := 0) (lf := 0) (w1 := w1)) (cwV 1 hts (goodL gL_law_X8_letter) rfl rfl rfl (by decide +kernel) ⟨Nat.le_of_ble_eq_true rfl, Nat.le_of_ble_eq_true rfl⟩) (kPreV hP (kD0 hD) hK hN [0, 1] [] rfl rfl (by decide) 0 8 rfl rfl) rfl rfl hl.1 rfl (lv_room (Nat.le_of_ble_eq_true rfl)) dL_law_377 ⟨Nat.le_of_ble_eq_true rfl, Nat.le_of_ble_eq_true rfl⟩) ?_
  refine lv_aload_n hx hb dL_law_380 rfl (lv_at hl 1 rfl) ?_
  refine lv_aload_n hx hb dL_law_381 rfl (lv_at hl 3 rfl) ?_
  refine lv_iload_n hx hb dL_law_382 rfl (lv_at hl 0 rfl) ?_
  refine lv_iconst (v := 1) hx hb dL_law_383 (by decide) ?_
  refine lv_iadd hx hb dL_law_384 ?_
  refine kn_i 1 (by decide) ?_
  refine va_sld hx hb hX hbl hbA hS (by unfold vp_in; decide) dL_law_385 ?_
  refine kn_i (xs 1) rfl ?_
  refine k_callR (va_runV (As := [.int (xs 1)]) (rest := [.int (-1)]) ⟨hx, hb, hml, hown, hts⟩ (c_X9_letter l D H.size (k := (xs 1)) (h0 := m0) (fa := 0) (tc := 0) (so := so) (sl := sl) (ce := ce) (kd := kd) (wd := wd) (hs := hs) (pr := pr) (la := la) (wg := wg) (ta := 0) (ck := 0) (at9 := 0) (rfn := 0) (rk := rk) (rw := rw) (rh := rh) (cl := 0) (sa := sa) (fi := fi) (bo := 0) (ch := ch) (cn := cn) (ad := 0) (ru := 0) (kp := kp) (rfa := rfa)) (cwV 1 hts (goodL gL_law_X9_letter) rfl rfl rfl (by decide +kernel) ⟨Nat.le_of_ble_eq_true rfl, Nat.le_of_ble_eq_true rfl⟩) (kPreV hP (kD0 hD) hK hN [2] [] rfl rfl (by decide) 2 9 rfl rfl) rfl rfl hl.1 rfl (lv_room (Nat.le_of_ble_eq_true rfl)) dL_law_386 ⟨Nat.le_of_ble_eq_true rfl, Nat.le_of_ble_eq_true rfl⟩) ?_
  refine lv_icmp_eq (tgt := 1135) hx hb dL_law_389 (by decide) (fun _ => ?_) (fun c9 => absurd (by decide) c9)
  exact law_end l C0 hAf hS (Nat.le_of_ble_eq_true rfl) (Nat.le_of_ble_eq_true rfl) (lv_sub hl [0, 3] rfl)
theorem dL_law_394 : decode cL_law 394 = .ok (.aload_n 1, 1) := by decide +kernel
theorem dL_law_395 : decode cL_law 395 = .ok (.aload_n 0, 1) := by decide +kernel
theorem dL_law_396 : decode cL_law 396 = .ok (.iload_n 3, 1) := by decide +kernel
theorem dL_law_397 : decode cL_law 397 = .ok (.iconst 1, 1) := by decide +kernel
theorem dL_law_398 : decode cL_law 398 = .ok (.iadd, 1) := by decide +kernel
theorem dL_law_399 : decode cL_law 399 = .ok (.iaload, 1) := by decide +kernel
theorem dL_law_400 : decode cL_law 400 = .ok (.aload_n 0, 1) := by decide +kernel
theorem dL_law_401 : decode cL_law 401 = .ok (.iload_n 3, 1) := by decide +kernel
theorem dL_law_402 : decode cL_law 402 = .ok (.iconst 2, 1) := by decide +kernel
theorem dL_law_403 : decode cL_law 403 = .ok (.iadd, 1) := by decide +kernel
theorem dL_law_404 : decode cL_law 404 = .ok (.iaload, 1) := by decide +kernel
theorem dL_law_405 : decode cL_law 405 = .ok (.invokevirtual 40, 3) := by decide +kernel
theorem dL_law_408 : decode cL_law 408 = .ok (.aload_n 2, 1) := by decide +kernel
theorem dL_law_409 : decode cL_law 409 = .ok (.aload_n 0, 1) := by decide +kernel
theorem dL_law_410 : decode cL_law 410 = .ok (.iload_n 3, 1) := by decide +kernel
theorem dL_law_411 : decode cL_law 411 = .ok (.iconst 1, 1) := by decide +kernel
theorem dL_law_412 : decode cL_law 412 = .ok (.iadd, 1) := by decide +kernel
theorem dL_law_413 : decode cL_law 413 = .ok (.iaload, 1) := by decide +kernel
theorem dL_law_414 : decode cL_law 414 = .ok (.aload_n 0, 1) := by decide +kernel
theorem dL_law_415 : decode cL_law 415 = .ok (.iload_n 3, 1) := by decide +kernel
theorem dL_law_416 : decode cL_law 416 = .ok (.iconst 2, 1) := by decide +kernel
theorem dL_law_417 : decode cL_law 417 = .ok (.iadd, 1) := by decide +kernel
theorem dL_law_418 : decode cL_law 418 = .ok (.iaload, 1) := by decide +kernel
theorem dL_law_419 : decode cL_law 419 = .ok (.invokevirtual 43, 3) := by decide +kernel
theorem dL_law_422 : decode cL_law 422 = .ok (.if_icmp .eq 713, 3) := by decide +kernel
set_option maxRecDepth 20000 in
theorem ggL_law_X8_ofCluster : GoodIn wsL_law wsX8_ofCluster := goodIn_r _ [404, 39, 405, 406, 407, 408, 409, 410, 411, 412, 38, 413, 234, 124, 2, 125, 821, 822, 823, 824, 825, 826, 827, 828, 829, 830, 831, 832, 833, 834, 835, 883, 884, 885, 886, 887, 888, 889, 890, 891, 892] (by decide +kernel) (by decide +kernel)
set_option maxRecDepth 20000 in
theorem gL_law_X8_ofCluster : GoodIn wsL_law (wsV RL 40 RX8 yX8_ofCluster wsX8_ofCluster) := goodIn_app (goodIn_of _ (by decide +kernel)) ggL_law_X8_ofCluster
set_option maxRecDepth 20000 in
theorem ggL_law_X9_ofCluster : GoodIn wsL_law wsX9_ofCluster := goodIn_r _ [417, 418, 108, 109, 111, 419, 420, 421, 5, 422, 423, 424, 102, 425, 426, 427, 428, 269, 110, 429, 430, 431, 432, 433, 270, 104, 101, 434, 435, 436, 437, 438, 439, 440, 441, 304, 305, 306, 442, 443, 444, 445, 334, 335, 336, 337, 99, 100, 275, 276, 277, 446, 447, 448, 449, 836, 837, 838, 839, 840, 841, 842, 843, 844, 845, 846, 847, 848, 849, 850, 851, 852, 853, 854, 855, 856, 857, 858, 859, 860, 861, 862, 863, 864, 865, 866] (by decide +kernel) (by decide +kernel)
set_option maxRecDepth 20000 in
theorem gL_law_X9_ofCluster : GoodIn wsL_law (wsV RL 43 RX9 yX9_ofCluster wsX9_ofCluster) := goodIn_app (goodIn_of _ (by decide +kernel)) ggL_law_X9_ofCluster
set_option maxHeartbeats 4000000 in
set_option maxRecDepth 100000 in
theorem law_ofCluster {p : Program} {e : Env} {s : State} {m : MethodId} {below : List Frame} {meth : Method} {c : Code} (l : Launch) {b : Nat} {xs : Nat → Int32} {A : Nat → Prop} (C0 : lw_At p s m meth c b 6 xs) (hA : ∀ q, s.heap.size ≤ q → A q) (hAf : ∀ q, A q → s.heap.size ≤ q) (hN : kN s) (D : va_G) (h0 m0 : Nat) (sh : Nat) (rd : Nat) (fr : Nat) (wr : Nat) (pf : Nat) (rc : Nat) (se : Nat) (rs : Nat) (sw : Nat) (sp : Nat) (ss : Nat) (g1 : Nat) (g2 : Nat) (g3 : Nat) (g4 : Nat) (g5 : Nat) (g6 : Nat) (g7 : Nat) (so : Nat) (sl : Nat) (ce : Nat) (kd : Nat) (wd : Nat) (hs : Nat) (pr : Nat) (la : Nat) (wg : Nat) (rk : Nat) (rw : Nat) (rh : Nat) (sa : Nat) (fi : Nat) (ch : Nat) (cn : Nat) (kp : Nat) (rfa : Nat) (csa : ClassId) {H : Heap} {locs : List Loc} (hP : va_P D vwCl [(h0, .inr (8, [.ref sh, .ref rd, .ref fr, .ref wr, .ref pf, .ref rc, .ref se, .ref rs, .ref sw, .ref sp, .ref ss, .int 0, .long 0, .int 0, .int 0])), (se, .inr (4, [.ref g1, .ref g2, .ref g3, .ref g4, .ref g5, .int 0, .int 0, .int 0, .ref g6, .ref g7])), (m0, .inr (9, [.int 0, .int 0, .ref so, .ref sl, .ref ce, .int 0, .ref kd, .ref wd, .ref hs, .ref pr, .ref la, .int 0, .ref wg, .int 0, .long 0, .int 0, .int 0, .ref rk, .ref rw, .ref rh, .int 0, .ref sa, .ref fi, .int 0, .ref ch, .ref cn, .int 0, .int 0, .ref kp, .int 0, .ref rfa])), (sa, .inl (csa, 25, .inl (fun _ => 0)))] H) (hD : va_D A [(h0, .inr (8, [.ref sh, .ref rd, .ref fr, .ref wr, .ref pf, .ref rc, .ref se, .ref rs, .ref sw, .ref sp, .ref ss, .int 0, .long 0, .int 0, .int 0])), (se, .inr (4, [.ref g1, .ref g2, .ref g3, .ref g4, .ref g5, .int 0, .int 0, .int 0, .ref g6, .ref g7])), (m0, .inr (9, [.int 0, .int 0, .ref so, .ref sl, .ref ce, .int 0, .ref kd, .ref wd, .ref hs, .ref pr, .ref la, .int 0, .ref wg, .int 0, .long 0, .int 0, .int 0, .ref rk, .ref rw, .ref rh, .int 0, .ref sa, .ref fi, .int 0, .ref ch, .ref cn, .int 0, .int 0, .ref kp, .int 0, .ref rfa])), (sa, .inl (csa, 25, .inl (fun _ => 0)))]) (hK : va_K D vwCl [(csa, .int)] s) (hS : va_S A s.heap H locs) {ls : Array Slot} (hl : lv_has ls 4 [(3, .int 0), (2, .ref m0), (1, .ref h0), (0, .ref b)]) : W p l e room_1 s m #[Value.ref b] below meth c H locs 123 1521 (lw_Z below #[Value.ref b] s) (F0 m 394 ls []) := by
  obtain ⟨hx, hb, hr, hml, hown, hts, hX, hbl, hlocks, hgv⟩ := id C0
  have hbA : ¬ A b := fun h => absurd (hAf b h) (Nat.not_le.mpr hbl)
  refine lv_aload_n hx hb dL_law_394 rfl (lv_at hl 2 rfl) ?_
  refine lv_aload_n hx hb dL_law_395 rfl (lv_at hl 3 rfl) ?_
  refine lv_iload_n hx hb dL_law_396 rfl (lv_at hl 0 rfl) ?_
  refine lv_iconst (v := 1) hx hb dL_law_397 (by decide) ?_
  refine lv_iadd hx hb dL_law_398 ?_
  refine kn_i 1 (by decide) ?_
  refine va_sld hx hb hX hbl hbA hS (by unfold vp_in; decide) dL_law_399 ?_
  refine kn_i (xs 1) rfl ?_
  refine lv_aload_n hx hb dL_law_400 rfl (lv_at hl 3 rfl) ?_
  refine lv_iload_n hx hb dL_law_401 rfl (lv_at hl 0 rfl) ?_
  refine lv_iconst (v := 2) hx hb dL_law_402 (by decide) ?_
  refine lv_iadd hx hb dL_law_403 ?_
  refine kn_i 2 (by decide) ?_
  refine va_sld hx hb hX hbl hbA hS (by unfold vp_in; decide) dL_law_404 ?_
  refine kn_i (xs 2) rfl ?_
  refine k_callR (va_runV (As := [.int (xs 1), .int (xs 2)]) (rest := []) ⟨hx, hb, hml, hown, hts⟩ (c_X8_ofCluster l D H.size (k := (xs 1)) (w := (xs 2)) (h0 := h0) (sh := sh) (rd := rd) (fr := fr) (wr := wr) (pf := pf) (rc := rc) (se := se) (rs := rs) (sw := sw) (sp := sp) (ss := ss) (ew := 0) (wc := 0) (tr := 0) (lf := 0) (g1 := g1) (g2 := g2) (g3 := g3) (g4 := g4) (g5 := g5) (g6 := g6) (g7 := g7)) (cwV 2 hts (goodL gL_law_X8_ofCluster) rfl rfl rfl (by decide +kernel) ⟨Nat.le_of_ble_eq_true rfl, Nat.le_of_ble_eq_true rfl⟩) (kPreV hP (kD0 hD) hK hN [0, 1] [] rfl rfl (by decide) 0 8 rfl rfl) rfl rfl hl.1 rfl (lv_room (Nat.le_of_ble_eq_true rfl)) dL_law_405 ⟨Nat.le_of_ble_eq_true rfl, Nat.le_of_ble_eq_true rfl⟩) ?_
  refine lv_aload_n hx hb dL_law_408 rfl (lv_at hl 1 rfl) ?_
  refine lv_aload_n hx hb dL_law_409 rfl (lv_at hl 3 rfl) ?_
  refine lv_iload_n hx hb dL_law_410 rfl (lv_at hl 0 rfl) ?_
  refine lv_iconst (v := 1) hx hb dL_law_411 (by decide) ?_
  refine lv_iadd hx hb dL_law_412 ?_
  refine kn_i 1 (by decide) ?_
  refine va_sld hx hb hX hbl hbA hS (by unfold vp_in; decide) dL_law_413 ?_
  refine kn_i (xs 1) rfl ?_
  refine lv_aload_n hx hb dL_law_414 rfl (lv_at hl 3 rfl) ?_
  refine lv_iload_n hx hb dL_law_415 rfl (lv_at hl 0 rfl) ?_
  refine lv_iconst (v := 2) hx hb dL_law_416 (by decide) ?_
  refine lv_iadd hx hb dL_law_417 ?_
  refine kn_i 2 (by decide) ?_
  refine va_sld hx hb hX hbl hbA hS (by unfold vp_in; decide) dL_law_418 ?_
  refine kn_i (xs 2) rfl ?_
  have hFc := va_free (wc := [(m0, .inr (9, [.int 0, .int 0, .ref so, .ref sl, .ref ce, .int 0, .ref kd, .ref wd, .ref hs, .ref pr, .ref la, .int 0, .ref wg, .int 0, .long 0, .int 0, .int 0, .ref rk, .ref rw, .ref rh, .int 0, .ref sa, .ref fi, .int 0, .ref ch, .ref cn, .int 0, .int 0, .ref kp, .int 0, .ref rfa])), (sa, .inl (csa, 25, .inl (fun _ => 0)))]) hD hS hA [2, 3] rfl
  refine va_calli (va_runV (As := [.int (xs 1), .int (xs 2)]) (rest := [.int (-1)]) ⟨hx, hb, hml, hown, hts⟩ (c_X9_ofCluster l D H.size (k := (xs 1)) (w := (xs 2)) (h0 := m0) (fa := 0) (tc := 0) (so := so) (sl := sl) (ce := ce) (kd := kd) (wd := wd) (hs := hs) (pr := pr) (la := la) (wg := wg) (ta := 0) (ck := 0) (at9 := 0) (rfn := 0) (rk := rk) (rw := rw) (rh := rh) (cl := 0) (sa := sa) (fi := fi) (bo := 0) (ch := ch) (cn := cn) (ad := 0) (ru := 0) (kp := kp) (rfa := rfa) (csa := csa) (fsa := (fun _ => 0))) (cwV 2 hts (goodL gL_law_X9_ofCluster) rfl rfl rfl (by decide +kernel) ⟨Nat.le_of_ble_eq_true rfl, Nat.le_of_ble_eq_true rfl⟩) (kPreV hP (kD0 hD) hK hN [2, 3] [0] rfl rfl (by decide) 2 9 rfl rfl) rfl rfl hl.1 rfl (lv_room (Nat.le_of_ble_eq_true rfl)) dL_law_419 ⟨Nat.le_of_ble_eq_true rfl, Nat.le_of_ble_eq_true rfl⟩) hS (fun q _ h => hFc q h) hFc (fun r_1 u t H1 locs ht hvm hw hB hz1 hk1 hS => ?_)
  obtain ⟨hP, hD⟩ := va_join (wr := [(h0, .inr (8, [.ref sh, .ref rd, .ref fr, .ref wr, .ref pf, .ref rc, .ref se, .ref rs, .ref sw, .ref sp, .ref ss, .int 0, .long 0, .int 0, .int 0])), (se, .inr (4, [.ref g1, .ref g2, .ref g3, .ref g4, .ref g5, .int 0, .int 0, .int 0, .ref g6, .ref g7]))]) (w1 := []) hP hD [2, 3] [0, 1] rfl rfl (by decide) (by decide) hk1 hFc kP0 kDn
  generalize H1 = H at hP hS ⊢
  have hP : va_P D vwCl [(h0, .inr (8, [.ref sh, .ref rd, .ref fr, .ref wr, .ref pf, .ref rc, .ref se, .ref rs, .ref sw, .ref sp, .ref ss, .int 0, .long 0, .int 0, .int 0])), (se, .inr (4, [.ref g1, .ref g2, .ref g3, .ref g4, .ref g5, .int 0, .int 0, .int 0, .ref g6, .ref g7]))] H := hP
  have hD : va_D A [(h0, .inr (8, [.ref sh, .ref rd, .ref fr, .ref wr, .ref pf, .ref rc, .ref se, .ref rs, .ref sw, .ref sp, .ref ss, .int 0, .long 0, .int 0, .int 0])), (se, .inr (4, [.ref g1, .ref g2, .ref g3, .ref g4, .ref g5, .int 0, .int 0, .int 0, .ref g6, .ref g7]))] := hD
  refine kn_i (-1) hw ?_
  refine lv_icmp_eq (tgt := 1135) hx hb dL_law_422 (by decide) (fun _ => ?_) (fun c9 => absurd (by decide) c9)
  exact law_end l C0 hAf hS (Nat.le_of_ble_eq_true rfl) (Nat.le_of_ble_eq_true rfl) (lv_sub hl [0, 3] rfl)
theorem dL_law_427 : decode cL_law 427 = .ok (.aload_n 1, 1) := by decide +kernel
theorem dL_law_428 : decode cL_law 428 = .ok (.aload_n 0, 1) := by decide +kernel
theorem dL_law_429 : decode cL_law 429 = .ok (.iload_n 3, 1) := by decide +kernel
theorem dL_law_430 : decode cL_law 430 = .ok (.iconst 1, 1) := by decide +kernel
theorem dL_law_431 : decode cL_law 431 = .ok (.iadd, 1) := by decide +kernel
theorem dL_law_432 : decode cL_law 432 = .ok (.iaload, 1) := by decide +kernel
theorem dL_law_433 : decode cL_law 433 = .ok (.aload_n 0, 1) := by decide +kernel
theorem dL_law_434 : decode cL_law 434 = .ok (.iload_n 3, 1) := by decide +kernel
theorem dL_law_435 : decode cL_law 435 = .ok (.iconst 2, 1) := by decide +kernel
theorem dL_law_436 : decode cL_law 436 = .ok (.iadd, 1) := by decide +kernel
theorem dL_law_437 : decode cL_law 437 = .ok (.iaload, 1) := by decide +kernel
theorem dL_law_438 : decode cL_law 438 = .ok (.invokevirtual 44, 3) := by decide +kernel
theorem dL_law_441 : decode cL_law 441 = .ok (.aload_n 2, 1) := by decide +kernel
theorem dL_law_442 : decode cL_law 442 = .ok (.aload_n 0, 1) := by decide +kernel
theorem dL_law_443 : decode cL_law 443 = .ok (.iload_n 3, 1) := by decide +kernel
theorem dL_law_444 : decode cL_law 444 = .ok (.iconst 1, 1) := by decide +kernel
theorem dL_law_445 : decode cL_law 445 = .ok (.iadd, 1) := by decide +kernel
theorem dL_law_446 : decode cL_law 446 = .ok (.iaload, 1) := by decide +kernel
theorem dL_law_447 : decode cL_law 447 = .ok (.aload_n 0, 1) := by decide +kernel
theorem dL_law_448 : decode cL_law 448 = .ok (.iload_n 3, 1) := by decide +kernel
theorem dL_law_449 : decode cL_law 449 = .ok (.iconst 2, 1) := by decide +kernel
theorem dL_law_450 : decode cL_law 450 = .ok (.iadd, 1) := by decide +kernel
theorem dL_law_451 : decode cL_law 451 = .ok (.iaload, 1) := by decide +kernel
theorem dL_law_452 : decode cL_law 452 = .ok (.invokevirtual 47, 3) := by decide +kernel
theorem dL_law_455 : decode cL_law 455 = .ok (.if_icmp .eq 680, 3) := by decide +kernel
set_option maxRecDepth 20000 in
theorem ggL_law_X8_ofRun : GoodIn wsL_law wsX8_ofRun := goodIn_r _ [453, 39, 454, 408, 23, 123, 124, 2, 125, 455, 456, 457, 38, 458, 234, 82, 459, 460, 461, 462, 315, 316, 317, 22, 318, 60, 61, 319, 177, 178, 179, 180, 320, 321, 821, 822, 823, 824, 825, 826, 827, 828, 829, 830, 831, 832, 833, 834, 835, 883, 884, 885, 886, 887, 888, 889, 890, 891, 892, 873, 874, 875, 876] (by decide +kernel) (by decide +kernel)
set_option maxRecDepth 20000 in
theorem gL_law_X8_ofRun : GoodIn wsL_law (wsV RL 44 RX8 yX8_ofRun wsX8_ofRun) := goodIn_app (goodIn_of _ (by decide +kernel)) ggL_law_X8_ofRun
set_option maxRecDepth 20000 in
theorem ggL_law_X9_ofRun : GoodIn wsL_law wsX9_ofRun := goodIn_r _ [466, 424, 418, 111, 419, 420, 421, 5, 422, 423, 102, 425, 426, 427, 428, 269, 110, 429, 430, 431, 432, 433, 270, 104, 108, 109, 101, 434, 435, 436, 437, 438, 439, 440, 441, 304, 305, 306, 442, 443, 444, 445, 334, 335, 336, 337, 99, 100, 275, 276, 277, 446, 447, 448, 449, 836, 837, 838, 839, 840, 841, 842, 843, 844, 845, 846, 847, 848, 849, 850, 851, 852, 853, 854, 855, 856, 857, 858, 859, 860, 861, 862, 863, 864, 865, 866] (by decide +kernel) (by decide +kernel)
set_option maxRecDepth 20000 in
theorem gL_law_X9_ofRun : GoodIn wsL_law (wsV RL 47 RX9 yX9_ofRun wsX9_ofRun) := goodIn_app (goodIn_of _ (by decide +kernel)) ggL_law_X9_ofRun
set_option maxHeartbeats 4000000 in
set_option maxRecDepth 100000 in
theorem law_ofRun {p : Program} {e : Env} {s : State} {m : MethodId} {below : List Frame} {meth : Method} {c : Code} (l : Launch) {b : Nat} {xs : Nat → Int32} {A : Nat → Prop} (C0 : lw_At p s m meth c b 6 xs) (hA : ∀ q, s.heap.size ≤ q → A q) (hAf : ∀ q, A q → s.heap.size ≤ q) (hN : kN s) (D : va_G) (h0 m0 : Nat) (sh : Nat) (rd : Nat) (fr : Nat) (wr : Nat) (pf : Nat) (rc : Nat) (se : Nat) (rs : Nat) (sw : Nat) (sp : Nat) (ss : Nat) (g1 : Nat) (g2 : Nat) (g3 : Nat) (g4 : Nat) (g5 : Nat) (g6 : Nat) (g7 : Nat) (so : Nat) (sl : Nat) (ce : Nat) (kd : Nat) (wd : Nat) (hs : Nat) (pr : Nat) (la : Nat) (wg : Nat) (rk : Nat) (rw : Nat) (rh : Nat) (sa : Nat) (fi : Nat) (ch : Nat) (cn : Nat) (kp : Nat) (rfa : Nat) (csa : ClassId) {H : Heap} {locs : List Loc} (hP : va_P D vwCl [(h0, .inr (8, [.ref sh, .ref rd, .ref fr, .ref wr, .ref pf, .ref rc, .ref se, .ref rs, .ref sw, .ref sp, .ref ss, .int 0, .long 0, .int 0, .int 0])), (se, .inr (4, [.ref g1, .ref g2, .ref g3, .ref g4, .ref g5, .int 0, .int 0, .int 0, .ref g6, .ref g7])), (m0, .inr (9, [.int 0, .int 0, .ref so, .ref sl, .ref ce, .int 0, .ref kd, .ref wd, .ref hs, .ref pr, .ref la, .int 0, .ref wg, .int 0, .long 0, .int 0, .int 0, .ref rk, .ref rw, .ref rh, .int 0, .ref sa, .ref fi, .int 0, .ref ch, .ref cn, .int 0, .int 0, .ref kp, .int 0, .ref rfa])), (sa, .inl (csa, 25, .inl (fun _ => 0)))] H) (hD : va_D A [(h0, .inr (8, [.ref sh, .ref rd, .ref fr, .ref wr, .ref pf, .ref rc, .ref se, .ref rs, .ref sw, .ref sp, .ref ss, .int 0, .long 0, .int 0, .int 0])), (se, .inr (4, [.ref g1, .ref g2, .ref g3, .ref g4, .ref g5, .int 0, .int 0, .int 0, .ref g6, .ref g7])), (m0, .inr (9, [.int 0, .int 0, .ref so, .ref sl, .ref ce, .int 0, .ref kd, .ref wd, .ref hs, .ref pr, .ref la, .int 0, .ref wg, .int 0, .long 0, .int 0, .int 0, .ref rk, .ref rw, .ref rh, .int 0, .ref sa, .ref fi, .int 0, .ref ch, .ref cn, .int 0, .int 0, .ref kp, .int 0, .ref rfa])), (sa, .inl (csa, 25, .inl (fun _ => 0)))]) (hK : va_K D vwCl [(csa, .int)] s) (hS : va_S A s.heap H locs) {ls : Array Slot} (hl : lv_has ls 4 [(3, .int 0), (2, .ref m0), (1, .ref h0), (0, .ref b)]) : W p l e room_1 s m #[Value.ref b] below meth c H locs 123 1521 (lw_Z below #[Value.ref b] s) (F0 m 427 ls []) := by
  obtain ⟨hx, hb, hr, hml, hown, hts, hX, hbl, hlocks, hgv⟩ := id C0
  have hbA : ¬ A b := fun h => absurd (hAf b h) (Nat.not_le.mpr hbl)
  refine lv_aload_n hx hb dL_law_427 rfl (lv_at hl 2 rfl) ?_
  refine lv_aload_n hx hb dL_law_428 rfl (lv_at hl 3 rfl) ?_
  refine lv_iload_n hx hb dL_law_429 rfl (lv_at hl 0 rfl) ?_
  refine lv_iconst (v := 1) hx hb dL_law_430 (by decide) ?_
  refine lv_iadd hx hb dL_law_431 ?_
  refine kn_i 1 (by decide) ?_
  refine va_sld hx hb hX hbl hbA hS (by unfold vp_in; decide) dL_law_432 ?_
  refine kn_i (xs 1) rfl ?_
  refine lv_aload_n hx hb dL_law_433 rfl (lv_at hl 3 rfl) ?_
  refine lv_iload_n hx hb dL_law_434 rfl (lv_at hl 0 rfl) ?_
  refine lv_iconst (v := 2) hx hb dL_law_435 (by decide) ?_
  refine lv_iadd hx hb dL_law_436 ?_
  refine kn_i 2 (by decide) ?_
  refine va_sld hx hb hX hbl hbA hS (by unfold vp_in; decide) dL_law_437 ?_
  refine kn_i (xs 2) rfl ?_
  refine k_callR (va_runV (As := [.int (xs 1), .int (xs 2)]) (rest := []) ⟨hx, hb, hml, hown, hts⟩ (c_X8_ofRun l D H.size (k := (xs 1)) (w := (xs 2)) (h0 := h0) (sh := sh) (rd := rd) (fr := fr) (wr := wr) (pf := pf) (rc := rc) (se := se) (rs := rs) (sw := sw) (sp := sp) (ss := ss) (ew := 0) (wc := 0) (tr := 0) (lf := 0) (g1 := g1) (g2 := g2) (g3 := g3) (g4 := g4) (g5 := g5) (g6 := g6) (g7 := g7)) (cwV 2 hts (goodL gL_law_X8_ofRun) rfl rfl rfl (by decide +kernel) ⟨Nat.le_of_ble_eq_true rfl, Nat.le_of_ble_eq_true rfl⟩) (kPreV hP (kD0 hD) hK hN [0, 1] [] rfl rfl (by decide) 0 8 rfl rfl) rfl rfl hl.1 rfl (lv_room (Nat.le_of_ble_eq_true rfl)) dL_law_438 ⟨Nat.le_of_ble_eq_true rfl, Nat.le_of_ble_eq_true rfl⟩) ?_
  refine lv_aload_n hx hb dL_law_441 rfl (lv_at hl 1 rfl) ?_
  refine lv_aload_n hx hb dL_law_442 rfl (lv_at hl 3 rfl) ?_
  refine lv_iload_n hx hb dL_law_443 rfl (lv_at hl 0 rfl) ?_
  refine lv_iconst (v := 1) hx hb dL_law_444 (by decide) ?_
  refine lv_iadd hx hb dL_law_445 ?_
  refine kn_i 1 (by decide) ?_
  refine va_sld hx hb hX hbl hbA hS (by unfold vp_in; decide) dL_law_446 ?_
  refine kn_i (xs 1) rfl ?_
  refine lv_aload_n hx hb dL_law_447 rfl (lv_at hl 3 rfl) ?_
  refine lv_iload_n hx hb dL_law_448 rfl (lv_at hl 0 rfl) ?_
  refine lv_iconst (v := 2) hx hb dL_law_449 (by decide) ?_
  refine lv_iadd hx hb dL_law_450 ?_
  refine kn_i 2 (by decide) ?_
  refine va_sld hx hb hX hbl hbA hS (by unfold vp_in; decide) dL_law_451 ?_
  refine kn_i (xs 2) rfl ?_
  have hFc := va_free (wc := [(m0, .inr (9, [.int 0, .int 0, .ref so, .ref sl, .ref ce, .int 0, .ref kd, .ref wd, .ref hs, .ref pr, .ref la, .int 0, .ref wg, .int 0, .long 0, .int 0, .int 0, .ref rk, .ref rw, .ref rh, .int 0, .ref sa, .ref fi, .int 0, .ref ch, .ref cn, .int 0, .int 0, .ref kp, .int 0, .ref rfa])), (sa, .inl (csa, 25, .inl (fun _ => 0)))]) hD hS hA [2, 3] rfl
  refine va_calli (va_runV (As := [.int (xs 1), .int (xs 2)]) (rest := [.int (-1)]) ⟨hx, hb, hml, hown, hts⟩ (c_X9_ofRun l D H.size (k := (xs 1)) (w := (xs 2)) (h0 := m0) (fa := 0) (tc := 0) (so := so) (sl := sl) (ce := ce) (kd := kd) (wd := wd) (hs := hs) (pr := pr) (la := la) (wg := wg) (ta := 0) (ck := 0) (at9 := 0) (rfn := 0) (rk := rk) (rw := rw) (rh := rh) (cl := 0) (sa := sa) (fi := fi) (bo := 0) (ch := ch) (cn := cn) (ad := 0) (ru := 0) (kp := kp) (rfa := rfa) (csa := csa) (fsa := (fun _ => 0))) (cwV 2 hts (goodL gL_law_X9_ofRun) rfl rfl rfl (by decide +kernel) ⟨Nat.le_of_ble_eq_true rfl, Nat.le_of_ble_eq_true rfl⟩) (kPreV hP (kD0 hD) hK hN [2, 3] [0] rfl rfl (by decide) 2 9 rfl rfl) rfl rfl hl.1 rfl (lv_room (Nat.le_of_ble_eq_true rfl)) dL_law_452 ⟨Nat.le_of_ble_eq_true rfl, Nat.le_of_ble_eq_true rfl⟩) hS (fun q _ h => hFc q h) hFc (fun r_1 u t H1 locs ht hvm hw hB hz1 hk1 hS => ?_)
  obtain ⟨hP, hD⟩ := va_join (wr := [(h0, .inr (8, [.ref sh, .ref rd, .ref fr, .ref wr, .ref pf, .ref rc, .ref se, .ref rs, .ref sw, .ref sp, .ref ss, .int 0, .long 0, .int 0, .int 0])), (se, .inr (4, [.ref g1, .ref g2, .ref g3, .ref g4, .ref g5, .int 0, .int 0, .int 0, .ref g6, .ref g7]))]) (w1 := []) hP hD [2, 3] [0, 1] rfl rfl (by decide) (by decide) hk1 hFc kP0 kDn
  generalize H1 = H at hP hS ⊢
  have hP : va_P D vwCl [(h0, .inr (8, [.ref sh, .ref rd, .ref fr, .ref wr, .ref pf, .ref rc, .ref se, .ref rs, .ref sw, .ref sp, .ref ss, .int 0, .long 0, .int 0, .int 0])), (se, .inr (4, [.ref g1, .ref g2, .ref g3, .ref g4, .ref g5, .int 0, .int 0, .int 0, .ref g6, .ref g7]))] H := hP
  have hD : va_D A [(h0, .inr (8, [.ref sh, .ref rd, .ref fr, .ref wr, .ref pf, .ref rc, .ref se, .ref rs, .ref sw, .ref sp, .ref ss, .int 0, .long 0, .int 0, .int 0])), (se, .inr (4, [.ref g1, .ref g2, .ref g3, .ref g4, .ref g5, .int 0, .int 0, .int 0, .ref g6, .ref g7]))] := hD
  refine kn_i (-1) hw ?_
  refine lv_icmp_eq (tgt := 1135) hx hb dL_law_455 (by decide) (fun _ => ?_) (fun c9 => absurd (by decide) c9)
  exact law_end l C0 hAf hS (Nat.le_of_ble_eq_true rfl) (Nat.le_of_ble_eq_true rfl) (lv_sub hl [0, 3] rfl)
