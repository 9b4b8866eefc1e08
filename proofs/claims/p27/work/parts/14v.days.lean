/-! days -/
def kPair (k a : Int) : Prop := (a = 20 ∧ 0 ≤ k ∧ k ≤ 15) ∨ (a = 21 ∧ 0 ≤ k ∧ k ≤ 24) ∨ (a = 22 ∧ 0 ≤ k ∧ k ≤ 3)
def kPairs (f : Nat → Int32) (o n : Int) : Prop := ∀ k : Int, 0 ≤ k → k < n → ∃ x y : Int, rg x ∧ rg y ∧ f (o + 2 * k).toNat = zI x ∧ f (o + 2 * k + 1).toNat = zI y ∧ kPair x y
theorem kPairs_0 {f : Nat → Int32} {o : Int} : kPairs f o 0 := fun k h0 h1 => by omega
theorem kPairs_le {f : Nat → Int32} {o n j : Int} (h : kPairs f o j) (e : n ≤ j) : kPairs f o n := fun k h0 h1 => h k h0 (by omega)
theorem kPairs_s {f : Nat → Int32} {o n x y : Int} (h : kPairs f o n) (hx : rg x) (hy : rg y) (ex : f (o + 2 * n).toNat = zI x) (ey : f (o + 2 * n + 1).toNat = zI y) (p : kPair x y) : kPairs f o (n + 1) := by
  intro k h0 h1
  by_cases q : k = n
  · subst q
    exact ⟨x, y, hx, hy, ex, ey, p⟩
  · exact h k h0 (by omega)
theorem kPairs_at {f : Nat → Int32} {o n k x y : Int} (h : kPairs f o n) (h0 : 0 ≤ k) (h1 : k < n) (hx : rg x) (hy : rg y) (ex : f (o + 2 * k).toNat = zI x) (ey : f (o + 2 * k + 1).toNat = zI y) : (y = 20 ∧ 0 ≤ x ∧ x ≤ 15) ∨ (y = 21 ∧ 0 ≤ x ∧ x ≤ 24) ∨ (y = 22 ∧ 0 ≤ x ∧ x ≤ 3) := by
  obtain ⟨x2, y2, r1, r2, e1, e2, p⟩ := h k h0 h1
  rw [ex] at e1
  rw [ey] at e2
  have q1 := (zI_eq hx r1).mp e1
  have q2 := (zI_eq hy r2).mp e2
  subst q1
  subst q2
  exact p
def kKp (f : Nat → Int32) (n : Int) : Prop := (∃ m : Int, 0 ≤ m ∧ m ≤ 24 ∧ f 0 = zI m) ∧ kPm (fun i => f (25 + i)) n
theorem kKp_0 {f : Nat → Int32} {n z : Int} (h : kKp f n) (hz : rg z) (e : f 0 = zI z) : 0 ≤ z ∧ z ≤ 24 := by
  obtain ⟨⟨m, h1, h2, h3⟩, -⟩ := h
  rw [h3] at e
  have := (zI_eq (by omega) hz).mp e
  omega
theorem kPm_cong {f g : Nat → Int32} {n : Int} (h : kPm f n) (e : ∀ i : Nat, (i : Int) < n → g i = f i) : kPm g n := by
  refine ⟨fun p hp => ?_, fun x h0 h1 => ?_⟩
  · obtain ⟨z, a, b, c⟩ := h.1 p hp
    exact ⟨z, a, b, by rw [e p hp]; exact c⟩
  · obtain ⟨p, a, b⟩ := h.2 x h0 h1
    exact ⟨p, a, by rw [e p a]; exact b⟩
def kCp (f g : Nat → Int32) (n : Int) : Prop := ∀ i : Nat, (i : Int) < n → f (25 + i) = g i
theorem kCp_0 {f g : Nat → Int32} : kCp f g 0 := fun i h => by omega
theorem kCp_f {f f2 g : Nat → Int32} {n z : Int} (h : kCp f g n) (h0 : 0 ≤ n) (e : g n.toNat = zI z) (e2 : upd f (25 + n).toNat (zI z) = f2) : kCp f2 g (n + 1) := by
  intro i hi
  rw [← e2]
  by_cases q : i = n.toNat
  · subst q
    rw [show (25 + n).toNat = 25 + n.toNat by omega, pk_us, e]
  · rw [pk_un (by omega)]
    exact h i (by omega)
theorem kCp_g {f g g2 : Nat → Int32} {n z : Int} (h : kCp f g n) (h0 : 0 ≤ n) (e : f (25 + n).toNat = zI z) (e2 : upd g n.toNat (zI z) = g2) : kCp f g2 (n + 1) := by
  intro i hi
  rw [← e2]
  by_cases q : i = n.toNat
  · subst q
    rw [show 25 + n.toNat = (25 + n).toNat by omega, pk_us, e]
  · rw [pk_un q]
    exact h i (by omega)
theorem kKp_of {f g : Nat → Int32} {n m j : Int} (h : kCp f g j) (hj : n ≤ j) (hm : 0 ≤ m ∧ m ≤ 24) (e : f 0 = zI m) (p : kPm g n) : kKp f n := ⟨⟨m, hm.1, hm.2, e⟩, kPm_cong p (fun i hi => h i (by omega))⟩
theorem kKp_pm {f g : Nat → Int32} {n j : Int} (h : kCp f g j) (hj : n ≤ j) (k : kKp f n) : kPm g n := kPm_cong k.2 (fun i hi => (h i (by omega)).symm)
theorem dX9_does_0 : decode cX9_does 0 = .ok (.iload_n 2, 1) := kqo_1c kbl_X9_does (pc := 0) rfl
theorem dX9_does_1 : decode cX9_does 1 = .ok (.bipush 20, 2) := kqo_10 (x1 := 20) kbl_X9_does (pc := 1) rfl rfl
theorem dX9_does_3 : decode cX9_does 3 = .ok (.if_icmp .ne 36, 3) := kqo_a0 (x1 := 0) (x2 := 36) kbl_X9_does (pc := 3) rfl rfl
theorem dX9_does_6 : decode cX9_does 6 = .ok (.aload_n 0, 1) := kqo_2a kbl_X9_does (pc := 6) rfl
theorem dX9_does_7 : decode cX9_does 7 = .ok (.getfield 101, 3) := kqo_b4 (x1 := 0) (x2 := 101) kbl_X9_does (pc := 7) rfl rfl
theorem dX9_does_10 : decode cX9_does 10 = .ok (.bipush 24, 2) := kqo_10 (x1 := 24) kbl_X9_does (pc := 10) rfl rfl
theorem dX9_does_12 : decode cX9_does 12 = .ok (.if_icmp .ne 5, 3) := kqo_a0 (x1 := 0) (x2 := 5) kbl_X9_does (pc := 12) rfl rfl
theorem dX9_does_15 : decode cX9_does 15 = .ok (.iconst 0, 1) := kqo_03 kbl_X9_does (pc := 15) rfl
theorem dX9_does_16 : decode cX9_does 16 = .ok (.ireturn, 1) := kqo_ac kbl_X9_does (pc := 16) rfl
theorem dX9_does_17 : decode cX9_does 17 = .ok (.aload_n 0, 1) := kqo_2a kbl_X9_does (pc := 17) rfl
theorem dX9_does_18 : decode cX9_does 18 = .ok (.getfield 34, 3) := kqo_b4 (x1 := 0) (x2 := 34) kbl_X9_does (pc := 18) rfl rfl
theorem dX9_does_21 : decode cX9_does 21 = .ok (.aload_n 0, 1) := kqo_2a kbl_X9_does (pc := 21) rfl
theorem dX9_does_22 : decode cX9_does 22 = .ok (.getfield 101, 3) := kqo_b4 (x1 := 0) (x2 := 101) kbl_X9_does (pc := 22) rfl rfl
theorem dX9_does_25 : decode cX9_does 25 = .ok (.iload_n 1, 1) := kqo_1b kbl_X9_does (pc := 25) rfl
theorem dX9_does_26 : decode cX9_does 26 = .ok (.iastore, 1) := kqo_4f kbl_X9_does (pc := 26) rfl
theorem dX9_does_27 : decode cX9_does 27 = .ok (.aload_n 0, 1) := kqo_2a kbl_X9_does (pc := 27) rfl
theorem dX9_does_28 : decode cX9_does 28 = .ok (.dup, 1) := kqo_59 kbl_X9_does (pc := 28) rfl
theorem dX9_does_29 : decode cX9_does 29 = .ok (.getfield 101, 3) := kqo_b4 (x1 := 0) (x2 := 101) kbl_X9_does (pc := 29) rfl rfl
theorem dX9_does_32 : decode cX9_does 32 = .ok (.iconst 1, 1) := kqo_04 kbl_X9_does (pc := 32) rfl
theorem dX9_does_33 : decode cX9_does 33 = .ok (.iadd, 1) := kqo_60 kbl_X9_does (pc := 33) rfl
theorem dX9_does_34 : decode cX9_does 34 = .ok (.putfield 101, 3) := kqo_b5 (x1 := 0) (x2 := 101) kbl_X9_does (pc := 34) rfl rfl
theorem dX9_does_37 : decode cX9_does 37 = .ok (.iconst 1, 1) := kqo_04 kbl_X9_does (pc := 37) rfl
theorem dX9_does_38 : decode cX9_does 38 = .ok (.ireturn, 1) := kqo_ac kbl_X9_does (pc := 38) rfl
theorem dX9_does_39 : decode cX9_does 39 = .ok (.iload_n 2, 1) := kqo_1c kbl_X9_does (pc := 39) rfl
theorem dX9_does_40 : decode cX9_does 40 = .ok (.bipush 21, 2) := kqo_10 (x1 := 21) kbl_X9_does (pc := 40) rfl rfl
theorem dX9_does_42 : decode cX9_does 42 = .ok (.if_icmp .ne 25, 3) := kqo_a0 (x1 := 0) (x2 := 25) kbl_X9_does (pc := 42) rfl rfl
theorem dX9_does_45 : decode cX9_does 45 = .ok (.iload_n 1, 1) := kqo_1b kbl_X9_does (pc := 45) rfl
theorem dX9_does_46 : decode cX9_does 46 = .ok (.aload_n 0, 1) := kqo_2a kbl_X9_does (pc := 46) rfl
theorem dX9_does_47 : decode cX9_does 47 = .ok (.getfield 101, 3) := kqo_b4 (x1 := 0) (x2 := 101) kbl_X9_does (pc := 47) rfl rfl
theorem dX9_does_50 : decode cX9_does 50 = .ok (.if_icmp .le 5, 3) := kqo_a4 (x1 := 0) (x2 := 5) kbl_X9_does (pc := 50) rfl rfl
theorem dX9_does_53 : decode cX9_does 53 = .ok (.iconst 0, 1) := kqo_03 kbl_X9_does (pc := 53) rfl
theorem dX9_does_54 : decode cX9_does 54 = .ok (.ireturn, 1) := kqo_ac kbl_X9_does (pc := 54) rfl
theorem dX9_does_55 : decode cX9_does 55 = .ok (.aload_n 0, 1) := kqo_2a kbl_X9_does (pc := 55) rfl
theorem dX9_does_56 : decode cX9_does 56 = .ok (.dup, 1) := kqo_59 kbl_X9_does (pc := 56) rfl
theorem dX9_does_57 : decode cX9_does 57 = .ok (.getfield 101, 3) := kqo_b4 (x1 := 0) (x2 := 101) kbl_X9_does (pc := 57) rfl rfl
theorem dX9_does_60 : decode cX9_does 60 = .ok (.iload_n 1, 1) := kqo_1b kbl_X9_does (pc := 60) rfl
theorem dX9_does_61 : decode cX9_does 61 = .ok (.isub, 1) := kqo_64 kbl_X9_does (pc := 61) rfl
theorem dX9_does_62 : decode cX9_does 62 = .ok (.putfield 101, 3) := kqo_b5 (x1 := 0) (x2 := 101) kbl_X9_does (pc := 62) rfl rfl
theorem dX9_does_65 : decode cX9_does 65 = .ok (.iconst 1, 1) := kqo_04 kbl_X9_does (pc := 65) rfl
theorem dX9_does_66 : decode cX9_does 66 = .ok (.ireturn, 1) := kqo_ac kbl_X9_does (pc := 66) rfl
theorem dX9_does_67 : decode cX9_does 67 = .ok (.aload_n 0, 1) := kqo_2a kbl_X9_does (pc := 67) rfl
theorem dX9_does_68 : decode cX9_does 68 = .ok (.iload_n 1, 1) := kqo_1b kbl_X9_does (pc := 68) rfl
theorem dX9_does_69 : decode cX9_does 69 = .ok (.invokevirtual 120, 3) := kqo_b6 (x1 := 0) (x2 := 120) kbl_X9_does (pc := 69) rfl rfl
theorem dX9_does_72 : decode cX9_does 72 = .ok (.ifCond .ne 5, 3) := kqo_9a (x1 := 0) (x2 := 5) kbl_X9_does (pc := 72) rfl rfl
theorem dX9_does_75 : decode cX9_does 75 = .ok (.iconst 0, 1) := kqo_03 kbl_X9_does (pc := 75) rfl
theorem dX9_does_76 : decode cX9_does 76 = .ok (.ireturn, 1) := kqo_ac kbl_X9_does (pc := 76) rfl
theorem dX9_does_77 : decode cX9_does 77 = .ok (.aload_n 0, 1) := kqo_2a kbl_X9_does (pc := 77) rfl
theorem dX9_does_78 : decode cX9_does 78 = .ok (.iload_n 1, 1) := kqo_1b kbl_X9_does (pc := 78) rfl
theorem dX9_does_79 : decode cX9_does 79 = .ok (.invokevirtual 174, 3) := kqo_b6 (x1 := 0) (x2 := 174) kbl_X9_does (pc := 79) rfl rfl
theorem dX9_does_82 : decode cX9_does 82 = .ok (.pop, 1) := kqo_57 kbl_X9_does (pc := 82) rfl
theorem dX9_does_83 : decode cX9_does 83 = .ok (.iconst 1, 1) := kqo_04 kbl_X9_does (pc := 83) rfl
theorem dX9_does_84 : decode cX9_does 84 = .ok (.ireturn, 1) := kqo_ac kbl_X9_does (pc := 84) rfl
set_option maxRecDepth 20000 in
theorem ggX9_does_X9_comesFirst : GoodIn wsX9_does wsX9_comesFirst := goodIn_4 _ (List.forall_mem_cons.mpr ⟨List.mem_cons_of_mem _ (List.mem_append_left _ (List.mem_of_getElem? (i := 11) rfl)), List.forall_mem_append.mpr ⟨List.forall_mem_cons.mpr ⟨List.mem_cons_of_mem _ (List.mem_append_left _ (List.mem_of_getElem? (i := 12) rfl)), List.forall_mem_cons.mpr ⟨List.mem_cons_of_mem _ (List.mem_append_left _ (List.mem_of_getElem? (i := 13) rfl)), List.forall_mem_cons.mpr ⟨List.mem_cons_of_mem _ (List.mem_append_left _ (List.mem_of_getElem? (i := 14) rfl)), List.forall_mem_cons.mpr ⟨List.mem_cons_of_mem _ (List.mem_append_left _ (List.mem_of_getElem? (i := 15) rfl)), List.forall_mem_cons.mpr ⟨List.mem_cons_of_mem _ (List.mem_append_left _ (List.mem_of_getElem? (i := 5) rfl)), List.forall_mem_cons.mpr ⟨List.mem_cons_of_mem _ (List.mem_append_left _ (List.mem_of_getElem? (i := 16) rfl)), fun _ h9 => absurd h9 List.not_mem_nil⟩⟩⟩⟩⟩⟩, fun w h9 => List.mem_cons_of_mem _ (List.mem_append_right _ (h9))⟩⟩) (by decide +kernel)
set_option maxRecDepth 20000 in
theorem gX9_does_X9_comesFirst : GoodIn wsX9_does (wsV RX9 174 RX9 yX9_comesFirst wsX9_comesFirst) := goodIn_app (goodIn_4 _ (List.forall_mem_cons.mpr ⟨List.mem_cons_of_mem _ (List.mem_append_left _ (List.mem_of_getElem? (i := 8) rfl)), List.forall_mem_cons.mpr ⟨List.mem_cons_of_mem _ (List.mem_append_left _ (List.mem_of_getElem? (i := 9) rfl)), List.forall_mem_cons.mpr ⟨List.mem_cons_of_mem _ (List.mem_append_left _ (List.mem_of_getElem? (i := 10) rfl)), List.forall_mem_cons.mpr ⟨List.mem_cons_of_mem _ (List.mem_append_left _ (List.mem_of_getElem? (i := 5) rfl)), fun _ h9 => absurd h9 List.not_mem_nil⟩⟩⟩⟩) (by decide +kernel)) ggX9_does_X9_comesFirst
set_option maxRecDepth 20000 in
theorem ggX9_does_X9_isFont : GoodIn wsX9_does wsX9_isFont := goodIn_4 _ (List.forall_mem_cons.mpr ⟨List.mem_cons_of_mem _ (List.mem_append_left _ (List.mem_of_getElem? (i := 6) rfl)), List.forall_mem_append.mpr ⟨List.forall_mem_cons.mpr ⟨List.mem_cons_of_mem _ (List.mem_append_left _ (List.mem_of_getElem? (i := 7) rfl)), fun _ h9 => absurd h9 List.not_mem_nil⟩, fun w h9 => List.mem_cons_of_mem _ (List.mem_append_right _ (h9))⟩⟩) (by decide +kernel)
set_option maxRecDepth 20000 in
theorem gX9_does_X9_isFont : GoodIn wsX9_does (wsV RX9 120 RX9 yX9_isFont wsX9_isFont) := goodIn_app (goodIn_4 _ (List.forall_mem_cons.mpr ⟨List.mem_cons_of_mem _ (List.mem_append_left _ (List.mem_of_getElem? (i := 2) rfl)), List.forall_mem_cons.mpr ⟨List.mem_cons_of_mem _ (List.mem_append_left _ (List.mem_of_getElem? (i := 3) rfl)), List.forall_mem_cons.mpr ⟨List.mem_cons_of_mem _ (List.mem_append_left _ (List.mem_of_getElem? (i := 4) rfl)), List.forall_mem_cons.mpr ⟨List.mem_cons_of_mem _ (List.mem_append_left _ (List.mem_of_getElem? (i := 5) rfl)), fun _ h9 => absurd h9 List.not_mem_nil⟩⟩⟩⟩) (by decide +kernel)) ggX9_does_X9_isFont
set_option maxRecDepth 20000 in
theorem mw_X9_does_0 : (.fieldLink RX9 101 "FontRunsModel" "many" "I" : Cond) ∈ wsX9_does := List.mem_cons_of_mem _ (List.mem_append_left _ (List.mem_of_getElem? (i := 0) rfl))
set_option maxRecDepth 20000 in
theorem mw_X9_does_1 : (.fieldLink RX9 34 "FontRunsModel" "writing" "[I" : Cond) ∈ wsX9_does := List.mem_cons_of_mem _ (List.mem_append_left _ (List.mem_of_getElem? (i := 1) rfl))
theorem ax_X9_does_0 {e0 e1 e2 : Nat × va_E} : ([0] : List Nat).map (fun i => ([e0, e1, e2] : va_W)[i]?) = ([e0] : va_W).map some := rfl
theorem ax_X9_does_1 {e0 e1 e2 : Nat × va_E} : ([0, 2] : List Nat).map (fun i => ([e0, e1, e2] : va_W)[i]?) = ([e0, e2] : va_W).map some := rfl
theorem ax_X9_does_2 {e0 e1 e2 : Nat × va_E} : ([1] : List Nat).map (fun i => ([e0, e1, e2] : va_W)[i]?) = ([e1] : va_W).map some := rfl
theorem ax_X9_does_3 {D : va_G} {cl : List vw_C} {H : Heap} {e0 f0 f1 : Nat × va_E} (h : va_P D cl ((([e0] : va_W) ++ ([f0, f1] : va_W))) H) : va_P D cl (([e0, f0, f1] : va_W)) H := h
theorem ax_X9_does_4 {A : Nat → Prop} {e0 f0 f1 : Nat × va_E} (h : va_D A ((([e0] : va_W) ++ ([f0, f1] : va_W)))) : va_D A (([e0, f0, f1] : va_W)) := h
theorem ax_X9_does_5 {e0 e1 e2 : Nat × va_E} : ([1, 0, 2] : List Nat).map (fun i => ([e0, e1, e2] : va_W)[i]?) = ([e1, e0, e2] : va_W).map some := rfl
theorem ax_X9_does_6 {e0 e1 e2 : Nat × va_E} : ([0, 1, 2] : List Nat).map (fun i => ([e0, e1, e2] : va_W)[i]?) = ([e0, e1, e2] : va_W).map some := rfl
set_option maxHeartbeats 4000000 in
set_option maxRecDepth 100000 in
theorem c_X9_does (l : Launch) (D : va_G) (sz : Nat) (k : Int) (a : Int) (h0 : Nat) (fa : Int) (tc : Int) (so : Nat) (sl : Nat) (ce : Nat) (fn : Int) (kd : Nat) (wd : Nat) (hs : Nat) (pf : Nat) (lt : Nat) (mn : Int) (wg : Nat) (ta : Int) (ck : Int64) (at9 : Int) (rfn : Int) (rk : Nat) (rw : Nat) (rh : Nat) (cl : Int) (sa : Nat) (fi : Nat) (bo : Int) (ch : Nat) (cn : Nat) (ad : Int) (ru : Int) (kp : Nat) (dn : Int) (rfa : Nat) (c_wg : ClassId) (f_wg : Nat → Int32) (c_pf : ClassId) (f_pf : Nat → Int32) (q0 : (a = 20 ∧ 0 ≤ k ∧ k ≤ 15) ∨ (a = 21 ∧ 0 ≤ k ∧ k ≤ 24) ∨ (a = 22 ∧ 0 ≤ k ∧ k ≤ 3)) (q1 : rg k) (q2 : rg a) (q3 : 1 ≤ fn) (q4 : 0 ≤ mn ∧ mn ≤ 24) (q5 : 0 ≤ fn ∧ fn ≤ 4) (q6 : kPm f_pf fn) : Met l yX9_does wsX9_does ({ frames := 2, cells := 0, slots := 0, locals := 45 }) (kPre [.ref h0, .int (zI k), .int (zI a)] D [(h0, .inr (9, [.int (zI fa), .int (zI tc), .ref so, .ref sl, .ref ce, .int (zI fn), .ref kd, .ref wd, .ref hs, .ref pf, .ref lt, .int (zI mn), .ref wg, .int (zI ta), .long ck, .int (zI at9), .int (zI rfn), .ref rk, .ref rw, .ref rh, .int (zI cl), .ref sa, .ref fi, .int (zI bo), .ref ch, .ref cn, .int (zI ad), .int (zI ru), .ref kp, .int (zI dn), .ref rfa])), (wg, .inl (c_wg, 24, .inl f_wg)), (pf, .inl (c_pf, 4, .inl f_pf))] [(c_wg, .int), (c_pf, .int)] sz) (kQS (fun rz t => ∃ (u_mn : Int) (u_f_wg : Nat → Int32) (u_f_pf : Nat → Int32), (0 ≤ u_mn ∧ u_mn ≤ 24) ∧ (kPm u_f_pf fn) ∧ (rz = 0 ∨ rz = 1) ∧ va_P D vwCl [(h0, .inr (9, [.int (zI fa), .int (zI tc), .ref so, .ref sl, .ref ce, .int (zI fn), .ref kd, .ref wd, .ref hs, .ref pf, .ref lt, .int (zI u_mn), .ref wg, .int (zI ta), .long ck, .int (zI at9), .int (zI rfn), .ref rk, .ref rw, .ref rh, .int (zI cl), .ref sa, .ref fi, .int (zI bo), .ref ch, .ref cn, .int (zI ad), .int (zI ru), .ref kp, .int (zI dn), .ref rfa])), (wg, .inl (c_wg, 24, .inl u_f_wg)), (pf, .inl (c_pf, 4, .inl u_f_pf))] t.heap ∧ va_D (va_A [(h0, .inr (9, [.int (zI fa), .int (zI tc), .ref so, .ref sl, .ref ce, .int (zI fn), .ref kd, .ref wd, .ref hs, .ref pf, .ref lt, .int (zI mn), .ref wg, .int (zI ta), .long ck, .int (zI at9), .int (zI rfn), .ref rk, .ref rw, .ref rh, .int (zI cl), .ref sa, .ref fi, .int (zI bo), .ref ch, .ref cn, .int (zI ad), .int (zI ru), .ref kp, .int (zI dn), .ref rfa])), (wg, .inl (c_wg, 24, .inl f_wg)), (pf, .inl (c_pf, 4, .inl f_pf))] sz) [(h0, .inr (9, [.int (zI fa), .int (zI tc), .ref so, .ref sl, .ref ce, .int (zI fn), .ref kd, .ref wd, .ref hs, .ref pf, .ref lt, .int (zI u_mn), .ref wg, .int (zI ta), .long ck, .int (zI at9), .int (zI rfn), .ref rk, .ref rw, .ref rh, .int (zI cl), .ref sa, .ref fi, .int (zI bo), .ref ch, .ref cn, .int (zI ad), .int (zI ru), .ref kp, .int (zI dn), .ref rfa])), (wg, .inl (c_wg, 24, .inl u_f_wg)), (pf, .inl (c_pf, 4, .inl u_f_pf))]) (va_A [(h0, .inr (9, [.int (zI fa), .int (zI tc), .ref so, .ref sl, .ref ce, .int (zI fn), .ref kd, .ref wd, .ref hs, .ref pf, .ref lt, .int (zI mn), .ref wg, .int (zI ta), .long ck, .int (zI at9), .int (zI rfn), .ref rk, .ref rw, .ref rh, .int (zI cl), .ref sa, .ref fi, .int (zI bo), .ref ch, .ref cn, .int (zI ad), .int (zI ru), .ref kp, .int (zI dn), .ref rfa])), (wg, .inl (c_wg, 24, .inl f_wg)), (pf, .inl (c_pf, 4, .inl f_pf))] sz)) 0 0 (va_A [(h0, .inr (9, [.int (zI fa), .int (zI tc), .ref so, .ref sl, .ref ce, .int (zI fn), .ref kd, .ref wd, .ref hs, .ref pf, .ref lt, .int (zI mn), .ref wg, .int (zI ta), .long ck, .int (zI at9), .int (zI rfn), .ref rk, .ref rw, .ref rh, .int (zI cl), .ref sa, .ref fi, .int (zI bo), .ref ch, .ref cn, .int (zI ad), .int (zI ru), .ref kp, .int (zI dn), .ref rfa])), (wg, .inl (c_wg, 24, .inl f_wg)), (pf, .inl (c_pf, 4, .inl f_pf))] sz) := by
  refine Met.ofW (cc := cX9_does) (maxL := 3) (ret := (some .boolean)) (by decide) rfl ?_
  intro p e s m args below meth c s₁ B hml hv
  obtain ⟨rfl, hsz, hP, hK, hD0, hN⟩ := hv
  have hx := B.exec
  have hb := B.bytes
  have hr := B.returns
  have hts := atoms_spec (ws := wsX9_does) B.pre
  have hown : s.vm.findClass RX9 = some m.cls := findClass_of_methodNamed B.named
  have hlocks := B.notSynchronized
  subst hsz
  have hD := hD0.self (sz := s.heap.size)
  generalize hAe : va_A [(h0, .inr (9, [.int (zI fa), .int (zI tc), .ref so, .ref sl, .ref ce, .int (zI fn), .ref kd, .ref wd, .ref hs, .ref pf, .ref lt, .int (zI mn), .ref wg, .int (zI ta), .long ck, .int (zI at9), .int (zI rfn), .ref rk, .ref rw, .ref rh, .int (zI cl), .ref sa, .ref fi, .int (zI bo), .ref ch, .ref cn, .int (zI ad), .int (zI ru), .ref kp, .int (zI dn), .ref rfa])), (wg, .inl (c_wg, 24, .inl f_wg)), (pf, .inl (c_pf, 4, .inl f_pf))] s.heap.size = A at hD ⊢
  have hA : ∀ q : Nat, s.heap.size ≤ q → A q := fun q h => by rw [← hAe]; exact Or.inr h
  have hS : va_S A s.heap s.heap [] := va_S.rf
  have hP : va_P D vwCl [(h0, .inr (9, [.int (zI fa), .int (zI tc), .ref so, .ref sl, .ref ce, .int (zI fn), .ref kd, .ref wd, .ref hs, .ref pf, .ref lt, .int (zI mn), .ref wg, .int (zI ta), .long ck, .int (zI at9), .int (zI rfn), .ref rk, .ref rw, .ref rh, .int (zI cl), .ref sa, .ref fi, .int (zI bo), .ref ch, .ref cn, .int (zI ad), .int (zI ru), .ref kp, .int (zI dn), .ref rfa])), (wg, .inl (c_wg, 24, .inl f_wg)), (pf, .inl (c_pf, 4, .inl f_pf))] s.heap := hP
  have hl := lv_entry ([.ref h0, .int (zI k), .int (zI a)]) (n := 3) (Nat.le_of_ble_eq_true rfl)
  rw [lg_entry_eq]
  generalize (lg_sl ([.ref h0, .int (zI k), .int (zI a)]) ++ List.replicate (3 - (lg_sl ([.ref h0, .int (zI k), .int (zI a)])).length) Slot.unset).toArray = ls at hl ⊢
  have hl : lv_has ls 3 [(0, .ref h0), (1, .int (zI k)), (2, .int (zI a))] := hl
  refine lv_iload_n hx hb dX9_does_0 rfl (lv_at hl 2 rfl) ?_
  refine lv_bipush (v := zI 20) hx hb dX9_does_1 (by decide) ?_
  refine kz_icmp_ne (tgt := 39) hx hb dX9_does_3 (by decide) (by omega) (by omega) (fun c_1 => ?_) (fun c_1 => ?_)
  · refine lv_iload_n hx hb dX9_does_39 rfl (lv_at hl 2 rfl) ?_
    refine lv_bipush (v := zI 21) hx hb dX9_does_40 (by decide) ?_
    refine kz_icmp_ne (tgt := 67) hx hb dX9_does_42 (by decide) (by omega) (by omega) (fun c_2 => ?_) (fun c_2 => ?_)
    · refine lv_aload_n hx hb dX9_does_67 rfl (lv_at hl 0 rfl) ?_
      refine lv_iload_n hx hb dX9_does_68 rfl (lv_at hl 1 rfl) ?_
      refine k_callR (va_runV (As := [.int (zI k)]) (rest := []) ⟨hx, hb, hml, hown, hts⟩ (c_X9_isFont l D s.heap.size (f := k) (h0 := h0) (fa := fa) (tc := tc) (so := so) (sl := sl) (ce := ce) (fn := fn) (kd := kd) (wd := wd) (hs := hs) (pf := pf) (lt := lt) (mn := mn) (wg := wg) (ta := ta) (ck := ck) (at9 := at9) (rfn := rfn) (rk := rk) (rw := rw) (rh := rh) (cl := cl) (sa := sa) (fi := fi) (bo := bo) (ch := ch) (cn := cn) (ad := ad) (ru := ru) (kp := kp) (dn := dn) (rfa := rfa) q1 q5) (cwV 1 hts gX9_does_X9_isFont rfl rfl rfl (by decide +kernel) ⟨Nat.le_of_ble_eq_true rfl, Nat.le_of_ble_eq_true rfl⟩) (kPreV hP (kD0 hD) hK hN [0] [] ax_X9_does_0 rfl (by decide +kernel) 0 9 rfl rfl) rfl rfl hl.1 rfl (lv_room (Nat.le_of_ble_eq_true rfl)) dX9_does_69 ⟨Nat.le_of_ble_eq_true rfl, Nat.le_of_ble_eq_true rfl⟩) ?_
      refine lv_if_ne (tgt := 77) hx hb dX9_does_72 (by decide) (fun c_3 => ?_) (fun c_3 => ?_)
      · have c_3 : 0 ≤ k ∧ k < fn := b01t c_3
        refine lv_aload_n hx hb dX9_does_77 rfl (lv_at hl 0 rfl) ?_
        refine lv_iload_n hx hb dX9_does_78 rfl (lv_at hl 1 rfl) ?_
        have hFc := va_free (wc := [(h0, .inr (9, [.int (zI fa), .int (zI tc), .ref so, .ref sl, .ref ce, .int (zI fn), .ref kd, .ref wd, .ref hs, .ref pf, .ref lt, .int (zI mn), .ref wg, .int (zI ta), .long ck, .int (zI at9), .int (zI rfn), .ref rk, .ref rw, .ref rh, .int (zI cl), .ref sa, .ref fi, .int (zI bo), .ref ch, .ref cn, .int (zI ad), .int (zI ru), .ref kp, .int (zI dn), .ref rfa])), (pf, .inl (c_pf, 4, .inl f_pf))]) hD hS hA [0, 2] ax_X9_does_1
        refine va_calli (va_runV (As := [.int (zI k)]) (rest := []) ⟨hx, hb, hml, hown, hts⟩ (c_X9_comesFirst l D s.heap.size (f := k) (h0 := h0) (fa := fa) (tc := tc) (so := so) (sl := sl) (ce := ce) (fn := fn) (kd := kd) (wd := wd) (hs := hs) (pf := pf) (lt := lt) (mn := mn) (wg := wg) (ta := ta) (ck := ck) (at9 := at9) (rfn := rfn) (rk := rk) (rw := rw) (rh := rh) (cl := cl) (sa := sa) (fi := fi) (bo := bo) (ch := ch) (cn := cn) (ad := ad) (ru := ru) (kp := kp) (dn := dn) (rfa := rfa) (c_pf := c_pf) (f_pf := f_pf) (by omega) q5 q6) (cwV 1 hts gX9_does_X9_comesFirst rfl rfl rfl (by decide +kernel) ⟨Nat.le_of_ble_eq_true rfl, Nat.le_of_ble_eq_true rfl⟩) (kPreV hP (kD0 hD) hK hN [0, 2] [1] ax_X9_does_1 rfl (by decide +kernel) 0 9 rfl rfl) rfl rfl hl.1 rfl (lv_room (Nat.le_of_ble_eq_true rfl)) dX9_does_79 ⟨Nat.le_of_ble_eq_true rfl, Nat.le_of_ble_eq_true rfl⟩) hS (fun q _ h => hFc q h) hFc (fun r u t H1 locs ht hvm hw hB hz1 hk1 hS => ?_)
        obtain ⟨z_5, e9⟩ : ∃ z, z = u := ⟨_, rfl⟩
        subst e9
        obtain ⟨rfl, rz_5⟩ := hw
        refine Exists.elim hB (fun u_f_pf_4 hB1 => ?_)
        have h_6 := hB1.1
        have h_7 := hB1.2.1
        have hP1 := hB1.2.2.1
        have hD1 := hB1.2.2.2
        clear hB hB1
        rw [ht] at hP1
        obtain ⟨hP, hD⟩ := va_join (wr := [(wg, .inl (c_wg, 24, .inl f_wg))]) (w1 := [(h0, .inr (9, [.int (zI fa), .int (zI tc), .ref so, .ref sl, .ref ce, .int (zI fn), .ref kd, .ref wd, .ref hs, .ref pf, .ref lt, .int (zI mn), .ref wg, .int (zI ta), .long ck, .int (zI at9), .int (zI rfn), .ref rk, .ref rw, .ref rh, .int (zI cl), .ref sa, .ref fi, .int (zI bo), .ref ch, .ref cn, .int (zI ad), .int (zI ru), .ref kp, .int (zI dn), .ref rfa])), (pf, .inl (c_pf, 4, .inl u_f_pf_4))]) hP hD [0, 2] [1] ax_X9_does_1 ax_X9_does_2 (by decide +kernel) (by decide +kernel) hk1 hFc hP1 hD1
        have hP := ax_X9_does_3 hP
        have hD := ax_X9_does_4 hD
        generalize H1 = H at hP hS ⊢
        have hP : va_P D vwCl [(wg, .inl (c_wg, 24, .inl f_wg)), (h0, .inr (9, [.int (zI fa), .int (zI tc), .ref so, .ref sl, .ref ce, .int (zI fn), .ref kd, .ref wd, .ref hs, .ref pf, .ref lt, .int (zI mn), .ref wg, .int (zI ta), .long ck, .int (zI at9), .int (zI rfn), .ref rk, .ref rw, .ref rh, .int (zI cl), .ref sa, .ref fi, .int (zI bo), .ref ch, .ref cn, .int (zI ad), .int (zI ru), .ref kp, .int (zI dn), .ref rfa])), (pf, .inl (c_pf, 4, .inl u_f_pf_4))] H := hP
        have hD : va_D A [(wg, .inl (c_wg, 24, .inl f_wg)), (h0, .inr (9, [.int (zI fa), .int (zI tc), .ref so, .ref sl, .ref ce, .int (zI fn), .ref kd, .ref wd, .ref hs, .ref pf, .ref lt, .int (zI mn), .ref wg, .int (zI ta), .long ck, .int (zI at9), .int (zI rfn), .ref rk, .ref rw, .ref rh, .int (zI cl), .ref sa, .ref fi, .int (zI bo), .ref ch, .ref cn, .int (zI ad), .int (zI ru), .ref kp, .int (zI dn), .ref rfa])), (pf, .inl (c_pf, 4, .inl u_f_pf_4))] := hD
        refine lv_pop hx hb dX9_does_82 rfl ?_
        refine lv_iconst (v := zI 1) hx hb dX9_does_83 rfl ?_
        have hP9 := hP.sub (ws' := [(h0, .inr (9, [.int (zI fa), .int (zI tc), .ref so, .ref sl, .ref ce, .int (zI fn), .ref kd, .ref wd, .ref hs, .ref pf, .ref lt, .int (zI mn), .ref wg, .int (zI ta), .long ck, .int (zI at9), .int (zI rfn), .ref rk, .ref rw, .ref rh, .int (zI cl), .ref sa, .ref fi, .int (zI bo), .ref ch, .ref cn, .int (zI ad), .int (zI ru), .ref kp, .int (zI dn), .ref rfa])), (wg, .inl (c_wg, 24, .inl f_wg)), (pf, .inl (c_pf, 4, .inl u_f_pf_4))]) [1, 0, 2] rfl
        have hD9 := hD.sub (ws' := [(h0, .inr (9, [.int (zI fa), .int (zI tc), .ref so, .ref sl, .ref ce, .int (zI fn), .ref kd, .ref wd, .ref hs, .ref pf, .ref lt, .int (zI mn), .ref wg, .int (zI ta), .long ck, .int (zI at9), .int (zI rfn), .ref rk, .ref rw, .ref rh, .int (zI cl), .ref sa, .ref fi, .int (zI bo), .ref ch, .ref cn, .int (zI ad), .int (zI ru), .ref kp, .int (zI dn), .ref rfa])), (wg, .inl (c_wg, 24, .inl f_wg)), (pf, .inl (c_pf, 4, .inl u_f_pf_4))]) [1, 0, 2] (by decide +kernel) rfl
        exact W.zret (v := (zI 1)) hx hb hr rfl (fun t ht hW => kQS_of (by omega) ⟨mn, f_wg, u_f_pf_4, q4, h_6, (by omega), by rw [ht]; exact hP9, hD9⟩ (hS.F ht)) hS.2.2 dX9_does_84
      · have c_3 : ¬ (0 ≤ k ∧ k < fn) := b01f c_3
        refine lv_iconst (v := zI 0) hx hb dX9_does_75 rfl ?_
        have hP9 := hP.sub (ws' := [(h0, .inr (9, [.int (zI fa), .int (zI tc), .ref so, .ref sl, .ref ce, .int (zI fn), .ref kd, .ref wd, .ref hs, .ref pf, .ref lt, .int (zI mn), .ref wg, .int (zI ta), .long ck, .int (zI at9), .int (zI rfn), .ref rk, .ref rw, .ref rh, .int (zI cl), .ref sa, .ref fi, .int (zI bo), .ref ch, .ref cn, .int (zI ad), .int (zI ru), .ref kp, .int (zI dn), .ref rfa])), (wg, .inl (c_wg, 24, .inl f_wg)), (pf, .inl (c_pf, 4, .inl f_pf))]) [0, 1, 2] rfl
        have hD9 := hD.sub (ws' := [(h0, .inr (9, [.int (zI fa), .int (zI tc), .ref so, .ref sl, .ref ce, .int (zI fn), .ref kd, .ref wd, .ref hs, .ref pf, .ref lt, .int (zI mn), .ref wg, .int (zI ta), .long ck, .int (zI at9), .int (zI rfn), .ref rk, .ref rw, .ref rh, .int (zI cl), .ref sa, .ref fi, .int (zI bo), .ref ch, .ref cn, .int (zI ad), .int (zI ru), .ref kp, .int (zI dn), .ref rfa])), (wg, .inl (c_wg, 24, .inl f_wg)), (pf, .inl (c_pf, 4, .inl f_pf))]) [0, 1, 2] (by decide +kernel) rfl
        exact W.zret (v := (zI 0)) hx hb hr rfl (fun t ht hW => kQS_of (by omega) ⟨mn, f_wg, f_pf, q4, q6, (by omega), by rw [ht]; exact hP9, hD9⟩ (hS.F ht)) hS.2.2 dX9_does_76
    · refine lv_iload_n hx hb dX9_does_45 rfl (lv_at hl 1 rfl) ?_
      refine lv_aload_n hx hb dX9_does_46 rfl (lv_at hl 0 rfl) ?_
      refine va_get (D := D) (ci := 9) (v := .int (zI mn)) (C := RX9) (T := TX9) (N := 31) hx hb hts (fun _ h9 => List.mem_cons_of_mem _ (List.mem_append_right _ h9)) hown hK hP 0 rfl rfl 11 (by decide) (hts (.fieldLink RX9 101 "FontRunsModel" "many" "I") mw_X9_does_0) (fun _ h9 => h9) rfl dX9_does_47 ?_
      refine kz_icmp_le (tgt := 55) hx hb dX9_does_50 (by decide) (by omega) (by omega) (fun c_8 => ?_) (fun c_8 => ?_)
      · refine lv_aload_n hx hb dX9_does_55 rfl (lv_at hl 0 rfl) ?_
        refine lv_dup hx hb dX9_does_56 rfl ?_
        refine va_get (D := D) (ci := 9) (v := .int (zI mn)) (C := RX9) (T := TX9) (N := 31) hx hb hts (fun _ h9 => List.mem_cons_of_mem _ (List.mem_append_right _ h9)) hown hK hP 0 rfl rfl 11 (by decide) (hts (.fieldLink RX9 101 "FontRunsModel" "many" "I") mw_X9_does_0) (fun _ h9 => h9) rfl dX9_does_57 ?_
        refine lv_iload_n hx hb dX9_does_60 rfl (lv_at hl 1 rfl) ?_
        refine kz_isub hx hb dX9_does_61 ?_
        refine va_put (D := D) (ci := 9) (v := .int (zI (mn - k))) (ty := .int) (C := RX9) (T := TX9) (N := 31) hx hb hts (fun _ h9 => List.mem_cons_of_mem _ (List.mem_append_right _ h9)) tyX9 tyX9_ok nmX9 hown hK hP hD hS 0 rfl rfl 11 (by decide) (hts (.fieldLink RX9 101 "FontRunsModel" "many" "I") mw_X9_does_0) (fun _ h9 => h9) rfl (by decide +kernel) rfl rfl (Nat.le_of_ble_eq_true rfl) dX9_does_62 (fun H locs hP hD hS => ?_)
        have hP : va_P D vwCl [(h0, .inr (9, [.int (zI fa), .int (zI tc), .ref so, .ref sl, .ref ce, .int (zI fn), .ref kd, .ref wd, .ref hs, .ref pf, .ref lt, .int (zI (mn - k)), .ref wg, .int (zI ta), .long ck, .int (zI at9), .int (zI rfn), .ref rk, .ref rw, .ref rh, .int (zI cl), .ref sa, .ref fi, .int (zI bo), .ref ch, .ref cn, .int (zI ad), .int (zI ru), .ref kp, .int (zI dn), .ref rfa])), (wg, .inl (c_wg, 24, .inl f_wg)), (pf, .inl (c_pf, 4, .inl f_pf))] H := hP
        have hD : va_D A [(h0, .inr (9, [.int (zI fa), .int (zI tc), .ref so, .ref sl, .ref ce, .int (zI fn), .ref kd, .ref wd, .ref hs, .ref pf, .ref lt, .int (zI (mn - k)), .ref wg, .int (zI ta), .long ck, .int (zI at9), .int (zI rfn), .ref rk, .ref rw, .ref rh, .int (zI cl), .ref sa, .ref fi, .int (zI bo), .ref ch, .ref cn, .int (zI ad), .int (zI ru), .ref kp, .int (zI dn), .ref rfa])), (wg, .inl (c_wg, 24, .inl f_wg)), (pf, .inl (c_pf, 4, .inl f_pf))] := hD
        refine lv_iconst (v := zI 1) hx hb dX9_does_65 rfl ?_
        have hP9 := hP.sub (ws' := [(h0, .inr (9, [.int (zI fa), .int (zI tc), .ref so, .ref sl, .ref ce, .int (zI fn), .ref kd, .ref wd, .ref hs, .ref pf, .ref lt, .int (zI (mn - k)), .ref wg, .int (zI ta), .long ck, .int (zI at9), .int (zI rfn), .ref rk, .ref rw, .ref rh, .int (zI cl), .ref sa, .ref fi, .int (zI bo), .ref ch, .ref cn, .int (zI ad), .int (zI ru), .ref kp, .int (zI dn), .ref rfa])), (wg, .inl (c_wg, 24, .inl f_wg)), (pf, .inl (c_pf, 4, .inl f_pf))]) [0, 1, 2] rfl
        have hD9 := hD.sub (ws' := [(h0, .inr (9, [.int (zI fa), .int (zI tc), .ref so, .ref sl, .ref ce, .int (zI fn), .ref kd, .ref wd, .ref hs, .ref pf, .ref lt, .int (zI (mn - k)), .ref wg, .int (zI ta), .long ck, .int (zI at9), .int (zI rfn), .ref rk, .ref rw, .ref rh, .int (zI cl), .ref sa, .ref fi, .int (zI bo), .ref ch, .ref cn, .int (zI ad), .int (zI ru), .ref kp, .int (zI dn), .ref rfa])), (wg, .inl (c_wg, 24, .inl f_wg)), (pf, .inl (c_pf, 4, .inl f_pf))]) [0, 1, 2] (by decide +kernel) rfl
        exact W.zret (v := (zI 1)) hx hb hr rfl (fun t ht hW => kQS_of (by omega) ⟨(mn - k), f_wg, f_pf, (by omega), q6, (by omega), by rw [ht]; exact hP9, hD9⟩ (hS.F ht)) hS.2.2 dX9_does_66
      · refine lv_iconst (v := zI 0) hx hb dX9_does_53 rfl ?_
        have hP9 := hP.sub (ws' := [(h0, .inr (9, [.int (zI fa), .int (zI tc), .ref so, .ref sl, .ref ce, .int (zI fn), .ref kd, .ref wd, .ref hs, .ref pf, .ref lt, .int (zI mn), .ref wg, .int (zI ta), .long ck, .int (zI at9), .int (zI rfn), .ref rk, .ref rw, .ref rh, .int (zI cl), .ref sa, .ref fi, .int (zI bo), .ref ch, .ref cn, .int (zI ad), .int (zI ru), .ref kp, .int (zI dn), .ref rfa])), (wg, .inl (c_wg, 24, .inl f_wg)), (pf, .inl (c_pf, 4, .inl f_pf))]) [0, 1, 2] rfl
        have hD9 := hD.sub (ws' := [(h0, .inr (9, [.int (zI fa), .int (zI tc), .ref so, .ref sl, .ref ce, .int (zI fn), .ref kd, .ref wd, .ref hs, .ref pf, .ref lt, .int (zI mn), .ref wg, .int (zI ta), .long ck, .int (zI at9), .int (zI rfn), .ref rk, .ref rw, .ref rh, .int (zI cl), .ref sa, .ref fi, .int (zI bo), .ref ch, .ref cn, .int (zI ad), .int (zI ru), .ref kp, .int (zI dn), .ref rfa])), (wg, .inl (c_wg, 24, .inl f_wg)), (pf, .inl (c_pf, 4, .inl f_pf))]) [0, 1, 2] (by decide +kernel) rfl
        exact W.zret (v := (zI 0)) hx hb hr rfl (fun t ht hW => kQS_of (by omega) ⟨mn, f_wg, f_pf, q4, q6, (by omega), by rw [ht]; exact hP9, hD9⟩ (hS.F ht)) hS.2.2 dX9_does_54
  · refine lv_aload_n hx hb dX9_does_6 rfl (lv_at hl 0 rfl) ?_
    refine va_get (D := D) (ci := 9) (v := .int (zI mn)) (C := RX9) (T := TX9) (N := 31) hx hb hts (fun _ h9 => List.mem_cons_of_mem _ (List.mem_append_right _ h9)) hown hK hP 0 rfl rfl 11 (by decide) (hts (.fieldLink RX9 101 "FontRunsModel" "many" "I") mw_X9_does_0) (fun _ h9 => h9) rfl dX9_does_7 ?_
    refine lv_bipush (v := zI 24) hx hb dX9_does_10 (by decide) ?_
    refine kz_icmp_ne (tgt := 17) hx hb dX9_does_12 (by decide) (by omega) (by omega) (fun c_9 => ?_) (fun c_9 => ?_)
    · refine lv_aload_n hx hb dX9_does_17 rfl (lv_at hl 0 rfl) ?_
      refine va_get (D := D) (ci := 9) (v := .ref wg) (C := RX9) (T := TX9) (N := 31) hx hb hts (fun _ h9 => List.mem_cons_of_mem _ (List.mem_append_right _ h9)) hown hK hP 0 rfl rfl 12 (by decide) (hts (.fieldLink RX9 34 "FontRunsModel" "writing" "[I") mw_X9_does_1) (fun _ h9 => h9) rfl dX9_does_18 ?_
      refine lv_aload_n hx hb dX9_does_21 rfl (lv_at hl 0 rfl) ?_
      refine va_get (D := D) (ci := 9) (v := .int (zI mn)) (C := RX9) (T := TX9) (N := 31) hx hb hts (fun _ h9 => List.mem_cons_of_mem _ (List.mem_append_right _ h9)) hown hK hP 0 rfl rfl 11 (by decide) (hts (.fieldLink RX9 101 "FontRunsModel" "many" "I") mw_X9_does_0) (fun _ h9 => h9) rfl dX9_does_22 ?_
      refine lv_iload_n hx hb dX9_does_25 rfl (lv_at hl 1 rfl) ?_
      refine kz_iast hx hb hK hP hD hS 1 0 rfl rfl (by omega) dX9_does_26 (fun H locs hP hD hS => ?_)
      have hP : va_P D vwCl [(h0, .inr (9, [.int (zI fa), .int (zI tc), .ref so, .ref sl, .ref ce, .int (zI fn), .ref kd, .ref wd, .ref hs, .ref pf, .ref lt, .int (zI mn), .ref wg, .int (zI ta), .long ck, .int (zI at9), .int (zI rfn), .ref rk, .ref rw, .ref rh, .int (zI cl), .ref sa, .ref fi, .int (zI bo), .ref ch, .ref cn, .int (zI ad), .int (zI ru), .ref kp, .int (zI dn), .ref rfa])), (wg, .inl (c_wg, 24, .inl (upd f_wg (mn).toNat (zI k)))), (pf, .inl (c_pf, 4, .inl f_pf))] H := hP
      have hD : va_D A [(h0, .inr (9, [.int (zI fa), .int (zI tc), .ref so, .ref sl, .ref ce, .int (zI fn), .ref kd, .ref wd, .ref hs, .ref pf, .ref lt, .int (zI mn), .ref wg, .int (zI ta), .long ck, .int (zI at9), .int (zI rfn), .ref rk, .ref rw, .ref rh, .int (zI cl), .ref sa, .ref fi, .int (zI bo), .ref ch, .ref cn, .int (zI ad), .int (zI ru), .ref kp, .int (zI dn), .ref rfa])), (wg, .inl (c_wg, 24, .inl (upd f_wg (mn).toNat (zI k)))), (pf, .inl (c_pf, 4, .inl f_pf))] := hD
      generalize ef_10 : upd f_wg (mn).toNat (zI k) = f_10 at hP hD
      refine lv_aload_n hx hb dX9_does_27 rfl (lv_at hl 0 rfl) ?_
      refine lv_dup hx hb dX9_does_28 rfl ?_
      refine va_get (D := D) (ci := 9) (v := .int (zI mn)) (C := RX9) (T := TX9) (N := 31) hx hb hts (fun _ h9 => List.mem_cons_of_mem _ (List.mem_append_right _ h9)) hown hK hP 0 rfl rfl 11 (by decide) (hts (.fieldLink RX9 101 "FontRunsModel" "many" "I") mw_X9_does_0) (fun _ h9 => h9) rfl dX9_does_29 ?_
      refine lv_iconst (v := zI 1) hx hb dX9_does_32 rfl ?_
      refine kz_iadd hx hb dX9_does_33 ?_
      refine va_put (D := D) (ci := 9) (v := .int (zI (mn + 1))) (ty := .int) (C := RX9) (T := TX9) (N := 31) hx hb hts (fun _ h9 => List.mem_cons_of_mem _ (List.mem_append_right _ h9)) tyX9 tyX9_ok nmX9 hown hK hP hD hS 0 rfl rfl 11 (by decide) (hts (.fieldLink RX9 101 "FontRunsModel" "many" "I") mw_X9_does_0) (fun _ h9 => h9) rfl (by decide +kernel) rfl rfl (Nat.le_of_ble_eq_true rfl) dX9_does_34 (fun H locs hP hD hS => ?_)
      have hP : va_P D vwCl [(h0, .inr (9, [.int (zI fa), .int (zI tc), .ref so, .ref sl, .ref ce, .int (zI fn), .ref kd, .ref wd, .ref hs, .ref pf, .ref lt, .int (zI (mn + 1)), .ref wg, .int (zI ta), .long ck, .int (zI at9), .int (zI rfn), .ref rk, .ref rw, .ref rh, .int (zI cl), .ref sa, .ref fi, .int (zI bo), .ref ch, .ref cn, .int (zI ad), .int (zI ru), .ref kp, .int (zI dn), .ref rfa])), (wg, .inl (c_wg, 24, .inl f_10)), (pf, .inl (c_pf, 4, .inl f_pf))] H := hP
      have hD : va_D A [(h0, .inr (9, [.int (zI fa), .int (zI tc), .ref so, .ref sl, .ref ce, .int (zI fn), .ref kd, .ref wd, .ref hs, .ref pf, .ref lt, .int (zI (mn + 1)), .ref wg, .int (zI ta), .long ck, .int (zI at9), .int (zI rfn), .ref rk, .ref rw, .ref rh, .int (zI cl), .ref sa, .ref fi, .int (zI bo), .ref ch, .ref cn, .int (zI ad), .int (zI ru), .ref kp, .int (zI dn), .ref rfa])), (wg, .inl (c_wg, 24, .inl f_10)), (pf, .inl (c_pf, 4, .inl f_pf))] := hD
      refine lv_iconst (v := zI 1) hx hb dX9_does_37 rfl ?_
      have hP9 := hP.sub (ws' := [(h0, .inr (9, [.int (zI fa), .int (zI tc), .ref so, .ref sl, .ref ce, .int (zI fn), .ref kd, .ref wd, .ref hs, .ref pf, .ref lt, .int (zI (mn + 1)), .ref wg, .int (zI ta), .long ck, .int (zI at9), .int (zI rfn), .ref rk, .ref rw, .ref rh, .int (zI cl), .ref sa, .ref fi, .int (zI bo), .ref ch, .ref cn, .int (zI ad), .int (zI ru), .ref kp, .int (zI dn), .ref rfa])), (wg, .inl (c_wg, 24, .inl f_10)), (pf, .inl (c_pf, 4, .inl f_pf))]) [0, 1, 2] rfl
      have hD9 := hD.sub (ws' := [(h0, .inr (9, [.int (zI fa), .int (zI tc), .ref so, .ref sl, .ref ce, .int (zI fn), .ref kd, .ref wd, .ref hs, .ref pf, .ref lt, .int (zI (mn + 1)), .ref wg, .int (zI ta), .long ck, .int (zI at9), .int (zI rfn), .ref rk, .ref rw, .ref rh, .int (zI cl), .ref sa, .ref fi, .int (zI bo), .ref ch, .ref cn, .int (zI ad), .int (zI ru), .ref kp, .int (zI dn), .ref rfa])), (wg, .inl (c_wg, 24, .inl f_10)), (pf, .inl (c_pf, 4, .inl f_pf))]) [0, 1, 2] (by decide +kernel) rfl
      exact W.zret (v := (zI 1)) hx hb hr rfl (fun t ht hW => kQS_of (by omega) ⟨(mn + 1), f_10, f_pf, (by omega), q6, (by omega), by rw [ht]; exact hP9, hD9⟩ (hS.F ht)) hS.2.2 dX9_does_38
    · refine lv_iconst (v := zI 0) hx hb dX9_does_15 rfl ?_
      have hP9 := hP.sub (ws' := [(h0, .inr (9, [.int (zI fa), .int (zI tc), .ref so, .ref sl, .ref ce, .int (zI fn), .ref kd, .ref wd, .ref hs, .ref pf, .ref lt, .int (zI mn), .ref wg, .int (zI ta), .long ck, .int (zI at9), .int (zI rfn), .ref rk, .ref rw, .ref rh, .int (zI cl), .ref sa, .ref fi, .int (zI bo), .ref ch, .ref cn, .int (zI ad), .int (zI ru), .ref kp, .int (zI dn), .ref rfa])), (wg, .inl (c_wg, 24, .inl f_wg)), (pf, .inl (c_pf, 4, .inl f_pf))]) [0, 1, 2] rfl
      have hD9 := hD.sub (ws' := [(h0, .inr (9, [.int (zI fa), .int (zI tc), .ref so, .ref sl, .ref ce, .int (zI fn), .ref kd, .ref wd, .ref hs, .ref pf, .ref lt, .int (zI mn), .ref wg, .int (zI ta), .long ck, .int (zI at9), .int (zI rfn), .ref rk, .ref rw, .ref rh, .int (zI cl), .ref sa, .ref fi, .int (zI bo), .ref ch, .ref cn, .int (zI ad), .int (zI ru), .ref kp, .int (zI dn), .ref rfa])), (wg, .inl (c_wg, 24, .inl f_wg)), (pf, .inl (c_pf, 4, .inl f_pf))]) [0, 1, 2] (by decide +kernel) rfl
      exact W.zret (v := (zI 0)) hx hb hr rfl (fun t ht hW => kQS_of (by omega) ⟨mn, f_wg, f_pf, q4, q6, (by omega), by rw [ht]; exact hP9, hD9⟩ (hS.F ht)) hS.2.2 dX9_does_16
theorem dX9_goDay_0 : decode cX9_goDay 0 = .ok (.iconst 0, 1) := kqo_03 kbl_X9_goDay (pc := 0) rfl
theorem dX9_goDay_1 : decode cX9_goDay 1 = .ok (.istore_n 3, 1) := kqo_3e kbl_X9_goDay (pc := 1) rfl
theorem dX9_goDay_2 : decode cX9_goDay 2 = .ok (.iload_n 3, 1) := kqo_1d kbl_X9_goDay (pc := 2) rfl
theorem dX9_goDay_3 : decode cX9_goDay 3 = .ok (.iload_n 2, 1) := kqo_1c kbl_X9_goDay (pc := 3) rfl
theorem dX9_goDay_4 : decode cX9_goDay 4 = .ok (.if_icmp .ge 40, 3) := kqo_a2 (x1 := 0) (x2 := 40) kbl_X9_goDay (pc := 4) rfl rfl
theorem dX9_goDay_7 : decode cX9_goDay 7 = .ok (.aload_n 0, 1) := kqo_2a kbl_X9_goDay (pc := 7) rfl
theorem dX9_goDay_8 : decode cX9_goDay 8 = .ok (.aload_n 0, 1) := kqo_2a kbl_X9_goDay (pc := 8) rfl
theorem dX9_goDay_9 : decode cX9_goDay 9 = .ok (.getfield 16, 3) := kqo_b4 (x1 := 0) (x2 := 16) kbl_X9_goDay (pc := 9) rfl rfl
theorem dX9_goDay_12 : decode cX9_goDay 12 = .ok (.iload_n 1, 1) := kqo_1b kbl_X9_goDay (pc := 12) rfl
theorem dX9_goDay_13 : decode cX9_goDay 13 = .ok (.iconst 2, 1) := kqo_05 kbl_X9_goDay (pc := 13) rfl
theorem dX9_goDay_14 : decode cX9_goDay 14 = .ok (.iload_n 3, 1) := kqo_1d kbl_X9_goDay (pc := 14) rfl
theorem dX9_goDay_15 : decode cX9_goDay 15 = .ok (.imul, 1) := kqo_68 kbl_X9_goDay (pc := 15) rfl
theorem dX9_goDay_16 : decode cX9_goDay 16 = .ok (.iadd, 1) := kqo_60 kbl_X9_goDay (pc := 16) rfl
theorem dX9_goDay_17 : decode cX9_goDay 17 = .ok (.iaload, 1) := kqo_2e kbl_X9_goDay (pc := 17) rfl
theorem dX9_goDay_18 : decode cX9_goDay 18 = .ok (.aload_n 0, 1) := kqo_2a kbl_X9_goDay (pc := 18) rfl
theorem dX9_goDay_19 : decode cX9_goDay 19 = .ok (.getfield 16, 3) := kqo_b4 (x1 := 0) (x2 := 16) kbl_X9_goDay (pc := 19) rfl rfl
theorem dX9_goDay_22 : decode cX9_goDay 22 = .ok (.iload_n 1, 1) := kqo_1b kbl_X9_goDay (pc := 22) rfl
theorem dX9_goDay_23 : decode cX9_goDay 23 = .ok (.iconst 2, 1) := kqo_05 kbl_X9_goDay (pc := 23) rfl
theorem dX9_goDay_24 : decode cX9_goDay 24 = .ok (.iload_n 3, 1) := kqo_1d kbl_X9_goDay (pc := 24) rfl
theorem dX9_goDay_25 : decode cX9_goDay 25 = .ok (.imul, 1) := kqo_68 kbl_X9_goDay (pc := 25) rfl
theorem dX9_goDay_26 : decode cX9_goDay 26 = .ok (.iadd, 1) := kqo_60 kbl_X9_goDay (pc := 26) rfl
theorem dX9_goDay_27 : decode cX9_goDay 27 = .ok (.iconst 1, 1) := kqo_04 kbl_X9_goDay (pc := 27) rfl
theorem dX9_goDay_28 : decode cX9_goDay 28 = .ok (.iadd, 1) := kqo_60 kbl_X9_goDay (pc := 28) rfl
theorem dX9_goDay_29 : decode cX9_goDay 29 = .ok (.iaload, 1) := kqo_2e kbl_X9_goDay (pc := 29) rfl
theorem dX9_goDay_30 : decode cX9_goDay 30 = .ok (.invokevirtual 177, 3) := kqo_b6 (x1 := 0) (x2 := 177) kbl_X9_goDay (pc := 30) rfl rfl
theorem dX9_goDay_33 : decode cX9_goDay 33 = .ok (.ifCond .ne 5, 3) := kqo_9a (x1 := 0) (x2 := 5) kbl_X9_goDay (pc := 33) rfl rfl
theorem dX9_goDay_36 : decode cX9_goDay 36 = .ok (.iload_n 3, 1) := kqo_1d kbl_X9_goDay (pc := 36) rfl
theorem dX9_goDay_37 : decode cX9_goDay 37 = .ok (.ireturn, 1) := kqo_ac kbl_X9_goDay (pc := 37) rfl
theorem dX9_goDay_38 : decode cX9_goDay 38 = .ok (.iinc 3 1, 3) := kqo_84 (x1 := 3) (x2 := 1) kbl_X9_goDay (pc := 38) rfl rfl
theorem dX9_goDay_41 : decode cX9_goDay 41 = .ok (.goto (-39), 3) := kqo_a7 (x1 := 255) (x2 := 217) kbl_X9_goDay (pc := 41) rfl rfl
theorem dX9_goDay_44 : decode cX9_goDay 44 = .ok (.bipush (-9), 2) := kqo_10 (x1 := 247) kbl_X9_goDay (pc := 44) rfl rfl
theorem dX9_goDay_46 : decode cX9_goDay 46 = .ok (.ireturn, 1) := kqo_ac kbl_X9_goDay (pc := 46) rfl
set_option maxRecDepth 20000 in
theorem ggX9_goDay_X9_does : GoodIn wsX9_goDay wsX9_does := goodIn_4 _ (List.forall_mem_cons.mpr ⟨List.mem_cons_of_mem _ (List.mem_append_left _ (List.mem_of_getElem? (i := 5) rfl)), List.forall_mem_append.mpr ⟨List.forall_mem_cons.mpr ⟨List.mem_cons_of_mem _ (List.mem_append_left _ (List.mem_of_getElem? (i := 6) rfl)), List.forall_mem_cons.mpr ⟨List.mem_cons_of_mem _ (List.mem_append_left _ (List.mem_of_getElem? (i := 7) rfl)), List.forall_mem_cons.mpr ⟨List.mem_cons_of_mem _ (List.mem_append_left _ (List.mem_of_getElem? (i := 8) rfl)), List.forall_mem_cons.mpr ⟨List.mem_cons_of_mem _ (List.mem_append_left _ (List.mem_of_getElem? (i := 9) rfl)), List.forall_mem_cons.mpr ⟨List.mem_cons_of_mem _ (List.mem_append_left _ (List.mem_of_getElem? (i := 10) rfl)), List.forall_mem_cons.mpr ⟨List.mem_cons_of_mem _ (List.mem_append_left _ (List.mem_of_getElem? (i := 4) rfl)), List.forall_mem_cons.mpr ⟨List.mem_cons_of_mem _ (List.mem_append_left _ (List.mem_of_getElem? (i := 11) rfl)), List.forall_mem_cons.mpr ⟨List.mem_cons_of_mem _ (List.mem_append_left _ (List.mem_of_getElem? (i := 12) rfl)), List.forall_mem_cons.mpr ⟨List.mem_cons_of_mem _ (List.mem_append_left _ (List.mem_of_getElem? (i := 13) rfl)), List.forall_mem_cons.mpr ⟨List.mem_cons_of_mem _ (List.mem_append_left _ (List.mem_of_getElem? (i := 14) rfl)), List.forall_mem_cons.mpr ⟨List.mem_cons_of_mem _ (List.mem_append_left _ (List.mem_of_getElem? (i := 15) rfl)), List.forall_mem_cons.mpr ⟨List.mem_cons_of_mem _ (List.mem_append_left _ (List.mem_of_getElem? (i := 16) rfl)), List.forall_mem_cons.mpr ⟨List.mem_cons_of_mem _ (List.mem_append_left _ (List.mem_of_getElem? (i := 17) rfl)), List.forall_mem_cons.mpr ⟨List.mem_cons_of_mem _ (List.mem_append_left _ (List.mem_of_getElem? (i := 18) rfl)), List.forall_mem_cons.mpr ⟨List.mem_cons_of_mem _ (List.mem_append_left _ (List.mem_of_getElem? (i := 19) rfl)), List.forall_mem_cons.mpr ⟨List.mem_cons_of_mem _ (List.mem_append_left _ (List.mem_of_getElem? (i := 20) rfl)), List.forall_mem_cons.mpr ⟨List.mem_cons_of_mem _ (List.mem_append_left _ (List.mem_of_getElem? (i := 21) rfl)), fun _ h9 => absurd h9 List.not_mem_nil⟩⟩⟩⟩⟩⟩⟩⟩⟩⟩⟩⟩⟩⟩⟩⟩⟩, fun w h9 => List.mem_cons_of_mem _ (List.mem_append_right _ (h9))⟩⟩) (by decide +kernel)
set_option maxRecDepth 20000 in
theorem gX9_goDay_X9_does : GoodIn wsX9_goDay (wsV RX9 177 RX9 yX9_does wsX9_does) := goodIn_app (goodIn_4 _ (List.forall_mem_cons.mpr ⟨List.mem_cons_of_mem _ (List.mem_append_left _ (List.mem_of_getElem? (i := 1) rfl)), List.forall_mem_cons.mpr ⟨List.mem_cons_of_mem _ (List.mem_append_left _ (List.mem_of_getElem? (i := 2) rfl)), List.forall_mem_cons.mpr ⟨List.mem_cons_of_mem _ (List.mem_append_left _ (List.mem_of_getElem? (i := 3) rfl)), List.forall_mem_cons.mpr ⟨List.mem_cons_of_mem _ (List.mem_append_left _ (List.mem_of_getElem? (i := 4) rfl)), fun _ h9 => absurd h9 List.not_mem_nil⟩⟩⟩⟩) (by decide +kernel)) ggX9_goDay_X9_does
set_option maxRecDepth 20000 in
theorem mw_X9_goDay_0 : (.fieldLink RX9 16 "FontRunsModel" "cells" "[I" : Cond) ∈ wsX9_goDay := List.mem_cons_of_mem _ (List.mem_append_left _ (List.mem_of_getElem? (i := 0) rfl))
theorem ax_X9_goDay_0 {e0 e1 e2 e3 : Nat × va_E} : ([0, 1, 2, 3] : List Nat).map (fun i => ([e0, e1, e2, e3] : va_W)[i]?) = ([e0, e1, e2, e3] : va_W).map some := rfl
theorem ax_X9_goDay_1 {e0 e1 e2 e3 : Nat × va_E} : ([0, 2, 3] : List Nat).map (fun i => ([e0, e1, e2, e3] : va_W)[i]?) = ([e0, e2, e3] : va_W).map some := rfl
theorem ax_X9_goDay_2 {e0 e1 e2 e3 : Nat × va_E} : ([1] : List Nat).map (fun i => ([e0, e1, e2, e3] : va_W)[i]?) = ([e1] : va_W).map some := rfl
theorem ax_X9_goDay_3 {D : va_G} {cl : List vw_C} {H : Heap} {e0 f0 f1 f2 : Nat × va_E} (h : va_P D cl ((([e0] : va_W) ++ ([f0, f1, f2] : va_W))) H) : va_P D cl (([e0, f0, f1, f2] : va_W)) H := h
theorem ax_X9_goDay_4 {A : Nat → Prop} {e0 f0 f1 f2 : Nat × va_E} (h : va_D A ((([e0] : va_W) ++ ([f0, f1, f2] : va_W)))) : va_D A (([e0, f0, f1, f2] : va_W)) := h
theorem ax_X9_goDay_5 {e0 e1 e2 e3 : Nat × va_E} : ([1, 0, 2, 3] : List Nat).map (fun i => ([e0, e1, e2, e3] : va_W)[i]?) = ([e1, e0, e2, e3] : va_W).map some := rfl
set_option maxHeartbeats 4000000 in
set_option maxRecDepth 100000 in
theorem c_X9_goDay (l : Launch) (D : va_G) (sz : Nat) (o : Int) (n : Int) (h0 : Nat) (fa : Int) (tc : Int) (so : Nat) (sl : Nat) (ce : Nat) (fn : Int) (kd : Nat) (wd : Nat) (hs : Nat) (pf : Nat) (lt : Nat) (mn : Int) (wg : Nat) (ta : Int) (ck : Int64) (at9 : Int) (rfn : Int) (rk : Nat) (rw : Nat) (rh : Nat) (cl : Int) (sa : Nat) (fi : Nat) (bo : Int) (ch : Nat) (cn : Nat) (ad : Int) (ru : Int) (kp : Nat) (dn : Int) (rfa : Nat) (c_ce : ClassId) (f_ce : Nat → Int32) (c_wg : ClassId) (f_wg : Nat → Int32) (c_pf : ClassId) (f_pf : Nat → Int32) (q0 : 0 ≤ o ∧ 0 ≤ n ∧ o + 2 * n ≤ 240) (q1 : kPairs f_ce o n) (q2 : 1 ≤ fn) (q3 : 0 ≤ mn ∧ mn ≤ 24) (q4 : 0 ≤ fn ∧ fn ≤ 4) (q5 : kPm f_pf fn) : Met l yX9_goDay wsX9_goDay ({ frames := 3, cells := 0, slots := 0, locals := 67 }) (kPre [.ref h0, .int (zI o), .int (zI n)] D [(h0, .inr (9, [.int (zI fa), .int (zI tc), .ref so, .ref sl, .ref ce, .int (zI fn), .ref kd, .ref wd, .ref hs, .ref pf, .ref lt, .int (zI mn), .ref wg, .int (zI ta), .long ck, .int (zI at9), .int (zI rfn), .ref rk, .ref rw, .ref rh, .int (zI cl), .ref sa, .ref fi, .int (zI bo), .ref ch, .ref cn, .int (zI ad), .int (zI ru), .ref kp, .int (zI dn), .ref rfa])), (ce, .inl (c_ce, 240, .inl f_ce)), (wg, .inl (c_wg, 24, .inl f_wg)), (pf, .inl (c_pf, 4, .inl f_pf))] [(c_ce, .int), (c_wg, .int), (c_pf, .int)] sz) (kQS (fun rz t => ∃ (u_mn : Int) (u_f_wg : Nat → Int32) (u_f_pf : Nat → Int32), (0 ≤ u_mn ∧ u_mn ≤ 24) ∧ (kPm u_f_pf fn) ∧ (rz = -9 ∨ (0 ≤ rz ∧ rz ≤ n)) ∧ va_P D vwCl [(h0, .inr (9, [.int (zI fa), .int (zI tc), .ref so, .ref sl, .ref ce, .int (zI fn), .ref kd, .ref wd, .ref hs, .ref pf, .ref lt, .int (zI u_mn), .ref wg, .int (zI ta), .long ck, .int (zI at9), .int (zI rfn), .ref rk, .ref rw, .ref rh, .int (zI cl), .ref sa, .ref fi, .int (zI bo), .ref ch, .ref cn, .int (zI ad), .int (zI ru), .ref kp, .int (zI dn), .ref rfa])), (ce, .inl (c_ce, 240, .inl f_ce)), (wg, .inl (c_wg, 24, .inl u_f_wg)), (pf, .inl (c_pf, 4, .inl u_f_pf))] t.heap ∧ va_D (va_A [(h0, .inr (9, [.int (zI fa), .int (zI tc), .ref so, .ref sl, .ref ce, .int (zI fn), .ref kd, .ref wd, .ref hs, .ref pf, .ref lt, .int (zI mn), .ref wg, .int (zI ta), .long ck, .int (zI at9), .int (zI rfn), .ref rk, .ref rw, .ref rh, .int (zI cl), .ref sa, .ref fi, .int (zI bo), .ref ch, .ref cn, .int (zI ad), .int (zI ru), .ref kp, .int (zI dn), .ref rfa])), (ce, .inl (c_ce, 240, .inl f_ce)), (wg, .inl (c_wg, 24, .inl f_wg)), (pf, .inl (c_pf, 4, .inl f_pf))] sz) [(h0, .inr (9, [.int (zI fa), .int (zI tc), .ref so, .ref sl, .ref ce, .int (zI fn), .ref kd, .ref wd, .ref hs, .ref pf, .ref lt, .int (zI u_mn), .ref wg, .int (zI ta), .long ck, .int (zI at9), .int (zI rfn), .ref rk, .ref rw, .ref rh, .int (zI cl), .ref sa, .ref fi, .int (zI bo), .ref ch, .ref cn, .int (zI ad), .int (zI ru), .ref kp, .int (zI dn), .ref rfa])), (ce, .inl (c_ce, 240, .inl f_ce)), (wg, .inl (c_wg, 24, .inl u_f_wg)), (pf, .inl (c_pf, 4, .inl u_f_pf))]) (va_A [(h0, .inr (9, [.int (zI fa), .int (zI tc), .ref so, .ref sl, .ref ce, .int (zI fn), .ref kd, .ref wd, .ref hs, .ref pf, .ref lt, .int (zI mn), .ref wg, .int (zI ta), .long ck, .int (zI at9), .int (zI rfn), .ref rk, .ref rw, .ref rh, .int (zI cl), .ref sa, .ref fi, .int (zI bo), .ref ch, .ref cn, .int (zI ad), .int (zI ru), .ref kp, .int (zI dn), .ref rfa])), (ce, .inl (c_ce, 240, .inl f_ce)), (wg, .inl (c_wg, 24, .inl f_wg)), (pf, .inl (c_pf, 4, .inl f_pf))] sz)) 0 0 (va_A [(h0, .inr (9, [.int (zI fa), .int (zI tc), .ref so, .ref sl, .ref ce, .int (zI fn), .ref kd, .ref wd, .ref hs, .ref pf, .ref lt, .int (zI mn), .ref wg, .int (zI ta), .long ck, .int (zI at9), .int (zI rfn), .ref rk, .ref rw, .ref rh, .int (zI cl), .ref sa, .ref fi, .int (zI bo), .ref ch, .ref cn, .int (zI ad), .int (zI ru), .ref kp, .int (zI dn), .ref rfa])), (ce, .inl (c_ce, 240, .inl f_ce)), (wg, .inl (c_wg, 24, .inl f_wg)), (pf, .inl (c_pf, 4, .inl f_pf))] sz) := by
  refine Met.ofW (cc := cX9_goDay) (maxL := 4) (ret := (some .int)) (by decide) rfl ?_
  intro p e s m args below meth c s₁ B hml hv
  obtain ⟨rfl, hsz, hP, hK, hD0, hN⟩ := hv
  have hx := B.exec
  have hb := B.bytes
  have hr := B.returns
  have hts := atoms_spec (ws := wsX9_goDay) B.pre
  have hown : s.vm.findClass RX9 = some m.cls := findClass_of_methodNamed B.named
  have hlocks := B.notSynchronized
  subst hsz
  have hD := hD0.self (sz := s.heap.size)
  generalize hAe : va_A [(h0, .inr (9, [.int (zI fa), .int (zI tc), .ref so, .ref sl, .ref ce, .int (zI fn), .ref kd, .ref wd, .ref hs, .ref pf, .ref lt, .int (zI mn), .ref wg, .int (zI ta), .long ck, .int (zI at9), .int (zI rfn), .ref rk, .ref rw, .ref rh, .int (zI cl), .ref sa, .ref fi, .int (zI bo), .ref ch, .ref cn, .int (zI ad), .int (zI ru), .ref kp, .int (zI dn), .ref rfa])), (ce, .inl (c_ce, 240, .inl f_ce)), (wg, .inl (c_wg, 24, .inl f_wg)), (pf, .inl (c_pf, 4, .inl f_pf))] s.heap.size = A at hD ⊢
  have hA : ∀ q : Nat, s.heap.size ≤ q → A q := fun q h => by rw [← hAe]; exact Or.inr h
  have hS : va_S A s.heap s.heap [] := va_S.rf
  have hP : va_P D vwCl [(h0, .inr (9, [.int (zI fa), .int (zI tc), .ref so, .ref sl, .ref ce, .int (zI fn), .ref kd, .ref wd, .ref hs, .ref pf, .ref lt, .int (zI mn), .ref wg, .int (zI ta), .long ck, .int (zI at9), .int (zI rfn), .ref rk, .ref rw, .ref rh, .int (zI cl), .ref sa, .ref fi, .int (zI bo), .ref ch, .ref cn, .int (zI ad), .int (zI ru), .ref kp, .int (zI dn), .ref rfa])), (ce, .inl (c_ce, 240, .inl f_ce)), (wg, .inl (c_wg, 24, .inl f_wg)), (pf, .inl (c_pf, 4, .inl f_pf))] s.heap := hP
  have hl := lv_entry ([.ref h0, .int (zI o), .int (zI n)]) (n := 4) (Nat.le_of_ble_eq_true rfl)
  rw [lg_entry_eq]
  generalize (lg_sl ([.ref h0, .int (zI o), .int (zI n)]) ++ List.replicate (4 - (lg_sl ([.ref h0, .int (zI o), .int (zI n)])).length) Slot.unset).toArray = ls at hl ⊢
  have hl : lv_has ls 4 [(0, .ref h0), (1, .int (zI o)), (2, .int (zI n))] := hl
  refine lv_iconst (v := zI 0) hx hb dX9_goDay_0 rfl ?_
  refine lv_istore_n (lv' := [(3, .int (zI 0)), (0, .ref h0), (1, .int (zI o)), (2, .int (zI n))]) hx hb dX9_goDay_1 rfl hl (by decide) rfl (fun ls hl => ?_)
  refine k_loopM (I := fun n9 H locs ls => ∃ (jk : Int) (jm : Int) (ja : Nat → Int32) (jp : Nat → Int32), n9 = (n - jk).toNat ∧ (0 ≤ jk ∧ jk ≤ n) ∧ (0 ≤ jm ∧ jm ≤ 24) ∧ (kPm jp fn) ∧ va_P D vwCl [(h0, .inr (9, [.int (zI fa), .int (zI tc), .ref so, .ref sl, .ref ce, .int (zI fn), .ref kd, .ref wd, .ref hs, .ref pf, .ref lt, .int (zI jm), .ref wg, .int (zI ta), .long ck, .int (zI at9), .int (zI rfn), .ref rk, .ref rw, .ref rh, .int (zI cl), .ref sa, .ref fi, .int (zI bo), .ref ch, .ref cn, .int (zI ad), .int (zI ru), .ref kp, .int (zI dn), .ref rfa])), (ce, .inl (c_ce, 240, .inl f_ce)), (wg, .inl (c_wg, 24, .inl ja)), (pf, .inl (c_pf, 4, .inl jp))] H ∧ va_D A [(h0, .inr (9, [.int (zI fa), .int (zI tc), .ref so, .ref sl, .ref ce, .int (zI fn), .ref kd, .ref wd, .ref hs, .ref pf, .ref lt, .int (zI jm), .ref wg, .int (zI ta), .long ck, .int (zI at9), .int (zI rfn), .ref rk, .ref rw, .ref rh, .int (zI cl), .ref sa, .ref fi, .int (zI bo), .ref ch, .ref cn, .int (zI ad), .int (zI ru), .ref kp, .int (zI dn), .ref rfa])), (ce, .inl (c_ce, 240, .inl f_ce)), (wg, .inl (c_wg, 24, .inl ja)), (pf, .inl (c_pf, 4, .inl jp))] ∧ va_S A s.heap H locs ∧ lv_has ls 4 [(3, .int (zI jk)), (0, .ref h0), (1, .int (zI o)), (2, .int (zI n))]) ?_ _ ⟨0, mn, f_wg, f_pf, rfl, (by omega), q3, q5, hP, hD, hS, hl⟩
  intro n2 ih2 H locs ls hI
  obtain ⟨jk, jm, ja, jp, en2, v_20, v_21, v_22, hP, hD, hS, hl⟩ := hI
  refine lv_iload_n hx hb dX9_goDay_2 rfl (lv_at hl 0 rfl) ?_
  refine lv_iload_n hx hb dX9_goDay_3 rfl (lv_at hl 3 rfl) ?_
  refine kz_icmp_ge (tgt := 44) hx hb dX9_goDay_4 (by decide) (by omega) (by omega) (fun c_1 => ?_) (fun c_1 => ?_)
  · refine lv_bipush (v := zI (-9)) hx hb dX9_goDay_44 (by decide) ?_
    have hP9 := hP.sub (ws' := [(h0, .inr (9, [.int (zI fa), .int (zI tc), .ref so, .ref sl, .ref ce, .int (zI fn), .ref kd, .ref wd, .ref hs, .ref pf, .ref lt, .int (zI jm), .ref wg, .int (zI ta), .long ck, .int (zI at9), .int (zI rfn), .ref rk, .ref rw, .ref rh, .int (zI cl), .ref sa, .ref fi, .int (zI bo), .ref ch, .ref cn, .int (zI ad), .int (zI ru), .ref kp, .int (zI dn), .ref rfa])), (ce, .inl (c_ce, 240, .inl f_ce)), (wg, .inl (c_wg, 24, .inl ja)), (pf, .inl (c_pf, 4, .inl jp))]) [0, 1, 2, 3] rfl
    have hD9 := hD.sub (ws' := [(h0, .inr (9, [.int (zI fa), .int (zI tc), .ref so, .ref sl, .ref ce, .int (zI fn), .ref kd, .ref wd, .ref hs, .ref pf, .ref lt, .int (zI jm), .ref wg, .int (zI ta), .long ck, .int (zI at9), .int (zI rfn), .ref rk, .ref rw, .ref rh, .int (zI cl), .ref sa, .ref fi, .int (zI bo), .ref ch, .ref cn, .int (zI ad), .int (zI ru), .ref kp, .int (zI dn), .ref rfa])), (ce, .inl (c_ce, 240, .inl f_ce)), (wg, .inl (c_wg, 24, .inl ja)), (pf, .inl (c_pf, 4, .inl jp))]) [0, 1, 2, 3] (by decide +kernel) rfl
    exact W.iret (v := (zI (-9))) hx hb hr (fun t ht hW => kQS_of (by omega) ⟨jm, ja, jp, v_21, v_22, (by omega), by rw [ht]; exact hP9, hD9⟩ (hS.F ht)) hS.2.2 dX9_goDay_46
  · refine lv_aload_n hx hb dX9_goDay_7 rfl (lv_at hl 1 rfl) ?_
    refine lv_aload_n hx hb dX9_goDay_8 rfl (lv_at hl 1 rfl) ?_
    refine va_get (D := D) (ci := 9) (v := .ref ce) (C := RX9) (T := TX9) (N := 31) hx hb hts (fun _ h9 => List.mem_cons_of_mem _ (List.mem_append_right _ h9)) hown hK hP 0 rfl rfl 4 (by decide) (hts (.fieldLink RX9 16 "FontRunsModel" "cells" "[I") mw_X9_goDay_0) (fun _ h9 => h9) rfl dX9_goDay_9 ?_
    refine lv_iload_n hx hb dX9_goDay_12 rfl (lv_at hl 2 rfl) ?_
    refine lv_iconst (v := zI 2) hx hb dX9_goDay_13 rfl ?_
    refine lv_iload_n hx hb dX9_goDay_14 rfl (lv_at hl 0 rfl) ?_
    refine kz_imul hx hb dX9_goDay_15 ?_
    refine kz_iadd hx hb dX9_goDay_16 ?_
    refine kz_iald hx hb hK hP 1 0 rfl rfl (by omega) dX9_goDay_17 (fun z_2 rz_2 ez_2 => ?_)
    refine lv_aload_n hx hb dX9_goDay_18 rfl (lv_at hl 1 rfl) ?_
    refine va_get (D := D) (ci := 9) (v := .ref ce) (C := RX9) (T := TX9) (N := 31) hx hb hts (fun _ h9 => List.mem_cons_of_mem _ (List.mem_append_right _ h9)) hown hK hP 0 rfl rfl 4 (by decide) (hts (.fieldLink RX9 16 "FontRunsModel" "cells" "[I") mw_X9_goDay_0) (fun _ h9 => h9) rfl dX9_goDay_19 ?_
    refine lv_iload_n hx hb dX9_goDay_22 rfl (lv_at hl 2 rfl) ?_
    refine lv_iconst (v := zI 2) hx hb dX9_goDay_23 rfl ?_
    refine lv_iload_n hx hb dX9_goDay_24 rfl (lv_at hl 0 rfl) ?_
    refine kz_imul hx hb dX9_goDay_25 ?_
    refine kz_iadd hx hb dX9_goDay_26 ?_
    refine lv_iconst (v := zI 1) hx hb dX9_goDay_27 rfl ?_
    refine kz_iadd hx hb dX9_goDay_28 ?_
    refine kz_iald hx hb hK hP 1 0 rfl rfl (by omega) dX9_goDay_29 (fun z_3 rz_3 ez_3 => ?_)
    have hFc := va_free (wc := [(h0, .inr (9, [.int (zI fa), .int (zI tc), .ref so, .ref sl, .ref ce, .int (zI fn), .ref kd, .ref wd, .ref hs, .ref pf, .ref lt, .int (zI jm), .ref wg, .int (zI ta), .long ck, .int (zI at9), .int (zI rfn), .ref rk, .ref rw, .ref rh, .int (zI cl), .ref sa, .ref fi, .int (zI bo), .ref ch, .ref cn, .int (zI ad), .int (zI ru), .ref kp, .int (zI dn), .ref rfa])), (wg, .inl (c_wg, 24, .inl ja)), (pf, .inl (c_pf, 4, .inl jp))]) hD hS hA [0, 2, 3] ax_X9_goDay_1
    refine va_calli (va_runV (As := [.int (zI z_2), .int (zI z_3)]) (rest := []) ⟨hx, hb, hml, hown, hts⟩ (c_X9_does l D H.size (k := z_2) (a := z_3) (h0 := h0) (fa := fa) (tc := tc) (so := so) (sl := sl) (ce := ce) (fn := fn) (kd := kd) (wd := wd) (hs := hs) (pf := pf) (lt := lt) (mn := jm) (wg := wg) (ta := ta) (ck := ck) (at9 := at9) (rfn := rfn) (rk := rk) (rw := rw) (rh := rh) (cl := cl) (sa := sa) (fi := fi) (bo := bo) (ch := ch) (cn := cn) (ad := ad) (ru := ru) (kp := kp) (dn := dn) (rfa := rfa) (c_wg := c_wg) (f_wg := ja) (c_pf := c_pf) (f_pf := jp) (kPairs_at q1 (by omega) (by omega) rz_2 rz_3 ez_2 ez_3) (by omega) (by omega) q2 v_21 q4 v_22) (cwV 2 hts gX9_goDay_X9_does rfl rfl rfl (by decide +kernel) ⟨Nat.le_of_ble_eq_true rfl, Nat.le_of_ble_eq_true rfl⟩) (kPreV hP (kD0 hD) hK hN [0, 2, 3] [1, 2] ax_X9_goDay_1 rfl (by decide +kernel) 0 9 rfl rfl) rfl rfl hl.1 rfl (lv_room (Nat.le_of_ble_eq_true rfl)) dX9_goDay_30 ⟨Nat.le_of_ble_eq_true rfl, Nat.le_of_ble_eq_true rfl⟩) hS (fun q _ h => hFc q h) hFc (fun r u t H1 locs ht hvm hw hB hz1 hk1 hS => ?_)
    obtain ⟨z_7, e9⟩ : ∃ z, z = u := ⟨_, rfl⟩
    subst e9
    obtain ⟨rfl, rz_7⟩ := hw
    refine Exists.elim hB (fun u_mn_4 hB1 => Exists.elim hB1 (fun u_f_wg_5 hB2 => Exists.elim hB2 (fun u_f_pf_6 hB3 => ?_)))
    have h_8 := hB3.1
    have h_9 := hB3.2.1
    have h_10 := hB3.2.2.1
    have hP1 := hB3.2.2.2.1
    have hD1 := hB3.2.2.2.2
    clear hB hB1 hB2 hB3
    rw [ht] at hP1
    obtain ⟨hP, hD⟩ := va_join (wr := [(ce, .inl (c_ce, 240, .inl f_ce))]) (w1 := [(h0, .inr (9, [.int (zI fa), .int (zI tc), .ref so, .ref sl, .ref ce, .int (zI fn), .ref kd, .ref wd, .ref hs, .ref pf, .ref lt, .int (zI u_mn_4), .ref wg, .int (zI ta), .long ck, .int (zI at9), .int (zI rfn), .ref rk, .ref rw, .ref rh, .int (zI cl), .ref sa, .ref fi, .int (zI bo), .ref ch, .ref cn, .int (zI ad), .int (zI ru), .ref kp, .int (zI dn), .ref rfa])), (wg, .inl (c_wg, 24, .inl u_f_wg_5)), (pf, .inl (c_pf, 4, .inl u_f_pf_6))]) hP hD [0, 2, 3] [1] ax_X9_goDay_1 ax_X9_goDay_2 (by decide +kernel) (by decide +kernel) hk1 hFc hP1 hD1
    have hP := ax_X9_goDay_3 hP
    have hD := ax_X9_goDay_4 hD
    generalize H1 = H at hP hS ⊢
    have hP : va_P D vwCl [(ce, .inl (c_ce, 240, .inl f_ce)), (h0, .inr (9, [.int (zI fa), .int (zI tc), .ref so, .ref sl, .ref ce, .int (zI fn), .ref kd, .ref wd, .ref hs, .ref pf, .ref lt, .int (zI u_mn_4), .ref wg, .int (zI ta), .long ck, .int (zI at9), .int (zI rfn), .ref rk, .ref rw, .ref rh, .int (zI cl), .ref sa, .ref fi, .int (zI bo), .ref ch, .ref cn, .int (zI ad), .int (zI ru), .ref kp, .int (zI dn), .ref rfa])), (wg, .inl (c_wg, 24, .inl u_f_wg_5)), (pf, .inl (c_pf, 4, .inl u_f_pf_6))] H := hP
    have hD : va_D A [(ce, .inl (c_ce, 240, .inl f_ce)), (h0, .inr (9, [.int (zI fa), .int (zI tc), .ref so, .ref sl, .ref ce, .int (zI fn), .ref kd, .ref wd, .ref hs, .ref pf, .ref lt, .int (zI u_mn_4), .ref wg, .int (zI ta), .long ck, .int (zI at9), .int (zI rfn), .ref rk, .ref rw, .ref rh, .int (zI cl), .ref sa, .ref fi, .int (zI bo), .ref ch, .ref cn, .int (zI ad), .int (zI ru), .ref kp, .int (zI dn), .ref rfa])), (wg, .inl (c_wg, 24, .inl u_f_wg_5)), (pf, .inl (c_pf, 4, .inl u_f_pf_6))] := hD
    refine kz_if_ne (tgt := 38) hx hb dX9_goDay_33 (by decide) (by omega) (fun c_11 => ?_) (fun c_11 => ?_)
    · refine lv_iinc (v := (zI (jk + 1))) (lv' := [(3, .int (zI (jk + 1))), (0, .ref h0), (1, .int (zI o)), (2, .int (zI n))]) hx hb dX9_goDay_38 hl (k := 0) rfl (kz_inc _ 1) (by decide) rfl (fun ls hl => ?_)
      refine lv_goto (tgt := 2) hx hb dX9_goDay_41 (by decide) ?_
      exact ih2 _ (by omega) _ _ _ ⟨(jk + 1), u_mn_4, u_f_wg_5, u_f_pf_6, rfl, (by omega), h_8, h_9, (hP.sub [1, 0, 2, 3] rfl), (hD.sub [1, 0, 2, 3] (by decide) rfl), hS, lv_sub hl [0, 1, 2, 3] rfl⟩
    · refine lv_iload_n hx hb dX9_goDay_36 rfl (lv_at hl 0 rfl) ?_
      have hP9 := hP.sub (ws' := [(h0, .inr (9, [.int (zI fa), .int (zI tc), .ref so, .ref sl, .ref ce, .int (zI fn), .ref kd, .ref wd, .ref hs, .ref pf, .ref lt, .int (zI u_mn_4), .ref wg, .int (zI ta), .long ck, .int (zI at9), .int (zI rfn), .ref rk, .ref rw, .ref rh, .int (zI cl), .ref sa, .ref fi, .int (zI bo), .ref ch, .ref cn, .int (zI ad), .int (zI ru), .ref kp, .int (zI dn), .ref rfa])), (ce, .inl (c_ce, 240, .inl f_ce)), (wg, .inl (c_wg, 24, .inl u_f_wg_5)), (pf, .inl (c_pf, 4, .inl u_f_pf_6))]) [1, 0, 2, 3] rfl
      have hD9 := hD.sub (ws' := [(h0, .inr (9, [.int (zI fa), .int (zI tc), .ref so, .ref sl, .ref ce, .int (zI fn), .ref kd, .ref wd, .ref hs, .ref pf, .ref lt, .int (zI u_mn_4), .ref wg, .int (zI ta), .long ck, .int (zI at9), .int (zI rfn), .ref rk, .ref rw, .ref rh, .int (zI cl), .ref sa, .ref fi, .int (zI bo), .ref ch, .ref cn, .int (zI ad), .int (zI ru), .ref kp, .int (zI dn), .ref rfa])), (ce, .inl (c_ce, 240, .inl f_ce)), (wg, .inl (c_wg, 24, .inl u_f_wg_5)), (pf, .inl (c_pf, 4, .inl u_f_pf_6))]) [1, 0, 2, 3] (by decide +kernel) rfl
      exact W.iret (v := (zI jk)) hx hb hr (fun t ht hW => kQS_of (by omega) ⟨u_mn_4, u_f_wg_5, u_f_pf_6, h_8, h_9, (by omega), by rw [ht]; exact hP9, hD9⟩ (hS.F ht)) hS.2.2 dX9_goDay_37


theorem dX9_tellDay_0 : decode cX9_tellDay 0 = .ok (.iload_n 1, 1) := kqo_1b kbl_X9_tellDay (pc := 0) rfl
theorem dX9_tellDay_1 : decode cX9_tellDay 1 = .ok (.bipush 10, 2) := kqo_10 (x1 := 10) kbl_X9_tellDay (pc := 1) rfl rfl
theorem dX9_tellDay_3 : decode cX9_tellDay 3 = .ok (.if_icmp .lt 28, 3) := kqo_a1 (x1 := 0) (x2 := 28) kbl_X9_tellDay (pc := 3) rfl rfl
theorem dX9_tellDay_6 : decode cX9_tellDay 6 = .ok (.aload_n 0, 1) := kqo_2a kbl_X9_tellDay (pc := 6) rfl
theorem dX9_tellDay_7 : decode cX9_tellDay 7 = .ok (.iload_n 1, 1) := kqo_1b kbl_X9_tellDay (pc := 7) rfl
theorem dX9_tellDay_8 : decode cX9_tellDay 8 = .ok (.bipush 10, 2) := kqo_10 (x1 := 10) kbl_X9_tellDay (pc := 8) rfl rfl
theorem dX9_tellDay_10 : decode cX9_tellDay 10 = .ok (.isub, 1) := kqo_64 kbl_X9_tellDay (pc := 10) rfl
theorem dX9_tellDay_11 : decode cX9_tellDay 11 = .ok (.invokevirtual 120, 3) := kqo_b6 (x1 := 0) (x2 := 120) kbl_X9_tellDay (pc := 11) rfl rfl
theorem dX9_tellDay_14 : decode cX9_tellDay 14 = .ok (.ifCond .eq 14, 3) := kqo_99 (x1 := 0) (x2 := 14) kbl_X9_tellDay (pc := 14) rfl rfl
theorem dX9_tellDay_17 : decode cX9_tellDay 17 = .ok (.aload_n 0, 1) := kqo_2a kbl_X9_tellDay (pc := 17) rfl
theorem dX9_tellDay_18 : decode cX9_tellDay 18 = .ok (.iload_n 1, 1) := kqo_1b kbl_X9_tellDay (pc := 18) rfl
theorem dX9_tellDay_19 : decode cX9_tellDay 19 = .ok (.bipush 10, 2) := kqo_10 (x1 := 10) kbl_X9_tellDay (pc := 19) rfl rfl
theorem dX9_tellDay_21 : decode cX9_tellDay 21 = .ok (.isub, 1) := kqo_64 kbl_X9_tellDay (pc := 21) rfl
theorem dX9_tellDay_22 : decode cX9_tellDay 22 = .ok (.invokevirtual 126, 3) := kqo_b6 (x1 := 0) (x2 := 126) kbl_X9_tellDay (pc := 22) rfl rfl
theorem dX9_tellDay_25 : decode cX9_tellDay 25 = .ok (.goto 5, 3) := kqo_a7 (x1 := 0) (x2 := 5) kbl_X9_tellDay (pc := 25) rfl rfl
theorem dX9_tellDay_28 : decode cX9_tellDay 28 = .ok (.bipush (-9), 2) := kqo_10 (x1 := 247) kbl_X9_tellDay (pc := 28) rfl rfl
theorem dX9_tellDay_30 : decode cX9_tellDay 30 = .ok (.ireturn, 1) := kqo_ac kbl_X9_tellDay (pc := 30) rfl
theorem dX9_tellDay_31 : decode cX9_tellDay 31 = .ok (.aload_n 0, 1) := kqo_2a kbl_X9_tellDay (pc := 31) rfl
theorem dX9_tellDay_32 : decode cX9_tellDay 32 = .ok (.invokevirtual 167, 3) := kqo_b6 (x1 := 0) (x2 := 167) kbl_X9_tellDay (pc := 32) rfl rfl
theorem dX9_tellDay_35 : decode cX9_tellDay 35 = .ok (.istore_n 2, 1) := kqo_3d kbl_X9_tellDay (pc := 35) rfl
theorem dX9_tellDay_36 : decode cX9_tellDay 36 = .ok (.iload_n 1, 1) := kqo_1b kbl_X9_tellDay (pc := 36) rfl
theorem dX9_tellDay_37 : decode cX9_tellDay 37 = .ok (.ifCond .ne 7, 3) := kqo_9a (x1 := 0) (x2 := 7) kbl_X9_tellDay (pc := 37) rfl rfl
theorem dX9_tellDay_40 : decode cX9_tellDay 40 = .ok (.iload_n 2, 1) := kqo_1c kbl_X9_tellDay (pc := 40) rfl
theorem dX9_tellDay_41 : decode cX9_tellDay 41 = .ok (.goto 31, 3) := kqo_a7 (x1 := 0) (x2 := 31) kbl_X9_tellDay (pc := 41) rfl rfl
theorem dX9_tellDay_44 : decode cX9_tellDay 44 = .ok (.iload_n 1, 1) := kqo_1b kbl_X9_tellDay (pc := 44) rfl
theorem dX9_tellDay_45 : decode cX9_tellDay 45 = .ok (.iconst 2, 1) := kqo_05 kbl_X9_tellDay (pc := 45) rfl
theorem dX9_tellDay_46 : decode cX9_tellDay 46 = .ok (.if_icmp .ne 10, 3) := kqo_a0 (x1 := 0) (x2 := 10) kbl_X9_tellDay (pc := 46) rfl rfl
theorem dX9_tellDay_49 : decode cX9_tellDay 49 = .ok (.aload_n 0, 1) := kqo_2a kbl_X9_tellDay (pc := 49) rfl
theorem dX9_tellDay_50 : decode cX9_tellDay 50 = .ok (.getfield 138, 3) := kqo_b4 (x1 := 0) (x2 := 138) kbl_X9_tellDay (pc := 50) rfl rfl
theorem dX9_tellDay_53 : decode cX9_tellDay 53 = .ok (.goto 19, 3) := kqo_a7 (x1 := 0) (x2 := 19) kbl_X9_tellDay (pc := 53) rfl rfl
theorem dX9_tellDay_56 : decode cX9_tellDay 56 = .ok (.iload_n 1, 1) := kqo_1b kbl_X9_tellDay (pc := 56) rfl
theorem dX9_tellDay_57 : decode cX9_tellDay 57 = .ok (.iconst 3, 1) := kqo_06 kbl_X9_tellDay (pc := 57) rfl
theorem dX9_tellDay_58 : decode cX9_tellDay 58 = .ok (.if_icmp .ne 10, 3) := kqo_a0 (x1 := 0) (x2 := 10) kbl_X9_tellDay (pc := 58) rfl rfl
theorem dX9_tellDay_61 : decode cX9_tellDay 61 = .ok (.aload_n 0, 1) := kqo_2a kbl_X9_tellDay (pc := 61) rfl
theorem dX9_tellDay_62 : decode cX9_tellDay 62 = .ok (.getfield 141, 3) := kqo_b4 (x1 := 0) (x2 := 141) kbl_X9_tellDay (pc := 62) rfl rfl
theorem dX9_tellDay_65 : decode cX9_tellDay 65 = .ok (.goto 7, 3) := kqo_a7 (x1 := 0) (x2 := 7) kbl_X9_tellDay (pc := 65) rfl rfl
theorem dX9_tellDay_68 : decode cX9_tellDay 68 = .ok (.aload_n 0, 1) := kqo_2a kbl_X9_tellDay (pc := 68) rfl
theorem dX9_tellDay_69 : decode cX9_tellDay 69 = .ok (.getfield 158, 3) := kqo_b4 (x1 := 0) (x2 := 158) kbl_X9_tellDay (pc := 69) rfl rfl
theorem dX9_tellDay_72 : decode cX9_tellDay 72 = .ok (.ireturn, 1) := kqo_ac kbl_X9_tellDay (pc := 72) rfl
set_option maxRecDepth 20000 in
theorem ggX9_tellDay_X9_findBest : GoodIn wsX9_tellDay wsX9_findBest := goodIn_4 _ (List.forall_mem_cons.mpr ⟨List.mem_cons_of_mem _ (List.mem_append_left _ (List.mem_append_left _ (List.mem_of_getElem? (i := 17) rfl))), List.forall_mem_append.mpr ⟨List.forall_mem_append.mpr ⟨List.forall_mem_cons.mpr ⟨List.mem_cons_of_mem _ (List.mem_append_left _ (List.mem_append_left _ (List.mem_of_getElem? (i := 2) rfl))), List.forall_mem_cons.mpr ⟨List.mem_cons_of_mem _ (List.mem_append_left _ (List.mem_append_left _ (List.mem_of_getElem? (i := 18) rfl))), List.forall_mem_cons.mpr ⟨List.mem_cons_of_mem _ (List.mem_append_left _ (List.mem_append_left _ (List.mem_of_getElem? (i := 0) rfl))), List.forall_mem_cons.mpr ⟨List.mem_cons_of_mem _ (List.mem_append_left _ (List.mem_append_left _ (List.mem_of_getElem? (i := 13) rfl))), List.forall_mem_cons.mpr ⟨List.mem_cons_of_mem _ (List.mem_append_left _ (List.mem_append_left _ (List.mem_of_getElem? (i := 19) rfl))), List.forall_mem_cons.mpr ⟨List.mem_cons_of_mem _ (List.mem_append_left _ (List.mem_append_left _ (List.mem_of_getElem? (i := 20) rfl))), List.forall_mem_cons.mpr ⟨List.mem_cons_of_mem _ (List.mem_append_left _ (List.mem_append_left _ (List.mem_of_getElem? (i := 21) rfl))), List.forall_mem_cons.mpr ⟨List.mem_cons_of_mem _ (List.mem_append_left _ (List.mem_append_left _ (List.mem_of_getElem? (i := 22) rfl))), List.forall_mem_cons.mpr ⟨List.mem_cons_of_mem _ (List.mem_append_left _ (List.mem_append_left _ (List.mem_of_getElem? (i := 6) rfl))), List.forall_mem_cons.mpr ⟨List.mem_cons_of_mem _ (List.mem_append_left _ (List.mem_append_left _ (List.mem_of_getElem? (i := 23) rfl))), List.forall_mem_cons.mpr ⟨List.mem_cons_of_mem _ (List.mem_append_left _ (List.mem_append_left _ (List.mem_of_getElem? (i := 8) rfl))), List.forall_mem_cons.mpr ⟨List.mem_cons_of_mem _ (List.mem_append_left _ (List.mem_append_right _ (List.mem_append_left _ (List.mem_of_getElem? (i := 0) rfl)))), List.forall_mem_cons.mpr ⟨List.mem_cons_of_mem _ (List.mem_append_left _ (List.mem_append_right _ (List.mem_append_left _ (List.mem_of_getElem? (i := 1) rfl)))), List.forall_mem_cons.mpr ⟨List.mem_cons_of_mem _ (List.mem_append_left _ (List.mem_append_right _ (List.mem_append_left _ (List.mem_of_getElem? (i := 2) rfl)))), List.forall_mem_cons.mpr ⟨List.mem_cons_of_mem _ (List.mem_append_left _ (List.mem_append_right _ (List.mem_append_left _ (List.mem_of_getElem? (i := 3) rfl)))), List.forall_mem_cons.mpr ⟨List.mem_cons_of_mem _ (List.mem_append_left _ (List.mem_append_right _ (List.mem_append_left _ (List.mem_of_getElem? (i := 4) rfl)))), List.forall_mem_cons.mpr ⟨List.mem_cons_of_mem _ (List.mem_append_left _ (List.mem_append_left _ (List.mem_of_getElem? (i := 1) rfl))), List.forall_mem_cons.mpr ⟨List.mem_cons_of_mem _ (List.mem_append_left _ (List.mem_append_right _ (List.mem_append_left _ (List.mem_of_getElem? (i := 5) rfl)))), List.forall_mem_cons.mpr ⟨List.mem_cons_of_mem _ (List.mem_append_left _ (List.mem_append_right _ (List.mem_append_left _ (List.mem_of_getElem? (i := 6) rfl)))), List.forall_mem_cons.mpr ⟨List.mem_cons_of_mem _ (List.mem_append_left _ (List.mem_append_right _ (List.mem_append_left _ (List.mem_of_getElem? (i := 7) rfl)))), List.forall_mem_cons.mpr ⟨List.mem_cons_of_mem _ (List.mem_append_left _ (List.mem_append_right _ (List.mem_append_left _ (List.mem_of_getElem? (i := 8) rfl)))), List.forall_mem_cons.mpr ⟨List.mem_cons_of_mem _ (List.mem_append_left _ (List.mem_append_right _ (List.mem_append_left _ (List.mem_of_getElem? (i := 9) rfl)))), List.forall_mem_cons.mpr ⟨List.mem_cons_of_mem _ (List.mem_append_left _ (List.mem_append_right _ (List.mem_append_left _ (List.mem_of_getElem? (i := 10) rfl)))), List.forall_mem_cons.mpr ⟨List.mem_cons_of_mem _ (List.mem_append_left _ (List.mem_append_right _ (List.mem_append_left _ (List.mem_of_getElem? (i := 11) rfl)))), fun _ h9 => absurd h9 List.not_mem_nil⟩⟩⟩⟩⟩⟩⟩⟩⟩⟩⟩⟩⟩⟩⟩⟩⟩⟩⟩⟩⟩⟩⟩⟩, List.forall_mem_cons.mpr ⟨List.mem_cons_of_mem _ (List.mem_append_left _ (List.mem_append_right _ (List.mem_append_left _ (List.mem_of_getElem? (i := 12) rfl)))), List.forall_mem_cons.mpr ⟨List.mem_cons_of_mem _ (List.mem_append_left _ (List.mem_append_right _ (List.mem_append_left _ (List.mem_of_getElem? (i := 13) rfl)))), List.forall_mem_cons.mpr ⟨List.mem_cons_of_mem _ (List.mem_append_left _ (List.mem_append_right _ (List.mem_append_left _ (List.mem_of_getElem? (i := 14) rfl)))), List.forall_mem_cons.mpr ⟨List.mem_cons_of_mem _ (List.mem_append_left _ (List.mem_append_right _ (List.mem_append_left _ (List.mem_of_getElem? (i := 15) rfl)))), List.forall_mem_cons.mpr ⟨List.mem_cons_of_mem _ (List.mem_append_left _ (List.mem_append_right _ (List.mem_append_left _ (List.mem_of_getElem? (i := 16) rfl)))), List.forall_mem_cons.mpr ⟨List.mem_cons_of_mem _ (List.mem_append_left _ (List.mem_append_right _ (List.mem_append_left _ (List.mem_of_getElem? (i := 17) rfl)))), List.forall_mem_cons.mpr ⟨List.mem_cons_of_mem _ (List.mem_append_left _ (List.mem_append_right _ (List.mem_append_left _ (List.mem_of_getElem? (i := 18) rfl)))), List.forall_mem_cons.mpr ⟨List.mem_cons_of_mem _ (List.mem_append_left _ (List.mem_append_right _ (List.mem_append_left _ (List.mem_of_getElem? (i := 19) rfl)))), List.forall_mem_cons.mpr ⟨List.mem_cons_of_mem _ (List.mem_append_left _ (List.mem_append_right _ (List.mem_append_left _ (List.mem_of_getElem? (i := 20) rfl)))), List.forall_mem_cons.mpr ⟨List.mem_cons_of_mem _ (List.mem_append_left _ (List.mem_append_right _ (List.mem_append_left _ (List.mem_of_getElem? (i := 21) rfl)))), List.forall_mem_cons.mpr ⟨List.mem_cons_of_mem _ (List.mem_append_left _ (List.mem_append_right _ (List.mem_append_left _ (List.mem_of_getElem? (i := 22) rfl)))), List.forall_mem_cons.mpr ⟨List.mem_cons_of_mem _ (List.mem_append_left _ (List.mem_append_right _ (List.mem_append_left _ (List.mem_of_getElem? (i := 23) rfl)))), List.forall_mem_cons.mpr ⟨List.mem_cons_of_mem _ (List.mem_append_left _ (List.mem_append_right _ (List.mem_append_right _ (List.mem_of_getElem? (i := 0) rfl)))), List.forall_mem_cons.mpr ⟨List.mem_cons_of_mem _ (List.mem_append_left _ (List.mem_append_right _ (List.mem_append_right _ (List.mem_of_getElem? (i := 1) rfl)))), List.forall_mem_cons.mpr ⟨List.mem_cons_of_mem _ (List.mem_append_left _ (List.mem_append_right _ (List.mem_append_right _ (List.mem_of_getElem? (i := 2) rfl)))), List.forall_mem_cons.mpr ⟨List.mem_cons_of_mem _ (List.mem_append_left _ (List.mem_append_right _ (List.mem_append_right _ (List.mem_of_getElem? (i := 3) rfl)))), List.forall_mem_cons.mpr ⟨List.mem_cons_of_mem _ (List.mem_append_left _ (List.mem_append_right _ (List.mem_append_right _ (List.mem_of_getElem? (i := 4) rfl)))), List.forall_mem_cons.mpr ⟨List.mem_cons_of_mem _ (List.mem_append_left _ (List.mem_append_right _ (List.mem_append_right _ (List.mem_of_getElem? (i := 5) rfl)))), List.forall_mem_cons.mpr ⟨List.mem_cons_of_mem _ (List.mem_append_left _ (List.mem_append_right _ (List.mem_append_right _ (List.mem_of_getElem? (i := 6) rfl)))), fun _ h9 => absurd h9 List.not_mem_nil⟩⟩⟩⟩⟩⟩⟩⟩⟩⟩⟩⟩⟩⟩⟩⟩⟩⟩⟩⟩, fun w h9 => List.mem_cons_of_mem _ (List.mem_append_right _ (h9))⟩⟩) (by decide +kernel)
set_option maxRecDepth 20000 in
theorem gX9_tellDay_X9_findBest : GoodIn wsX9_tellDay (wsV RX9 167 RX9 yX9_findBest wsX9_findBest) := goodIn_app (goodIn_4 _ (List.forall_mem_cons.mpr ⟨List.mem_cons_of_mem _ (List.mem_append_left _ (List.mem_append_left _ (List.mem_of_getElem? (i := 14) rfl))), List.forall_mem_cons.mpr ⟨List.mem_cons_of_mem _ (List.mem_append_left _ (List.mem_append_left _ (List.mem_of_getElem? (i := 15) rfl))), List.forall_mem_cons.mpr ⟨List.mem_cons_of_mem _ (List.mem_append_left _ (List.mem_append_left _ (List.mem_of_getElem? (i := 16) rfl))), List.forall_mem_cons.mpr ⟨List.mem_cons_of_mem _ (List.mem_append_left _ (List.mem_append_left _ (List.mem_of_getElem? (i := 6) rfl))), fun _ h9 => absurd h9 List.not_mem_nil⟩⟩⟩⟩) (by decide +kernel)) ggX9_tellDay_X9_findBest
set_option maxRecDepth 20000 in
theorem ggX9_tellDay_X9_isFont : GoodIn wsX9_tellDay wsX9_isFont := goodIn_4 _ (List.forall_mem_cons.mpr ⟨List.mem_cons_of_mem _ (List.mem_append_left _ (List.mem_append_left _ (List.mem_of_getElem? (i := 7) rfl))), List.forall_mem_append.mpr ⟨List.forall_mem_cons.mpr ⟨List.mem_cons_of_mem _ (List.mem_append_left _ (List.mem_append_left _ (List.mem_of_getElem? (i := 8) rfl))), fun _ h9 => absurd h9 List.not_mem_nil⟩, fun w h9 => List.mem_cons_of_mem _ (List.mem_append_right _ (h9))⟩⟩) (by decide +kernel)
set_option maxRecDepth 20000 in
theorem gX9_tellDay_X9_isFont : GoodIn wsX9_tellDay (wsV RX9 120 RX9 yX9_isFont wsX9_isFont) := goodIn_app (goodIn_4 _ (List.forall_mem_cons.mpr ⟨List.mem_cons_of_mem _ (List.mem_append_left _ (List.mem_append_left _ (List.mem_of_getElem? (i := 3) rfl))), List.forall_mem_cons.mpr ⟨List.mem_cons_of_mem _ (List.mem_append_left _ (List.mem_append_left _ (List.mem_of_getElem? (i := 4) rfl))), List.forall_mem_cons.mpr ⟨List.mem_cons_of_mem _ (List.mem_append_left _ (List.mem_append_left _ (List.mem_of_getElem? (i := 5) rfl))), List.forall_mem_cons.mpr ⟨List.mem_cons_of_mem _ (List.mem_append_left _ (List.mem_append_left _ (List.mem_of_getElem? (i := 6) rfl))), fun _ h9 => absurd h9 List.not_mem_nil⟩⟩⟩⟩) (by decide +kernel)) ggX9_tellDay_X9_isFont
set_option maxRecDepth 20000 in
theorem ggX9_tellDay_X9_placeOf : GoodIn wsX9_tellDay wsX9_placeOf := goodIn_4 _ (List.forall_mem_cons.mpr ⟨List.mem_cons_of_mem _ (List.mem_append_left _ (List.mem_append_left _ (List.mem_of_getElem? (i := 12) rfl))), List.forall_mem_append.mpr ⟨List.forall_mem_cons.mpr ⟨List.mem_cons_of_mem _ (List.mem_append_left _ (List.mem_append_left _ (List.mem_of_getElem? (i := 13) rfl))), fun _ h9 => absurd h9 List.not_mem_nil⟩, fun w h9 => List.mem_cons_of_mem _ (List.mem_append_right _ (h9))⟩⟩) (by decide +kernel)
set_option maxRecDepth 20000 in
theorem gX9_tellDay_X9_placeOf : GoodIn wsX9_tellDay (wsV RX9 126 RX9 yX9_placeOf wsX9_placeOf) := goodIn_app (goodIn_4 _ (List.forall_mem_cons.mpr ⟨List.mem_cons_of_mem _ (List.mem_append_left _ (List.mem_append_left _ (List.mem_of_getElem? (i := 9) rfl))), List.forall_mem_cons.mpr ⟨List.mem_cons_of_mem _ (List.mem_append_left _ (List.mem_append_left _ (List.mem_of_getElem? (i := 10) rfl))), List.forall_mem_cons.mpr ⟨List.mem_cons_of_mem _ (List.mem_append_left _ (List.mem_append_left _ (List.mem_of_getElem? (i := 11) rfl))), List.forall_mem_cons.mpr ⟨List.mem_cons_of_mem _ (List.mem_append_left _ (List.mem_append_left _ (List.mem_of_getElem? (i := 6) rfl))), fun _ h9 => absurd h9 List.not_mem_nil⟩⟩⟩⟩) (by decide +kernel)) ggX9_tellDay_X9_placeOf
set_option maxRecDepth 20000 in
theorem mw_X9_tellDay_0 : (.fieldLink RX9 158 "FontRunsModel" "advance" "I" : Cond) ∈ wsX9_tellDay := List.mem_cons_of_mem _ (List.mem_append_left _ (List.mem_append_left _ (List.mem_of_getElem? (i := 2) rfl)))
set_option maxRecDepth 20000 in
theorem mw_X9_tellDay_1 : (.fieldLink RX9 141 "FontRunsModel" "boxes" "I" : Cond) ∈ wsX9_tellDay := List.mem_cons_of_mem _ (List.mem_append_left _ (List.mem_append_left _ (List.mem_of_getElem? (i := 1) rfl)))
set_option maxRecDepth 20000 in
theorem mw_X9_tellDay_2 : (.fieldLink RX9 138 "FontRunsModel" "clusters" "I" : Cond) ∈ wsX9_tellDay := List.mem_cons_of_mem _ (List.mem_append_left _ (List.mem_append_left _ (List.mem_of_getElem? (i := 0) rfl)))
theorem ax_X9_tellDay_0 {e0 e1 e2 e3 e4 e5 e6 e7 e8 e9 : Nat × va_E} : ([0, 1, 2, 3, 4, 5, 6, 7, 8, 9] : List Nat).map (fun i => ([e0, e1, e2, e3, e4, e5, e6, e7, e8, e9] : va_W)[i]?) = ([e0, e1, e2, e3, e4, e5, e6, e7, e8, e9] : va_W).map some := rfl
theorem ax_X9_tellDay_1 {e0 e1 e2 e3 e4 e5 e6 e7 e8 e9 : Nat × va_E} : ([] : List Nat).map (fun i => ([e0, e1, e2, e3, e4, e5, e6, e7, e8, e9] : va_W)[i]?) = ([] : va_W).map some := rfl
theorem ax_X9_tellDay_2 {D : va_G} {cl : List vw_C} {H : Heap} {f0 f1 f2 f3 f4 f5 f6 f7 f8 f9 : Nat × va_E} (h : va_P D cl ((([] : va_W) ++ ([f0, f1, f2, f3, f4, f5, f6, f7, f8, f9] : va_W))) H) : va_P D cl (([f0, f1, f2, f3, f4, f5, f6, f7, f8, f9] : va_W)) H := h
theorem ax_X9_tellDay_3 {A : Nat → Prop} {f0 f1 f2 f3 f4 f5 f6 f7 f8 f9 : Nat × va_E} (h : va_D A ((([] : va_W) ++ ([f0, f1, f2, f3, f4, f5, f6, f7, f8, f9] : va_W)))) : va_D A (([f0, f1, f2, f3, f4, f5, f6, f7, f8, f9] : va_W)) := h
theorem ax_X9_tellDay_4 {e0 e1 e2 e3 e4 e5 e6 e7 e8 e9 : Nat × va_E} : ([0] : List Nat).map (fun i => ([e0, e1, e2, e3, e4, e5, e6, e7, e8, e9] : va_W)[i]?) = ([e0] : va_W).map some := rfl
theorem ax_X9_tellDay_5 {e0 e1 e2 e3 e4 e5 e6 e7 e8 e9 : Nat × va_E} : ([0, 7] : List Nat).map (fun i => ([e0, e1, e2, e3, e4, e5, e6, e7, e8, e9] : va_W)[i]?) = ([e0, e7] : va_W).map some := rfl
set_option maxHeartbeats 4000000 in
set_option maxRecDepth 100000 in
theorem c_X9_tellDay (l : Launch) (D : va_G) (sz : Nat) (w : Int) (h0 : Nat) (fa : Int) (tc : Int) (so : Nat) (sl : Nat) (ce : Nat) (fn : Int) (kd : Nat) (wd : Nat) (hs : Nat) (pf : Nat) (lt : Nat) (mn : Int) (wg : Nat) (ta : Int) (ck : Int64) (at9 : Int) (rfn : Int) (rk : Nat) (rw : Nat) (rh : Nat) (cl : Int) (sa : Nat) (fi : Nat) (bo : Int) (ch : Nat) (cn : Nat) (ad : Int) (ru : Int) (kp : Nat) (dn : Int) (rfa : Nat) (c_wg : ClassId) (f_wg : Nat → Int32) (c_sa : ClassId) (f_sa : Nat → Int32) (c_fi : ClassId) (f_fi : Nat → Int32) (c_hs : ClassId) (f_hs : Nat → Int32) (c_ch : ClassId) (f_ch : Nat → Int32) (c_cn : ClassId) (f_cn : Nat → Int32) (c_pf : ClassId) (f_pf : Nat → Int32) (c_kd : ClassId) (f_kd : Nat → Int32) (c_wd : ClassId) (f_wd : Nat → Int32) (q0 : (0 ≤ w ∧ w ≤ 4) ∨ (10 ≤ w ∧ w ≤ 13)) (q1 : 0 ≤ mn ∧ mn ≤ 24) (q2 : 0 ≤ fn ∧ fn ≤ 4) (q3 : kPm f_pf fn) (q4 : ¬ (fn = 0 ∧ 1 ≤ mn)) (q5 : rg ad) (q6 : 0 ≤ ru ∧ ru ≤ 24) (q7 : 0 ≤ cl ∧ cl ≤ 24) (q8 : 0 ≤ bo ∧ bo ≤ 24) : Met l yX9_tellDay wsX9_tellDay ({ frames := 5, cells := 0, slots := 0, locals := 118 }) (kPre [.ref h0, .int (zI w)] D [(h0, .inr (9, [.int (zI fa), .int (zI tc), .ref so, .ref sl, .ref ce, .int (zI fn), .ref kd, .ref wd, .ref hs, .ref pf, .ref lt, .int (zI mn), .ref wg, .int (zI ta), .long ck, .int (zI at9), .int (zI rfn), .ref rk, .ref rw, .ref rh, .int (zI cl), .ref sa, .ref fi, .int (zI bo), .ref ch, .ref cn, .int (zI ad), .int (zI ru), .ref kp, .int (zI dn), .ref rfa])), (wg, .inl (c_wg, 24, .inl f_wg)), (sa, .inl (c_sa, 25, .inl f_sa)), (fi, .inl (c_fi, 24, .inl f_fi)), (hs, .inl (c_hs, 4, .inl f_hs)), (ch, .inl (c_ch, 96, .inl f_ch)), (cn, .inl (c_cn, 24, .inl f_cn)), (pf, .inl (c_pf, 4, .inl f_pf)), (kd, .inl (c_kd, 4, .inl f_kd)), (wd, .inl (c_wd, 4, .inl f_wd))] [(c_wg, .int), (c_sa, .int), (c_fi, .int), (c_hs, .int), (c_ch, .int), (c_cn, .int), (c_pf, .int), (c_kd, .int), (c_wd, .int)] sz) (kQS (fun rz t => ∃ (u_cl : Int) (u_bo : Int) (u_ad : Int) (u_ru : Int) (u_f_sa : Nat → Int32) (u_f_fi : Nat → Int32) (u_f_ch : Nat → Int32) (u_f_cn : Nat → Int32), (rg u_ad) ∧ (0 ≤ u_ru ∧ u_ru ≤ 24) ∧ (0 ≤ u_cl ∧ u_cl ≤ 24) ∧ (0 ≤ u_bo ∧ u_bo ≤ 24) ∧ va_P D vwCl [(h0, .inr (9, [.int (zI fa), .int (zI tc), .ref so, .ref sl, .ref ce, .int (zI fn), .ref kd, .ref wd, .ref hs, .ref pf, .ref lt, .int (zI mn), .ref wg, .int (zI ta), .long ck, .int (zI at9), .int (zI rfn), .ref rk, .ref rw, .ref rh, .int (zI u_cl), .ref sa, .ref fi, .int (zI u_bo), .ref ch, .ref cn, .int (zI u_ad), .int (zI u_ru), .ref kp, .int (zI dn), .ref rfa])), (wg, .inl (c_wg, 24, .inl f_wg)), (sa, .inl (c_sa, 25, .inl u_f_sa)), (fi, .inl (c_fi, 24, .inl u_f_fi)), (hs, .inl (c_hs, 4, .inl f_hs)), (ch, .inl (c_ch, 96, .inl u_f_ch)), (cn, .inl (c_cn, 24, .inl u_f_cn)), (pf, .inl (c_pf, 4, .inl f_pf)), (kd, .inl (c_kd, 4, .inl f_kd)), (wd, .inl (c_wd, 4, .inl f_wd))] t.heap ∧ va_D (va_A [(h0, .inr (9, [.int (zI fa), .int (zI tc), .ref so, .ref sl, .ref ce, .int (zI fn), .ref kd, .ref wd, .ref hs, .ref pf, .ref lt, .int (zI mn), .ref wg, .int (zI ta), .long ck, .int (zI at9), .int (zI rfn), .ref rk, .ref rw, .ref rh, .int (zI cl), .ref sa, .ref fi, .int (zI bo), .ref ch, .ref cn, .int (zI ad), .int (zI ru), .ref kp, .int (zI dn), .ref rfa])), (wg, .inl (c_wg, 24, .inl f_wg)), (sa, .inl (c_sa, 25, .inl f_sa)), (fi, .inl (c_fi, 24, .inl f_fi)), (hs, .inl (c_hs, 4, .inl f_hs)), (ch, .inl (c_ch, 96, .inl f_ch)), (cn, .inl (c_cn, 24, .inl f_cn)), (pf, .inl (c_pf, 4, .inl f_pf)), (kd, .inl (c_kd, 4, .inl f_kd)), (wd, .inl (c_wd, 4, .inl f_wd))] sz) [(h0, .inr (9, [.int (zI fa), .int (zI tc), .ref so, .ref sl, .ref ce, .int (zI fn), .ref kd, .ref wd, .ref hs, .ref pf, .ref lt, .int (zI mn), .ref wg, .int (zI ta), .long ck, .int (zI at9), .int (zI rfn), .ref rk, .ref rw, .ref rh, .int (zI u_cl), .ref sa, .ref fi, .int (zI u_bo), .ref ch, .ref cn, .int (zI u_ad), .int (zI u_ru), .ref kp, .int (zI dn), .ref rfa])), (wg, .inl (c_wg, 24, .inl f_wg)), (sa, .inl (c_sa, 25, .inl u_f_sa)), (fi, .inl (c_fi, 24, .inl u_f_fi)), (hs, .inl (c_hs, 4, .inl f_hs)), (ch, .inl (c_ch, 96, .inl u_f_ch)), (cn, .inl (c_cn, 24, .inl u_f_cn)), (pf, .inl (c_pf, 4, .inl f_pf)), (kd, .inl (c_kd, 4, .inl f_kd)), (wd, .inl (c_wd, 4, .inl f_wd))]) (va_A [(h0, .inr (9, [.int (zI fa), .int (zI tc), .ref so, .ref sl, .ref ce, .int (zI fn), .ref kd, .ref wd, .ref hs, .ref pf, .ref lt, .int (zI mn), .ref wg, .int (zI ta), .long ck, .int (zI at9), .int (zI rfn), .ref rk, .ref rw, .ref rh, .int (zI cl), .ref sa, .ref fi, .int (zI bo), .ref ch, .ref cn, .int (zI ad), .int (zI ru), .ref kp, .int (zI dn), .ref rfa])), (wg, .inl (c_wg, 24, .inl f_wg)), (sa, .inl (c_sa, 25, .inl f_sa)), (fi, .inl (c_fi, 24, .inl f_fi)), (hs, .inl (c_hs, 4, .inl f_hs)), (ch, .inl (c_ch, 96, .inl f_ch)), (cn, .inl (c_cn, 24, .inl f_cn)), (pf, .inl (c_pf, 4, .inl f_pf)), (kd, .inl (c_kd, 4, .inl f_kd)), (wd, .inl (c_wd, 4, .inl f_wd))] sz)) 0 0 (va_A [(h0, .inr (9, [.int (zI fa), .int (zI tc), .ref so, .ref sl, .ref ce, .int (zI fn), .ref kd, .ref wd, .ref hs, .ref pf, .ref lt, .int (zI mn), .ref wg, .int (zI ta), .long ck, .int (zI at9), .int (zI rfn), .ref rk, .ref rw, .ref rh, .int (zI cl), .ref sa, .ref fi, .int (zI bo), .ref ch, .ref cn, .int (zI ad), .int (zI ru), .ref kp, .int (zI dn), .ref rfa])), (wg, .inl (c_wg, 24, .inl f_wg)), (sa, .inl (c_sa, 25, .inl f_sa)), (fi, .inl (c_fi, 24, .inl f_fi)), (hs, .inl (c_hs, 4, .inl f_hs)), (ch, .inl (c_ch, 96, .inl f_ch)), (cn, .inl (c_cn, 24, .inl f_cn)), (pf, .inl (c_pf, 4, .inl f_pf)), (kd, .inl (c_kd, 4, .inl f_kd)), (wd, .inl (c_wd, 4, .inl f_wd))] sz) := by
  refine Met.ofW (cc := cX9_tellDay) (maxL := 3) (ret := (some .int)) (by decide) rfl ?_
  intro p e s m args below meth c s₁ B hml hv
  obtain ⟨rfl, hsz, hP, hK, hD0, hN⟩ := hv
  have hx := B.exec
  have hb := B.bytes
  have hr := B.returns
  have hts := atoms_spec (ws := wsX9_tellDay) B.pre
  have hown : s.vm.findClass RX9 = some m.cls := findClass_of_methodNamed B.named
  have hlocks := B.notSynchronized
  subst hsz
  have hD := hD0.self (sz := s.heap.size)
  generalize hAe : va_A [(h0, .inr (9, [.int (zI fa), .int (zI tc), .ref so, .ref sl, .ref ce, .int (zI fn), .ref kd, .ref wd, .ref hs, .ref pf, .ref lt, .int (zI mn), .ref wg, .int (zI ta), .long ck, .int (zI at9), .int (zI rfn), .ref rk, .ref rw, .ref rh, .int (zI cl), .ref sa, .ref fi, .int (zI bo), .ref ch, .ref cn, .int (zI ad), .int (zI ru), .ref kp, .int (zI dn), .ref rfa])), (wg, .inl (c_wg, 24, .inl f_wg)), (sa, .inl (c_sa, 25, .inl f_sa)), (fi, .inl (c_fi, 24, .inl f_fi)), (hs, .inl (c_hs, 4, .inl f_hs)), (ch, .inl (c_ch, 96, .inl f_ch)), (cn, .inl (c_cn, 24, .inl f_cn)), (pf, .inl (c_pf, 4, .inl f_pf)), (kd, .inl (c_kd, 4, .inl f_kd)), (wd, .inl (c_wd, 4, .inl f_wd))] s.heap.size = A at hD ⊢
  have hA : ∀ q : Nat, s.heap.size ≤ q → A q := fun q h => by rw [← hAe]; exact Or.inr h
  have hS : va_S A s.heap s.heap [] := va_S.rf
  have hP : va_P D vwCl [(h0, .inr (9, [.int (zI fa), .int (zI tc), .ref so, .ref sl, .ref ce, .int (zI fn), .ref kd, .ref wd, .ref hs, .ref pf, .ref lt, .int (zI mn), .ref wg, .int (zI ta), .long ck, .int (zI at9), .int (zI rfn), .ref rk, .ref rw, .ref rh, .int (zI cl), .ref sa, .ref fi, .int (zI bo), .ref ch, .ref cn, .int (zI ad), .int (zI ru), .ref kp, .int (zI dn), .ref rfa])), (wg, .inl (c_wg, 24, .inl f_wg)), (sa, .inl (c_sa, 25, .inl f_sa)), (fi, .inl (c_fi, 24, .inl f_fi)), (hs, .inl (c_hs, 4, .inl f_hs)), (ch, .inl (c_ch, 96, .inl f_ch)), (cn, .inl (c_cn, 24, .inl f_cn)), (pf, .inl (c_pf, 4, .inl f_pf)), (kd, .inl (c_kd, 4, .inl f_kd)), (wd, .inl (c_wd, 4, .inl f_wd))] s.heap := hP
  have hl := lv_entry ([.ref h0, .int (zI w)]) (n := 3) (Nat.le_of_ble_eq_true rfl)
  rw [lg_entry_eq]
  generalize (lg_sl ([.ref h0, .int (zI w)]) ++ List.replicate (3 - (lg_sl ([.ref h0, .int (zI w)])).length) Slot.unset).toArray = ls at hl ⊢
  have hl : lv_has ls 3 [(0, .ref h0), (1, .int (zI w))] := hl
  refine lv_iload_n hx hb dX9_tellDay_0 rfl (lv_at hl 1 rfl) ?_
  refine lv_bipush (v := zI 10) hx hb dX9_tellDay_1 (by decide) ?_
  refine kz_icmp_lt (tgt := 31) hx hb dX9_tellDay_3 (by decide) (by omega) (by omega) (fun c_1 => ?_) (fun c_1 => ?_)
  · refine lv_aload_n hx hb dX9_tellDay_31 rfl (lv_at hl 0 rfl) ?_
    have hFc := va_free (wc := [(h0, .inr (9, [.int (zI fa), .int (zI tc), .ref so, .ref sl, .ref ce, .int (zI fn), .ref kd, .ref wd, .ref hs, .ref pf, .ref lt, .int (zI mn), .ref wg, .int (zI ta), .long ck, .int (zI at9), .int (zI rfn), .ref rk, .ref rw, .ref rh, .int (zI cl), .ref sa, .ref fi, .int (zI bo), .ref ch, .ref cn, .int (zI ad), .int (zI ru), .ref kp, .int (zI dn), .ref rfa])), (wg, .inl (c_wg, 24, .inl f_wg)), (sa, .inl (c_sa, 25, .inl f_sa)), (fi, .inl (c_fi, 24, .inl f_fi)), (hs, .inl (c_hs, 4, .inl f_hs)), (ch, .inl (c_ch, 96, .inl f_ch)), (cn, .inl (c_cn, 24, .inl f_cn)), (pf, .inl (c_pf, 4, .inl f_pf)), (kd, .inl (c_kd, 4, .inl f_kd)), (wd, .inl (c_wd, 4, .inl f_wd))]) hD hS hA [0, 1, 2, 3, 4, 5, 6, 7, 8, 9] ax_X9_tellDay_0
    refine va_calli (va_runV (As := []) (rest := []) ⟨hx, hb, hml, hown, hts⟩ (c_X9_findBest l D s.heap.size (h0 := h0) (fa := fa) (tc := tc) (so := so) (sl := sl) (ce := ce) (fn := fn) (kd := kd) (wd := wd) (hs := hs) (pf := pf) (lt := lt) (mn := mn) (wg := wg) (ta := ta) (ck := ck) (at9 := at9) (rfn := rfn) (rk := rk) (rw := rw) (rh := rh) (cl := cl) (sa := sa) (fi := fi) (bo := bo) (ch := ch) (cn := cn) (ad := ad) (ru := ru) (kp := kp) (dn := dn) (rfa := rfa) (c_wg := c_wg) (f_wg := f_wg) (c_sa := c_sa) (f_sa := f_sa) (c_fi := c_fi) (f_fi := f_fi) (c_hs := c_hs) (f_hs := f_hs) (c_ch := c_ch) (f_ch := f_ch) (c_cn := c_cn) (f_cn := f_cn) (c_pf := c_pf) (f_pf := f_pf) (c_kd := c_kd) (f_kd := f_kd) (c_wd := c_wd) (f_wd := f_wd) q1 q2 q3 q4) (cwV 0 hts gX9_tellDay_X9_findBest rfl rfl rfl (by decide +kernel) ⟨Nat.le_of_ble_eq_true rfl, Nat.le_of_ble_eq_true rfl⟩) (kPreV hP (kD0 hD) hK hN [0, 1, 2, 3, 4, 5, 6, 7, 8, 9] [0, 1, 2, 3, 4, 5, 6, 7, 8] ax_X9_tellDay_0 rfl (by decide +kernel) 0 9 rfl rfl) rfl rfl hl.1 rfl (lv_room (Nat.le_of_ble_eq_true rfl)) dX9_tellDay_32 ⟨Nat.le_of_ble_eq_true rfl, Nat.le_of_ble_eq_true rfl⟩) hS (fun q _ h => hFc q h) hFc (fun r u t H1 locs ht hvm hw hB hz1 hk1 hS => ?_)
    obtain ⟨z_10, e9⟩ : ∃ z, z = u := ⟨_, rfl⟩
    subst e9
    obtain ⟨rfl, rz_10⟩ := hw
    refine Exists.elim hB (fun u_cl_2 hB1 => Exists.elim hB1 (fun u_bo_3 hB2 => Exists.elim hB2 (fun u_ad_4 hB3 => Exists.elim hB3 (fun u_ru_5 hB4 => Exists.elim hB4 (fun u_f_sa_6 hB5 => Exists.elim hB5 (fun u_f_fi_7 hB6 => Exists.elim hB6 (fun u_f_ch_8 hB7 => Exists.elim hB7 (fun u_f_cn_9 hB8 => ?_))))))))
    have h_11 := hB8.1
    have h_12 := hB8.2.1
    have h_13 := hB8.2.2.1
    have h_14 := hB8.2.2.2.1
    have h_15 := hB8.2.2.2.2.1
    have h_16 := hB8.2.2.2.2.2.1
    have h_17 := hB8.2.2.2.2.2.2.1
    have h_18 := hB8.2.2.2.2.2.2.2.1
    have hP1 := hB8.2.2.2.2.2.2.2.2.1
    have hD1 := hB8.2.2.2.2.2.2.2.2.2
    clear hB hB1 hB2 hB3 hB4 hB5 hB6 hB7 hB8
    rw [ht] at hP1
    obtain ⟨hP, hD⟩ := va_join (wr := []) (w1 := [(h0, .inr (9, [.int (zI fa), .int (zI tc), .ref so, .ref sl, .ref ce, .int (zI fn), .ref kd, .ref wd, .ref hs, .ref pf, .ref lt, .int (zI mn), .ref wg, .int (zI ta), .long ck, .int (zI at9), .int (zI rfn), .ref rk, .ref rw, .ref rh, .int (zI u_cl_2), .ref sa, .ref fi, .int (zI u_bo_3), .ref ch, .ref cn, .int (zI u_ad_4), .int (zI u_ru_5), .ref kp, .int (zI dn), .ref rfa])), (wg, .inl (c_wg, 24, .inl f_wg)), (sa, .inl (c_sa, 25, .inl u_f_sa_6)), (fi, .inl (c_fi, 24, .inl u_f_fi_7)), (hs, .inl (c_hs, 4, .inl f_hs)), (ch, .inl (c_ch, 96, .inl u_f_ch_8)), (cn, .inl (c_cn, 24, .inl u_f_cn_9)), (pf, .inl (c_pf, 4, .inl f_pf)), (kd, .inl (c_kd, 4, .inl f_kd)), (wd, .inl (c_wd, 4, .inl f_wd))]) hP hD [0, 1, 2, 3, 4, 5, 6, 7, 8, 9] [] ax_X9_tellDay_0 ax_X9_tellDay_1 (by decide +kernel) (by decide +kernel) hk1 hFc hP1 hD1
    have hP := ax_X9_tellDay_2 hP
    have hD := ax_X9_tellDay_3 hD
    generalize H1 = H at hP hS ⊢
    have hP : va_P D vwCl [(h0, .inr (9, [.int (zI fa), .int (zI tc), .ref so, .ref sl, .ref ce, .int (zI fn), .ref kd, .ref wd, .ref hs, .ref pf, .ref lt, .int (zI mn), .ref wg, .int (zI ta), .long ck, .int (zI at9), .int (zI rfn), .ref rk, .ref rw, .ref rh, .int (zI u_cl_2), .ref sa, .ref fi, .int (zI u_bo_3), .ref ch, .ref cn, .int (zI u_ad_4), .int (zI u_ru_5), .ref kp, .int (zI dn), .ref rfa])), (wg, .inl (c_wg, 24, .inl f_wg)), (sa, .inl (c_sa, 25, .inl u_f_sa_6)), (fi, .inl (c_fi, 24, .inl u_f_fi_7)), (hs, .inl (c_hs, 4, .inl f_hs)), (ch, .inl (c_ch, 96, .inl u_f_ch_8)), (cn, .inl (c_cn, 24, .inl u_f_cn_9)), (pf, .inl (c_pf, 4, .inl f_pf)), (kd, .inl (c_kd, 4, .inl f_kd)), (wd, .inl (c_wd, 4, .inl f_wd))] H := hP
    have hD : va_D A [(h0, .inr (9, [.int (zI fa), .int (zI tc), .ref so, .ref sl, .ref ce, .int (zI fn), .ref kd, .ref wd, .ref hs, .ref pf, .ref lt, .int (zI mn), .ref wg, .int (zI ta), .long ck, .int (zI at9), .int (zI rfn), .ref rk, .ref rw, .ref rh, .int (zI u_cl_2), .ref sa, .ref fi, .int (zI u_bo_3), .ref ch, .ref cn, .int (zI u_ad_4), .int (zI u_ru_5), .ref kp, .int (zI dn), .ref rfa])), (wg, .inl (c_wg, 24, .inl f_wg)), (sa, .inl (c_sa, 25, .inl u_f_sa_6)), (fi, .inl (c_fi, 24, .inl u_f_fi_7)), (hs, .inl (c_hs, 4, .inl f_hs)), (ch, .inl (c_ch, 96, .inl u_f_ch_8)), (cn, .inl (c_cn, 24, .inl u_f_cn_9)), (pf, .inl (c_pf, 4, .inl f_pf)), (kd, .inl (c_kd, 4, .inl f_kd)), (wd, .inl (c_wd, 4, .inl f_wd))] := hD
    refine lv_istore_n (lv' := [(2, .int (zI z_10)), (0, .ref h0), (1, .int (zI w))]) hx hb dX9_tellDay_35 rfl hl (by decide) rfl (fun ls hl => ?_)
    refine lv_iload_n hx hb dX9_tellDay_36 rfl (lv_at hl 2 rfl) ?_
    refine kz_if_ne (tgt := 44) hx hb dX9_tellDay_37 (by decide) (by omega) (fun c_19 => ?_) (fun c_19 => ?_)
    · refine lv_iload_n hx hb dX9_tellDay_44 rfl (lv_at hl 2 rfl) ?_
      refine lv_iconst (v := zI 2) hx hb dX9_tellDay_45 rfl ?_
      refine kz_icmp_ne (tgt := 56) hx hb dX9_tellDay_46 (by decide) (by omega) (by omega) (fun c_20 => ?_) (fun c_20 => ?_)
      · refine lv_iload_n hx hb dX9_tellDay_56 rfl (lv_at hl 2 rfl) ?_
        refine lv_iconst (v := zI 3) hx hb dX9_tellDay_57 rfl ?_
        refine kz_icmp_ne (tgt := 68) hx hb dX9_tellDay_58 (by decide) (by omega) (by omega) (fun c_21 => ?_) (fun c_21 => ?_)
        · refine lv_aload_n hx hb dX9_tellDay_68 rfl (lv_at hl 1 rfl) ?_
          refine va_get (D := D) (ci := 9) (v := .int (zI u_ad_4)) (C := RX9) (T := TX9) (N := 31) hx hb hts (fun _ h9 => List.mem_cons_of_mem _ (List.mem_append_right _ h9)) hown hK hP 0 rfl rfl 26 (by decide) (hts (.fieldLink RX9 158 "FontRunsModel" "advance" "I") mw_X9_tellDay_0) (fun _ h9 => h9) rfl dX9_tellDay_69 ?_
          have hP9 := hP.sub (ws' := [(h0, .inr (9, [.int (zI fa), .int (zI tc), .ref so, .ref sl, .ref ce, .int (zI fn), .ref kd, .ref wd, .ref hs, .ref pf, .ref lt, .int (zI mn), .ref wg, .int (zI ta), .long ck, .int (zI at9), .int (zI rfn), .ref rk, .ref rw, .ref rh, .int (zI u_cl_2), .ref sa, .ref fi, .int (zI u_bo_3), .ref ch, .ref cn, .int (zI u_ad_4), .int (zI u_ru_5), .ref kp, .int (zI dn), .ref rfa])), (wg, .inl (c_wg, 24, .inl f_wg)), (sa, .inl (c_sa, 25, .inl u_f_sa_6)), (fi, .inl (c_fi, 24, .inl u_f_fi_7)), (hs, .inl (c_hs, 4, .inl f_hs)), (ch, .inl (c_ch, 96, .inl u_f_ch_8)), (cn, .inl (c_cn, 24, .inl u_f_cn_9)), (pf, .inl (c_pf, 4, .inl f_pf)), (kd, .inl (c_kd, 4, .inl f_kd)), (wd, .inl (c_wd, 4, .inl f_wd))]) [0, 1, 2, 3, 4, 5, 6, 7, 8, 9] rfl
          have hD9 := hD.sub (ws' := [(h0, .inr (9, [.int (zI fa), .int (zI tc), .ref so, .ref sl, .ref ce, .int (zI fn), .ref kd, .ref wd, .ref hs, .ref pf, .ref lt, .int (zI mn), .ref wg, .int (zI ta), .long ck, .int (zI at9), .int (zI rfn), .ref rk, .ref rw, .ref rh, .int (zI u_cl_2), .ref sa, .ref fi, .int (zI u_bo_3), .ref ch, .ref cn, .int (zI u_ad_4), .int (zI u_ru_5), .ref kp, .int (zI dn), .ref rfa])), (wg, .inl (c_wg, 24, .inl f_wg)), (sa, .inl (c_sa, 25, .inl u_f_sa_6)), (fi, .inl (c_fi, 24, .inl u_f_fi_7)), (hs, .inl (c_hs, 4, .inl f_hs)), (ch, .inl (c_ch, 96, .inl u_f_ch_8)), (cn, .inl (c_cn, 24, .inl u_f_cn_9)), (pf, .inl (c_pf, 4, .inl f_pf)), (kd, .inl (c_kd, 4, .inl f_kd)), (wd, .inl (c_wd, 4, .inl f_wd))]) [0, 1, 2, 3, 4, 5, 6, 7, 8, 9] (by decide +kernel) rfl
          exact W.iret (v := (zI u_ad_4)) hx hb hr (fun t ht hW => kQS_of (by omega) ⟨u_cl_2, u_bo_3, u_ad_4, u_ru_5, u_f_sa_6, u_f_fi_7, u_f_ch_8, u_f_cn_9, h_14, (by omega), (by omega), h_12, by rw [ht]; exact hP9, hD9⟩ (hS.F ht)) hS.2.2 dX9_tellDay_72
        · refine lv_aload_n hx hb dX9_tellDay_61 rfl (lv_at hl 1 rfl) ?_
          refine va_get (D := D) (ci := 9) (v := .int (zI u_bo_3)) (C := RX9) (T := TX9) (N := 31) hx hb hts (fun _ h9 => List.mem_cons_of_mem _ (List.mem_append_right _ h9)) hown hK hP 0 rfl rfl 23 (by decide) (hts (.fieldLink RX9 141 "FontRunsModel" "boxes" "I") mw_X9_tellDay_1) (fun _ h9 => h9) rfl dX9_tellDay_62 ?_
          refine lv_goto (tgt := 72) hx hb dX9_tellDay_65 (by decide) ?_
          have hP9 := hP.sub (ws' := [(h0, .inr (9, [.int (zI fa), .int (zI tc), .ref so, .ref sl, .ref ce, .int (zI fn), .ref kd, .ref wd, .ref hs, .ref pf, .ref lt, .int (zI mn), .ref wg, .int (zI ta), .long ck, .int (zI at9), .int (zI rfn), .ref rk, .ref rw, .ref rh, .int (zI u_cl_2), .ref sa, .ref fi, .int (zI u_bo_3), .ref ch, .ref cn, .int (zI u_ad_4), .int (zI u_ru_5), .ref kp, .int (zI dn), .ref rfa])), (wg, .inl (c_wg, 24, .inl f_wg)), (sa, .inl (c_sa, 25, .inl u_f_sa_6)), (fi, .inl (c_fi, 24, .inl u_f_fi_7)), (hs, .inl (c_hs, 4, .inl f_hs)), (ch, .inl (c_ch, 96, .inl u_f_ch_8)), (cn, .inl (c_cn, 24, .inl u_f_cn_9)), (pf, .inl (c_pf, 4, .inl f_pf)), (kd, .inl (c_kd, 4, .inl f_kd)), (wd, .inl (c_wd, 4, .inl f_wd))]) [0, 1, 2, 3, 4, 5, 6, 7, 8, 9] rfl
          have hD9 := hD.sub (ws' := [(h0, .inr (9, [.int (zI fa), .int (zI tc), .ref so, .ref sl, .ref ce, .int (zI fn), .ref kd, .ref wd, .ref hs, .ref pf, .ref lt, .int (zI mn), .ref wg, .int (zI ta), .long ck, .int (zI at9), .int (zI rfn), .ref rk, .ref rw, .ref rh, .int (zI u_cl_2), .ref sa, .ref fi, .int (zI u_bo_3), .ref ch, .ref cn, .int (zI u_ad_4), .int (zI u_ru_5), .ref kp, .int (zI dn), .ref rfa])), (wg, .inl (c_wg, 24, .inl f_wg)), (sa, .inl (c_sa, 25, .inl u_f_sa_6)), (fi, .inl (c_fi, 24, .inl u_f_fi_7)), (hs, .inl (c_hs, 4, .inl f_hs)), (ch, .inl (c_ch, 96, .inl u_f_ch_8)), (cn, .inl (c_cn, 24, .inl u_f_cn_9)), (pf, .inl (c_pf, 4, .inl f_pf)), (kd, .inl (c_kd, 4, .inl f_kd)), (wd, .inl (c_wd, 4, .inl f_wd))]) [0, 1, 2, 3, 4, 5, 6, 7, 8, 9] (by decide +kernel) rfl
          exact W.iret (v := (zI u_bo_3)) hx hb hr (fun t ht hW => kQS_of (by omega) ⟨u_cl_2, u_bo_3, u_ad_4, u_ru_5, u_f_sa_6, u_f_fi_7, u_f_ch_8, u_f_cn_9, h_14, (by omega), (by omega), h_12, by rw [ht]; exact hP9, hD9⟩ (hS.F ht)) hS.2.2 dX9_tellDay_72
      · refine lv_aload_n hx hb dX9_tellDay_49 rfl (lv_at hl 1 rfl) ?_
        refine va_get (D := D) (ci := 9) (v := .int (zI u_cl_2)) (C := RX9) (T := TX9) (N := 31) hx hb hts (fun _ h9 => List.mem_cons_of_mem _ (List.mem_append_right _ h9)) hown hK hP 0 rfl rfl 20 (by decide) (hts (.fieldLink RX9 138 "FontRunsModel" "clusters" "I") mw_X9_tellDay_2) (fun _ h9 => h9) rfl dX9_tellDay_50 ?_
        refine lv_goto (tgt := 72) hx hb dX9_tellDay_53 (by decide) ?_
        have hP9 := hP.sub (ws' := [(h0, .inr (9, [.int (zI fa), .int (zI tc), .ref so, .ref sl, .ref ce, .int (zI fn), .ref kd, .ref wd, .ref hs, .ref pf, .ref lt, .int (zI mn), .ref wg, .int (zI ta), .long ck, .int (zI at9), .int (zI rfn), .ref rk, .ref rw, .ref rh, .int (zI u_cl_2), .ref sa, .ref fi, .int (zI u_bo_3), .ref ch, .ref cn, .int (zI u_ad_4), .int (zI u_ru_5), .ref kp, .int (zI dn), .ref rfa])), (wg, .inl (c_wg, 24, .inl f_wg)), (sa, .inl (c_sa, 25, .inl u_f_sa_6)), (fi, .inl (c_fi, 24, .inl u_f_fi_7)), (hs, .inl (c_hs, 4, .inl f_hs)), (ch, .inl (c_ch, 96, .inl u_f_ch_8)), (cn, .inl (c_cn, 24, .inl u_f_cn_9)), (pf, .inl (c_pf, 4, .inl f_pf)), (kd, .inl (c_kd, 4, .inl f_kd)), (wd, .inl (c_wd, 4, .inl f_wd))]) [0, 1, 2, 3, 4, 5, 6, 7, 8, 9] rfl
        have hD9 := hD.sub (ws' := [(h0, .inr (9, [.int (zI fa), .int (zI tc), .ref so, .ref sl, .ref ce, .int (zI fn), .ref kd, .ref wd, .ref hs, .ref pf, .ref lt, .int (zI mn), .ref wg, .int (zI ta), .long ck, .int (zI at9), .int (zI rfn), .ref rk, .ref rw, .ref rh, .int (zI u_cl_2), .ref sa, .ref fi, .int (zI u_bo_3), .ref ch, .ref cn, .int (zI u_ad_4), .int (zI u_ru_5), .ref kp, .int (zI dn), .ref rfa])), (wg, .inl (c_wg, 24, .inl f_wg)), (sa, .inl (c_sa, 25, .inl u_f_sa_6)), (fi, .inl (c_fi, 24, .inl u_f_fi_7)), (hs, .inl (c_hs, 4, .inl f_hs)), (ch, .inl (c_ch, 96, .inl u_f_ch_8)), (cn, .inl (c_cn, 24, .inl u_f_cn_9)), (pf, .inl (c_pf, 4, .inl f_pf)), (kd, .inl (c_kd, 4, .inl f_kd)), (wd, .inl (c_wd, 4, .inl f_wd))]) [0, 1, 2, 3, 4, 5, 6, 7, 8, 9] (by decide +kernel) rfl
        exact W.iret (v := (zI u_cl_2)) hx hb hr (fun t ht hW => kQS_of (by omega) ⟨u_cl_2, u_bo_3, u_ad_4, u_ru_5, u_f_sa_6, u_f_fi_7, u_f_ch_8, u_f_cn_9, h_14, (by omega), (by omega), h_12, by rw [ht]; exact hP9, hD9⟩ (hS.F ht)) hS.2.2 dX9_tellDay_72
    · refine lv_iload_n hx hb dX9_tellDay_40 rfl (lv_at hl 0 rfl) ?_
      refine lv_goto (tgt := 72) hx hb dX9_tellDay_41 (by decide) ?_
      have hP9 := hP.sub (ws' := [(h0, .inr (9, [.int (zI fa), .int (zI tc), .ref so, .ref sl, .ref ce, .int (zI fn), .ref kd, .ref wd, .ref hs, .ref pf, .ref lt, .int (zI mn), .ref wg, .int (zI ta), .long ck, .int (zI at9), .int (zI rfn), .ref rk, .ref rw, .ref rh, .int (zI u_cl_2), .ref sa, .ref fi, .int (zI u_bo_3), .ref ch, .ref cn, .int (zI u_ad_4), .int (zI u_ru_5), .ref kp, .int (zI dn), .ref rfa])), (wg, .inl (c_wg, 24, .inl f_wg)), (sa, .inl (c_sa, 25, .inl u_f_sa_6)), (fi, .inl (c_fi, 24, .inl u_f_fi_7)), (hs, .inl (c_hs, 4, .inl f_hs)), (ch, .inl (c_ch, 96, .inl u_f_ch_8)), (cn, .inl (c_cn, 24, .inl u_f_cn_9)), (pf, .inl (c_pf, 4, .inl f_pf)), (kd, .inl (c_kd, 4, .inl f_kd)), (wd, .inl (c_wd, 4, .inl f_wd))]) [0, 1, 2, 3, 4, 5, 6, 7, 8, 9] rfl
      have hD9 := hD.sub (ws' := [(h0, .inr (9, [.int (zI fa), .int (zI tc), .ref so, .ref sl, .ref ce, .int (zI fn), .ref kd, .ref wd, .ref hs, .ref pf, .ref lt, .int (zI mn), .ref wg, .int (zI ta), .long ck, .int (zI at9), .int (zI rfn), .ref rk, .ref rw, .ref rh, .int (zI u_cl_2), .ref sa, .ref fi, .int (zI u_bo_3), .ref ch, .ref cn, .int (zI u_ad_4), .int (zI u_ru_5), .ref kp, .int (zI dn), .ref rfa])), (wg, .inl (c_wg, 24, .inl f_wg)), (sa, .inl (c_sa, 25, .inl u_f_sa_6)), (fi, .inl (c_fi, 24, .inl u_f_fi_7)), (hs, .inl (c_hs, 4, .inl f_hs)), (ch, .inl (c_ch, 96, .inl u_f_ch_8)), (cn, .inl (c_cn, 24, .inl u_f_cn_9)), (pf, .inl (c_pf, 4, .inl f_pf)), (kd, .inl (c_kd, 4, .inl f_kd)), (wd, .inl (c_wd, 4, .inl f_wd))]) [0, 1, 2, 3, 4, 5, 6, 7, 8, 9] (by decide +kernel) rfl
      exact W.iret (v := (zI z_10)) hx hb hr (fun t ht hW => kQS_of (by omega) ⟨u_cl_2, u_bo_3, u_ad_4, u_ru_5, u_f_sa_6, u_f_fi_7, u_f_ch_8, u_f_cn_9, h_14, (by omega), (by omega), h_12, by rw [ht]; exact hP9, hD9⟩ (hS.F ht)) hS.2.2 dX9_tellDay_72
  · refine lv_aload_n hx hb dX9_tellDay_6 rfl (lv_at hl 0 rfl) ?_
    refine lv_iload_n hx hb dX9_tellDay_7 rfl (lv_at hl 1 rfl) ?_
    refine lv_bipush (v := zI 10) hx hb dX9_tellDay_8 (by decide) ?_
    refine kz_isub hx hb dX9_tellDay_10 ?_
    refine k_callR (va_runV (As := [.int (zI (w - 10))]) (rest := []) ⟨hx, hb, hml, hown, hts⟩ (c_X9_isFont l D s.heap.size (f := (w - 10)) (h0 := h0) (fa := fa) (tc := tc) (so := so) (sl := sl) (ce := ce) (fn := fn) (kd := kd) (wd := wd) (hs := hs) (pf := pf) (lt := lt) (mn := mn) (wg := wg) (ta := ta) (ck := ck) (at9 := at9) (rfn := rfn) (rk := rk) (rw := rw) (rh := rh) (cl := cl) (sa := sa) (fi := fi) (bo := bo) (ch := ch) (cn := cn) (ad := ad) (ru := ru) (kp := kp) (dn := dn) (rfa := rfa) (by omega) q2) (cwV 1 hts gX9_tellDay_X9_isFont rfl rfl rfl (by decide +kernel) ⟨Nat.le_of_ble_eq_true rfl, Nat.le_of_ble_eq_true rfl⟩) (kPreV hP (kD0 hD) hK hN [0] [] ax_X9_tellDay_4 rfl (by decide +kernel) 0 9 rfl rfl) rfl rfl hl.1 rfl (lv_room (Nat.le_of_ble_eq_true rfl)) dX9_tellDay_11 ⟨Nat.le_of_ble_eq_true rfl, Nat.le_of_ble_eq_true rfl⟩) ?_
    refine lv_if_eq (tgt := 28) hx hb dX9_tellDay_14 (by decide) (fun c_22 => ?_) (fun c_22 => ?_)
    · have c_22 : ¬ (0 ≤ (w - 10) ∧ (w - 10) < fn) := b01f c_22
      refine lv_bipush (v := zI (-9)) hx hb dX9_tellDay_28 (by decide) ?_
      have hP9 := hP.sub (ws' := [(h0, .inr (9, [.int (zI fa), .int (zI tc), .ref so, .ref sl, .ref ce, .int (zI fn), .ref kd, .ref wd, .ref hs, .ref pf, .ref lt, .int (zI mn), .ref wg, .int (zI ta), .long ck, .int (zI at9), .int (zI rfn), .ref rk, .ref rw, .ref rh, .int (zI cl), .ref sa, .ref fi, .int (zI bo), .ref ch, .ref cn, .int (zI ad), .int (zI ru), .ref kp, .int (zI dn), .ref rfa])), (wg, .inl (c_wg, 24, .inl f_wg)), (sa, .inl (c_sa, 25, .inl f_sa)), (fi, .inl (c_fi, 24, .inl f_fi)), (hs, .inl (c_hs, 4, .inl f_hs)), (ch, .inl (c_ch, 96, .inl f_ch)), (cn, .inl (c_cn, 24, .inl f_cn)), (pf, .inl (c_pf, 4, .inl f_pf)), (kd, .inl (c_kd, 4, .inl f_kd)), (wd, .inl (c_wd, 4, .inl f_wd))]) [0, 1, 2, 3, 4, 5, 6, 7, 8, 9] rfl
      have hD9 := hD.sub (ws' := [(h0, .inr (9, [.int (zI fa), .int (zI tc), .ref so, .ref sl, .ref ce, .int (zI fn), .ref kd, .ref wd, .ref hs, .ref pf, .ref lt, .int (zI mn), .ref wg, .int (zI ta), .long ck, .int (zI at9), .int (zI rfn), .ref rk, .ref rw, .ref rh, .int (zI cl), .ref sa, .ref fi, .int (zI bo), .ref ch, .ref cn, .int (zI ad), .int (zI ru), .ref kp, .int (zI dn), .ref rfa])), (wg, .inl (c_wg, 24, .inl f_wg)), (sa, .inl (c_sa, 25, .inl f_sa)), (fi, .inl (c_fi, 24, .inl f_fi)), (hs, .inl (c_hs, 4, .inl f_hs)), (ch, .inl (c_ch, 96, .inl f_ch)), (cn, .inl (c_cn, 24, .inl f_cn)), (pf, .inl (c_pf, 4, .inl f_pf)), (kd, .inl (c_kd, 4, .inl f_kd)), (wd, .inl (c_wd, 4, .inl f_wd))]) [0, 1, 2, 3, 4, 5, 6, 7, 8, 9] (by decide +kernel) rfl
      exact W.iret (v := (zI (-9))) hx hb hr (fun t ht hW => kQS_of (by omega) ⟨cl, bo, ad, ru, f_sa, f_fi, f_ch, f_cn, q5, q6, q7, q8, by rw [ht]; exact hP9, hD9⟩ (hS.F ht)) hS.2.2 dX9_tellDay_30
    · have c_22 : 0 ≤ (w - 10) ∧ (w - 10) < fn := b01t c_22
      refine lv_aload_n hx hb dX9_tellDay_17 rfl (lv_at hl 0 rfl) ?_
      refine lv_iload_n hx hb dX9_tellDay_18 rfl (lv_at hl 1 rfl) ?_
      refine lv_bipush (v := zI 10) hx hb dX9_tellDay_19 (by decide) ?_
      refine kz_isub hx hb dX9_tellDay_21 ?_
      refine k_callP (va_runV (As := [.int (zI (w - 10))]) (rest := []) ⟨hx, hb, hml, hown, hts⟩ (c_X9_placeOf l D s.heap.size (f := (w - 10)) (h0 := h0) (fa := fa) (tc := tc) (so := so) (sl := sl) (ce := ce) (fn := fn) (kd := kd) (wd := wd) (hs := hs) (pf := pf) (lt := lt) (mn := mn) (wg := wg) (ta := ta) (ck := ck) (at9 := at9) (rfn := rfn) (rk := rk) (rw := rw) (rh := rh) (cl := cl) (sa := sa) (fi := fi) (bo := bo) (ch := ch) (cn := cn) (ad := ad) (ru := ru) (kp := kp) (dn := dn) (rfa := rfa) (c_pf := c_pf) (f_pf := f_pf) (by omega) q2 q3) (cwV 1 hts gX9_tellDay_X9_placeOf rfl rfl rfl (by decide +kernel) ⟨Nat.le_of_ble_eq_true rfl, Nat.le_of_ble_eq_true rfl⟩) (kPreV hP (kD0 hD) hK hN [0, 7] [6] ax_X9_tellDay_5 rfl (by decide +kernel) 0 9 rfl rfl) rfl rfl hl.1 rfl (lv_room (Nat.le_of_ble_eq_true rfl)) dX9_tellDay_22 ⟨Nat.le_of_ble_eq_true rfl, Nat.le_of_ble_eq_true rfl⟩) (fun z_23 rz_23 h_24 => ?_)
      refine lv_goto (tgt := 30) hx hb dX9_tellDay_25 (by decide) ?_
      have hP9 := hP.sub (ws' := [(h0, .inr (9, [.int (zI fa), .int (zI tc), .ref so, .ref sl, .ref ce, .int (zI fn), .ref kd, .ref wd, .ref hs, .ref pf, .ref lt, .int (zI mn), .ref wg, .int (zI ta), .long ck, .int (zI at9), .int (zI rfn), .ref rk, .ref rw, .ref rh, .int (zI cl), .ref sa, .ref fi, .int (zI bo), .ref ch, .ref cn, .int (zI ad), .int (zI ru), .ref kp, .int (zI dn), .ref rfa])), (wg, .inl (c_wg, 24, .inl f_wg)), (sa, .inl (c_sa, 25, .inl f_sa)), (fi, .inl (c_fi, 24, .inl f_fi)), (hs, .inl (c_hs, 4, .inl f_hs)), (ch, .inl (c_ch, 96, .inl f_ch)), (cn, .inl (c_cn, 24, .inl f_cn)), (pf, .inl (c_pf, 4, .inl f_pf)), (kd, .inl (c_kd, 4, .inl f_kd)), (wd, .inl (c_wd, 4, .inl f_wd))]) [0, 1, 2, 3, 4, 5, 6, 7, 8, 9] rfl
      have hD9 := hD.sub (ws' := [(h0, .inr (9, [.int (zI fa), .int (zI tc), .ref so, .ref sl, .ref ce, .int (zI fn), .ref kd, .ref wd, .ref hs, .ref pf, .ref lt, .int (zI mn), .ref wg, .int (zI ta), .long ck, .int (zI at9), .int (zI rfn), .ref rk, .ref rw, .ref rh, .int (zI cl), .ref sa, .ref fi, .int (zI bo), .ref ch, .ref cn, .int (zI ad), .int (zI ru), .ref kp, .int (zI dn), .ref rfa])), (wg, .inl (c_wg, 24, .inl f_wg)), (sa, .inl (c_sa, 25, .inl f_sa)), (fi, .inl (c_fi, 24, .inl f_fi)), (hs, .inl (c_hs, 4, .inl f_hs)), (ch, .inl (c_ch, 96, .inl f_ch)), (cn, .inl (c_cn, 24, .inl f_cn)), (pf, .inl (c_pf, 4, .inl f_pf)), (kd, .inl (c_kd, 4, .inl f_kd)), (wd, .inl (c_wd, 4, .inl f_wd))]) [0, 1, 2, 3, 4, 5, 6, 7, 8, 9] (by decide +kernel) rfl
      exact W.iret (v := (zI z_23)) hx hb hr (fun t ht hW => kQS_of (by omega) ⟨cl, bo, ad, ru, f_sa, f_fi, f_ch, f_cn, q5, q6, q7, q8, by rw [ht]; exact hP9, hD9⟩ (hS.F ht)) hS.2.2 dX9_tellDay_30
theorem kshl16 {f z : Int} (h : 0 ≤ f ∧ f ≤ 4) (hz : rg z) (e : zI 1 <<< (zI f &&& 31) = zI z) : 1 ≤ z ∧ z ≤ 16 := by
  have a : ∀ n : Nat, n < 5 → 1 ≤ (zI 1 <<< (zI (n : Int) &&& 31)).toInt ∧ (zI 1 <<< (zI (n : Int) &&& 31)).toInt ≤ 16 := by decide +kernel
  obtain ⟨n, rfl⟩ := Int.eq_ofNat_of_zero_le h.1
  have q := a n (by omega)
  rw [e, zI_toInt hz] at q
  exact q
theorem dX9_enough_0 : decode cX9_enough 0 = .ok (.iload_n 1, 1) := kqo_1b kbl_X9_enough (pc := 0) rfl
theorem dX9_enough_1 : decode cX9_enough 1 = .ok (.iconst 0, 1) := kqo_03 kbl_X9_enough (pc := 1) rfl
theorem dX9_enough_2 : decode cX9_enough 2 = .ok (.iconst 1, 1) := kqo_04 kbl_X9_enough (pc := 2) rfl
theorem dX9_enough_3 : decode cX9_enough 3 = .ok (.invokestatic 70, 3) := kqo_b8 (x1 := 0) (x2 := 70) kbl_X9_enough (pc := 3) rfl rfl
theorem dX9_enough_6 : decode cX9_enough 6 = .ok (.ifCond .ne 6, 3) := kqo_9a (x1 := 0) (x2 := 6) kbl_X9_enough (pc := 6) rfl rfl
theorem dX9_enough_9 : decode cX9_enough 9 = .ok (.bipush (-2), 2) := kqo_10 (x1 := 254) kbl_X9_enough (pc := 9) rfl rfl
theorem dX9_enough_11 : decode cX9_enough 11 = .ok (.ireturn, 1) := kqo_ac kbl_X9_enough (pc := 11) rfl
theorem dX9_enough_12 : decode cX9_enough 12 = .ok (.aload_n 0, 1) := kqo_2a kbl_X9_enough (pc := 12) rfl
theorem dX9_enough_13 : decode cX9_enough 13 = .ok (.getfield 74, 3) := kqo_b4 (x1 := 0) (x2 := 74) kbl_X9_enough (pc := 13) rfl rfl
theorem dX9_enough_16 : decode cX9_enough 16 = .ok (.ifCond .ne 6, 3) := kqo_9a (x1 := 0) (x2 := 6) kbl_X9_enough (pc := 16) rfl rfl
theorem dX9_enough_19 : decode cX9_enough 19 = .ok (.bipush (-3), 2) := kqo_10 (x1 := 253) kbl_X9_enough (pc := 19) rfl rfl
theorem dX9_enough_21 : decode cX9_enough 21 = .ok (.ireturn, 1) := kqo_ac kbl_X9_enough (pc := 21) rfl
theorem dX9_enough_22 : decode cX9_enough 22 = .ok (.aload_n 0, 1) := kqo_2a kbl_X9_enough (pc := 22) rfl
theorem dX9_enough_23 : decode cX9_enough 23 = .ok (.bipush (-9), 2) := kqo_10 (x1 := 247) kbl_X9_enough (pc := 23) rfl rfl
theorem dX9_enough_25 : decode cX9_enough 25 = .ok (.invokevirtual 147, 3) := kqo_b6 (x1 := 0) (x2 := 147) kbl_X9_enough (pc := 25) rfl rfl
theorem dX9_enough_28 : decode cX9_enough 28 = .ok (.bipush (-9), 2) := kqo_10 (x1 := 247) kbl_X9_enough (pc := 28) rfl rfl
theorem dX9_enough_30 : decode cX9_enough 30 = .ok (.istore_n 2, 1) := kqo_3d kbl_X9_enough (pc := 30) rfl
theorem dX9_enough_31 : decode cX9_enough 31 = .ok (.iconst 0, 1) := kqo_03 kbl_X9_enough (pc := 31) rfl
theorem dX9_enough_32 : decode cX9_enough 32 = .ok (.istore_n 3, 1) := kqo_3e kbl_X9_enough (pc := 32) rfl
theorem dX9_enough_33 : decode cX9_enough 33 = .ok (.iload_n 3, 1) := kqo_1d kbl_X9_enough (pc := 33) rfl
theorem dX9_enough_34 : decode cX9_enough 34 = .ok (.iconst 1, 1) := kqo_04 kbl_X9_enough (pc := 34) rfl
theorem dX9_enough_35 : decode cX9_enough 35 = .ok (.aload_n 0, 1) := kqo_2a kbl_X9_enough (pc := 35) rfl
theorem dX9_enough_36 : decode cX9_enough 36 = .ok (.getfield 74, 3) := kqo_b4 (x1 := 0) (x2 := 74) kbl_X9_enough (pc := 36) rfl rfl
theorem dX9_enough_39 : decode cX9_enough 39 = .ok (.ishl, 1) := kqo_78 kbl_X9_enough (pc := 39) rfl
theorem dX9_enough_40 : decode cX9_enough 40 = .ok (.if_icmp .ge 96, 3) := kqo_a2 (x1 := 0) (x2 := 96) kbl_X9_enough (pc := 40) rfl rfl
theorem dX9_enough_43 : decode cX9_enough 43 = .ok (.iload_n 2, 1) := kqo_1c kbl_X9_enough (pc := 43) rfl
theorem dX9_enough_44 : decode cX9_enough 44 = .ok (.bipush (-9), 2) := kqo_10 (x1 := 247) kbl_X9_enough (pc := 44) rfl rfl
theorem dX9_enough_46 : decode cX9_enough 46 = .ok (.if_icmp .eq 14, 3) := kqo_9f (x1 := 0) (x2 := 14) kbl_X9_enough (pc := 46) rfl rfl
theorem dX9_enough_49 : decode cX9_enough 49 = .ok (.iload_n 3, 1) := kqo_1d kbl_X9_enough (pc := 49) rfl
theorem dX9_enough_50 : decode cX9_enough 50 = .ok (.invokestatic 114, 3) := kqo_b8 (x1 := 0) (x2 := 114) kbl_X9_enough (pc := 50) rfl rfl
theorem dX9_enough_53 : decode cX9_enough 53 = .ok (.iload_n 2, 1) := kqo_1c kbl_X9_enough (pc := 53) rfl
theorem dX9_enough_54 : decode cX9_enough 54 = .ok (.invokestatic 114, 3) := kqo_b8 (x1 := 0) (x2 := 114) kbl_X9_enough (pc := 54) rfl rfl
theorem dX9_enough_57 : decode cX9_enough 57 = .ok (.if_icmp .ge 7, 3) := kqo_a2 (x1 := 0) (x2 := 7) kbl_X9_enough (pc := 57) rfl rfl
theorem dX9_enough_60 : decode cX9_enough 60 = .ok (.iconst 1, 1) := kqo_04 kbl_X9_enough (pc := 60) rfl
theorem dX9_enough_61 : decode cX9_enough 61 = .ok (.goto 4, 3) := kqo_a7 (x1 := 0) (x2 := 4) kbl_X9_enough (pc := 61) rfl rfl
theorem dX9_enough_64 : decode cX9_enough 64 = .ok (.iconst 0, 1) := kqo_03 kbl_X9_enough (pc := 64) rfl
theorem dX9_enough_65 : decode cX9_enough 65 = .ok (.istore 4, 2) := kqo_36 (x1 := 4) kbl_X9_enough (pc := 65) rfl rfl
theorem dX9_enough_67 : decode cX9_enough 67 = .ok (.iconst 0, 1) := kqo_03 kbl_X9_enough (pc := 67) rfl
theorem dX9_enough_68 : decode cX9_enough 68 = .ok (.istore 5, 2) := kqo_36 (x1 := 5) kbl_X9_enough (pc := 68) rfl rfl
theorem dX9_enough_70 : decode cX9_enough 70 = .ok (.iload 5, 2) := kqo_15 (x1 := 5) kbl_X9_enough (pc := 70) rfl rfl
theorem dX9_enough_72 : decode cX9_enough 72 = .ok (.aload_n 0, 1) := kqo_2a kbl_X9_enough (pc := 72) rfl
theorem dX9_enough_73 : decode cX9_enough 73 = .ok (.getfield 138, 3) := kqo_b4 (x1 := 0) (x2 := 138) kbl_X9_enough (pc := 73) rfl rfl
theorem dX9_enough_76 : decode cX9_enough 76 = .ok (.if_icmp .ge 43, 3) := kqo_a2 (x1 := 0) (x2 := 43) kbl_X9_enough (pc := 76) rfl rfl
theorem dX9_enough_79 : decode cX9_enough 79 = .ok (.iload 4, 2) := kqo_15 (x1 := 4) kbl_X9_enough (pc := 79) rfl rfl
theorem dX9_enough_81 : decode cX9_enough 81 = .ok (.ifCond .eq 29, 3) := kqo_99 (x1 := 0) (x2 := 29) kbl_X9_enough (pc := 81) rfl rfl
theorem dX9_enough_84 : decode cX9_enough 84 = .ok (.aload_n 0, 1) := kqo_2a kbl_X9_enough (pc := 84) rfl
theorem dX9_enough_85 : decode cX9_enough 85 = .ok (.getfield 49, 3) := kqo_b4 (x1 := 0) (x2 := 49) kbl_X9_enough (pc := 85) rfl rfl
theorem dX9_enough_88 : decode cX9_enough 88 = .ok (.iload 5, 2) := kqo_15 (x1 := 5) kbl_X9_enough (pc := 88) rfl rfl
theorem dX9_enough_90 : decode cX9_enough 90 = .ok (.iaload, 1) := kqo_2e kbl_X9_enough (pc := 90) rfl
theorem dX9_enough_91 : decode cX9_enough 91 = .ok (.ifCond .eq 15, 3) := kqo_99 (x1 := 0) (x2 := 15) kbl_X9_enough (pc := 91) rfl rfl
theorem dX9_enough_94 : decode cX9_enough 94 = .ok (.aload_n 0, 1) := kqo_2a kbl_X9_enough (pc := 94) rfl
theorem dX9_enough_95 : decode cX9_enough 95 = .ok (.getfield 49, 3) := kqo_b4 (x1 := 0) (x2 := 49) kbl_X9_enough (pc := 95) rfl rfl
theorem dX9_enough_98 : decode cX9_enough 98 = .ok (.iload 5, 2) := kqo_15 (x1 := 5) kbl_X9_enough (pc := 98) rfl rfl
theorem dX9_enough_100 : decode cX9_enough 100 = .ok (.iaload, 1) := kqo_2e kbl_X9_enough (pc := 100) rfl
theorem dX9_enough_101 : decode cX9_enough 101 = .ok (.iload_n 3, 1) := kqo_1d kbl_X9_enough (pc := 101) rfl
theorem dX9_enough_102 : decode cX9_enough 102 = .ok (.iand, 1) := kqo_7e kbl_X9_enough (pc := 102) rfl
theorem dX9_enough_103 : decode cX9_enough 103 = .ok (.ifCond .eq 7, 3) := kqo_99 (x1 := 0) (x2 := 7) kbl_X9_enough (pc := 103) rfl rfl
theorem dX9_enough_106 : decode cX9_enough 106 = .ok (.iconst 1, 1) := kqo_04 kbl_X9_enough (pc := 106) rfl
theorem dX9_enough_107 : decode cX9_enough 107 = .ok (.goto 4, 3) := kqo_a7 (x1 := 0) (x2 := 4) kbl_X9_enough (pc := 107) rfl rfl
theorem dX9_enough_110 : decode cX9_enough 110 = .ok (.iconst 0, 1) := kqo_03 kbl_X9_enough (pc := 110) rfl
theorem dX9_enough_111 : decode cX9_enough 111 = .ok (.istore 4, 2) := kqo_36 (x1 := 4) kbl_X9_enough (pc := 111) rfl rfl
theorem dX9_enough_113 : decode cX9_enough 113 = .ok (.iinc 5 1, 3) := kqo_84 (x1 := 5) (x2 := 1) kbl_X9_enough (pc := 113) rfl rfl
theorem dX9_enough_116 : decode cX9_enough 116 = .ok (.goto (-46), 3) := kqo_a7 (x1 := 255) (x2 := 210) kbl_X9_enough (pc := 116) rfl rfl
theorem dX9_enough_119 : decode cX9_enough 119 = .ok (.iload 4, 2) := kqo_15 (x1 := 4) kbl_X9_enough (pc := 119) rfl rfl
theorem dX9_enough_121 : decode cX9_enough 121 = .ok (.ifCond .eq 7, 3) := kqo_99 (x1 := 0) (x2 := 7) kbl_X9_enough (pc := 121) rfl rfl
theorem dX9_enough_124 : decode cX9_enough 124 = .ok (.iload_n 3, 1) := kqo_1d kbl_X9_enough (pc := 124) rfl
theorem dX9_enough_125 : decode cX9_enough 125 = .ok (.goto 4, 3) := kqo_a7 (x1 := 0) (x2 := 4) kbl_X9_enough (pc := 125) rfl rfl
theorem dX9_enough_128 : decode cX9_enough 128 = .ok (.iload_n 2, 1) := kqo_1c kbl_X9_enough (pc := 128) rfl
theorem dX9_enough_129 : decode cX9_enough 129 = .ok (.istore_n 2, 1) := kqo_3d kbl_X9_enough (pc := 129) rfl
theorem dX9_enough_130 : decode cX9_enough 130 = .ok (.iinc 3 1, 3) := kqo_84 (x1 := 3) (x2 := 1) kbl_X9_enough (pc := 130) rfl rfl
theorem dX9_enough_133 : decode cX9_enough 133 = .ok (.goto (-100), 3) := kqo_a7 (x1 := 255) (x2 := 156) kbl_X9_enough (pc := 133) rfl rfl
theorem dX9_enough_136 : decode cX9_enough 136 = .ok (.iload_n 1, 1) := kqo_1b kbl_X9_enough (pc := 136) rfl
theorem dX9_enough_137 : decode cX9_enough 137 = .ok (.ifCond .ne 10, 3) := kqo_9a (x1 := 0) (x2 := 10) kbl_X9_enough (pc := 137) rfl rfl
theorem dX9_enough_140 : decode cX9_enough 140 = .ok (.iload_n 2, 1) := kqo_1c kbl_X9_enough (pc := 140) rfl
theorem dX9_enough_141 : decode cX9_enough 141 = .ok (.invokestatic 114, 3) := kqo_b8 (x1 := 0) (x2 := 114) kbl_X9_enough (pc := 141) rfl rfl
theorem dX9_enough_144 : decode cX9_enough 144 = .ok (.goto 4, 3) := kqo_a7 (x1 := 0) (x2 := 4) kbl_X9_enough (pc := 144) rfl rfl
theorem dX9_enough_147 : decode cX9_enough 147 = .ok (.iload_n 2, 1) := kqo_1c kbl_X9_enough (pc := 147) rfl
theorem dX9_enough_148 : decode cX9_enough 148 = .ok (.ireturn, 1) := kqo_ac kbl_X9_enough (pc := 148) rfl
set_option maxRecDepth 20000 in
theorem ggX9_enough_X9_findClusters : GoodIn wsX9_enough wsX9_findClusters := goodIn_4 _ (List.forall_mem_cons.mpr ⟨List.mem_cons_of_mem _ (List.mem_append_left _ (List.mem_of_getElem? (i := 10) rfl)), List.forall_mem_append.mpr ⟨List.forall_mem_cons.mpr ⟨List.mem_cons_of_mem _ (List.mem_append_left _ (List.mem_of_getElem? (i := 1) rfl)), List.forall_mem_cons.mpr ⟨List.mem_cons_of_mem _ (List.mem_append_left _ (List.mem_of_getElem? (i := 11) rfl)), List.forall_mem_cons.mpr ⟨List.mem_cons_of_mem _ (List.mem_append_left _ (List.mem_of_getElem? (i := 12) rfl)), List.forall_mem_cons.mpr ⟨List.mem_cons_of_mem _ (List.mem_append_left _ (List.mem_of_getElem? (i := 13) rfl)), List.forall_mem_cons.mpr ⟨List.mem_cons_of_mem _ (List.mem_append_left _ (List.mem_of_getElem? (i := 14) rfl)), List.forall_mem_cons.mpr ⟨List.mem_cons_of_mem _ (List.mem_append_left _ (List.mem_of_getElem? (i := 2) rfl)), List.forall_mem_cons.mpr ⟨List.mem_cons_of_mem _ (List.mem_append_left _ (List.mem_of_getElem? (i := 0) rfl)), List.forall_mem_cons.mpr ⟨List.mem_cons_of_mem _ (List.mem_append_left _ (List.mem_of_getElem? (i := 15) rfl)), fun _ h9 => absurd h9 List.not_mem_nil⟩⟩⟩⟩⟩⟩⟩⟩, fun w h9 => List.mem_cons_of_mem _ (List.mem_append_right _ (h9))⟩⟩) (by decide +kernel)
set_option maxRecDepth 20000 in
theorem gX9_enough_X9_findClusters : GoodIn wsX9_enough (wsV RX9 147 RX9 yX9_findClusters wsX9_findClusters) := goodIn_app (goodIn_4 _ (List.forall_mem_cons.mpr ⟨List.mem_cons_of_mem _ (List.mem_append_left _ (List.mem_of_getElem? (i := 7) rfl)), List.forall_mem_cons.mpr ⟨List.mem_cons_of_mem _ (List.mem_append_left _ (List.mem_of_getElem? (i := 8) rfl)), List.forall_mem_cons.mpr ⟨List.mem_cons_of_mem _ (List.mem_append_left _ (List.mem_of_getElem? (i := 9) rfl)), List.forall_mem_cons.mpr ⟨List.mem_cons_of_mem _ (List.mem_append_left _ (List.mem_of_getElem? (i := 5) rfl)), fun _ h9 => absurd h9 List.not_mem_nil⟩⟩⟩⟩) (by decide +kernel)) ggX9_enough_X9_findClusters
set_option maxRecDepth 20000 in
theorem ggX9_enough_X9_size : GoodIn wsX9_enough wsX9_size := goodIn_4 _ (List.forall_mem_cons.mpr ⟨List.mem_cons_of_mem _ (List.mem_append_left _ (List.mem_of_getElem? (i := 18) rfl)), fun _ h9 => absurd h9 List.not_mem_nil⟩) (by decide +kernel)
set_option maxRecDepth 20000 in
theorem gX9_enough_X9_size : GoodIn wsX9_enough (va_wsS RX9 114 yX9_size wsX9_size) := goodIn_app (goodIn_4 _ (List.forall_mem_cons.mpr ⟨List.mem_cons_of_mem _ (List.mem_append_left _ (List.mem_of_getElem? (i := 16) rfl)), List.forall_mem_cons.mpr ⟨List.mem_cons_of_mem _ (List.mem_append_left _ (List.mem_of_getElem? (i := 17) rfl)), List.forall_mem_cons.mpr ⟨List.mem_cons_of_mem _ (List.mem_append_left _ (List.mem_of_getElem? (i := 5) rfl)), fun _ h9 => absurd h9 List.not_mem_nil⟩⟩⟩) (by decide +kernel)) ggX9_enough_X9_size
set_option maxRecDepth 20000 in
theorem ggX9_enough_X9_within : GoodIn wsX9_enough wsX9_within := goodIn_4 _ (List.forall_mem_cons.mpr ⟨List.mem_cons_of_mem _ (List.mem_append_left _ (List.mem_of_getElem? (i := 6) rfl)), fun _ h9 => absurd h9 List.not_mem_nil⟩) (by decide +kernel)
set_option maxRecDepth 20000 in
theorem gX9_enough_X9_within : GoodIn wsX9_enough (va_wsS RX9 70 yX9_within wsX9_within) := goodIn_app (goodIn_4 _ (List.forall_mem_cons.mpr ⟨List.mem_cons_of_mem _ (List.mem_append_left _ (List.mem_of_getElem? (i := 3) rfl)), List.forall_mem_cons.mpr ⟨List.mem_cons_of_mem _ (List.mem_append_left _ (List.mem_of_getElem? (i := 4) rfl)), List.forall_mem_cons.mpr ⟨List.mem_cons_of_mem _ (List.mem_append_left _ (List.mem_of_getElem? (i := 5) rfl)), fun _ h9 => absurd h9 List.not_mem_nil⟩⟩⟩) (by decide +kernel)) ggX9_enough_X9_within
set_option maxRecDepth 20000 in
theorem mw_X9_enough_0 : (.fieldLink RX9 74 "FontRunsModel" "fonts" "I" : Cond) ∈ wsX9_enough := List.mem_cons_of_mem _ (List.mem_append_left _ (List.mem_of_getElem? (i := 0) rfl))
set_option maxRecDepth 20000 in
theorem mw_X9_enough_1 : (.fieldLink RX9 138 "FontRunsModel" "clusters" "I" : Cond) ∈ wsX9_enough := List.mem_cons_of_mem _ (List.mem_append_left _ (List.mem_of_getElem? (i := 1) rfl))
set_option maxRecDepth 20000 in
theorem mw_X9_enough_2 : (.fieldLink RX9 49 "FontRunsModel" "fits" "[I" : Cond) ∈ wsX9_enough := List.mem_cons_of_mem _ (List.mem_append_left _ (List.mem_of_getElem? (i := 2) rfl))
theorem ax_X9_enough_0 {e0 e1 e2 e3 e4 : Nat × va_E} : ([] : List Nat).map (fun i => ([e0, e1, e2, e3, e4] : va_W)[i]?) = ([] : va_W).map some := rfl
theorem ax_X9_enough_1 {e0 e1 e2 e3 e4 : Nat × va_E} : ([0, 1, 2, 3, 4] : List Nat).map (fun i => ([e0, e1, e2, e3, e4] : va_W)[i]?) = ([e0, e1, e2, e3, e4] : va_W).map some := rfl
theorem ax_X9_enough_2 {D : va_G} {cl : List vw_C} {H : Heap} {f0 f1 f2 f3 f4 : Nat × va_E} (h : va_P D cl ((([] : va_W) ++ ([f0, f1, f2, f3, f4] : va_W))) H) : va_P D cl (([f0, f1, f2, f3, f4] : va_W)) H := h
theorem ax_X9_enough_3 {A : Nat → Prop} {f0 f1 f2 f3 f4 : Nat × va_E} (h : va_D A ((([] : va_W) ++ ([f0, f1, f2, f3, f4] : va_W)))) : va_D A (([f0, f1, f2, f3, f4] : va_W)) := h
set_option maxHeartbeats 4000000 in
set_option maxRecDepth 100000 in
theorem c_X9_enough (l : Launch) (D : va_G) (sz : Nat) (w : Int) (h0 : Nat) (fa : Int) (tc : Int) (so : Nat) (sl : Nat) (ce : Nat) (fn : Int) (kd : Nat) (wd : Nat) (hs : Nat) (pf : Nat) (lt : Nat) (mn : Int) (wg : Nat) (ta : Int) (ck : Int64) (at9 : Int) (rfn : Int) (rk : Nat) (rw : Nat) (rh : Nat) (cl : Int) (sa : Nat) (fi : Nat) (bo : Int) (ch : Nat) (cn : Nat) (ad : Int) (ru : Int) (kp : Nat) (dn : Int) (rfa : Nat) (c_wg : ClassId) (f_wg : Nat → Int32) (c_sa : ClassId) (f_sa : Nat → Int32) (c_fi : ClassId) (f_fi : Nat → Int32) (c_hs : ClassId) (f_hs : Nat → Int32) (q0 : rg w) (q1 : 0 ≤ mn ∧ mn ≤ 24) (q2 : 0 ≤ fn ∧ fn ≤ 4) (q3 : 0 ≤ cl ∧ cl ≤ 24) (q4 : 0 ≤ bo ∧ bo ≤ 24) : Met l yX9_enough wsX9_enough ({ frames := 1, cells := 0, slots := 0, locals := 24 }) (kPre [.ref h0, .int (zI w)] D [(h0, .inr (9, [.int (zI fa), .int (zI tc), .ref so, .ref sl, .ref ce, .int (zI fn), .ref kd, .ref wd, .ref hs, .ref pf, .ref lt, .int (zI mn), .ref wg, .int (zI ta), .long ck, .int (zI at9), .int (zI rfn), .ref rk, .ref rw, .ref rh, .int (zI cl), .ref sa, .ref fi, .int (zI bo), .ref ch, .ref cn, .int (zI ad), .int (zI ru), .ref kp, .int (zI dn), .ref rfa])), (wg, .inl (c_wg, 24, .inl f_wg)), (sa, .inl (c_sa, 25, .inl f_sa)), (fi, .inl (c_fi, 24, .inl f_fi)), (hs, .inl (c_hs, 4, .inl f_hs))] [(c_wg, .int), (c_sa, .int), (c_fi, .int), (c_hs, .int)] sz) (kQS (fun rz t => ∃ (u_cl : Int) (u_bo : Int) (u_f_sa : Nat → Int32) (u_f_fi : Nat → Int32), (0 ≤ u_cl ∧ u_cl ≤ 24) ∧ (0 ≤ u_bo ∧ u_bo ≤ 24) ∧ va_P D vwCl [(h0, .inr (9, [.int (zI fa), .int (zI tc), .ref so, .ref sl, .ref ce, .int (zI fn), .ref kd, .ref wd, .ref hs, .ref pf, .ref lt, .int (zI mn), .ref wg, .int (zI ta), .long ck, .int (zI at9), .int (zI rfn), .ref rk, .ref rw, .ref rh, .int (zI u_cl), .ref sa, .ref fi, .int (zI u_bo), .ref ch, .ref cn, .int (zI ad), .int (zI ru), .ref kp, .int (zI dn), .ref rfa])), (wg, .inl (c_wg, 24, .inl f_wg)), (sa, .inl (c_sa, 25, .inl u_f_sa)), (fi, .inl (c_fi, 24, .inl u_f_fi)), (hs, .inl (c_hs, 4, .inl f_hs))] t.heap ∧ va_D (va_A [(h0, .inr (9, [.int (zI fa), .int (zI tc), .ref so, .ref sl, .ref ce, .int (zI fn), .ref kd, .ref wd, .ref hs, .ref pf, .ref lt, .int (zI mn), .ref wg, .int (zI ta), .long ck, .int (zI at9), .int (zI rfn), .ref rk, .ref rw, .ref rh, .int (zI cl), .ref sa, .ref fi, .int (zI bo), .ref ch, .ref cn, .int (zI ad), .int (zI ru), .ref kp, .int (zI dn), .ref rfa])), (wg, .inl (c_wg, 24, .inl f_wg)), (sa, .inl (c_sa, 25, .inl f_sa)), (fi, .inl (c_fi, 24, .inl f_fi)), (hs, .inl (c_hs, 4, .inl f_hs))] sz) [(h0, .inr (9, [.int (zI fa), .int (zI tc), .ref so, .ref sl, .ref ce, .int (zI fn), .ref kd, .ref wd, .ref hs, .ref pf, .ref lt, .int (zI mn), .ref wg, .int (zI ta), .long ck, .int (zI at9), .int (zI rfn), .ref rk, .ref rw, .ref rh, .int (zI u_cl), .ref sa, .ref fi, .int (zI u_bo), .ref ch, .ref cn, .int (zI ad), .int (zI ru), .ref kp, .int (zI dn), .ref rfa])), (wg, .inl (c_wg, 24, .inl f_wg)), (sa, .inl (c_sa, 25, .inl u_f_sa)), (fi, .inl (c_fi, 24, .inl u_f_fi)), (hs, .inl (c_hs, 4, .inl f_hs))]) (va_A [(h0, .inr (9, [.int (zI fa), .int (zI tc), .ref so, .ref sl, .ref ce, .int (zI fn), .ref kd, .ref wd, .ref hs, .ref pf, .ref lt, .int (zI mn), .ref wg, .int (zI ta), .long ck, .int (zI at9), .int (zI rfn), .ref rk, .ref rw, .ref rh, .int (zI cl), .ref sa, .ref fi, .int (zI bo), .ref ch, .ref cn, .int (zI ad), .int (zI ru), .ref kp, .int (zI dn), .ref rfa])), (wg, .inl (c_wg, 24, .inl f_wg)), (sa, .inl (c_sa, 25, .inl f_sa)), (fi, .inl (c_fi, 24, .inl f_fi)), (hs, .inl (c_hs, 4, .inl f_hs))] sz)) 0 0 (va_A [(h0, .inr (9, [.int (zI fa), .int (zI tc), .ref so, .ref sl, .ref ce, .int (zI fn), .ref kd, .ref wd, .ref hs, .ref pf, .ref lt, .int (zI mn), .ref wg, .int (zI ta), .long ck, .int (zI at9), .int (zI rfn), .ref rk, .ref rw, .ref rh, .int (zI cl), .ref sa, .ref fi, .int (zI bo), .ref ch, .ref cn, .int (zI ad), .int (zI ru), .ref kp, .int (zI dn), .ref rfa])), (wg, .inl (c_wg, 24, .inl f_wg)), (sa, .inl (c_sa, 25, .inl f_sa)), (fi, .inl (c_fi, 24, .inl f_fi)), (hs, .inl (c_hs, 4, .inl f_hs))] sz) := by
  refine Met.ofW (cc := cX9_enough) (maxL := 6) (ret := (some .int)) (by decide) rfl ?_
  intro p e s m args below meth c s₁ B hml hv
  obtain ⟨rfl, hsz, hP, hK, hD0, hN⟩ := hv
  have hx := B.exec
  have hb := B.bytes
  have hr := B.returns
  have hts := atoms_spec (ws := wsX9_enough) B.pre
  have hown : s.vm.findClass RX9 = some m.cls := findClass_of_methodNamed B.named
  have hlocks := B.notSynchronized
  subst hsz
  have hD := hD0.self (sz := s.heap.size)
  generalize hAe : va_A [(h0, .inr (9, [.int (zI fa), .int (zI tc), .ref so, .ref sl, .ref ce, .int (zI fn), .ref kd, .ref wd, .ref hs, .ref pf, .ref lt, .int (zI mn), .ref wg, .int (zI ta), .long ck, .int (zI at9), .int (zI rfn), .ref rk, .ref rw, .ref rh, .int (zI cl), .ref sa, .ref fi, .int (zI bo), .ref ch, .ref cn, .int (zI ad), .int (zI ru), .ref kp, .int (zI dn), .ref rfa])), (wg, .inl (c_wg, 24, .inl f_wg)), (sa, .inl (c_sa, 25, .inl f_sa)), (fi, .inl (c_fi, 24, .inl f_fi)), (hs, .inl (c_hs, 4, .inl f_hs))] s.heap.size = A at hD ⊢
  have hA : ∀ q : Nat, s.heap.size ≤ q → A q := fun q h => by rw [← hAe]; exact Or.inr h
  have hS : va_S A s.heap s.heap [] := va_S.rf
  have hP : va_P D vwCl [(h0, .inr (9, [.int (zI fa), .int (zI tc), .ref so, .ref sl, .ref ce, .int (zI fn), .ref kd, .ref wd, .ref hs, .ref pf, .ref lt, .int (zI mn), .ref wg, .int (zI ta), .long ck, .int (zI at9), .int (zI rfn), .ref rk, .ref rw, .ref rh, .int (zI cl), .ref sa, .ref fi, .int (zI bo), .ref ch, .ref cn, .int (zI ad), .int (zI ru), .ref kp, .int (zI dn), .ref rfa])), (wg, .inl (c_wg, 24, .inl f_wg)), (sa, .inl (c_sa, 25, .inl f_sa)), (fi, .inl (c_fi, 24, .inl f_fi)), (hs, .inl (c_hs, 4, .inl f_hs))] s.heap := hP
  have hl := lv_entry ([.ref h0, .int (zI w)]) (n := 6) (Nat.le_of_ble_eq_true rfl)
  rw [lg_entry_eq]
  generalize (lg_sl ([.ref h0, .int (zI w)]) ++ List.replicate (6 - (lg_sl ([.ref h0, .int (zI w)])).length) Slot.unset).toArray = ls at hl ⊢
  have hl : lv_has ls 6 [(0, .ref h0), (1, .int (zI w))] := hl
  refine lv_iload_n hx hb dX9_enough_0 rfl (lv_at hl 1 rfl) ?_
  refine lv_iconst (v := zI 0) hx hb dX9_enough_1 rfl ?_
  refine lv_iconst (v := zI 1) hx hb dX9_enough_2 rfl ?_
  refine k_callR (va_runS (As := [.int (zI w), .int (zI 0), .int (zI 1)]) (rest := []) ⟨hx, hb, hml, hown, hts⟩ (c_X9_within l D s.heap.size (v := w) (a := 0) (b := 1) q0 (by omega) (by omega)) (va_cwS 3 hts gX9_enough_X9_within rfl rfl rfl (by decide +kernel) ⟨Nat.le_of_ble_eq_true rfl, Nat.le_of_ble_eq_true rfl⟩) (kPreS hP (kD0 hD) hK hN [] [] ax_X9_enough_0 rfl (by decide +kernel)) rfl rfl hl.1 rfl (lv_room (Nat.le_of_ble_eq_true rfl)) dX9_enough_3 ⟨Nat.le_of_ble_eq_true rfl, Nat.le_of_ble_eq_true rfl⟩) ?_
  refine lv_if_ne (tgt := 12) hx hb dX9_enough_6 (by decide) (fun c_1 => ?_) (fun c_1 => ?_)
  · have c_1 : 0 ≤ w ∧ w ≤ 1 := b01t c_1
    refine lv_aload_n hx hb dX9_enough_12 rfl (lv_at hl 0 rfl) ?_
    refine va_get (D := D) (ci := 9) (v := .int (zI fn)) (C := RX9) (T := TX9) (N := 31) hx hb hts (fun _ h9 => List.mem_cons_of_mem _ (List.mem_append_right _ h9)) hown hK hP 0 rfl rfl 5 (by decide) (hts (.fieldLink RX9 74 "FontRunsModel" "fonts" "I") mw_X9_enough_0) (fun _ h9 => h9) rfl dX9_enough_13 ?_
    refine kz_if_ne (tgt := 22) hx hb dX9_enough_16 (by decide) (by omega) (fun c_2 => ?_) (fun c_2 => ?_)
    · refine lv_aload_n hx hb dX9_enough_22 rfl (lv_at hl 0 rfl) ?_
      refine lv_bipush (v := zI (-9)) hx hb dX9_enough_23 (by decide) ?_
      have hFc := va_free (wc := [(h0, .inr (9, [.int (zI fa), .int (zI tc), .ref so, .ref sl, .ref ce, .int (zI fn), .ref kd, .ref wd, .ref hs, .ref pf, .ref lt, .int (zI mn), .ref wg, .int (zI ta), .long ck, .int (zI at9), .int (zI rfn), .ref rk, .ref rw, .ref rh, .int (zI cl), .ref sa, .ref fi, .int (zI bo), .ref ch, .ref cn, .int (zI ad), .int (zI ru), .ref kp, .int (zI dn), .ref rfa])), (wg, .inl (c_wg, 24, .inl f_wg)), (sa, .inl (c_sa, 25, .inl f_sa)), (fi, .inl (c_fi, 24, .inl f_fi)), (hs, .inl (c_hs, 4, .inl f_hs))]) hD hS hA [0, 1, 2, 3, 4] ax_X9_enough_1
      refine va_callv (va_runV (As := [.int (zI (-9))]) (rest := []) ⟨hx, hb, hml, hown, hts⟩ (c_X9_findClusters l D s.heap.size (wo := (-9)) (h0 := h0) (fa := fa) (tc := tc) (so := so) (sl := sl) (ce := ce) (fn := fn) (kd := kd) (wd := wd) (hs := hs) (pf := pf) (lt := lt) (mn := mn) (wg := wg) (ta := ta) (ck := ck) (at9 := at9) (rfn := rfn) (rk := rk) (rw := rw) (rh := rh) (cl := cl) (sa := sa) (fi := fi) (bo := bo) (ch := ch) (cn := cn) (ad := ad) (ru := ru) (kp := kp) (dn := dn) (rfa := rfa) (c_wg := c_wg) (f_wg := f_wg) (c_sa := c_sa) (f_sa := f_sa) (c_fi := c_fi) (f_fi := f_fi) (c_hs := c_hs) (f_hs := f_hs) (by omega) q1 q2) (cwV 1 hts gX9_enough_X9_findClusters rfl rfl rfl (by decide +kernel) ⟨Nat.le_of_ble_eq_true rfl, Nat.le_of_ble_eq_true rfl⟩) (kPreV hP (kD0 hD) hK hN [0, 1, 2, 3, 4] [0, 1, 2, 3] ax_X9_enough_1 rfl (by decide +kernel) 0 9 rfl rfl) rfl rfl hl.1 rfl (lv_room (Nat.le_of_ble_eq_true rfl)) dX9_enough_25 ⟨Nat.le_of_ble_eq_true rfl, Nat.le_of_ble_eq_true rfl⟩) hS (fun q _ h => hFc q h) hFc (fun u t H1 locs ht hvm hw hB hz1 hk1 hS => ?_)
      refine Exists.elim hB (fun u_cl_3 hB1 => Exists.elim hB1 (fun u_bo_4 hB2 => Exists.elim hB2 (fun u_f_sa_5 hB3 => Exists.elim hB3 (fun u_f_fi_6 hB4 => ?_))))
      have h_7 := hB4.1
      have h_8 := hB4.2.1
      have h_9 := hB4.2.2.1
      have hP1 := hB4.2.2.2.1
      have hD1 := hB4.2.2.2.2
      clear hB hB1 hB2 hB3 hB4
      rw [ht] at hP1
      obtain ⟨hP, hD⟩ := va_join (wr := []) (w1 := [(h0, .inr (9, [.int (zI fa), .int (zI tc), .ref so, .ref sl, .ref ce, .int (zI fn), .ref kd, .ref wd, .ref hs, .ref pf, .ref lt, .int (zI mn), .ref wg, .int (zI ta), .long ck, .int (zI at9), .int (zI rfn), .ref rk, .ref rw, .ref rh, .int (zI u_cl_3), .ref sa, .ref fi, .int (zI u_bo_4), .ref ch, .ref cn, .int (zI ad), .int (zI ru), .ref kp, .int (zI dn), .ref rfa])), (wg, .inl (c_wg, 24, .inl f_wg)), (sa, .inl (c_sa, 25, .inl u_f_sa_5)), (fi, .inl (c_fi, 24, .inl u_f_fi_6)), (hs, .inl (c_hs, 4, .inl f_hs))]) hP hD [0, 1, 2, 3, 4] [] ax_X9_enough_1 ax_X9_enough_0 (by decide +kernel) (by decide +kernel) hk1 hFc hP1 hD1
      have hP := ax_X9_enough_2 hP
      have hD := ax_X9_enough_3 hD
      generalize H1 = H at hP hS ⊢
      have hP : va_P D vwCl [(h0, .inr (9, [.int (zI fa), .int (zI tc), .ref so, .ref sl, .ref ce, .int (zI fn), .ref kd, .ref wd, .ref hs, .ref pf, .ref lt, .int (zI mn), .ref wg, .int (zI ta), .long ck, .int (zI at9), .int (zI rfn), .ref rk, .ref rw, .ref rh, .int (zI u_cl_3), .ref sa, .ref fi, .int (zI u_bo_4), .ref ch, .ref cn, .int (zI ad), .int (zI ru), .ref kp, .int (zI dn), .ref rfa])), (wg, .inl (c_wg, 24, .inl f_wg)), (sa, .inl (c_sa, 25, .inl u_f_sa_5)), (fi, .inl (c_fi, 24, .inl u_f_fi_6)), (hs, .inl (c_hs, 4, .inl f_hs))] H := hP
      have hD : va_D A [(h0, .inr (9, [.int (zI fa), .int (zI tc), .ref so, .ref sl, .ref ce, .int (zI fn), .ref kd, .ref wd, .ref hs, .ref pf, .ref lt, .int (zI mn), .ref wg, .int (zI ta), .long ck, .int (zI at9), .int (zI rfn), .ref rk, .ref rw, .ref rh, .int (zI u_cl_3), .ref sa, .ref fi, .int (zI u_bo_4), .ref ch, .ref cn, .int (zI ad), .int (zI ru), .ref kp, .int (zI dn), .ref rfa])), (wg, .inl (c_wg, 24, .inl f_wg)), (sa, .inl (c_sa, 25, .inl u_f_sa_5)), (fi, .inl (c_fi, 24, .inl u_f_fi_6)), (hs, .inl (c_hs, 4, .inl f_hs))] := hD
      refine lv_bipush (v := zI (-9)) hx hb dX9_enough_28 (by decide) ?_
      refine lv_istore_n (lv' := [(2, .int (zI (-9))), (0, .ref h0), (1, .int (zI w))]) hx hb dX9_enough_30 rfl hl (by decide) rfl (fun ls hl => ?_)
      refine lv_iconst (v := zI 0) hx hb dX9_enough_31 rfl ?_
      refine lv_istore_n (lv' := [(3, .int (zI 0)), (2, .int (zI (-9))), (0, .ref h0), (1, .int (zI w))]) hx hb dX9_enough_32 rfl hl (by decide) rfl (fun ls hl => ?_)
      refine k_loopM (I := fun n9 H locs ls => ∃ (jb : Int) (js : Int), n9 = (16 - js).toNat ∧ (rg jb) ∧ (0 ≤ js ∧ js ≤ 16) ∧ va_P D vwCl [(h0, .inr (9, [.int (zI fa), .int (zI tc), .ref so, .ref sl, .ref ce, .int (zI fn), .ref kd, .ref wd, .ref hs, .ref pf, .ref lt, .int (zI mn), .ref wg, .int (zI ta), .long ck, .int (zI at9), .int (zI rfn), .ref rk, .ref rw, .ref rh, .int (zI u_cl_3), .ref sa, .ref fi, .int (zI u_bo_4), .ref ch, .ref cn, .int (zI ad), .int (zI ru), .ref kp, .int (zI dn), .ref rfa])), (wg, .inl (c_wg, 24, .inl f_wg)), (sa, .inl (c_sa, 25, .inl u_f_sa_5)), (fi, .inl (c_fi, 24, .inl u_f_fi_6)), (hs, .inl (c_hs, 4, .inl f_hs))] H ∧ va_D A [(h0, .inr (9, [.int (zI fa), .int (zI tc), .ref so, .ref sl, .ref ce, .int (zI fn), .ref kd, .ref wd, .ref hs, .ref pf, .ref lt, .int (zI mn), .ref wg, .int (zI ta), .long ck, .int (zI at9), .int (zI rfn), .ref rk, .ref rw, .ref rh, .int (zI u_cl_3), .ref sa, .ref fi, .int (zI u_bo_4), .ref ch, .ref cn, .int (zI ad), .int (zI ru), .ref kp, .int (zI dn), .ref rfa])), (wg, .inl (c_wg, 24, .inl f_wg)), (sa, .inl (c_sa, 25, .inl u_f_sa_5)), (fi, .inl (c_fi, 24, .inl u_f_fi_6)), (hs, .inl (c_hs, 4, .inl f_hs))] ∧ va_S A s.heap H locs ∧ lv_has ls 6 [(3, .int (zI js)), (2, .int (zI jb)), (0, .ref h0), (1, .int (zI w))]) ?_ _ ⟨(-9), 0, rfl, (by omega), (by omega), hP, hD, hS, hl⟩
      intro n33 ih33 H locs ls hI
      obtain ⟨jb, js, en33, v_330, v_331, hP, hD, hS, hl⟩ := hI
      refine lv_iload_n hx hb dX9_enough_33 rfl (lv_at hl 0 rfl) ?_
      refine lv_iconst (v := zI 1) hx hb dX9_enough_34 rfl ?_
      refine lv_aload_n hx hb dX9_enough_35 rfl (lv_at hl 2 rfl) ?_
      refine va_get (D := D) (ci := 9) (v := .int (zI fn)) (C := RX9) (T := TX9) (N := 31) hx hb hts (fun _ h9 => List.mem_cons_of_mem _ (List.mem_append_right _ h9)) hown hK hP 0 rfl rfl 5 (by decide) (hts (.fieldLink RX9 74 "FontRunsModel" "fonts" "I") mw_X9_enough_0) (fun _ h9 => h9) rfl dX9_enough_36 ?_
      refine lv_ishl hx hb dX9_enough_39 ?_
      refine kz_any (fun z_10 rz_10 ez_10 => ?_)
      have bz_10 := kshl16 (by omega) rz_10 ez_10
      refine kz_icmp_ge (tgt := 136) hx hb dX9_enough_40 (by decide) (by omega) (by omega) (fun c_11 => ?_) (fun c_11 => ?_)
      · refine lv_iload_n hx hb dX9_enough_136 rfl (lv_at hl 3 rfl) ?_
        refine kz_if_ne (tgt := 147) hx hb dX9_enough_137 (by decide) (by omega) (fun c_12 => ?_) (fun c_12 => ?_)
        · refine lv_iload_n hx hb dX9_enough_147 rfl (lv_at hl 1 rfl) ?_
          have hP9 := hP.sub (ws' := [(h0, .inr (9, [.int (zI fa), .int (zI tc), .ref so, .ref sl, .ref ce, .int (zI fn), .ref kd, .ref wd, .ref hs, .ref pf, .ref lt, .int (zI mn), .ref wg, .int (zI ta), .long ck, .int (zI at9), .int (zI rfn), .ref rk, .ref rw, .ref rh, .int (zI u_cl_3), .ref sa, .ref fi, .int (zI u_bo_4), .ref ch, .ref cn, .int (zI ad), .int (zI ru), .ref kp, .int (zI dn), .ref rfa])), (wg, .inl (c_wg, 24, .inl f_wg)), (sa, .inl (c_sa, 25, .inl u_f_sa_5)), (fi, .inl (c_fi, 24, .inl u_f_fi_6)), (hs, .inl (c_hs, 4, .inl f_hs))]) [0, 1, 2, 3, 4] rfl
          have hD9 := hD.sub (ws' := [(h0, .inr (9, [.int (zI fa), .int (zI tc), .ref so, .ref sl, .ref ce, .int (zI fn), .ref kd, .ref wd, .ref hs, .ref pf, .ref lt, .int (zI mn), .ref wg, .int (zI ta), .long ck, .int (zI at9), .int (zI rfn), .ref rk, .ref rw, .ref rh, .int (zI u_cl_3), .ref sa, .ref fi, .int (zI u_bo_4), .ref ch, .ref cn, .int (zI ad), .int (zI ru), .ref kp, .int (zI dn), .ref rfa])), (wg, .inl (c_wg, 24, .inl f_wg)), (sa, .inl (c_sa, 25, .inl u_f_sa_5)), (fi, .inl (c_fi, 24, .inl u_f_fi_6)), (hs, .inl (c_hs, 4, .inl f_hs))]) [0, 1, 2, 3, 4] (by decide +kernel) rfl
          exact W.iret (v := (zI jb)) hx hb hr (fun t ht hW => kQS_of (by omega) ⟨u_cl_3, u_bo_4, u_f_sa_5, u_f_fi_6, (by omega), h_8, by rw [ht]; exact hP9, hD9⟩ (hS.F ht)) hS.2.2 dX9_enough_148
        · refine lv_iload_n hx hb dX9_enough_140 rfl (lv_at hl 1 rfl) ?_
          refine k_callP (va_runS (As := [.int (zI jb)]) (rest := []) ⟨hx, hb, hml, hown, hts⟩ (c_X9_size l D H.size (x := jb) v_330) (va_cwS 1 hts gX9_enough_X9_size rfl rfl rfl (by decide +kernel) ⟨Nat.le_of_ble_eq_true rfl, Nat.le_of_ble_eq_true rfl⟩) (kPreS hP (kD0 hD) hK hN [] [] ax_X9_enough_0 rfl (by decide +kernel)) rfl rfl hl.1 rfl (lv_room (Nat.le_of_ble_eq_true rfl)) dX9_enough_141 ⟨Nat.le_of_ble_eq_true rfl, Nat.le_of_ble_eq_true rfl⟩) (fun z_13 rz_13 h_14 => ?_)
          refine lv_goto (tgt := 148) hx hb dX9_enough_144 (by decide) ?_
          have hP9 := hP.sub (ws' := [(h0, .inr (9, [.int (zI fa), .int (zI tc), .ref so, .ref sl, .ref ce, .int (zI fn), .ref kd, .ref wd, .ref hs, .ref pf, .ref lt, .int (zI mn), .ref wg, .int (zI ta), .long ck, .int (zI at9), .int (zI rfn), .ref rk, .ref rw, .ref rh, .int (zI u_cl_3), .ref sa, .ref fi, .int (zI u_bo_4), .ref ch, .ref cn, .int (zI ad), .int (zI ru), .ref kp, .int (zI dn), .ref rfa])), (wg, .inl (c_wg, 24, .inl f_wg)), (sa, .inl (c_sa, 25, .inl u_f_sa_5)), (fi, .inl (c_fi, 24, .inl u_f_fi_6)), (hs, .inl (c_hs, 4, .inl f_hs))]) [0, 1, 2, 3, 4] rfl
          have hD9 := hD.sub (ws' := [(h0, .inr (9, [.int (zI fa), .int (zI tc), .ref so, .ref sl, .ref ce, .int (zI fn), .ref kd, .ref wd, .ref hs, .ref pf, .ref lt, .int (zI mn), .ref wg, .int (zI ta), .long ck, .int (zI at9), .int (zI rfn), .ref rk, .ref rw, .ref rh, .int (zI u_cl_3), .ref sa, .ref fi, .int (zI u_bo_4), .ref ch, .ref cn, .int (zI ad), .int (zI ru), .ref kp, .int (zI dn), .ref rfa])), (wg, .inl (c_wg, 24, .inl f_wg)), (sa, .inl (c_sa, 25, .inl u_f_sa_5)), (fi, .inl (c_fi, 24, .inl u_f_fi_6)), (hs, .inl (c_hs, 4, .inl f_hs))]) [0, 1, 2, 3, 4] (by decide +kernel) rfl
          exact W.iret (v := (zI z_13)) hx hb hr (fun t ht hW => kQS_of (by omega) ⟨u_cl_3, u_bo_4, u_f_sa_5, u_f_fi_6, (by omega), h_8, by rw [ht]; exact hP9, hD9⟩ (hS.F ht)) hS.2.2 dX9_enough_148
      · refine lv_iload_n hx hb dX9_enough_43 rfl (lv_at hl 1 rfl) ?_
        refine lv_bipush (v := zI (-9)) hx hb dX9_enough_44 (by decide) ?_
        refine kz_icmp_eq (tgt := 60) hx hb dX9_enough_46 (by decide) (by omega) (by omega) (fun c_15 => ?_) (fun c_15 => ?_)
        · refine lv_iconst (v := zI 1) hx hb dX9_enough_60 rfl ?_
          refine lv_goto (tgt := 65) hx hb dX9_enough_61 (by decide) ?_
          refine lv_istore (lv' := [(4, .int (zI 1)), (3, .int (zI js)), (2, .int (zI jb)), (0, .ref h0), (1, .int (zI w))]) hx hb dX9_enough_65 hl (by decide) rfl (fun ls hl => ?_)
          refine lv_iconst (v := zI 0) hx hb dX9_enough_67 rfl ?_
          refine lv_istore (lv' := [(5, .int (zI 0)), (4, .int (zI 1)), (3, .int (zI js)), (2, .int (zI jb)), (0, .ref h0), (1, .int (zI w))]) hx hb dX9_enough_68 hl (by decide) rfl (fun ls hl => ?_)
          refine k_loopM (I := fun n9 H locs ls => ∃ (jw : Int) (jc : Int), n9 = (u_cl_3 - jc).toNat ∧ (jw = 0 ∨ jw = 1) ∧ (0 ≤ jc ∧ jc ≤ u_cl_3) ∧ va_P D vwCl [(h0, .inr (9, [.int (zI fa), .int (zI tc), .ref so, .ref sl, .ref ce, .int (zI fn), .ref kd, .ref wd, .ref hs, .ref pf, .ref lt, .int (zI mn), .ref wg, .int (zI ta), .long ck, .int (zI at9), .int (zI rfn), .ref rk, .ref rw, .ref rh, .int (zI u_cl_3), .ref sa, .ref fi, .int (zI u_bo_4), .ref ch, .ref cn, .int (zI ad), .int (zI ru), .ref kp, .int (zI dn), .ref rfa])), (wg, .inl (c_wg, 24, .inl f_wg)), (sa, .inl (c_sa, 25, .inl u_f_sa_5)), (fi, .inl (c_fi, 24, .inl u_f_fi_6)), (hs, .inl (c_hs, 4, .inl f_hs))] H ∧ va_D A [(h0, .inr (9, [.int (zI fa), .int (zI tc), .ref so, .ref sl, .ref ce, .int (zI fn), .ref kd, .ref wd, .ref hs, .ref pf, .ref lt, .int (zI mn), .ref wg, .int (zI ta), .long ck, .int (zI at9), .int (zI rfn), .ref rk, .ref rw, .ref rh, .int (zI u_cl_3), .ref sa, .ref fi, .int (zI u_bo_4), .ref ch, .ref cn, .int (zI ad), .int (zI ru), .ref kp, .int (zI dn), .ref rfa])), (wg, .inl (c_wg, 24, .inl f_wg)), (sa, .inl (c_sa, 25, .inl u_f_sa_5)), (fi, .inl (c_fi, 24, .inl u_f_fi_6)), (hs, .inl (c_hs, 4, .inl f_hs))] ∧ va_S A s.heap H locs ∧ lv_has ls 6 [(5, .int (zI jc)), (4, .int (zI jw)), (3, .int (zI js)), (2, .int (zI jb)), (0, .ref h0), (1, .int (zI w))]) ?_ _ ⟨1, 0, rfl, (by omega), (by omega), hP, hD, hS, hl⟩
          intro n70 ih70 H locs ls hI
          obtain ⟨jw, jc, en70, v_700, v_701, hP, hD, hS, hl⟩ := hI
          refine lv_iload hx hb dX9_enough_70 (lv_at hl 0 rfl) ?_
          refine lv_aload_n hx hb dX9_enough_72 rfl (lv_at hl 4 rfl) ?_
          refine va_get (D := D) (ci := 9) (v := .int (zI u_cl_3)) (C := RX9) (T := TX9) (N := 31) hx hb hts (fun _ h9 => List.mem_cons_of_mem _ (List.mem_append_right _ h9)) hown hK hP 0 rfl rfl 20 (by decide) (hts (.fieldLink RX9 138 "FontRunsModel" "clusters" "I") mw_X9_enough_1) (fun _ h9 => h9) rfl dX9_enough_73 ?_
          refine kz_icmp_ge (tgt := 119) hx hb dX9_enough_76 (by decide) (by omega) (by omega) (fun c_16 => ?_) (fun c_16 => ?_)
          · refine lv_iload hx hb dX9_enough_119 (lv_at hl 1 rfl) ?_
            refine kz_if_eq (tgt := 128) hx hb dX9_enough_121 (by decide) (by omega) (fun c_17 => ?_) (fun c_17 => ?_)
            · refine lv_iload_n hx hb dX9_enough_128 rfl (lv_at hl 3 rfl) ?_
              refine lv_istore_n (lv' := [(2, .int (zI jb)), (5, .int (zI jc)), (4, .int (zI jw)), (3, .int (zI js)), (0, .ref h0), (1, .int (zI w))]) hx hb dX9_enough_129 rfl hl (by decide) rfl (fun ls hl => ?_)
              refine lv_iinc (v := (zI (js + 1))) (lv' := [(3, .int (zI (js + 1))), (2, .int (zI jb)), (5, .int (zI jc)), (4, .int (zI jw)), (0, .ref h0), (1, .int (zI w))]) hx hb dX9_enough_130 hl (k := 3) rfl (kz_inc _ 1) (by decide) rfl (fun ls hl => ?_)
              refine lv_goto (tgt := 33) hx hb dX9_enough_133 (by decide) ?_
              exact ih33 _ (by omega) _ _ _ ⟨jb, (js + 1), rfl, v_330, (by omega), hP, hD, hS, lv_sub hl [0, 1, 4, 5] rfl⟩
            · refine lv_iload_n hx hb dX9_enough_124 rfl (lv_at hl 2 rfl) ?_
              refine lv_goto (tgt := 129) hx hb dX9_enough_125 (by decide) ?_
              refine lv_istore_n (lv' := [(2, .int (zI js)), (5, .int (zI jc)), (4, .int (zI jw)), (3, .int (zI js)), (0, .ref h0), (1, .int (zI w))]) hx hb dX9_enough_129 rfl hl (by decide) rfl (fun ls hl => ?_)
              refine lv_iinc (v := (zI (js + 1))) (lv' := [(3, .int (zI (js + 1))), (2, .int (zI js)), (5, .int (zI jc)), (4, .int (zI jw)), (0, .ref h0), (1, .int (zI w))]) hx hb dX9_enough_130 hl (k := 3) rfl (kz_inc _ 1) (by decide) rfl (fun ls hl => ?_)
              refine lv_goto (tgt := 33) hx hb dX9_enough_133 (by decide) ?_
              exact ih33 _ (by omega) _ _ _ ⟨js, (js + 1), rfl, (by omega), (by omega), hP, hD, hS, lv_sub hl [0, 1, 4, 5] rfl⟩
          · refine lv_iload hx hb dX9_enough_79 (lv_at hl 1 rfl) ?_
            refine kz_if_eq (tgt := 110) hx hb dX9_enough_81 (by decide) (by omega) (fun c_18 => ?_) (fun c_18 => ?_)
            · refine lv_iconst (v := zI 0) hx hb dX9_enough_110 rfl ?_
              refine lv_istore (lv' := [(4, .int (zI 0)), (5, .int (zI jc)), (3, .int (zI js)), (2, .int (zI jb)), (0, .ref h0), (1, .int (zI w))]) hx hb dX9_enough_111 hl (by decide) rfl (fun ls hl => ?_)
              refine lv_iinc (v := (zI (jc + 1))) (lv' := [(5, .int (zI (jc + 1))), (4, .int (zI 0)), (3, .int (zI js)), (2, .int (zI jb)), (0, .ref h0), (1, .int (zI w))]) hx hb dX9_enough_113 hl (k := 1) rfl (kz_inc _ 1) (by decide) rfl (fun ls hl => ?_)
              refine lv_goto (tgt := 70) hx hb dX9_enough_116 (by decide) ?_
              exact ih70 _ (by omega) _ _ _ ⟨0, (jc + 1), rfl, (by omega), (by omega), hP, hD, hS, lv_sub hl [0, 1, 2, 3, 4, 5] rfl⟩
            · refine lv_aload_n hx hb dX9_enough_84 rfl (lv_at hl 4 rfl) ?_
              refine va_get (D := D) (ci := 9) (v := .ref fi) (C := RX9) (T := TX9) (N := 31) hx hb hts (fun _ h9 => List.mem_cons_of_mem _ (List.mem_append_right _ h9)) hown hK hP 0 rfl rfl 22 (by decide) (hts (.fieldLink RX9 49 "FontRunsModel" "fits" "[I") mw_X9_enough_2) (fun _ h9 => h9) rfl dX9_enough_85 ?_
              refine lv_iload hx hb dX9_enough_88 (lv_at hl 0 rfl) ?_
              refine kz_iald hx hb hK hP 3 2 rfl rfl (by omega) dX9_enough_90 (fun z_19 rz_19 ez_19 => ?_)
              refine kz_if_eq (tgt := 106) hx hb dX9_enough_91 (by decide) (by omega) (fun c_20 => ?_) (fun c_20 => ?_)
              · refine lv_iconst (v := zI 1) hx hb dX9_enough_106 rfl ?_
                refine lv_goto (tgt := 111) hx hb dX9_enough_107 (by decide) ?_
                refine lv_istore (lv' := [(4, .int (zI 1)), (5, .int (zI jc)), (3, .int (zI js)), (2, .int (zI jb)), (0, .ref h0), (1, .int (zI w))]) hx hb dX9_enough_111 hl (by decide) rfl (fun ls hl => ?_)
                refine lv_iinc (v := (zI (jc + 1))) (lv' := [(5, .int (zI (jc + 1))), (4, .int (zI 1)), (3, .int (zI js)), (2, .int (zI jb)), (0, .ref h0), (1, .int (zI w))]) hx hb dX9_enough_113 hl (k := 1) rfl (kz_inc _ 1) (by decide) rfl (fun ls hl => ?_)
                refine lv_goto (tgt := 70) hx hb dX9_enough_116 (by decide) ?_
                exact ih70 _ (by omega) _ _ _ ⟨1, (jc + 1), rfl, (by omega), (by omega), hP, hD, hS, lv_sub hl [0, 1, 2, 3, 4, 5] rfl⟩
              · refine lv_aload_n hx hb dX9_enough_94 rfl (lv_at hl 4 rfl) ?_
                refine va_get (D := D) (ci := 9) (v := .ref fi) (C := RX9) (T := TX9) (N := 31) hx hb hts (fun _ h9 => List.mem_cons_of_mem _ (List.mem_append_right _ h9)) hown hK hP 0 rfl rfl 22 (by decide) (hts (.fieldLink RX9 49 "FontRunsModel" "fits" "[I") mw_X9_enough_2) (fun _ h9 => h9) rfl dX9_enough_95 ?_
                refine lv_iload hx hb dX9_enough_98 (lv_at hl 0 rfl) ?_
                refine kz_iald hx hb hK hP 3 2 rfl rfl (by omega) dX9_enough_100 (fun z_21 rz_21 ez_21 => ?_)
                have q9 : z_19 = z_21 := (zI_eq rz_19 rz_21).mp (ez_19.symm.trans ez_21)
                subst q9
                refine lv_iload_n hx hb dX9_enough_101 rfl (lv_at hl 2 rfl) ?_
                refine lv_iand hx hb dX9_enough_102 ?_
                refine kz_any (fun z_22 rz_22 ez_22 => ?_)
                refine kz_if_eq (tgt := 110) hx hb dX9_enough_103 (by decide) (by omega) (fun c_23 => ?_) (fun c_23 => ?_)
                · refine lv_iconst (v := zI 0) hx hb dX9_enough_110 rfl ?_
                  refine lv_istore (lv' := [(4, .int (zI 0)), (5, .int (zI jc)), (3, .int (zI js)), (2, .int (zI jb)), (0, .ref h0), (1, .int (zI w))]) hx hb dX9_enough_111 hl (by decide) rfl (fun ls hl => ?_)
                  refine lv_iinc (v := (zI (jc + 1))) (lv' := [(5, .int (zI (jc + 1))), (4, .int (zI 0)), (3, .int (zI js)), (2, .int (zI jb)), (0, .ref h0), (1, .int (zI w))]) hx hb dX9_enough_113 hl (k := 1) rfl (kz_inc _ 1) (by decide) rfl (fun ls hl => ?_)
                  refine lv_goto (tgt := 70) hx hb dX9_enough_116 (by decide) ?_
                  exact ih70 _ (by omega) _ _ _ ⟨0, (jc + 1), rfl, (by omega), (by omega), hP, hD, hS, lv_sub hl [0, 1, 2, 3, 4, 5] rfl⟩
                · refine lv_iconst (v := zI 1) hx hb dX9_enough_106 rfl ?_
                  refine lv_goto (tgt := 111) hx hb dX9_enough_107 (by decide) ?_
                  refine lv_istore (lv' := [(4, .int (zI 1)), (5, .int (zI jc)), (3, .int (zI js)), (2, .int (zI jb)), (0, .ref h0), (1, .int (zI w))]) hx hb dX9_enough_111 hl (by decide) rfl (fun ls hl => ?_)
                  refine lv_iinc (v := (zI (jc + 1))) (lv' := [(5, .int (zI (jc + 1))), (4, .int (zI 1)), (3, .int (zI js)), (2, .int (zI jb)), (0, .ref h0), (1, .int (zI w))]) hx hb dX9_enough_113 hl (k := 1) rfl (kz_inc _ 1) (by decide) rfl (fun ls hl => ?_)
                  refine lv_goto (tgt := 70) hx hb dX9_enough_116 (by decide) ?_
                  exact ih70 _ (by omega) _ _ _ ⟨1, (jc + 1), rfl, (by omega), (by omega), hP, hD, hS, lv_sub hl [0, 1, 2, 3, 4, 5] rfl⟩
        · refine lv_iload_n hx hb dX9_enough_49 rfl (lv_at hl 0 rfl) ?_
          refine k_callP (va_runS (As := [.int (zI js)]) (rest := []) ⟨hx, hb, hml, hown, hts⟩ (c_X9_size l D H.size (x := js) (by omega)) (va_cwS 1 hts gX9_enough_X9_size rfl rfl rfl (by decide +kernel) ⟨Nat.le_of_ble_eq_true rfl, Nat.le_of_ble_eq_true rfl⟩) (kPreS hP (kD0 hD) hK hN [] [] ax_X9_enough_0 rfl (by decide +kernel)) rfl rfl hl.1 rfl (lv_room (Nat.le_of_ble_eq_true rfl)) dX9_enough_50 ⟨Nat.le_of_ble_eq_true rfl, Nat.le_of_ble_eq_true rfl⟩) (fun z_24 rz_24 h_25 => ?_)
          refine lv_iload_n hx hb dX9_enough_53 rfl (lv_at hl 1 rfl) ?_
          refine k_callP (va_runS (As := [.int (zI jb)]) (rest := [.int (zI z_24)]) ⟨hx, hb, hml, hown, hts⟩ (c_X9_size l D H.size (x := jb) v_330) (va_cwS 1 hts gX9_enough_X9_size rfl rfl rfl (by decide +kernel) ⟨Nat.le_of_ble_eq_true rfl, Nat.le_of_ble_eq_true rfl⟩) (kPreS hP (kD0 hD) hK hN [] [] ax_X9_enough_0 rfl (by decide +kernel)) rfl rfl hl.1 rfl (lv_room (Nat.le_of_ble_eq_true rfl)) dX9_enough_54 ⟨Nat.le_of_ble_eq_true rfl, Nat.le_of_ble_eq_true rfl⟩) (fun z_26 rz_26 h_27 => ?_)
          refine kz_icmp_ge (tgt := 64) hx hb dX9_enough_57 (by decide) (by omega) (by omega) (fun c_28 => ?_) (fun c_28 => ?_)
          · refine lv_iconst (v := zI 0) hx hb dX9_enough_64 rfl ?_
            refine lv_istore (lv' := [(4, .int (zI 0)), (3, .int (zI js)), (2, .int (zI jb)), (0, .ref h0), (1, .int (zI w))]) hx hb dX9_enough_65 hl (by decide) rfl (fun ls hl => ?_)
            refine lv_iconst (v := zI 0) hx hb dX9_enough_67 rfl ?_
            refine lv_istore (lv' := [(5, .int (zI 0)), (4, .int (zI 0)), (3, .int (zI js)), (2, .int (zI jb)), (0, .ref h0), (1, .int (zI w))]) hx hb dX9_enough_68 hl (by decide) rfl (fun ls hl => ?_)
            refine k_loopM (I := fun n9 H locs ls => ∃ (jw : Int) (jc : Int), n9 = (u_cl_3 - jc).toNat ∧ (jw = 0 ∨ jw = 1) ∧ (0 ≤ jc ∧ jc ≤ u_cl_3) ∧ va_P D vwCl [(h0, .inr (9, [.int (zI fa), .int (zI tc), .ref so, .ref sl, .ref ce, .int (zI fn), .ref kd, .ref wd, .ref hs, .ref pf, .ref lt, .int (zI mn), .ref wg, .int (zI ta), .long ck, .int (zI at9), .int (zI rfn), .ref rk, .ref rw, .ref rh, .int (zI u_cl_3), .ref sa, .ref fi, .int (zI u_bo_4), .ref ch, .ref cn, .int (zI ad), .int (zI ru), .ref kp, .int (zI dn), .ref rfa])), (wg, .inl (c_wg, 24, .inl f_wg)), (sa, .inl (c_sa, 25, .inl u_f_sa_5)), (fi, .inl (c_fi, 24, .inl u_f_fi_6)), (hs, .inl (c_hs, 4, .inl f_hs))] H ∧ va_D A [(h0, .inr (9, [.int (zI fa), .int (zI tc), .ref so, .ref sl, .ref ce, .int (zI fn), .ref kd, .ref wd, .ref hs, .ref pf, .ref lt, .int (zI mn), .ref wg, .int (zI ta), .long ck, .int (zI at9), .int (zI rfn), .ref rk, .ref rw, .ref rh, .int (zI u_cl_3), .ref sa, .ref fi, .int (zI u_bo_4), .ref ch, .ref cn, .int (zI ad), .int (zI ru), .ref kp, .int (zI dn), .ref rfa])), (wg, .inl (c_wg, 24, .inl f_wg)), (sa, .inl (c_sa, 25, .inl u_f_sa_5)), (fi, .inl (c_fi, 24, .inl u_f_fi_6)), (hs, .inl (c_hs, 4, .inl f_hs))] ∧ va_S A s.heap H locs ∧ lv_has ls 6 [(5, .int (zI jc)), (4, .int (zI jw)), (3, .int (zI js)), (2, .int (zI jb)), (0, .ref h0), (1, .int (zI w))]) ?_ _ ⟨0, 0, rfl, (by omega), (by omega), hP, hD, hS, hl⟩
            intro n70 ih70 H locs ls hI
            obtain ⟨jw, jc, en70, v_700, v_701, hP, hD, hS, hl⟩ := hI
            refine lv_iload hx hb dX9_enough_70 (lv_at hl 0 rfl) ?_
            refine lv_aload_n hx hb dX9_enough_72 rfl (lv_at hl 4 rfl) ?_
            refine va_get (D := D) (ci := 9) (v := .int (zI u_cl_3)) (C := RX9) (T := TX9) (N := 31) hx hb hts (fun _ h9 => List.mem_cons_of_mem _ (List.mem_append_right _ h9)) hown hK hP 0 rfl rfl 20 (by decide) (hts (.fieldLink RX9 138 "FontRunsModel" "clusters" "I") mw_X9_enough_1) (fun _ h9 => h9) rfl dX9_enough_73 ?_
            refine kz_icmp_ge (tgt := 119) hx hb dX9_enough_76 (by decide) (by omega) (by omega) (fun c_29 => ?_) (fun c_29 => ?_)
            · refine lv_iload hx hb dX9_enough_119 (lv_at hl 1 rfl) ?_
              refine kz_if_eq (tgt := 128) hx hb dX9_enough_121 (by decide) (by omega) (fun c_30 => ?_) (fun c_30 => ?_)
              · refine lv_iload_n hx hb dX9_enough_128 rfl (lv_at hl 3 rfl) ?_
                refine lv_istore_n (lv' := [(2, .int (zI jb)), (5, .int (zI jc)), (4, .int (zI jw)), (3, .int (zI js)), (0, .ref h0), (1, .int (zI w))]) hx hb dX9_enough_129 rfl hl (by decide) rfl (fun ls hl => ?_)
                refine lv_iinc (v := (zI (js + 1))) (lv' := [(3, .int (zI (js + 1))), (2, .int (zI jb)), (5, .int (zI jc)), (4, .int (zI jw)), (0, .ref h0), (1, .int (zI w))]) hx hb dX9_enough_130 hl (k := 3) rfl (kz_inc _ 1) (by decide) rfl (fun ls hl => ?_)
                refine lv_goto (tgt := 33) hx hb dX9_enough_133 (by decide) ?_
                exact ih33 _ (by omega) _ _ _ ⟨jb, (js + 1), rfl, v_330, (by omega), hP, hD, hS, lv_sub hl [0, 1, 4, 5] rfl⟩
              · refine lv_iload_n hx hb dX9_enough_124 rfl (lv_at hl 2 rfl) ?_
                refine lv_goto (tgt := 129) hx hb dX9_enough_125 (by decide) ?_
                refine lv_istore_n (lv' := [(2, .int (zI js)), (5, .int (zI jc)), (4, .int (zI jw)), (3, .int (zI js)), (0, .ref h0), (1, .int (zI w))]) hx hb dX9_enough_129 rfl hl (by decide) rfl (fun ls hl => ?_)
                refine lv_iinc (v := (zI (js + 1))) (lv' := [(3, .int (zI (js + 1))), (2, .int (zI js)), (5, .int (zI jc)), (4, .int (zI jw)), (0, .ref h0), (1, .int (zI w))]) hx hb dX9_enough_130 hl (k := 3) rfl (kz_inc _ 1) (by decide) rfl (fun ls hl => ?_)
                refine lv_goto (tgt := 33) hx hb dX9_enough_133 (by decide) ?_
                exact ih33 _ (by omega) _ _ _ ⟨js, (js + 1), rfl, (by omega), (by omega), hP, hD, hS, lv_sub hl [0, 1, 4, 5] rfl⟩
            · refine lv_iload hx hb dX9_enough_79 (lv_at hl 1 rfl) ?_
              refine kz_if_eq (tgt := 110) hx hb dX9_enough_81 (by decide) (by omega) (fun c_31 => ?_) (fun c_31 => ?_)
              · refine lv_iconst (v := zI 0) hx hb dX9_enough_110 rfl ?_
                refine lv_istore (lv' := [(4, .int (zI 0)), (5, .int (zI jc)), (3, .int (zI js)), (2, .int (zI jb)), (0, .ref h0), (1, .int (zI w))]) hx hb dX9_enough_111 hl (by decide) rfl (fun ls hl => ?_)
                refine lv_iinc (v := (zI (jc + 1))) (lv' := [(5, .int (zI (jc + 1))), (4, .int (zI 0)), (3, .int (zI js)), (2, .int (zI jb)), (0, .ref h0), (1, .int (zI w))]) hx hb dX9_enough_113 hl (k := 1) rfl (kz_inc _ 1) (by decide) rfl (fun ls hl => ?_)
                refine lv_goto (tgt := 70) hx hb dX9_enough_116 (by decide) ?_
                exact ih70 _ (by omega) _ _ _ ⟨0, (jc + 1), rfl, (by omega), (by omega), hP, hD, hS, lv_sub hl [0, 1, 2, 3, 4, 5] rfl⟩
              · refine lv_aload_n hx hb dX9_enough_84 rfl (lv_at hl 4 rfl) ?_
                refine va_get (D := D) (ci := 9) (v := .ref fi) (C := RX9) (T := TX9) (N := 31) hx hb hts (fun _ h9 => List.mem_cons_of_mem _ (List.mem_append_right _ h9)) hown hK hP 0 rfl rfl 22 (by decide) (hts (.fieldLink RX9 49 "FontRunsModel" "fits" "[I") mw_X9_enough_2) (fun _ h9 => h9) rfl dX9_enough_85 ?_
                refine lv_iload hx hb dX9_enough_88 (lv_at hl 0 rfl) ?_
                refine kz_iald hx hb hK hP 3 2 rfl rfl (by omega) dX9_enough_90 (fun z_32 rz_32 ez_32 => ?_)
                refine kz_if_eq (tgt := 106) hx hb dX9_enough_91 (by decide) (by omega) (fun c_33 => ?_) (fun c_33 => ?_)
                · refine lv_iconst (v := zI 1) hx hb dX9_enough_106 rfl ?_
                  refine lv_goto (tgt := 111) hx hb dX9_enough_107 (by decide) ?_
                  refine lv_istore (lv' := [(4, .int (zI 1)), (5, .int (zI jc)), (3, .int (zI js)), (2, .int (zI jb)), (0, .ref h0), (1, .int (zI w))]) hx hb dX9_enough_111 hl (by decide) rfl (fun ls hl => ?_)
                  refine lv_iinc (v := (zI (jc + 1))) (lv' := [(5, .int (zI (jc + 1))), (4, .int (zI 1)), (3, .int (zI js)), (2, .int (zI jb)), (0, .ref h0), (1, .int (zI w))]) hx hb dX9_enough_113 hl (k := 1) rfl (kz_inc _ 1) (by decide) rfl (fun ls hl => ?_)
                  refine lv_goto (tgt := 70) hx hb dX9_enough_116 (by decide) ?_
                  exact ih70 _ (by omega) _ _ _ ⟨1, (jc + 1), rfl, (by omega), (by omega), hP, hD, hS, lv_sub hl [0, 1, 2, 3, 4, 5] rfl⟩
                · refine lv_aload_n hx hb dX9_enough_94 rfl (lv_at hl 4 rfl) ?_
                  refine va_get (D := D) (ci := 9) (v := .ref fi) (C := RX9) (T := TX9) (N := 31) hx hb hts (fun _ h9 => List.mem_cons_of_mem _ (List.mem_append_right _ h9)) hown hK hP 0 rfl rfl 22 (by decide) (hts (.fieldLink RX9 49 "FontRunsModel" "fits" "[I") mw_X9_enough_2) (fun _ h9 => h9) rfl dX9_enough_95 ?_
                  refine lv_iload hx hb dX9_enough_98 (lv_at hl 0 rfl) ?_
                  refine kz_iald hx hb hK hP 3 2 rfl rfl (by omega) dX9_enough_100 (fun z_34 rz_34 ez_34 => ?_)
                  have q9 : z_32 = z_34 := (zI_eq rz_32 rz_34).mp (ez_32.symm.trans ez_34)
                  subst q9
                  refine lv_iload_n hx hb dX9_enough_101 rfl (lv_at hl 2 rfl) ?_
                  refine lv_iand hx hb dX9_enough_102 ?_
                  refine kz_any (fun z_35 rz_35 ez_35 => ?_)
                  refine kz_if_eq (tgt := 110) hx hb dX9_enough_103 (by decide) (by omega) (fun c_36 => ?_) (fun c_36 => ?_)
                  · refine lv_iconst (v := zI 0) hx hb dX9_enough_110 rfl ?_
                    refine lv_istore (lv' := [(4, .int (zI 0)), (5, .int (zI jc)), (3, .int (zI js)), (2, .int (zI jb)), (0, .ref h0), (1, .int (zI w))]) hx hb dX9_enough_111 hl (by decide) rfl (fun ls hl => ?_)
                    refine lv_iinc (v := (zI (jc + 1))) (lv' := [(5, .int (zI (jc + 1))), (4, .int (zI 0)), (3, .int (zI js)), (2, .int (zI jb)), (0, .ref h0), (1, .int (zI w))]) hx hb dX9_enough_113 hl (k := 1) rfl (kz_inc _ 1) (by decide) rfl (fun ls hl => ?_)
                    refine lv_goto (tgt := 70) hx hb dX9_enough_116 (by decide) ?_
                    exact ih70 _ (by omega) _ _ _ ⟨0, (jc + 1), rfl, (by omega), (by omega), hP, hD, hS, lv_sub hl [0, 1, 2, 3, 4, 5] rfl⟩
                  · refine lv_iconst (v := zI 1) hx hb dX9_enough_106 rfl ?_
                    refine lv_goto (tgt := 111) hx hb dX9_enough_107 (by decide) ?_
                    refine lv_istore (lv' := [(4, .int (zI 1)), (5, .int (zI jc)), (3, .int (zI js)), (2, .int (zI jb)), (0, .ref h0), (1, .int (zI w))]) hx hb dX9_enough_111 hl (by decide) rfl (fun ls hl => ?_)
                    refine lv_iinc (v := (zI (jc + 1))) (lv' := [(5, .int (zI (jc + 1))), (4, .int (zI 1)), (3, .int (zI js)), (2, .int (zI jb)), (0, .ref h0), (1, .int (zI w))]) hx hb dX9_enough_113 hl (k := 1) rfl (kz_inc _ 1) (by decide) rfl (fun ls hl => ?_)
                    refine lv_goto (tgt := 70) hx hb dX9_enough_116 (by decide) ?_
                    exact ih70 _ (by omega) _ _ _ ⟨1, (jc + 1), rfl, (by omega), (by omega), hP, hD, hS, lv_sub hl [0, 1, 2, 3, 4, 5] rfl⟩
          · refine lv_iconst (v := zI 1) hx hb dX9_enough_60 rfl ?_
            refine lv_goto (tgt := 65) hx hb dX9_enough_61 (by decide) ?_
            refine lv_istore (lv' := [(4, .int (zI 1)), (3, .int (zI js)), (2, .int (zI jb)), (0, .ref h0), (1, .int (zI w))]) hx hb dX9_enough_65 hl (by decide) rfl (fun ls hl => ?_)
            refine lv_iconst (v := zI 0) hx hb dX9_enough_67 rfl ?_
            refine lv_istore (lv' := [(5, .int (zI 0)), (4, .int (zI 1)), (3, .int (zI js)), (2, .int (zI jb)), (0, .ref h0), (1, .int (zI w))]) hx hb dX9_enough_68 hl (by decide) rfl (fun ls hl => ?_)
            refine k_loopM (I := fun n9 H locs ls => ∃ (jw : Int) (jc : Int), n9 = (u_cl_3 - jc).toNat ∧ (jw = 0 ∨ jw = 1) ∧ (0 ≤ jc ∧ jc ≤ u_cl_3) ∧ va_P D vwCl [(h0, .inr (9, [.int (zI fa), .int (zI tc), .ref so, .ref sl, .ref ce, .int (zI fn), .ref kd, .ref wd, .ref hs, .ref pf, .ref lt, .int (zI mn), .ref wg, .int (zI ta), .long ck, .int (zI at9), .int (zI rfn), .ref rk, .ref rw, .ref rh, .int (zI u_cl_3), .ref sa, .ref fi, .int (zI u_bo_4), .ref ch, .ref cn, .int (zI ad), .int (zI ru), .ref kp, .int (zI dn), .ref rfa])), (wg, .inl (c_wg, 24, .inl f_wg)), (sa, .inl (c_sa, 25, .inl u_f_sa_5)), (fi, .inl (c_fi, 24, .inl u_f_fi_6)), (hs, .inl (c_hs, 4, .inl f_hs))] H ∧ va_D A [(h0, .inr (9, [.int (zI fa), .int (zI tc), .ref so, .ref sl, .ref ce, .int (zI fn), .ref kd, .ref wd, .ref hs, .ref pf, .ref lt, .int (zI mn), .ref wg, .int (zI ta), .long ck, .int (zI at9), .int (zI rfn), .ref rk, .ref rw, .ref rh, .int (zI u_cl_3), .ref sa, .ref fi, .int (zI u_bo_4), .ref ch, .ref cn, .int (zI ad), .int (zI ru), .ref kp, .int (zI dn), .ref rfa])), (wg, .inl (c_wg, 24, .inl f_wg)), (sa, .inl (c_sa, 25, .inl u_f_sa_5)), (fi, .inl (c_fi, 24, .inl u_f_fi_6)), (hs, .inl (c_hs, 4, .inl f_hs))] ∧ va_S A s.heap H locs ∧ lv_has ls 6 [(5, .int (zI jc)), (4, .int (zI jw)), (3, .int (zI js)), (2, .int (zI jb)), (0, .ref h0), (1, .int (zI w))]) ?_ _ ⟨1, 0, rfl, (by omega), (by omega), hP, hD, hS, hl⟩
            intro n70 ih70 H locs ls hI
            obtain ⟨jw, jc, en70, v_700, v_701, hP, hD, hS, hl⟩ := hI
            refine lv_iload hx hb dX9_enough_70 (lv_at hl 0 rfl) ?_
            refine lv_aload_n hx hb dX9_enough_72 rfl (lv_at hl 4 rfl) ?_
            refine va_get (D := D) (ci := 9) (v := .int (zI u_cl_3)) (C := RX9) (T := TX9) (N := 31) hx hb hts (fun _ h9 => List.mem_cons_of_mem _ (List.mem_append_right _ h9)) hown hK hP 0 rfl rfl 20 (by decide) (hts (.fieldLink RX9 138 "FontRunsModel" "clusters" "I") mw_X9_enough_1) (fun _ h9 => h9) rfl dX9_enough_73 ?_
            refine kz_icmp_ge (tgt := 119) hx hb dX9_enough_76 (by decide) (by omega) (by omega) (fun c_37 => ?_) (fun c_37 => ?_)
            · refine lv_iload hx hb dX9_enough_119 (lv_at hl 1 rfl) ?_
              refine kz_if_eq (tgt := 128) hx hb dX9_enough_121 (by decide) (by omega) (fun c_38 => ?_) (fun c_38 => ?_)
              · refine lv_iload_n hx hb dX9_enough_128 rfl (lv_at hl 3 rfl) ?_
                refine lv_istore_n (lv' := [(2, .int (zI jb)), (5, .int (zI jc)), (4, .int (zI jw)), (3, .int (zI js)), (0, .ref h0), (1, .int (zI w))]) hx hb dX9_enough_129 rfl hl (by decide) rfl (fun ls hl => ?_)
                refine lv_iinc (v := (zI (js + 1))) (lv' := [(3, .int (zI (js + 1))), (2, .int (zI jb)), (5, .int (zI jc)), (4, .int (zI jw)), (0, .ref h0), (1, .int (zI w))]) hx hb dX9_enough_130 hl (k := 3) rfl (kz_inc _ 1) (by decide) rfl (fun ls hl => ?_)
                refine lv_goto (tgt := 33) hx hb dX9_enough_133 (by decide) ?_
                exact ih33 _ (by omega) _ _ _ ⟨jb, (js + 1), rfl, v_330, (by omega), hP, hD, hS, lv_sub hl [0, 1, 4, 5] rfl⟩
              · refine lv_iload_n hx hb dX9_enough_124 rfl (lv_at hl 2 rfl) ?_
                refine lv_goto (tgt := 129) hx hb dX9_enough_125 (by decide) ?_
                refine lv_istore_n (lv' := [(2, .int (zI js)), (5, .int (zI jc)), (4, .int (zI jw)), (3, .int (zI js)), (0, .ref h0), (1, .int (zI w))]) hx hb dX9_enough_129 rfl hl (by decide) rfl (fun ls hl => ?_)
                refine lv_iinc (v := (zI (js + 1))) (lv' := [(3, .int (zI (js + 1))), (2, .int (zI js)), (5, .int (zI jc)), (4, .int (zI jw)), (0, .ref h0), (1, .int (zI w))]) hx hb dX9_enough_130 hl (k := 3) rfl (kz_inc _ 1) (by decide) rfl (fun ls hl => ?_)
                refine lv_goto (tgt := 33) hx hb dX9_enough_133 (by decide) ?_
                exact ih33 _ (by omega) _ _ _ ⟨js, (js + 1), rfl, (by omega), (by omega), hP, hD, hS, lv_sub hl [0, 1, 4, 5] rfl⟩
            · refine lv_iload hx hb dX9_enough_79 (lv_at hl 1 rfl) ?_
              refine kz_if_eq (tgt := 110) hx hb dX9_enough_81 (by decide) (by omega) (fun c_39 => ?_) (fun c_39 => ?_)
              · refine lv_iconst (v := zI 0) hx hb dX9_enough_110 rfl ?_
                refine lv_istore (lv' := [(4, .int (zI 0)), (5, .int (zI jc)), (3, .int (zI js)), (2, .int (zI jb)), (0, .ref h0), (1, .int (zI w))]) hx hb dX9_enough_111 hl (by decide) rfl (fun ls hl => ?_)
                refine lv_iinc (v := (zI (jc + 1))) (lv' := [(5, .int (zI (jc + 1))), (4, .int (zI 0)), (3, .int (zI js)), (2, .int (zI jb)), (0, .ref h0), (1, .int (zI w))]) hx hb dX9_enough_113 hl (k := 1) rfl (kz_inc _ 1) (by decide) rfl (fun ls hl => ?_)
                refine lv_goto (tgt := 70) hx hb dX9_enough_116 (by decide) ?_
                exact ih70 _ (by omega) _ _ _ ⟨0, (jc + 1), rfl, (by omega), (by omega), hP, hD, hS, lv_sub hl [0, 1, 2, 3, 4, 5] rfl⟩
              · refine lv_aload_n hx hb dX9_enough_84 rfl (lv_at hl 4 rfl) ?_
                refine va_get (D := D) (ci := 9) (v := .ref fi) (C := RX9) (T := TX9) (N := 31) hx hb hts (fun _ h9 => List.mem_cons_of_mem _ (List.mem_append_right _ h9)) hown hK hP 0 rfl rfl 22 (by decide) (hts (.fieldLink RX9 49 "FontRunsModel" "fits" "[I") mw_X9_enough_2) (fun _ h9 => h9) rfl dX9_enough_85 ?_
                refine lv_iload hx hb dX9_enough_88 (lv_at hl 0 rfl) ?_
                refine kz_iald hx hb hK hP 3 2 rfl rfl (by omega) dX9_enough_90 (fun z_40 rz_40 ez_40 => ?_)
                refine kz_if_eq (tgt := 106) hx hb dX9_enough_91 (by decide) (by omega) (fun c_41 => ?_) (fun c_41 => ?_)
                · refine lv_iconst (v := zI 1) hx hb dX9_enough_106 rfl ?_
                  refine lv_goto (tgt := 111) hx hb dX9_enough_107 (by decide) ?_
                  refine lv_istore (lv' := [(4, .int (zI 1)), (5, .int (zI jc)), (3, .int (zI js)), (2, .int (zI jb)), (0, .ref h0), (1, .int (zI w))]) hx hb dX9_enough_111 hl (by decide) rfl (fun ls hl => ?_)
                  refine lv_iinc (v := (zI (jc + 1))) (lv' := [(5, .int (zI (jc + 1))), (4, .int (zI 1)), (3, .int (zI js)), (2, .int (zI jb)), (0, .ref h0), (1, .int (zI w))]) hx hb dX9_enough_113 hl (k := 1) rfl (kz_inc _ 1) (by decide) rfl (fun ls hl => ?_)
                  refine lv_goto (tgt := 70) hx hb dX9_enough_116 (by decide) ?_
                  exact ih70 _ (by omega) _ _ _ ⟨1, (jc + 1), rfl, (by omega), (by omega), hP, hD, hS, lv_sub hl [0, 1, 2, 3, 4, 5] rfl⟩
                · refine lv_aload_n hx hb dX9_enough_94 rfl (lv_at hl 4 rfl) ?_
                  refine va_get (D := D) (ci := 9) (v := .ref fi) (C := RX9) (T := TX9) (N := 31) hx hb hts (fun _ h9 => List.mem_cons_of_mem _ (List.mem_append_right _ h9)) hown hK hP 0 rfl rfl 22 (by decide) (hts (.fieldLink RX9 49 "FontRunsModel" "fits" "[I") mw_X9_enough_2) (fun _ h9 => h9) rfl dX9_enough_95 ?_
                  refine lv_iload hx hb dX9_enough_98 (lv_at hl 0 rfl) ?_
                  refine kz_iald hx hb hK hP 3 2 rfl rfl (by omega) dX9_enough_100 (fun z_42 rz_42 ez_42 => ?_)
                  have q9 : z_40 = z_42 := (zI_eq rz_40 rz_42).mp (ez_40.symm.trans ez_42)
                  subst q9
                  refine lv_iload_n hx hb dX9_enough_101 rfl (lv_at hl 2 rfl) ?_
                  refine lv_iand hx hb dX9_enough_102 ?_
                  refine kz_any (fun z_43 rz_43 ez_43 => ?_)
                  refine kz_if_eq (tgt := 110) hx hb dX9_enough_103 (by decide) (by omega) (fun c_44 => ?_) (fun c_44 => ?_)
                  · refine lv_iconst (v := zI 0) hx hb dX9_enough_110 rfl ?_
                    refine lv_istore (lv' := [(4, .int (zI 0)), (5, .int (zI jc)), (3, .int (zI js)), (2, .int (zI jb)), (0, .ref h0), (1, .int (zI w))]) hx hb dX9_enough_111 hl (by decide) rfl (fun ls hl => ?_)
                    refine lv_iinc (v := (zI (jc + 1))) (lv' := [(5, .int (zI (jc + 1))), (4, .int (zI 0)), (3, .int (zI js)), (2, .int (zI jb)), (0, .ref h0), (1, .int (zI w))]) hx hb dX9_enough_113 hl (k := 1) rfl (kz_inc _ 1) (by decide) rfl (fun ls hl => ?_)
                    refine lv_goto (tgt := 70) hx hb dX9_enough_116 (by decide) ?_
                    exact ih70 _ (by omega) _ _ _ ⟨0, (jc + 1), rfl, (by omega), (by omega), hP, hD, hS, lv_sub hl [0, 1, 2, 3, 4, 5] rfl⟩
                  · refine lv_iconst (v := zI 1) hx hb dX9_enough_106 rfl ?_
                    refine lv_goto (tgt := 111) hx hb dX9_enough_107 (by decide) ?_
                    refine lv_istore (lv' := [(4, .int (zI 1)), (5, .int (zI jc)), (3, .int (zI js)), (2, .int (zI jb)), (0, .ref h0), (1, .int (zI w))]) hx hb dX9_enough_111 hl (by decide) rfl (fun ls hl => ?_)
                    refine lv_iinc (v := (zI (jc + 1))) (lv' := [(5, .int (zI (jc + 1))), (4, .int (zI 1)), (3, .int (zI js)), (2, .int (zI jb)), (0, .ref h0), (1, .int (zI w))]) hx hb dX9_enough_113 hl (k := 1) rfl (kz_inc _ 1) (by decide) rfl (fun ls hl => ?_)
                    refine lv_goto (tgt := 70) hx hb dX9_enough_116 (by decide) ?_
                    exact ih70 _ (by omega) _ _ _ ⟨1, (jc + 1), rfl, (by omega), (by omega), hP, hD, hS, lv_sub hl [0, 1, 2, 3, 4, 5] rfl⟩
    · refine lv_bipush (v := zI (-3)) hx hb dX9_enough_19 (by decide) ?_
      have hP9 := hP.sub (ws' := [(h0, .inr (9, [.int (zI fa), .int (zI tc), .ref so, .ref sl, .ref ce, .int (zI fn), .ref kd, .ref wd, .ref hs, .ref pf, .ref lt, .int (zI mn), .ref wg, .int (zI ta), .long ck, .int (zI at9), .int (zI rfn), .ref rk, .ref rw, .ref rh, .int (zI cl), .ref sa, .ref fi, .int (zI bo), .ref ch, .ref cn, .int (zI ad), .int (zI ru), .ref kp, .int (zI dn), .ref rfa])), (wg, .inl (c_wg, 24, .inl f_wg)), (sa, .inl (c_sa, 25, .inl f_sa)), (fi, .inl (c_fi, 24, .inl f_fi)), (hs, .inl (c_hs, 4, .inl f_hs))]) [0, 1, 2, 3, 4] rfl
      have hD9 := hD.sub (ws' := [(h0, .inr (9, [.int (zI fa), .int (zI tc), .ref so, .ref sl, .ref ce, .int (zI fn), .ref kd, .ref wd, .ref hs, .ref pf, .ref lt, .int (zI mn), .ref wg, .int (zI ta), .long ck, .int (zI at9), .int (zI rfn), .ref rk, .ref rw, .ref rh, .int (zI cl), .ref sa, .ref fi, .int (zI bo), .ref ch, .ref cn, .int (zI ad), .int (zI ru), .ref kp, .int (zI dn), .ref rfa])), (wg, .inl (c_wg, 24, .inl f_wg)), (sa, .inl (c_sa, 25, .inl f_sa)), (fi, .inl (c_fi, 24, .inl f_fi)), (hs, .inl (c_hs, 4, .inl f_hs))]) [0, 1, 2, 3, 4] (by decide +kernel) rfl
      exact W.iret (v := (zI (-3))) hx hb hr (fun t ht hW => kQS_of (by omega) ⟨cl, bo, f_sa, f_fi, q3, q4, by rw [ht]; exact hP9, hD9⟩ (hS.F ht)) hS.2.2 dX9_enough_21
  · have c_1 : ¬ (0 ≤ w ∧ w ≤ 1) := b01f c_1
    refine lv_bipush (v := zI (-2)) hx hb dX9_enough_9 (by decide) ?_
    have hP9 := hP.sub (ws' := [(h0, .inr (9, [.int (zI fa), .int (zI tc), .ref so, .ref sl, .ref ce, .int (zI fn), .ref kd, .ref wd, .ref hs, .ref pf, .ref lt, .int (zI mn), .ref wg, .int (zI ta), .long ck, .int (zI at9), .int (zI rfn), .ref rk, .ref rw, .ref rh, .int (zI cl), .ref sa, .ref fi, .int (zI bo), .ref ch, .ref cn, .int (zI ad), .int (zI ru), .ref kp, .int (zI dn), .ref rfa])), (wg, .inl (c_wg, 24, .inl f_wg)), (sa, .inl (c_sa, 25, .inl f_sa)), (fi, .inl (c_fi, 24, .inl f_fi)), (hs, .inl (c_hs, 4, .inl f_hs))]) [0, 1, 2, 3, 4] rfl
    have hD9 := hD.sub (ws' := [(h0, .inr (9, [.int (zI fa), .int (zI tc), .ref so, .ref sl, .ref ce, .int (zI fn), .ref kd, .ref wd, .ref hs, .ref pf, .ref lt, .int (zI mn), .ref wg, .int (zI ta), .long ck, .int (zI at9), .int (zI rfn), .ref rk, .ref rw, .ref rh, .int (zI cl), .ref sa, .ref fi, .int (zI bo), .ref ch, .ref cn, .int (zI ad), .int (zI ru), .ref kp, .int (zI dn), .ref rfa])), (wg, .inl (c_wg, 24, .inl f_wg)), (sa, .inl (c_sa, 25, .inl f_sa)), (fi, .inl (c_fi, 24, .inl f_fi)), (hs, .inl (c_hs, 4, .inl f_hs))]) [0, 1, 2, 3, 4] (by decide +kernel) rfl
    exact W.iret (v := (zI (-2))) hx hb hr (fun t ht hW => kQS_of (by omega) ⟨cl, bo, f_sa, f_fi, q3, q4, by rw [ht]; exact hP9, hD9⟩ (hS.F ht)) hS.2.2 dX9_enough_11
theorem krem0 : ∀ a : Nat, a < 17 → ∀ b : Nat, b < 17 → ¬ b = 0 → 0 ≤ (Int64.ofInt (a : Int) - Int64.ofInt (a : Int) / Int64.ofInt (b : Int) * Int64.ofInt (b : Int)).toInt ∧ (Int64.ofInt (a : Int) - Int64.ofInt (a : Int) / Int64.ofInt (b : Int) * Int64.ofInt (b : Int)).toInt < (b : Int) := by decide +kernel
theorem krem {x y v : Int64} (hx : 0 ≤ x.toInt ∧ x.toInt ≤ 16) (hy : 1 ≤ y.toInt ∧ y.toInt ≤ 16) (e : v = x - x / y * y) : 0 ≤ v.toInt ∧ v.toInt < y.toInt := by
  obtain ⟨a, ha⟩ := Int.eq_ofNat_of_zero_le hx.1
  obtain ⟨b, hb⟩ := Int.eq_ofNat_of_zero_le (show 0 ≤ y.toInt by omega)
  have ex : x = Int64.ofInt (a : Int) := by rw [← ha, Int64.ofInt_toInt]
  have ey : y = Int64.ofInt (b : Int) := by rw [← hb, Int64.ofInt_toInt]
  have q := krem0 a (by omega) b (by omega) (by omega)
  rw [← ex, ← ey, ← e, ← hb] at q
  exact q
theorem klcmp {x : Int64} {z : Int} (hz : rg z) (e : lg_cmp x 0 = zI z) : z = 0 ↔ x.toInt = 0 := by
  have q1 : lg_cmp x 0 = 0 ↔ x = 0 := by
    unfold lg_cmp
    by_cases a : x > 0
    · rw [if_pos a]
      constructor
      · intro h; exact absurd h (by decide)
      · intro h; rw [h] at a; exact absurd a (by decide)
    · rw [if_neg a]
      by_cases b : x = 0
      · rw [if_pos b]; exact ⟨fun _ => b, fun _ => rfl⟩
      · rw [if_neg b]; exact ⟨fun h => absurd h (by decide), fun h => absurd h b⟩
  rw [e] at q1
  have q2 : zI z = zI 0 ↔ z = 0 := zI_eq hz (by omega)
  have q3 : x = 0 ↔ x.toInt = (0 : Int64).toInt := Int64.toInt_inj.symm
  have q4 : (0 : Int64).toInt = 0 := by decide
  rw [q4] at q3
  exact q2.symm.trans (q1.trans q3)
theorem knz64 {x : Int64} (h : ¬ x.toInt = 0) : ¬ x = 0 := fun q => h (by rw [q]; decide)
theorem kl64 {z : Int} (h : 0 ≤ z ∧ z ≤ 16) : 0 ≤ ((zI z).toInt64).toInt ∧ ((zI z).toInt64).toInt ≤ 16 := by
  rw [Int32.toInt_toInt64, zI_toInt (by omega)]
  exact h
theorem dX9_inLeastTerms_0 : decode cX9_inLeastTerms 0 = .ok (.lload_n 0, 1) := kqo_1e kbl_X9_inLeastTerms (pc := 0) rfl
theorem dX9_inLeastTerms_1 : decode cX9_inLeastTerms 1 = .ok (.lstore 5, 2) := kqo_37 (x1 := 5) kbl_X9_inLeastTerms (pc := 1) rfl rfl
theorem dX9_inLeastTerms_3 : decode cX9_inLeastTerms 3 = .ok (.lload_n 2, 1) := kqo_20 kbl_X9_inLeastTerms (pc := 3) rfl
theorem dX9_inLeastTerms_4 : decode cX9_inLeastTerms 4 = .ok (.lstore 7, 2) := kqo_37 (x1 := 7) kbl_X9_inLeastTerms (pc := 4) rfl rfl
theorem dX9_inLeastTerms_6 : decode cX9_inLeastTerms 6 = .ok (.lload 7, 2) := kqo_16 (x1 := 7) kbl_X9_inLeastTerms (pc := 6) rfl rfl
theorem dX9_inLeastTerms_8 : decode cX9_inLeastTerms 8 = .ok (.lconst 0, 1) := kqo_09 kbl_X9_inLeastTerms (pc := 8) rfl
theorem dX9_inLeastTerms_9 : decode cX9_inLeastTerms 9 = .ok (.lcmp, 1) := kqo_94 kbl_X9_inLeastTerms (pc := 9) rfl
theorem dX9_inLeastTerms_10 : decode cX9_inLeastTerms 10 = .ok (.ifCond .eq 21, 3) := kqo_99 (x1 := 0) (x2 := 21) kbl_X9_inLeastTerms (pc := 10) rfl rfl
theorem dX9_inLeastTerms_13 : decode cX9_inLeastTerms 13 = .ok (.lload 5, 2) := kqo_16 (x1 := 5) kbl_X9_inLeastTerms (pc := 13) rfl rfl
theorem dX9_inLeastTerms_15 : decode cX9_inLeastTerms 15 = .ok (.lload 7, 2) := kqo_16 (x1 := 7) kbl_X9_inLeastTerms (pc := 15) rfl rfl
theorem dX9_inLeastTerms_17 : decode cX9_inLeastTerms 17 = .ok (.lrem, 1) := kqo_71 kbl_X9_inLeastTerms (pc := 17) rfl
theorem dX9_inLeastTerms_18 : decode cX9_inLeastTerms 18 = .ok (.lstore 9, 2) := kqo_37 (x1 := 9) kbl_X9_inLeastTerms (pc := 18) rfl rfl
theorem dX9_inLeastTerms_20 : decode cX9_inLeastTerms 20 = .ok (.lload 7, 2) := kqo_16 (x1 := 7) kbl_X9_inLeastTerms (pc := 20) rfl rfl
theorem dX9_inLeastTerms_22 : decode cX9_inLeastTerms 22 = .ok (.lstore 5, 2) := kqo_37 (x1 := 5) kbl_X9_inLeastTerms (pc := 22) rfl rfl
theorem dX9_inLeastTerms_24 : decode cX9_inLeastTerms 24 = .ok (.lload 9, 2) := kqo_16 (x1 := 9) kbl_X9_inLeastTerms (pc := 24) rfl rfl
theorem dX9_inLeastTerms_26 : decode cX9_inLeastTerms 26 = .ok (.lstore 7, 2) := kqo_37 (x1 := 7) kbl_X9_inLeastTerms (pc := 26) rfl rfl
theorem dX9_inLeastTerms_28 : decode cX9_inLeastTerms 28 = .ok (.goto (-22), 3) := kqo_a7 (x1 := 255) (x2 := 234) kbl_X9_inLeastTerms (pc := 28) rfl rfl
theorem dX9_inLeastTerms_31 : decode cX9_inLeastTerms 31 = .ok (.iload 4, 2) := kqo_15 (x1 := 4) kbl_X9_inLeastTerms (pc := 31) rfl rfl
theorem dX9_inLeastTerms_33 : decode cX9_inLeastTerms 33 = .ok (.ifCond .ne 10, 3) := kqo_9a (x1 := 0) (x2 := 10) kbl_X9_inLeastTerms (pc := 33) rfl rfl
theorem dX9_inLeastTerms_36 : decode cX9_inLeastTerms 36 = .ok (.lload_n 0, 1) := kqo_1e kbl_X9_inLeastTerms (pc := 36) rfl
theorem dX9_inLeastTerms_37 : decode cX9_inLeastTerms 37 = .ok (.lload 5, 2) := kqo_16 (x1 := 5) kbl_X9_inLeastTerms (pc := 37) rfl rfl
theorem dX9_inLeastTerms_39 : decode cX9_inLeastTerms 39 = .ok (.ldiv, 1) := kqo_6d kbl_X9_inLeastTerms (pc := 39) rfl
theorem dX9_inLeastTerms_40 : decode cX9_inLeastTerms 40 = .ok (.goto 7, 3) := kqo_a7 (x1 := 0) (x2 := 7) kbl_X9_inLeastTerms (pc := 40) rfl rfl
theorem dX9_inLeastTerms_43 : decode cX9_inLeastTerms 43 = .ok (.lload_n 2, 1) := kqo_20 kbl_X9_inLeastTerms (pc := 43) rfl
theorem dX9_inLeastTerms_44 : decode cX9_inLeastTerms 44 = .ok (.lload 5, 2) := kqo_16 (x1 := 5) kbl_X9_inLeastTerms (pc := 44) rfl rfl
theorem dX9_inLeastTerms_46 : decode cX9_inLeastTerms 46 = .ok (.ldiv, 1) := kqo_6d kbl_X9_inLeastTerms (pc := 46) rfl
theorem dX9_inLeastTerms_47 : decode cX9_inLeastTerms 47 = .ok (.lreturn, 1) := kqo_ad kbl_X9_inLeastTerms (pc := 47) rfl
theorem ax_X9_inLeastTerms_0 : ([] : List Nat).map (fun i => ([] : va_W)[i]?) = ([] : va_W).map some := rfl
set_option maxHeartbeats 4000000 in
set_option maxRecDepth 100000 in
theorem c_X9_inLeastTerms (l : Launch) (D : va_G) (sz : Nat) (u : Int64) (d : Int64) (w : Int) (q0 : 0 ≤ u.toInt ∧ u.toInt ≤ 16) (q1 : d = 16) (q2 : rg w) : Met l yX9_inLeastTerms wsX9_inLeastTerms ({ frames := 0, cells := 0, slots := 0, locals := 0 }) (kPre [.long u, .long d, .int (zI w)] D [] [] sz) (kQL (fun rz t => va_P D vwCl [] t.heap ∧ va_D (va_A [] sz) []) (va_A [] sz)) 0 0 (va_A [] sz) := by
  refine Met.ofW (cc := cX9_inLeastTerms) (maxL := 11) (ret := (some .long)) (by decide) rfl ?_
  intro p e s m args below meth c s₁ B hml hv
  obtain ⟨rfl, hsz, hP, hK, hD0, hN⟩ := hv
  have hx := B.exec
  have hb := B.bytes
  have hr := B.returns
  have hts := atoms_spec (ws := wsX9_inLeastTerms) B.pre
  have hown : s.vm.findClass RX9 = some m.cls := findClass_of_methodNamed B.named
  have hlocks := B.notSynchronized
  subst hsz
  have hD := hD0.self (sz := s.heap.size)
  generalize hAe : va_A [] s.heap.size = A at hD ⊢
  have hA : ∀ q : Nat, s.heap.size ≤ q → A q := fun q h => by rw [← hAe]; exact Or.inr h
  have hS : va_S A s.heap s.heap [] := va_S.rf
  have hP : va_P D vwCl [] s.heap := hP
  have hl := lv_entry ([.long u, .long d, .int (zI w)]) (n := 11) (Nat.le_of_ble_eq_true rfl)
  rw [lg_entry_eq]
  generalize (lg_sl ([.long u, .long d, .int (zI w)]) ++ List.replicate (11 - (lg_sl ([.long u, .long d, .int (zI w)])).length) Slot.unset).toArray = ls at hl ⊢
  have hl : lv_has ls 11 [(0, .long u), (2, .long d), (4, .int (zI w))] := hl
  refine lv_lload_n hx hb dX9_inLeastTerms_0 rfl (lv_at hl 0 rfl) ?_
  refine lv_lstore (lv' := [(5, .long u), (0, .long u), (2, .long d), (4, .int (zI w))]) hx hb dX9_inLeastTerms_1 hl (by decide) rfl (fun ls hl => ?_)
  refine lv_lload_n hx hb dX9_inLeastTerms_3 rfl (lv_at hl 2 rfl) ?_
  refine lv_lstore (lv' := [(7, .long d), (5, .long u), (0, .long u), (2, .long d), (4, .int (zI w))]) hx hb dX9_inLeastTerms_4 hl (by decide) rfl (fun ls hl => ?_)
  refine k_loopM (I := fun n9 H locs ls => ∃ (jx : Int64) (jy : Int64), n9 = (jy.toInt).toNat ∧ (0 ≤ jx.toInt ∧ jx.toInt ≤ 16) ∧ (0 ≤ jy.toInt ∧ jy.toInt ≤ 16) ∧ (1 ≤ jx.toInt ∨ 1 ≤ jy.toInt) ∧ va_P D vwCl [] H ∧ va_D A [] ∧ va_S A s.heap H locs ∧ lv_has ls 11 [(7, .long jy), (5, .long jx), (0, .long u), (2, .long d), (4, .int (zI w))]) ?_ _ ⟨u, d, rfl, q0, (by rw [q1]; decide), (Or.inr (by rw [q1]; decide)), hP, hD, hS, hl⟩
  intro n6 ih6 H locs ls hI
  obtain ⟨jx, jy, en6, v_60, v_61, v_62, hP, hD, hS, hl⟩ := hI
  refine lv_lload hx hb dX9_inLeastTerms_6 (lv_at hl 0 rfl) ?_
  refine lv_lconst (v := 0) hx hb dX9_inLeastTerms_8 (by decide) ?_
  refine W.lcmp hx hb dX9_inLeastTerms_9 ?_
  refine kz_any (fun z_1 rz_1 ez_1 => ?_)
  have bz_1 := klcmp rz_1 ez_1
  refine kz_if_eq (tgt := 31) hx hb dX9_inLeastTerms_10 (by decide) (by omega) (fun c_2 => ?_) (fun c_2 => ?_)
  · refine lv_iload hx hb dX9_inLeastTerms_31 (lv_at hl 4 rfl) ?_
    refine kz_if_ne (tgt := 43) hx hb dX9_inLeastTerms_33 (by decide) (by omega) (fun c_3 => ?_) (fun c_3 => ?_)
    · refine lv_lload_n hx hb dX9_inLeastTerms_43 rfl (lv_at hl 3 rfl) ?_
      refine lv_lload hx hb dX9_inLeastTerms_44 (lv_at hl 1 rfl) ?_
      refine lv_ldiv hx hb dX9_inLeastTerms_46 (knz64 (by omega)) ?_
      refine lv_topl (fun l_4 el_4 => ?_)
      have hP9 := hP.sub (ws' := []) [] rfl
      have hD9 := hD.sub (ws' := []) [] (by decide +kernel) rfl
      exact W.lret (v := l_4) hx hb hr (fun t ht hW => kQL_of ⟨by rw [ht]; exact hP9, hD9⟩ (hS.F ht)) hS.2.2 dX9_inLeastTerms_47
    · refine lv_lload_n hx hb dX9_inLeastTerms_36 rfl (lv_at hl 2 rfl) ?_
      refine lv_lload hx hb dX9_inLeastTerms_37 (lv_at hl 1 rfl) ?_
      refine lv_ldiv hx hb dX9_inLeastTerms_39 (knz64 (by omega)) ?_
      refine lv_topl (fun l_5 el_5 => ?_)
      refine lv_goto (tgt := 47) hx hb dX9_inLeastTerms_40 (by decide) ?_
      have hP9 := hP.sub (ws' := []) [] rfl
      have hD9 := hD.sub (ws' := []) [] (by decide +kernel) rfl
      exact W.lret (v := l_5) hx hb hr (fun t ht hW => kQL_of ⟨by rw [ht]; exact hP9, hD9⟩ (hS.F ht)) hS.2.2 dX9_inLeastTerms_47
  · refine lv_lload hx hb dX9_inLeastTerms_13 (lv_at hl 1 rfl) ?_
    refine lv_lload hx hb dX9_inLeastTerms_15 (lv_at hl 0 rfl) ?_
    refine lv_lrem hx hb dX9_inLeastTerms_17 (knz64 (by omega)) ?_
    refine lv_topl (fun l_6 el_6 => ?_)
    have bl_6 := krem (x := jx) (y := jy) (by omega) (by omega) el_6
    refine lv_lstore (lv' := [(9, .long l_6), (7, .long jy), (5, .long jx), (0, .long u), (2, .long d), (4, .int (zI w))]) hx hb dX9_inLeastTerms_18 hl (by decide) rfl (fun ls hl => ?_)
    refine lv_lload hx hb dX9_inLeastTerms_20 (lv_at hl 1 rfl) ?_
    refine lv_lstore (lv' := [(5, .long jy), (9, .long l_6), (7, .long jy), (0, .long u), (2, .long d), (4, .int (zI w))]) hx hb dX9_inLeastTerms_22 hl (by decide) rfl (fun ls hl => ?_)
    refine lv_lload hx hb dX9_inLeastTerms_24 (lv_at hl 1 rfl) ?_
    refine lv_lstore (lv' := [(7, .long l_6), (5, .long jy), (9, .long l_6), (0, .long u), (2, .long d), (4, .int (zI w))]) hx hb dX9_inLeastTerms_26 hl (by decide) rfl (fun ls hl => ?_)
    refine lv_goto (tgt := 6) hx hb dX9_inLeastTerms_28 (by decide) ?_
    exact ih6 _ (by omega) _ _ _ ⟨jy, l_6, rfl, v_61, (by omega), (by omega), hP, hD, hS, lv_sub hl [0, 1, 3, 4, 5] rfl⟩
/-! sheets as functions of their number; what each call does to them -/
def kS4 {α : Type} (a b c d : α) (k : Int) : α := if k = 0 then a else if k = 1 then b else if k = 2 then c else d
theorem kS4_0 {α : Type} {a b c d : α} {k : Int} (h : k = 0) : kS4 a b c d k = a := by
  subst h
  rfl
theorem kS4_1 {α : Type} {a b c d : α} {k : Int} (h : k = 1) : kS4 a b c d k = b := by
  subst h
  rfl
theorem kS4_2 {α : Type} {a b c d : α} {k : Int} (h : k = 2) : kS4 a b c d k = c := by
  subst h
  rfl
theorem kS4_3 {α : Type} {a b c d : α} {k : Int} (h : k = 3) : kS4 a b c d k = d := by
  subst h
  rfl
def kSm {α : Type} (U F : Int → α) : Prop := ∀ x : Int, 0 ≤ x → x ≤ 3 → U x = F x
def kUp {α : Type} (U F : Int → α) (k : Int) (g : α) : Prop := ∀ x : Int, 0 ≤ x → x ≤ 3 → U x = if x = k then g else F x
theorem kSm_rf {α : Type} {F : Int → α} : kSm F F := fun _ _ _ => rfl
theorem kx4 {x : Int} (h0 : 0 ≤ x) (h3 : x ≤ 3) : x = 0 ∨ x = 1 ∨ x = 2 ∨ x = 3 := by omega
theorem kUp_0 {α : Type} {a b c d g : α} {k : Int} (h : k = 0) : kUp (kS4 g b c d) (kS4 a b c d) k g := by
  intro x h0 h3
  subst h
  rcases kx4 h0 h3 with e | e | e | e <;> subst e <;> rfl
theorem kUp_1 {α : Type} {a b c d g : α} {k : Int} (h : k = 1) : kUp (kS4 a g c d) (kS4 a b c d) k g := by
  intro x h0 h3
  subst h
  rcases kx4 h0 h3 with e | e | e | e <;> subst e <;> rfl
theorem kUp_2 {α : Type} {a b c d g : α} {k : Int} (h : k = 2) : kUp (kS4 a b g d) (kS4 a b c d) k g := by
  intro x h0 h3
  subst h
  rcases kx4 h0 h3 with e | e | e | e <;> subst e <;> rfl
theorem kUp_3 {α : Type} {a b c d g : α} {k : Int} (h : k = 3) : kUp (kS4 a b c g) (kS4 a b c d) k g := by
  intro x h0 h3
  subst h
  rcases kx4 h0 h3 with e | e | e | e <;> subst e <;> rfl
/-! rows of noughts -/
def kZ (f : Nat → Int32) (n : Int) : Prop := ∀ i : Nat, (i : Int) < n → f i = zI 0
theorem kZ_0 {f : Nat → Int32} : kZ f 0 := fun i h => by omega
theorem kZ_s {f g : Nat → Int32} {n : Int} (h : kZ f n) (h0 : 0 ≤ n) (e : upd f n.toNat (zI 0) = g) : kZ g (n + 1) := by
  intro i hi
  rw [← e]
  by_cases q : i = n.toNat
  · subst q
    exact pk_us
  · rw [pk_un q]
    exact h i (by omega)
theorem kZ_le {f : Nat → Int32} {n m : Int} (h : kZ f n) (e : m ≤ n) : kZ f m := fun i hi => h i (by omega)
def kZr (g f : Nat → Int32) (k n : Int) : Prop := ∀ i : Nat, g i = if 60 * k ≤ (i : Int) ∧ (i : Int) < 60 * k + n then zI 0 else f i
theorem kZr_0 {f : Nat → Int32} {k : Int} : kZr f f k 0 := fun i => by rw [if_neg (by omega)]
theorem kZr_s {f g g2 : Nat → Int32} {k n : Int} (h : kZr g f k n) (h0 : 0 ≤ n) (hk : 0 ≤ k) (e : upd g (60 * k + n).toNat (zI 0) = g2) : kZr g2 f k (n + 1) := by
  intro i
  rw [← e]
  by_cases q : i = (60 * k + n).toNat
  · subst q
    rw [pk_us, if_pos (by omega)]
  · rw [pk_un q, h i]
    by_cases c : 60 * k ≤ (i : Int) ∧ (i : Int) < 60 * k + n
    · rw [if_pos c, if_pos (by omega)]
    · rw [if_neg c, if_neg (by omega)]
theorem kZr_le {f g : Nat → Int32} {k n m : Int} (h : kZr g f k n) (e : n = m) : kZr g f k m := e ▸ h
/-! what is cut to a LANE; a cell -/
def kCut (la x : Int) : Int32 := if la = 0 then (zI x).toInt8.toInt32 else if la = 1 then (zI x).toInt16.toInt32 else zI x
def kAt (th n i : Int) (fr : Nat → Int32) : Int32 := if th = 1 ∧ 0 ≤ i ∧ i ≤ n - 1 then fr i.toNat else zI 0
/-! sheet, lose, put, cell, copy: the class -/
def kShX (k y z : Int) (T L N : Int → Int) (F : Int → Nat → Int32) (T2 L2 N2 : Int → Int) (U : Int → Nat → Int32) : Prop := ((0 ≤ k ∧ k ≤ 3 ∧ 0 ≤ y ∧ y ≤ 2 ∧ 0 ≤ z ∧ z ≤ 60) ∧ kUp T2 T k 1 ∧ kUp L2 L k y ∧ kUp N2 N k z ∧ ∃ g : Nat → Int32, kZ g 60 ∧ kUp U F k g) ∨ (¬ (0 ≤ k ∧ k ≤ 3 ∧ 0 ≤ y ∧ y ≤ 2 ∧ 0 ≤ z ∧ z ≤ 60) ∧ kSm T2 T ∧ kSm L2 L ∧ kSm N2 N ∧ kSm U F)
def kLoX (k : Int) (T T2 : Int → Int) (rz : Int) : Prop := (¬ (0 ≤ k ∧ k ≤ 3) ∧ rz = -1 ∧ kSm T2 T) ∨ ((0 ≤ k ∧ k ≤ 3) ∧ rz = T k ∧ kUp T2 T k 0)
def kPuX (k i z : Int) (T L N : Int → Int) (F U : Int → Nat → Int32) (rz : Int) : Prop := (¬ (0 ≤ k ∧ k ≤ 3) ∧ rz = -1 ∧ kSm U F) ∨ ((0 ≤ k ∧ k ≤ 3) ∧ ¬ T k = 1 ∧ rz = -11 ∧ kSm U F) ∨ ((0 ≤ k ∧ k ≤ 3) ∧ T k = 1 ∧ ¬ (0 ≤ i ∧ i ≤ N k - 1) ∧ rz = -13 ∧ kSm U F) ∨ ((0 ≤ k ∧ k ≤ 3) ∧ T k = 1 ∧ (0 ≤ i ∧ i ≤ N k - 1) ∧ rz = 1 ∧ kUp U F k (upd (F k) i.toNat (kCut (L k) z)))
theorem kPuX_1 {k i z : Int} {T L N : Int → Int} {F : Int → Nat → Int32} {rz : Int} (h : ¬ (0 ≤ k ∧ k ≤ 3)) (e : rz = -1) : kPuX k i z T L N F F rz := Or.inl ⟨h, e, kSm_rf⟩
theorem kPuX_2 {k i z t : Int} {T L N : Int → Int} {F : Int → Nat → Int32} {rz : Int} (h : 0 ≤ k ∧ k ≤ 3) (ht : T k = t) (h1 : ¬ t = 1) (e : rz = -11) : kPuX k i z T L N F F rz := Or.inr (Or.inl ⟨h, by rw [ht]; exact h1, e, kSm_rf⟩)
theorem kPuX_3 {k i z t n : Int} {T L N : Int → Int} {F : Int → Nat → Int32} {rz : Int} (h : 0 ≤ k ∧ k ≤ 3) (ht : T k = t) (hn : N k = n) (h1 : t = 1) (h2 : ¬ (0 ≤ i ∧ i ≤ n - 1)) (e : rz = -13) : kPuX k i z T L N F F rz := Or.inr (Or.inr (Or.inl ⟨h, by rw [ht]; exact h1, by rw [hn]; exact h2, e, kSm_rf⟩))
theorem kPuX_4 {k i z t n l : Int} {T L N : Int → Int} {F U : Int → Nat → Int32} {rz : Int} {f g : Nat → Int32} {x : Int32} (h : 0 ≤ k ∧ k ≤ 3) (ht : T k = t) (hn : N k = n) (hl : L k = l) (hf : F k = f) (h1 : t = 1) (h2 : 0 ≤ i ∧ i ≤ n - 1) (e : rz = 1) (hx : kCut l z = x) (hg : upd f i.toNat x = g) (hU : kUp U F k g) : kPuX k i z T L N F U rz := by
  refine Or.inr (Or.inr (Or.inr ⟨h, by rw [ht]; exact h1, by rw [hn]; exact h2, e, ?_⟩))
  rw [hf, hl, hx, hg]
  exact hU
def kLOST : Int64 := -9223372036854775808
def kCeX (k i y : Int) (T L N : Int → Int) (F : Int → Nat → Int32) (rz : Int64) : Prop := (¬ ((0 ≤ k ∧ k ≤ 3) ∧ (0 ≤ y ∧ y ≤ 2)) ∧ rz = kLOST) ∨ (((0 ≤ k ∧ k ≤ 3) ∧ (0 ≤ y ∧ y ≤ 2)) ∧ ¬ (T k = 1 ∧ L k = y ∧ 0 ≤ i ∧ i ≤ N k - 1) ∧ rz = kLOST) ∨ (((0 ≤ k ∧ k ≤ 3) ∧ (0 ≤ y ∧ y ≤ 2)) ∧ (T k = 1 ∧ L k = y ∧ 0 ≤ i ∧ i ≤ N k - 1) ∧ rz = (F k i.toNat).toInt64)
theorem kCeX_1 {k i y : Int} {T L N : Int → Int} {F : Int → Nat → Int32} {rz : Int64} (h : ¬ ((0 ≤ k ∧ k ≤ 3) ∧ (0 ≤ y ∧ y ≤ 2))) (e : rz = kLOST) : kCeX k i y T L N F rz := Or.inl ⟨h, e⟩
theorem kCeX_2 {k i y t l n : Int} {T L N : Int → Int} {F : Int → Nat → Int32} {rz : Int64} (h : (0 ≤ k ∧ k ≤ 3) ∧ (0 ≤ y ∧ y ≤ 2)) (ht : T k = t) (hl : L k = l) (hn : N k = n) (h2 : ¬ (t = 1 ∧ l = y ∧ 0 ≤ i ∧ i ≤ n - 1)) (e : rz = kLOST) : kCeX k i y T L N F rz := Or.inr (Or.inl ⟨h, by rw [ht, hl, hn]; exact h2, e⟩)
theorem kCeX_3 {k i y t l n z : Int} {T L N : Int → Int} {F : Int → Nat → Int32} {f : Nat → Int32} (h : (0 ≤ k ∧ k ≤ 3) ∧ (0 ≤ y ∧ y ≤ 2)) (ht : T k = t) (hl : L k = l) (hn : N k = n) (hf : F k = f) (h2 : t = 1 ∧ l = y ∧ 0 ≤ i ∧ i ≤ n - 1) (hz : kAt t n i f = zI z) : kCeX k i y T L N F ((zI z).toInt64) := by
  refine Or.inr (Or.inr ⟨h, by rw [ht, hl, hn]; exact h2, ?_⟩)
  rw [hf, ← hz]
  unfold kAt
  rw [if_pos ⟨h2.1, h2.2.2⟩]
def kOkC (i j n a b : Int) : Prop := (0 ≤ i ∧ i ≤ a) ∧ (0 ≤ n ∧ n ≤ a - i) ∧ (0 ≤ j ∧ j ≤ b) ∧ n ≤ b - j
def kRan (k o : Int) : Prop := (0 ≤ k ∧ k ≤ 3) ∧ (0 ≤ o ∧ o ≤ 3)
def kCoX (k i o j n : Int) (T L N : Int → Int) (F U : Int → Nat → Int32) (rz : Int) : Prop := (¬ kRan k o ∧ rz = -1 ∧ kSm U F) ∨ (kRan k o ∧ ¬ (T k = 1 ∧ T o = 1) ∧ rz = -11 ∧ kSm U F) ∨ (kRan k o ∧ (T k = 1 ∧ T o = 1) ∧ ¬ L k = L o ∧ rz = -12 ∧ kSm U F) ∨ (kRan k o ∧ (T k = 1 ∧ T o = 1) ∧ L k = L o ∧ ¬ kOkC i j n (N k) (N o) ∧ rz = -13 ∧ kSm U F) ∨ (kRan k o ∧ (T k = 1 ∧ T o = 1) ∧ L k = L o ∧ kOkC i j n (N k) (N o) ∧ rz = n ∧ kUp U F o (va_cpy (F k) (F o) i.toNat j.toNat n.toNat))
section
variable {k i o j n tk to' lk lo nk no : Int} {T L N : Int → Int} {F U : Int → Nat → Int32} {rz : Int} {fk fo g : Nat → Int32}
theorem kCoX_1 (h : ¬ ((0 ≤ k ∧ k ≤ 3) ∧ (0 ≤ o ∧ o ≤ 3))) (e : rz = -1) : kCoX k i o j n T L N F F rz := Or.inl ⟨h, e, kSm_rf⟩
theorem kCoX_2 (h : (0 ≤ k ∧ k ≤ 3) ∧ (0 ≤ o ∧ o ≤ 3)) (h1 : T k = tk) (h2 : T o = to') (c : ¬ (tk = 1 ∧ to' = 1)) (e : rz = -11) : kCoX k i o j n T L N F F rz := Or.inr (Or.inl ⟨h, by rw [h1, h2]; exact c, e, kSm_rf⟩)
theorem kCoX_3 (h : (0 ≤ k ∧ k ≤ 3) ∧ (0 ≤ o ∧ o ≤ 3)) (h1 : T k = tk) (h2 : T o = to') (h3 : L k = lk) (h4 : L o = lo) (c : tk = 1 ∧ to' = 1) (c2 : ¬ lk = lo) (e : rz = -12) : kCoX k i o j n T L N F F rz := Or.inr (Or.inr (Or.inl ⟨h, by rw [h1, h2]; exact c, by rw [h3, h4]; exact c2, e, kSm_rf⟩))
theorem kCoX_4 (h : (0 ≤ k ∧ k ≤ 3) ∧ (0 ≤ o ∧ o ≤ 3)) (h1 : T k = tk) (h2 : T o = to') (h3 : L k = lk) (h4 : L o = lo) (h5 : N k = nk) (h6 : N o = no) (c : tk = 1 ∧ to' = 1) (c2 : lk = lo) (c3 : ¬ ((0 ≤ i ∧ i ≤ nk) ∧ (0 ≤ n ∧ n ≤ nk - i) ∧ (0 ≤ j ∧ j ≤ no) ∧ n ≤ no - j)) (e : rz = -13) : kCoX k i o j n T L N F F rz := Or.inr (Or.inr (Or.inr (Or.inl ⟨h, by rw [h1, h2]; exact c, by rw [h3, h4]; exact c2, by rw [h5, h6]; exact c3, e, kSm_rf⟩)))
theorem kCoX_5 (h : (0 ≤ k ∧ k ≤ 3) ∧ (0 ≤ o ∧ o ≤ 3)) (h1 : T k = tk) (h2 : T o = to') (h3 : L k = lk) (h4 : L o = lo) (h5 : N k = nk) (h6 : N o = no) (h7 : F k = fk) (h8 : F o = fo) (c : tk = 1 ∧ to' = 1) (c2 : lk = lo) (c3 : (0 ≤ i ∧ i ≤ nk) ∧ (0 ≤ n ∧ n ≤ nk - i) ∧ (0 ≤ j ∧ j ≤ no) ∧ n ≤ no - j) (e : rz = n) (hg : va_cpy fk fo i.toNat j.toNat n.toNat = g) (hU : kUp U F o g) : kCoX k i o j n T L N F U rz := by
  refine Or.inr (Or.inr (Or.inr (Or.inr ⟨h, by rw [h1, h2]; exact c, by rw [h3, h4]; exact c2, by rw [h5, h6]; exact c3, e, ?_⟩)))
  rw [h7, h8, hg]
  exact hU
end
/-! the reference -/
def kShM (k y z : Int) (so sl ce so2 sl2 ce2 : Nat → Int32) : Prop := ((0 ≤ k ∧ k ≤ 3 ∧ 0 ≤ y ∧ y ≤ 2 ∧ 0 ≤ z ∧ z ≤ 60) ∧ so2 = upd so k.toNat (zI y) ∧ sl2 = upd sl k.toNat (zI z) ∧ kZr ce2 ce k 60) ∨ (¬ (0 ≤ k ∧ k ≤ 3 ∧ 0 ≤ y ∧ y ≤ 2 ∧ 0 ≤ z ∧ z ≤ 60) ∧ so2 = so ∧ sl2 = sl ∧ ce2 = ce)
def kLoM (k : Int) (so so2 : Nat → Int32) (rz : Int) : Prop := (¬ (0 ≤ k ∧ k ≤ 3) ∧ rz = -1 ∧ so2 = so) ∨ ((0 ≤ k ∧ k ≤ 3) ∧ so2 = upd so k.toNat (zI (-9)) ∧ ((so k.toNat = zI (-9) ∧ rz = 0) ∨ (¬ so k.toNat = zI (-9) ∧ rz = 1)))
theorem kLoM_2 {k z rz : Int} {so so2 : Nat → Int32} (h : 0 ≤ k ∧ k ≤ 3) (e : upd so k.toNat (zI (-9)) = so2) (hz : rg z) (ez : so k.toNat = zI z) (c : z = -9) (er : rz = 0) : kLoM k so so2 rz := Or.inr ⟨h, e.symm, Or.inl ⟨by rw [ez, c], er⟩⟩
theorem kLoM_3 {k z rz : Int} {so so2 : Nat → Int32} (h : 0 ≤ k ∧ k ≤ 3) (e : upd so k.toNat (zI (-9)) = so2) (hz : rg z) (ez : so k.toNat = zI z) (c : ¬ z = -9) (er : rz = 1) : kLoM k so so2 rz := Or.inr ⟨h, e.symm, Or.inr ⟨fun q => c ((zI_eq hz (by omega)).mp (ez.symm.trans q)), er⟩⟩
def kPuM (k i z : Int) (so sl ce ce2 : Nat → Int32) (rz : Int) : Prop := (¬ (0 ≤ k ∧ k ≤ 3) ∧ rz = -1 ∧ ce2 = ce) ∨ ((0 ≤ k ∧ k ≤ 3) ∧ so k.toNat = zI (-9) ∧ rz = -11 ∧ ce2 = ce) ∨ ((0 ≤ k ∧ k ≤ 3) ∧ ∃ s n : Int, rg s ∧ rg n ∧ so k.toNat = zI s ∧ sl k.toNat = zI n ∧ ¬ s = -9 ∧ ((¬ (0 ≤ i ∧ i ≤ n - 1) ∧ rz = -13 ∧ ce2 = ce) ∨ ((0 ≤ i ∧ i ≤ n - 1) ∧ rz = 1 ∧ ce2 = upd ce (60 * k + i).toNat (kCut s z))))
section
variable {k i z s n x rz : Int} {so sl ce ce2 : Nat → Int32}
theorem kPuM_1 (h : ¬ (0 ≤ k ∧ k ≤ 3)) (e : rz = -1) : kPuM k i z so sl ce ce rz := Or.inl ⟨h, e, rfl⟩
theorem kPuM_2 (h : 0 ≤ k ∧ k ≤ 3) (es : so k.toNat = zI s) (c : s = -9) (e : rz = -11) : kPuM k i z so sl ce ce rz := Or.inr (Or.inl ⟨h, by rw [es, c], e, rfl⟩)
theorem kPuM_3 (h : 0 ≤ k ∧ k ≤ 3) (hs : rg s) (hn : rg n) (es : so k.toNat = zI s) (en : sl k.toNat = zI n) (c : ¬ s = -9) (c2 : ¬ (0 ≤ i ∧ i ≤ n - 1)) (e : rz = -13) : kPuM k i z so sl ce ce rz := Or.inr (Or.inr ⟨h, s, n, hs, hn, es, en, c, Or.inl ⟨c2, e, rfl⟩⟩)
theorem kPuM_4 (h : 0 ≤ k ∧ k ≤ 3) (hs : rg s) (hn : rg n) (es : so k.toNat = zI s) (en : sl k.toNat = zI n) (c : ¬ s = -9) (c2 : 0 ≤ i ∧ i ≤ n - 1) (e : rz = 1) (hx : kCut s z = zI x) (hg : upd ce (60 * k + i).toNat (zI x) = ce2) : kPuM k i z so sl ce ce2 rz := Or.inr (Or.inr ⟨h, s, n, hs, hn, es, en, c, Or.inr ⟨c2, e, by rw [hx, hg]⟩⟩)
end
def kCeM (k i y : Int) (so sl ce : Nat → Int32) (rz : Int64) : Prop := (¬ ((0 ≤ k ∧ k ≤ 3) ∧ (0 ≤ y ∧ y ≤ 2)) ∧ rz = kLOST) ∨ (((0 ≤ k ∧ k ≤ 3) ∧ (0 ≤ y ∧ y ≤ 2)) ∧ ∃ s n : Int, rg s ∧ rg n ∧ so k.toNat = zI s ∧ sl k.toNat = zI n ∧ ((¬ (s = y ∧ 0 ≤ i ∧ i ≤ n - 1) ∧ rz = kLOST) ∨ ((s = y ∧ 0 ≤ i ∧ i ≤ n - 1) ∧ rz = (ce (60 * k + i).toNat).toInt64)))
def kCoM (k i o j n : Int) (so sl ce ce2 : Nat → Int32) (rz : Int) : Prop := (¬ kRan k o ∧ rz = -1 ∧ ce2 = ce) ∨ (kRan k o ∧ (so k.toNat = zI (-9) ∨ so o.toNat = zI (-9)) ∧ rz = -11 ∧ ce2 = ce) ∨ (kRan k o ∧ ¬ (so k.toNat = zI (-9) ∨ so o.toNat = zI (-9)) ∧ ¬ so k.toNat = so o.toNat ∧ rz = -12 ∧ ce2 = ce) ∨ (kRan k o ∧ ¬ (so k.toNat = zI (-9) ∨ so o.toNat = zI (-9)) ∧ so k.toNat = so o.toNat ∧ ∃ a b : Int, rg a ∧ rg b ∧ sl k.toNat = zI a ∧ sl o.toNat = zI b ∧ ((¬ kOkC i j n a b ∧ rz = -13 ∧ ce2 = ce) ∨ (kOkC i j n a b ∧ rz = n ∧ ce2 = va_cpy ce ce (60 * k + i).toNat (60 * o + j).toNat n.toNat)))
section
variable {k i y s n z : Int} {so sl ce : Nat → Int32} {rz : Int64}
theorem kCeM_1 (h : ¬ ((0 ≤ k ∧ k ≤ 3) ∧ (0 ≤ y ∧ y ≤ 2))) (e : rz = kLOST) : kCeM k i y so sl ce rz := Or.inl ⟨h, e⟩
theorem kCeM_2 (h : (0 ≤ k ∧ k ≤ 3) ∧ (0 ≤ y ∧ y ≤ 2)) (hs : rg s) (es : so k.toNat = zI s) (c : ¬ s = y) (e : rz = kLOST) : kCeM k i y so sl ce rz := by
  obtain ⟨n, hn, en⟩ := zI_ex (sl k.toNat)
  exact Or.inr ⟨h, s, n, hs, hn, es, en, Or.inl ⟨fun q => c q.1, e⟩⟩
theorem kCeM_3 (h : (0 ≤ k ∧ k ≤ 3) ∧ (0 ≤ y ∧ y ≤ 2)) (hs : rg s) (hn : rg n) (es : so k.toNat = zI s) (en : sl k.toNat = zI n) (c : ¬ (0 ≤ i ∧ i ≤ n - 1)) (e : rz = kLOST) : kCeM k i y so sl ce rz := Or.inr ⟨h, s, n, hs, hn, es, en, Or.inl ⟨fun q => c q.2, e⟩⟩
theorem kCeM_4 (h : (0 ≤ k ∧ k ≤ 3) ∧ (0 ≤ y ∧ y ≤ 2)) (hs : rg s) (hn : rg n) (es : so k.toNat = zI s) (en : sl k.toNat = zI n) (c1 : s = y) (c : 0 ≤ i ∧ i ≤ n - 1) (ez : ce (60 * k + i).toNat = zI z) : kCeM k i y so sl ce ((zI z).toInt64) := Or.inr ⟨h, s, n, hs, hn, es, en, Or.inr ⟨⟨c1, c⟩, by rw [ez]⟩⟩
end
def kCpL (g f : Nat → Int32) (S Dd n q ah : Int) : Prop := ∀ x : Nat, g x = if (ah = 1 ∧ Dd + n - q ≤ (x : Int) ∧ (x : Int) < Dd + n) ∨ (ah = 0 ∧ Dd ≤ (x : Int) ∧ (x : Int) < Dd + q) then f (S + ((x : Int) - Dd)).toNat else f x
theorem kCpL_0 {f : Nat → Int32} {S Dd n ah : Int} : kCpL f f S Dd n 0 ah := fun x => by rw [if_neg (by omega)]
theorem kCpL_s {g g2 f : Nat → Int32} {S Dd n q ah c z : Int} (h : kCpL g f S Dd n q ah) (hS : 0 ≤ S ∧ 0 ≤ Dd ∧ 0 ≤ q ∧ q < n) (hc : (ah = 1 ∧ c = n - 1 - q) ∨ (ah = 0 ∧ c = q)) (dis : ¬ ((ah = 1 ∧ Dd + n - q ≤ S + c ∧ S + c < Dd + n) ∨ (ah = 0 ∧ Dd ≤ S + c ∧ S + c < Dd + q))) (ez : g (S + c).toNat = zI z) (e : upd g (Dd + c).toNat (zI z) = g2) : kCpL g2 f S Dd n (q + 1) ah := by
  intro x
  rw [← e]
  by_cases q1 : x = (Dd + c).toNat
  · subst q1
    rw [pk_us, ← ez, h (S + c).toNat, if_neg (by omega), if_pos (by omega)]
    congr 1
    omega
  · rw [pk_un q1, h x]
    by_cases c2 : (ah = 1 ∧ Dd + n - q ≤ (x : Int) ∧ (x : Int) < Dd + n) ∨ (ah = 0 ∧ Dd ≤ (x : Int) ∧ (x : Int) < Dd + q)
    · rw [if_pos c2, if_pos (by omega)]
    · rw [if_neg c2, if_neg (by omega)]
theorem kCpL_end {g f : Nat → Int32} {S Dd n q ah : Int} (h : kCpL g f S Dd n q ah) (hq : q = n) (ha : ah = 0 ∨ ah = 1) (hS : 0 ≤ S ∧ 0 ≤ Dd ∧ 0 ≤ n) : g = va_cpy f f S.toNat Dd.toNat n.toNat := by
  funext x
  rw [h x]
  unfold va_cpy
  by_cases c : Dd.toNat ≤ x ∧ x < Dd.toNat + n.toNat
  · rw [if_pos c, if_pos (by omega)]
    congr 1
    omega
  · rw [if_neg c, if_neg (by omega)]
section
variable {k i o j n s1 s2 a b q ah : Int} {so sl ce ce2 : Nat → Int32} {rz : Int}
theorem kCoM_1 (h : ¬ ((0 ≤ k ∧ k ≤ 3) ∧ (0 ≤ o ∧ o ≤ 3))) (e : rz = -1) : kCoM k i o j n so sl ce ce rz := Or.inl ⟨h, e, rfl⟩
theorem kCoM_2 (h : (0 ≤ k ∧ k ≤ 3) ∧ (0 ≤ o ∧ o ≤ 3)) (e1 : so k.toNat = zI s1) (c : s1 = -9) (e : rz = -11) : kCoM k i o j n so sl ce ce rz := Or.inr (Or.inl ⟨h, Or.inl (by rw [e1, c]), e, rfl⟩)
theorem kCoM_2b (h : (0 ≤ k ∧ k ≤ 3) ∧ (0 ≤ o ∧ o ≤ 3)) (e1 : so o.toNat = zI s2) (c : s2 = -9) (e : rz = -11) : kCoM k i o j n so sl ce ce rz := Or.inr (Or.inl ⟨h, Or.inr (by rw [e1, c]), e, rfl⟩)
theorem kCoM_n (r1 : rg s1) (r2 : rg s2) (e1 : so k.toNat = zI s1) (e2 : so o.toNat = zI s2) (c1 : ¬ s1 = -9) (c2 : ¬ s2 = -9) : ¬ (so k.toNat = zI (-9) ∨ so o.toNat = zI (-9)) := by
  rw [e1, e2, zI_eq r1 (by omega), zI_eq r2 (by omega)]
  omega
theorem kCoM_3 (h : (0 ≤ k ∧ k ≤ 3) ∧ (0 ≤ o ∧ o ≤ 3)) (r1 : rg s1) (r2 : rg s2) (e1 : so k.toNat = zI s1) (e2 : so o.toNat = zI s2) (c1 : ¬ s1 = -9) (c2 : ¬ s2 = -9) (c3 : ¬ s1 = s2) (e : rz = -12) : kCoM k i o j n so sl ce ce rz := Or.inr (Or.inr (Or.inl ⟨h, kCoM_n r1 r2 e1 e2 c1 c2, by rw [e1, e2, zI_eq r1 r2]; exact c3, e, rfl⟩))
theorem kCoM_4 (h : (0 ≤ k ∧ k ≤ 3) ∧ (0 ≤ o ∧ o ≤ 3)) (r1 : rg s1) (r2 : rg s2) (e1 : so k.toNat = zI s1) (e2 : so o.toNat = zI s2) (c1 : ¬ s1 = -9) (c2 : ¬ s2 = -9) (c3 : s1 = s2) (c4 : ∀ a b : Int, rg a → rg b → sl k.toNat = zI a → sl o.toNat = zI b → ¬ ((0 ≤ i ∧ i ≤ a) ∧ (0 ≤ n ∧ n ≤ a - i) ∧ (0 ≤ j ∧ j ≤ b) ∧ n ≤ b - j)) (e : rz = -13) : kCoM k i o j n so sl ce ce rz := by
  obtain ⟨a, ra, ea⟩ := zI_ex (sl k.toNat)
  obtain ⟨b, rb, eb⟩ := zI_ex (sl o.toNat)
  exact Or.inr (Or.inr (Or.inr ⟨h, kCoM_n r1 r2 e1 e2 c1 c2, by rw [e1, e2, c3], a, b, ra, rb, ea, eb, Or.inl ⟨c4 a b ra rb ea eb, e, rfl⟩⟩))
theorem kCoM_5 (h : (0 ≤ k ∧ k ≤ 3) ∧ (0 ≤ o ∧ o ≤ 3)) (r1 : rg s1) (r2 : rg s2) (e1 : so k.toNat = zI s1) (e2 : so o.toNat = zI s2) (c1 : ¬ s1 = -9) (c2 : ¬ s2 = -9) (c3 : s1 = s2) (ra : rg a) (rb : rg b) (ea : sl k.toNat = zI a) (eb : sl o.toNat = zI b) (c4 : (0 ≤ i ∧ i ≤ a) ∧ (0 ≤ n ∧ n ≤ a - i) ∧ (0 ≤ j ∧ j ≤ b) ∧ n ≤ b - j) (e : rz = n) (hl : kCpL ce2 ce (60 * k + i) (60 * o + j) n q ah) (hq : q = n) (ha : ah = 0 ∨ ah = 1) : kCoM k i o j n so sl ce ce2 rz :=
  Or.inr (Or.inr (Or.inr ⟨h, kCoM_n r1 r2 e1 e2 c1 c2, by rw [e1, e2, c3], a, b, ra, rb, ea, eb, Or.inr ⟨c4, e, kCpL_end hl hq ha (by omega)⟩⟩))
end
theorem kLoX_1 {k rz : Int} {T : Int → Int} (h : ¬ (0 ≤ k ∧ k ≤ 3)) (e : rz = -1) : kLoX k T T rz := Or.inl ⟨h, e, kSm_rf⟩
theorem kLoX_2 {k rz t : Int} {T T2 : Int → Int} (h : 0 ≤ k ∧ k ≤ 3) (ht : T k = t) (e : rz = t) (hU : kUp T2 T k 0) : kLoX k T T2 rz := Or.inr ⟨h, by rw [ht]; exact e, hU⟩
theorem kShX_1 {k y z : Int} {T L N : Int → Int} {F : Int → Nat → Int32} (h : ¬ (0 ≤ k ∧ k ≤ 3 ∧ 0 ≤ y ∧ y ≤ 2 ∧ 0 ≤ z ∧ z ≤ 60)) : kShX k y z T L N F T L N F := Or.inr ⟨h, kSm_rf, kSm_rf, kSm_rf, kSm_rf⟩
theorem kShX_2 {k y z : Int} {T L N T2 L2 N2 : Int → Int} {F U : Int → Nat → Int32} {g : Nat → Int32} (h : 0 ≤ k ∧ k ≤ 3 ∧ 0 ≤ y ∧ y ≤ 2 ∧ 0 ≤ z ∧ z ≤ 60) (hT : kUp T2 T k 1) (hL : kUp L2 L k y) (hN : kUp N2 N k z) (hg : kZ g 60) (hU : kUp U F k g) : kShX k y z T L N F T2 L2 N2 U := Or.inl ⟨h, hT, hL, hN, g, hg, hU⟩
theorem kShM_1 {k y z : Int} {so sl ce : Nat → Int32} (h : ¬ (0 ≤ k ∧ k ≤ 3 ∧ 0 ≤ y ∧ y ≤ 2 ∧ 0 ≤ z ∧ z ≤ 60)) : kShM k y z so sl ce so sl ce := Or.inr ⟨h, rfl, rfl, rfl⟩
theorem kShM_2 {k y z q : Int} {so sl ce so2 sl2 ce2 : Nat → Int32} (h : 0 ≤ k ∧ k ≤ 3 ∧ 0 ≤ y ∧ y ≤ 2 ∧ 0 ≤ z ∧ z ≤ 60) (h1 : upd so k.toNat (zI y) = so2) (h2 : upd sl k.toNat (zI z) = sl2) (h3 : kZr ce2 ce k q) (hq : q = 60) : kShM k y z so sl ce so2 sl2 ce2 := Or.inl ⟨h, h1.symm, h2.symm, hq ▸ h3⟩
/-! the class's SHEETS and the reference's -/
def kSh (j t l n : Int) (fe so sl ce : Nat → Int32) : Prop := ((t = 1 ∧ 0 ≤ l ∧ l ≤ 2 ∧ so j.toNat = zI l) ∨ (t = 0 ∧ so j.toNat = zI (-9))) ∧ sl j.toNat = zI n ∧ (0 ≤ n ∧ n ≤ 60) ∧ ∀ i : Nat, i < 60 → fe i = ce (60 * j.toNat + i)
def kSR (T L N : Int → Int) (F : Int → Nat → Int32) (so sl ce : Nat → Int32) : Prop := ∀ j : Int, 0 ≤ j → j ≤ 3 → kSh j (T j) (L j) (N j) (F j) so sl ce
section
variable {k i y z o j n rx rm : Int} {T L N T2 L2 N2 : Int → Int} {F U : Int → Nat → Int32} {so sl ce so2 sl2 ce2 : Nat → Int32}
theorem kSR_sheet (h : kSR T L N F so sl ce) (hx : kShX k y z T L N F T2 L2 N2 U) (hm : kShM k y z so sl ce so2 sl2 ce2) : kSR T2 L2 N2 U so2 sl2 ce2 := by
  intro j h0 h3
  obtain ⟨ht, hn, hb, hf⟩ := h j h0 h3
  rcases hx with ⟨ok, a1, a2, a3, g, hz, a4⟩ | ⟨no, a1, a2, a3, a4⟩
  · rcases hm with ⟨_, m1, m2, m3⟩ | ⟨no, _⟩
    · rw [a1 j h0 h3, a2 j h0 h3, a3 j h0 h3, a4 j h0 h3, m1, m2]
      by_cases e : j = k
      · rw [if_pos e, if_pos e, if_pos e, if_pos e]
        subst e
        refine ⟨Or.inl ⟨rfl, by omega, by omega, pk_us⟩, pk_us, by omega, fun i hi => ?_⟩
        rw [hz i (by omega), m3 (60 * j.toNat + i), if_pos (by omega)]
      · rw [if_neg e, if_neg e, if_neg e, if_neg e]
        have ne : j.toNat ≠ k.toNat := by omega
        refine ⟨?_, by rw [pk_un ne]; exact hn, hb, fun i hi => ?_⟩
        · rw [pk_un ne]
          exact ht
        · rw [m3 (60 * j.toNat + i), if_neg (by omega)]
          exact hf i hi
    · exact absurd ok no
  · rcases hm with ⟨ok, _⟩ | ⟨_, m1, m2, m3⟩
    · exact absurd ok no
    · rw [a1 j h0 h3, a2 j h0 h3, a3 j h0 h3, a4 j h0 h3, m1, m2, m3]
      exact ⟨ht, hn, hb, hf⟩
theorem kSR_lose (h : kSR T L N F so sl ce) (hx : kLoX k T T2 rx) (hm : kLoM k so so2 rm) : kSR T2 L N F so2 sl ce ∧ rx = rm := by
  rcases hx with ⟨no, e, a⟩ | ⟨ok, e, a⟩
  · rcases hm with ⟨_, e2, m⟩ | ⟨ok, _⟩
    · refine ⟨fun j h0 h3 => ?_, by rw [e, e2]⟩
      rw [a j h0 h3, m]
      exact h j h0 h3
    · exact absurd ok no
  · rcases hm with ⟨no, _⟩ | ⟨_, m, e2⟩
    · exact absurd ok no
    · obtain ⟨ht, hn, hb, hf⟩ := h k ok.1 ok.2
      refine ⟨fun j h0 h3 => ?_, ?_⟩
      · obtain ⟨ht2, hn2, hb2, hf2⟩ := h j h0 h3
        rw [a j h0 h3, m]
        by_cases c : j = k
        · rw [if_pos c]
          subst c
          exact ⟨Or.inr ⟨rfl, pk_us⟩, hn2, hb2, hf2⟩
        · rw [if_neg c]
          refine ⟨?_, hn2, hb2, hf2⟩
          rw [pk_un (by omega)]
          exact ht2
      · rcases ht with ⟨t1, l0, l1, t2⟩ | ⟨t1, t2⟩
        · rcases e2 with ⟨q, e2⟩ | ⟨q, e2⟩
          · rw [t2] at q
            have := (zI_eq (by omega) (by omega)).mp q
            omega
          · rw [e, e2, t1]
        · rcases e2 with ⟨q, e2⟩ | ⟨q, e2⟩
          · rw [e, e2, t1]
          · exact absurd t2 q
theorem kSR_put (h : kSR T L N F so sl ce) (hx : kPuX k i z T L N F U rx) (hm : kPuM k i z so sl ce ce2 rm) : kSR T L N U so sl ce2 ∧ rx = rm := by
  by_cases R : 0 ≤ k ∧ k ≤ 3
  · obtain ⟨ht, hn, hb, hf⟩ := h k R.1 R.2
    rcases hx with ⟨no, _⟩ | ⟨_, x1, x2, x3⟩ | ⟨_, x1, x2, x3, x4⟩ | ⟨_, x1, x2, x3, x4⟩
    · exact absurd R no
    · have hs : so k.toNat = zI (-9) := by
        rcases ht with ⟨t1, _⟩ | ⟨_, t2⟩
        · exact absurd t1 x1
        · exact t2
      rcases hm with ⟨no, _⟩ | ⟨_, _, m2, m3⟩ | ⟨_, s, n, rs, rn, es, en, ns, _⟩
      · exact absurd R no
      · exact ⟨fun j h0 h3 => by rw [x3 j h0 h3, m3]; exact h j h0 h3, by rw [x2, m2]⟩
      · rw [hs] at es
        exact absurd ((zI_eq (by omega) rs).mp es).symm ns
    · have hs : so k.toNat = zI (L k) ∧ 0 ≤ L k ∧ L k ≤ 2 := by
        rcases ht with ⟨_, l0, l1, t2⟩ | ⟨t1, _⟩
        · exact ⟨t2, l0, l1⟩
        · omega
      rcases hm with ⟨no, _⟩ | ⟨_, q, _⟩ | ⟨_, s, n, rs, rn, es, en, ns, hm⟩
      · exact absurd R no
      · rw [hs.1] at q
        have := (zI_eq (by omega) (by omega)).mp q
        omega
      · have e1 : n = N k := (zI_eq rn (by omega)).mp (en.symm.trans hn)
        rw [e1] at hm
        rcases hm with ⟨_, m2, m3⟩ | ⟨m1, _⟩
        · exact ⟨fun j h0 h3 => by rw [x4 j h0 h3, m3]; exact h j h0 h3, by rw [x3, m2]⟩
        · exact absurd m1 x2
    · have hs : so k.toNat = zI (L k) ∧ 0 ≤ L k ∧ L k ≤ 2 := by
        rcases ht with ⟨_, l0, l1, t2⟩ | ⟨t1, _⟩
        · exact ⟨t2, l0, l1⟩
        · omega
      rcases hm with ⟨no, _⟩ | ⟨_, q, _⟩ | ⟨_, s, n, rs, rn, es, en, ns, hm⟩
      · exact absurd R no
      · rw [hs.1] at q
        have := (zI_eq (by omega) (by omega)).mp q
        omega
      · have e1 : n = N k := (zI_eq rn (by omega)).mp (en.symm.trans hn)
        have e2 : s = L k := (zI_eq rs (by omega)).mp (es.symm.trans hs.1)
        rw [e1, e2] at hm
        rcases hm with ⟨m1, _⟩ | ⟨_, m2, m3⟩
        · exact absurd x2 m1
        · refine ⟨fun j h0 h3 => ?_, by rw [x3, m2]⟩
          obtain ⟨ht2, hn2, hb2, hf2⟩ := h j h0 h3
          rw [x4 j h0 h3]
          by_cases c : j = k
          · rw [if_pos c]
            subst c
            refine ⟨ht2, hn2, hb2, fun i2 hi => ?_⟩
            rw [m3]
            by_cases d : i2 = i.toNat
            · subst d
              rw [pk_us, show 60 * j.toNat + i.toNat = (60 * j + i).toNat by omega, pk_us]
            · rw [pk_un d, pk_un (by omega)]
              exact hf2 i2 hi
          · rw [if_neg c]
            refine ⟨ht2, hn2, hb2, fun i2 hi => ?_⟩
            rw [m3, pk_un (by omega)]
            exact hf2 i2 hi
  · rcases hx with ⟨_, x2, x3⟩ | ⟨ok, _⟩ | ⟨ok, _⟩ | ⟨ok, _⟩
    · rcases hm with ⟨_, m2, m3⟩ | ⟨ok, _⟩ | ⟨ok, _⟩
      · exact ⟨fun j h0 h3 => by rw [x3 j h0 h3, m3]; exact h j h0 h3, by rw [x2, m2]⟩
      · exact absurd ok R
      · exact absurd ok R
    · exact absurd ok R
    · exact absurd ok R
    · exact absurd ok R
theorem kCe_eq {rx rm : Int64} (h : kSR T L N F so sl ce) (hx : kCeX k i y T L N F rx) (hm : kCeM k i y so sl ce rm) : rx = rm := by
  by_cases R : (0 ≤ k ∧ k ≤ 3) ∧ (0 ≤ y ∧ y ≤ 2)
  · obtain ⟨ht, hn, hb, hf⟩ := h k R.1.1 R.1.2
    rcases hm with ⟨no, _⟩ | ⟨_, s, n, rs, rn, es, en, hm⟩
    · exact absurd R no
    · have e1 : n = N k := (zI_eq rn (by omega)).mp (en.symm.trans hn)
      rw [e1] at hm
      rcases hx with ⟨no, _⟩ | ⟨_, x1, x2⟩ | ⟨_, x1, x2⟩
      · exact absurd R no
      · rcases hm with ⟨_, m2⟩ | ⟨m1, m2⟩
        · rw [x2, m2]
        · exfalso
          apply x1
          rcases ht with ⟨t1, l0, l1, t2⟩ | ⟨t1, t2⟩
          · have e2 : s = L k := (zI_eq rs (by omega)).mp (es.symm.trans t2)
            omega
          · have e2 : s = -9 := (zI_eq rs (by omega)).mp (es.symm.trans t2)
            omega
      · rcases ht with ⟨t1, l0, l1, t2⟩ | ⟨t1, t2⟩
        · have e2 : s = L k := (zI_eq rs (by omega)).mp (es.symm.trans t2)
          rcases hm with ⟨m1, m2⟩ | ⟨m1, m2⟩
          · exact absurd (by omega) m1
          · rw [x2, m2, hf i.toNat (by omega), show 60 * k.toNat + i.toNat = (60 * k + i).toNat by omega]
        · omega
  · rcases hx with ⟨_, x2⟩ | ⟨ok, _⟩ | ⟨ok, _⟩
    · rcases hm with ⟨_, m2⟩ | ⟨ok, _⟩
      · rw [x2, m2]
      · exact absurd ok R
    · exact absurd ok R
    · exact absurd ok R
theorem kSR_copy (h : kSR T L N F so sl ce) (hx : kCoX k i o j n T L N F U rx) (hm : kCoM k i o j n so sl ce ce2 rm) : kSR T L N U so sl ce2 ∧ rx = rm := by
  by_cases R : kRan k o
  · have R' := R
    obtain ⟨⟨k0, k3⟩, ⟨o0, o3⟩⟩ := R
    obtain ⟨ht, hn, hb, hf⟩ := h k k0 k3
    obtain ⟨ht2, hn2, hb2, hf2⟩ := h o o0 o3
    have same : kSm U F → ce2 = ce → kSR T L N U so sl ce2 := fun a b j h0 h3 => by rw [a j h0 h3, b]; exact h j h0 h3
    by_cases tt : T k = 1 ∧ T o = 1
    · have hs : so k.toNat = zI (L k) ∧ 0 ≤ L k ∧ L k ≤ 2 := by
        rcases ht with ⟨_, l0, l1, t2⟩ | ⟨t1, _⟩
        · exact ⟨t2, l0, l1⟩
        · omega
      have hs2 : so o.toNat = zI (L o) ∧ 0 ≤ L o ∧ L o ≤ 2 := by
        rcases ht2 with ⟨_, l0, l1, t2⟩ | ⟨t1, _⟩
        · exact ⟨t2, l0, l1⟩
        · omega
      have nn : ¬ (so k.toNat = zI (-9) ∨ so o.toNat = zI (-9)) := by
        rw [hs.1, hs2.1, zI_eq (by omega) (by omega), zI_eq (by omega) (by omega)]
        omega
      have le : so k.toNat = so o.toNat ↔ L k = L o := by rw [hs.1, hs2.1, zI_eq (by omega) (by omega)]
      rcases hm with ⟨no, _⟩ | ⟨_, no, _⟩ | ⟨_, _, c, m1, m2⟩ | ⟨_, _, c, a, b, ra, rb, ea, eb, hm⟩
      · exact absurd R' no
      · exact absurd no nn
      · rcases hx with ⟨no, _⟩ | ⟨_, no, _⟩ | ⟨_, _, x, x1, x2⟩ | ⟨_, _, x, _⟩ | ⟨_, _, x, _⟩
        · exact absurd R' no
        · exact absurd tt no
        · exact ⟨same x2 m2, by rw [x1, m1]⟩
        · exact absurd (le.mpr x) c
        · exact absurd (le.mpr x) c
      · have e1 : a = N k := (zI_eq ra (by omega)).mp (ea.symm.trans hn)
        have e2 : b = N o := (zI_eq rb (by omega)).mp (eb.symm.trans hn2)
        rw [e1, e2] at hm
        rcases hx with ⟨no, _⟩ | ⟨_, no, _⟩ | ⟨_, _, x, _⟩ | ⟨_, _, _, x, x1, x2⟩ | ⟨_, _, _, x, x1, x2⟩
        · exact absurd R' no
        · exact absurd tt no
        · exact absurd (le.mp c) x
        · rcases hm with ⟨_, m1, m2⟩ | ⟨m0, _⟩
          · exact ⟨same x2 m2, by rw [x1, m1]⟩
          · exact absurd m0 x
        · rcases hm with ⟨m0, _⟩ | ⟨_, m1, m2⟩
          · exact absurd x m0
          · refine ⟨fun j2 h0 h3 => ?_, by rw [x1, m1]⟩
            obtain ⟨⟨i0, i1⟩, ⟨n0, n1⟩, ⟨j0, j1⟩, n2⟩ := x
            obtain ⟨ht3, hn3, hb3, hf3⟩ := h j2 h0 h3
            rw [x2 j2 h0 h3]
            by_cases c2 : j2 = o
            · rw [if_pos c2]
              subst c2
              refine ⟨ht3, hn3, hb3, fun x hx => ?_⟩
              rw [m2]
              unfold va_cpy
              by_cases d : j.toNat ≤ x ∧ x < j.toNat + n.toNat
              · rw [if_pos d, if_pos (by omega), hf (i.toNat + (x - j.toNat)) (by omega)]
                congr 1
                omega
              · rw [if_neg d, if_neg (by omega)]
                exact hf3 x hx
            · rw [if_neg c2]
              refine ⟨ht3, hn3, hb3, fun x hx => ?_⟩
              rw [m2]
              unfold va_cpy
              rw [if_neg (by omega)]
              exact hf3 x hx
    · have yy : so k.toNat = zI (-9) ∨ so o.toNat = zI (-9) := by
        rcases ht with ⟨t1, _⟩ | ⟨_, t2⟩
        · rcases ht2 with ⟨u1, _⟩ | ⟨_, u2⟩
          · exact absurd ⟨t1, u1⟩ tt
          · exact Or.inr u2
        · exact Or.inl t2
      rcases hm with ⟨no, _⟩ | ⟨_, _, m1, m2⟩ | ⟨_, no, _⟩ | ⟨_, no, _⟩
      · exact absurd R' no
      · rcases hx with ⟨no, _⟩ | ⟨_, _, x1, x2⟩ | ⟨_, x, _⟩ | ⟨_, x, _⟩ | ⟨_, x, _⟩
        · exact absurd R' no
        · exact ⟨same x2 m2, by rw [x1, m1]⟩
        · exact absurd x tt
        · exact absurd x tt
        · exact absurd x tt
      · exact absurd yy no
      · exact absurd yy no
  · rcases hx with ⟨_, x1, x2⟩ | ⟨ok, _⟩ | ⟨ok, _⟩ | ⟨ok, _⟩ | ⟨ok, _⟩
    · rcases hm with ⟨_, m1, m2⟩ | ⟨ok, _⟩ | ⟨ok, _⟩ | ⟨ok, _⟩
      · exact ⟨fun j2 h0 h3 => by rw [x2 j2 h0 h3, m2]; exact h j2 h0 h3, by rw [x1, m1]⟩
      · exact absurd ok R
      · exact absurd ok R
      · exact absurd ok R
    · exact absurd ok R
    · exact absurd ok R
    · exact absurd ok R
    · exact absurd ok R
end
theorem klc {x : Int64} : lg_cmp x x = 0 := by unfold lg_cmp; rw [if_neg Int64.lt_irrefl, if_pos rfl]
theorem klcmpE {x y : Int64} {z : Int} (h : x = y) (hz : rg z) (e : lg_cmp x y = zI z) : z = 0 := by
  subst h
  rw [klc] at e
  exact ((zI_eq (a := 0) (by omega) hz).mp (show zI 0 = zI z from e)).symm
theorem kSR_z : kSR (kS4 0 0 0 0) (kS4 0 0 0 0) (kS4 0 0 0 0) (kS4 (fun _ => 0) (fun _ => 0) (fun _ => 0) (fun _ => 0)) (upd (upd (upd (upd (fun _ => 0) 0 (-9)) 1 (-9)) 2 (-9)) 3 (-9)) (fun _ => 0) (fun _ => 0) := by
  intro j h0 h3
  rcases kx4 h0 h3 with e | e | e | e <;> subst e <;> exact ⟨Or.inr ⟨rfl, rfl⟩, rfl, ⟨Int.le_refl 0, by decide⟩, fun _ _ => rfl⟩
/-! the same of one SHEET alone -/
def kPuG (i z t l n : Int) (f g : Nat → Int32) (rz : Int) : Prop := (¬ t = 1 ∧ rz = -11 ∧ g = f) ∨ (t = 1 ∧ ¬ (0 ≤ i ∧ i ≤ n - 1) ∧ rz = -13 ∧ g = f) ∨ (t = 1 ∧ (0 ≤ i ∧ i ≤ n - 1) ∧ rz = 1 ∧ g = upd f i.toNat (kCut l z))
theorem kUp_sm {α : Type} {U F : Int → α} {k : Int} {g : α} (hU : kUp U F k g) (e : g = F k) : kSm U F := fun x h0 h3 => by
  rw [hU x h0 h3]
  by_cases c : x = k
  · rw [if_pos c, c, e]
  · rw [if_neg c]
theorem kPuX_G {k i z t l n rz : Int} {T L N : Int → Int} {F U : Int → Nat → Int32} {f g : Nat → Int32} (h : 0 ≤ k ∧ k ≤ 3) (ht : T k = t) (hl : L k = l) (hn : N k = n) (hf : F k = f) (hU : kUp U F k g) (hg : kPuG i z t l n f g rz) : kPuX k i z T L N F U rz := by
  subst hf
  rcases hg with ⟨a, b, c⟩ | ⟨a, b, c, d⟩ | ⟨a, b, c, d⟩
  · exact Or.inr (Or.inl ⟨h, by rw [ht]; exact a, b, kUp_sm hU c⟩)
  · exact Or.inr (Or.inr (Or.inl ⟨h, by rw [ht]; exact a, by rw [hn]; exact b, c, kUp_sm hU d⟩))
  · exact Or.inr (Or.inr (Or.inr ⟨h, by rw [ht]; exact a, by rw [hn]; exact b, c, by rw [hl, ← d]; exact hU⟩))
def kCeG (i y t l n : Int) (f : Nat → Int32) (rz : Int64) : Prop := (¬ (t = 1 ∧ l = y ∧ 0 ≤ i ∧ i ≤ n - 1) ∧ rz = kLOST) ∨ ((t = 1 ∧ l = y ∧ 0 ≤ i ∧ i ≤ n - 1) ∧ rz = (f i.toNat).toInt64)
theorem kCeG_2 {i y t l n z : Int} {f : Nat → Int32} (h2 : t = 1 ∧ l = y ∧ 0 ≤ i ∧ i ≤ n - 1) (hz : kAt t n i f = zI z) : kCeG i y t l n f ((zI z).toInt64) := by
  refine Or.inr ⟨h2, ?_⟩
  rw [← hz]
  unfold kAt
  rw [if_pos ⟨h2.1, h2.2.2⟩]
theorem kCeX_G {k i y t l n : Int} {T L N : Int → Int} {F : Int → Nat → Int32} {f : Nat → Int32} {rz : Int64} (h : (0 ≤ k ∧ k ≤ 3) ∧ (0 ≤ y ∧ y ≤ 2)) (ht : T k = t) (hl : L k = l) (hn : N k = n) (hf : F k = f) (hg : kCeG i y t l n f rz) : kCeX k i y T L N F rz := by
  subst hf
  rcases hg with ⟨a, b⟩ | ⟨a, b⟩
  · exact Or.inr (Or.inl ⟨h, by rw [ht, hl, hn]; exact a, b⟩)
  · exact Or.inr (Or.inr ⟨h, by rw [ht, hl, hn]; exact a, b⟩)
def kCoG (i j n tk to' lk lo nk no : Int) (fk fo g : Nat → Int32) (rz : Int) : Prop := (¬ (tk = 1 ∧ to' = 1) ∧ rz = -11 ∧ g = fo) ∨ ((tk = 1 ∧ to' = 1) ∧ ¬ lk = lo ∧ rz = -12 ∧ g = fo) ∨ ((tk = 1 ∧ to' = 1) ∧ lk = lo ∧ ¬ kOkC i j n nk no ∧ rz = -13 ∧ g = fo) ∨ ((tk = 1 ∧ to' = 1) ∧ lk = lo ∧ kOkC i j n nk no ∧ rz = n ∧ g = va_cpy fk fo i.toNat j.toNat n.toNat)
theorem kCoX_G {k i o j n tk to' lk lo nk no rz : Int} {T L N : Int → Int} {F U : Int → Nat → Int32} {fk fo g : Nat → Int32} (h : (0 ≤ k ∧ k ≤ 3) ∧ (0 ≤ o ∧ o ≤ 3)) (h1 : T k = tk) (h2 : T o = to') (h3 : L k = lk) (h4 : L o = lo) (h5 : N k = nk) (h6 : N o = no) (h7 : F k = fk) (h8 : F o = fo) (hU : kUp U F o g) (hg : kCoG i j n tk to' lk lo nk no fk fo g rz) : kCoX k i o j n T L N F U rz := by
  subst h7
  subst h8
  rcases hg with ⟨a, b, c⟩ | ⟨a, b, c, d⟩ | ⟨a, b, c, d, e⟩ | ⟨a, b, c, d, e⟩
  · exact Or.inr (Or.inl ⟨h, by rw [h1, h2]; exact a, b, kUp_sm hU c⟩)
  · exact Or.inr (Or.inr (Or.inl ⟨h, by rw [h1, h2]; exact a, by rw [h3, h4]; exact b, c, kUp_sm hU d⟩))
  · exact Or.inr (Or.inr (Or.inr (Or.inl ⟨h, by rw [h1, h2]; exact a, by rw [h3, h4]; exact b, by rw [h5, h6]; exact c, d, kUp_sm hU e⟩)))
  · exact Or.inr (Or.inr (Or.inr (Or.inr ⟨h, by rw [h1, h2]; exact a, by rw [h3, h4]; exact b, by rw [h5, h6]; exact c, d, by rw [← e]; exact hU⟩)))
theorem kOkC_y {i j n a b : Int} (h : (0 ≤ i ∧ i ≤ a) ∧ (0 ≤ n ∧ n ≤ a - i) ∧ (0 ≤ j ∧ j ≤ b) ∧ n ≤ b - j) : kOkC i j n a b := h
theorem kOkC_n {i j n a b : Int} (h : ¬ ((0 ≤ i ∧ i ≤ a) ∧ (0 ≤ n ∧ n ≤ a - i) ∧ (0 ≤ j ∧ j ≤ b) ∧ n ≤ b - j)) : ¬ kOkC i j n a b := h
/-! how many of sixteen bits -/
def kPc : Nat → Nat → Nat
  | 0, _ => 0
  | f + 1, n => n % 2 + kPc f (n / 2)
theorem kPc_top : ∀ (f n : Nat), n < 2 ^ f → kPc (f + 1) n = kPc f n
  | 0, n, h => by
    have e : n = 0 := by omega
    subst e
    rfl
  | f + 1, n, h => by
    show n % 2 + kPc (f + 1) (n / 2) = n % 2 + kPc f (n / 2)
    rw [kPc_top f (n / 2) (by rw [Nat.pow_succ] at h; omega)]
theorem kPc_le : ∀ (f n : Nat), kPc f n ≤ f
  | 0, _ => Nat.le_refl 0
  | f + 1, n => by
    have h := kPc_le f (n / 2)
    show n % 2 + kPc f (n / 2) ≤ f + 1
    omega
def kPop (x : Int) : Int := (kPc 16 x.toNat : Nat)
theorem kPop_0 : kPop 0 = 0 := rfl
theorem kPop_b (x : Int) : 0 ≤ kPop x ∧ kPop x ≤ 16 := by
  have h := kPc_le 16 x.toNat
  unfold kPop
  omega
theorem kPop_half {x : Int} (h : 0 ≤ x ∧ x < 65536) : kPop x = x % 2 + kPop (x / 2) := by
  obtain ⟨n, rfl⟩ := Int.eq_ofNat_of_zero_le h.1
  unfold kPop
  have h1 : ((n : Int) / 2).toNat = n / 2 := by omega
  have h2 : kPc 16 n = n % 2 + kPc 15 (n / 2) := rfl
  have h3 : kPc 16 (n / 2) = kPc 15 (n / 2) := kPc_top 15 (n / 2) (by omega)
  have h4 : ((n : Int)).toNat = n := by omega
  rw [h1, h3, h4, h2]
  omega
theorem kand1 {x z : Int} (h : 0 ≤ x ∧ x < 2147483648) (hz : rg z) (e : zI x &&& zI 1 = zI z) : z = x % 2 := by
  obtain ⟨n, rfl⟩ := Int.eq_ofNat_of_zero_le h.1
  have q : nI n &&& (1 : Int32) = nI (n % 2 ^ 1) := pk_andN (n := n) (by omega) 1 (by decide)
  have q2 : zI (n : Int) &&& zI 1 = zI ((n % 2 ^ 1 : Nat) : Int) := q
  rw [e] at q2
  have := (zI_eq hz (by omega)).mp q2
  omega
def kSz (x js jl : Int) : Prop := (0 ≤ x ∧ x < 65536) → (0 ≤ jl ∧ jl < 65536) ∧ 0 ≤ js ∧ js + kPop jl = kPop x
theorem kSz_0 {x : Int} : kSz x 0 x := fun h => ⟨h, by omega, by omega⟩
theorem kSz_s {x js jl b z z2 : Int} (h : kSz x js jl) (h0 : 0 < jl) (rb : rg b) (eb : zI jl &&& zI 1 = zI b) (rz : rg z) (ez : zI (js + b) = zI z) (e2 : z2 = jl / 2) : kSz x z z2 := by
  intro hx
  obtain ⟨h1, h2, h3⟩ := h hx
  have q := kand1 (by omega) rb eb
  have p := kPop_half h1
  have pb := kPop_b x
  have pj := kPop_b jl
  have pc := kPop_b (jl / 2)
  have e := (zI_eq (by omega) rz).mp ez
  subst e2
  refine ⟨by omega, by omega, ?_⟩
  omega
theorem kSz_e {x js jl : Int} (h : kSz x js jl) (h0 : jl ≤ 0) : (0 ≤ x ∧ x < 65536) → js = kPop x := by
  intro hx
  obtain ⟨h1, h2, h3⟩ := h hx
  have e : jl = 0 := by omega
  subst e
  rw [kPop_0] at h3
  omega
/-! the JDK's bitCount -/
def kU (x : Int32) (k : Int) : Int32 := (x.toUInt32 >>> ((zI k).toUInt32 &&& Int32.toUInt32 31)).toInt32
def kB1 (x : Int32) : Int32 := x - (kU x 1 &&& zI 1431655765)
def kB2 (x : Int32) : Int32 := (x &&& zI 858993459) + (kU x 2 &&& zI 858993459)
def kB3 (x : Int32) : Int32 := (x + kU x 4) &&& zI 252645135
def kB4 (x : Int32) : Int32 := x + kU x 8
def kB5 (x : Int32) : Int32 := x + kU x 16
def kBc (x : Int32) : Int32 := kB5 (kB4 (kB3 (kB2 (kB1 x)))) &&& zI 63
/-! the JDK's bitCount of sixteen bits, byte by byte -/
theorem kA256 (x y : Nat) : x &&& y = 256 * ((x / 256) &&& (y / 256)) + ((x % 256) &&& (y % 256)) := by
  have h1 : (x &&& y) / 2 ^ 8 = x / 2 ^ 8 &&& y / 2 ^ 8 := Nat.and_div_two_pow
  have h2 : (x &&& y) % 2 ^ 8 = (x % 2 ^ 8) &&& (y % 2 ^ 8) := Nat.and_mod_two_pow
  have h3 := Nat.div_add_mod (x &&& y) (2 ^ 8)
  rw [h1, h2] at h3
  exact h3.symm
theorem kAlow {m M : Nat} (h : m < 256) : m &&& M = m &&& (M % 256) := by
  rw [kA256 m M, Nat.div_eq_of_lt h, Nat.zero_and, Nat.mod_eq_of_lt h, Nat.mul_zero, Nat.zero_add]
def kby1 (x : Nat) : Nat := x - (x / 2 &&& 85)
def kby2 (x : Nat) : Nat := (x &&& 51) + (x / 4 &&& 51)
def kby3 (x : Nat) : Nat := (x + x / 16) &&& 15
theorem kby_all : ∀ x, x < 256 → (x / 2 &&& 85) ≤ x ∧ kby1 x < 256 ∧ kby2 (kby1 x) ≤ 68 ∧ kby2 (kby1 x) % 16 ≤ 4 ∧ kby3 (kby2 (kby1 x)) = kPc 8 x ∧ kPc 8 x ≤ 8 := by decide +kernel
theorem kl1 : ∀ a, a < 2 → ∀ m, m < 128 → (128 * a + m) &&& 85 = m &&& 85 := by decide +kernel
theorem kl2 : ∀ a, a < 4 → ∀ m, m < 64 → (64 * a + m) &&& 51 = m &&& 51 := by decide +kernel
theorem kl3 : ∀ a, a < 5 → ∀ m, m < 73 → (16 * a + m) &&& 15 = m &&& 15 := by decide +kernel
theorem ks1 {h l : Nat} (hh : h < 256) (hl : l < 256) : (256 * h + l) / 2 &&& 1431655765 = 256 * (h / 2 &&& 85) + (l / 2 &&& 85) := by
  rw [kA256 ((256 * h + l) / 2) 1431655765, show (256 * h + l) / 2 / 256 = h / 2 by omega, show (256 * h + l) / 2 % 256 = 128 * (h % 2) + l / 2 by omega, show 1431655765 % 256 = 85 by decide, kl1 (h % 2) (by omega) (l / 2) (by omega), kAlow (m := h / 2) (by omega), show 1431655765 / 256 % 256 = 85 by decide]
theorem ks2 {h l : Nat} (hh : h < 256) (hl : l < 256) : (256 * h + l) &&& 858993459 = 256 * (h &&& 51) + (l &&& 51) := by
  rw [kA256 (256 * h + l) 858993459, show (256 * h + l) / 256 = h by omega, show (256 * h + l) % 256 = l by omega, show 858993459 % 256 = 51 by decide, kAlow (m := h) hh, show 858993459 / 256 % 256 = 51 by decide]
theorem ks3 {h l : Nat} (hh : h < 256) (hl : l < 256) : (256 * h + l) / 4 &&& 858993459 = 256 * (h / 4 &&& 51) + (l / 4 &&& 51) := by
  rw [kA256 ((256 * h + l) / 4) 858993459, show (256 * h + l) / 4 / 256 = h / 4 by omega, show (256 * h + l) / 4 % 256 = 64 * (h % 4) + l / 4 by omega, show 858993459 % 256 = 51 by decide, kl2 (h % 4) (by omega) (l / 4) (by omega), kAlow (m := h / 4) (by omega), show 858993459 / 256 % 256 = 51 by decide]
theorem ks4 {h l : Nat} (hh : h ≤ 68 ∧ h % 16 ≤ 4) (hl : l ≤ 68) : (256 * h + l + (256 * h + l) / 16) &&& 252645135 = 256 * kby3 h + kby3 l := by
  unfold kby3
  rw [kA256 (256 * h + l + (256 * h + l) / 16) 252645135, show (256 * h + l + (256 * h + l) / 16) / 256 = h + h / 16 by omega, show (256 * h + l + (256 * h + l) / 16) % 256 = 16 * (h % 16) + (l + l / 16) by omega, show 252645135 % 256 = 15 by decide, kl3 (h % 16) (by omega) (l + l / 16) (by omega), kAlow (m := h + h / 16) (by omega), show 252645135 / 256 % 256 = 15 by decide]
theorem kNand (a b : Nat) : nI a &&& nI b = nI (a &&& b) := by
  apply Int32.toBitVec_inj.mp
  rw [Int32.toBitVec_and]
  exact (BitVec.ofNat_and (w := 32) (x := a) (y := b)).symm
theorem kU_N {n : Nat} (hn : n < 2 ^ 32) {k : Nat} (z : Int) (hs : (((zI z).toUInt32 &&& Int32.toUInt32 31).toBitVec % 32).toNat = k) : kU (nI n) z = nI (n / 2 ^ k) := pk_ushrN hn (zI z) k hs
theorem kPc_add : ∀ (f g l h : Nat), l < 2 ^ f → kPc (f + g) (2 ^ f * h + l) = kPc f l + kPc g h
  | 0, g, l, h, hl => by
    have e : l = 0 := by omega
    subst e
    rw [Nat.zero_add, Nat.pow_zero, Nat.one_mul, Nat.add_zero]
    show kPc g h = 0 + kPc g h
    omega
  | f + 1, g, l, h, hl => by
    rw [show f + 1 + g = (f + g) + 1 by omega]
    rw [Nat.pow_succ] at hl ⊢
    show (2 ^ f * 2 * h + l) % 2 + kPc (f + g) ((2 ^ f * 2 * h + l) / 2) = l % 2 + kPc f (l / 2) + kPc g h
    have e1 : 2 ^ f * 2 * h = 2 * (2 ^ f * h) := by rw [Nat.mul_comm (2 ^ f) 2, Nat.mul_assoc]
    rw [e1, show (2 * (2 ^ f * h) + l) % 2 = l % 2 by omega, show (2 * (2 ^ f * h) + l) / 2 = 2 ^ f * h + l / 2 by omega, kPc_add f g (l / 2) h (by omega)]
    omega
theorem kBc_N {h l : Nat} (hh : h < 256) (hl : l < 256) : kBc (nI (256 * h + l)) = nI (kPc 8 l + kPc 8 h) := by
  obtain ⟨a1, a2, a3, a4, a5, a6⟩ := kby_all h hh
  obtain ⟨b1, b2, b3, b4, b5, b6⟩ := kby_all l hl
  have s1 : kB1 (nI (256 * h + l)) = nI (256 * kby1 h + kby1 l) := by
    unfold kB1
    rw [kU_N (by omega) 1 (k := 1) (by decide), show zI 1431655765 = nI 1431655765 from rfl, kNand, show 2 ^ 1 = 2 from rfl, ks1 hh hl, pk_sub (by omega)]
    unfold kby1
    congr 1
    omega
  have s2 : kB2 (nI (256 * kby1 h + kby1 l)) = nI (256 * kby2 (kby1 h) + kby2 (kby1 l)) := by
    unfold kB2
    rw [kU_N (by omega) 2 (k := 2) (by decide), show zI 858993459 = nI 858993459 from rfl, kNand, kNand, show 2 ^ 2 = 4 from rfl, ks2 a2 b2, ks3 a2 b2, nI_add]
    unfold kby2
    congr 1
    omega
  have s3 : kB3 (nI (256 * kby2 (kby1 h) + kby2 (kby1 l))) = nI (256 * kPc 8 h + kPc 8 l) := by
    unfold kB3
    rw [kU_N (by omega) 4 (k := 4) (by decide), show zI 252645135 = nI 252645135 from rfl, nI_add, kNand, show 2 ^ 4 = 16 from rfl, ks4 ⟨a3, a4⟩ b3, a5, b5]
  have s4 : kB4 (nI (256 * kPc 8 h + kPc 8 l)) = nI (256 * kPc 8 h + (kPc 8 l + kPc 8 h)) := by
    unfold kB4
    rw [kU_N (by omega) 8 (k := 8) (by decide), nI_add]
    congr 1
    omega
  have s5 : kB5 (nI (256 * kPc 8 h + (kPc 8 l + kPc 8 h))) = nI (256 * kPc 8 h + (kPc 8 l + kPc 8 h)) := by
    unfold kB5
    rw [kU_N (by omega) 16 (k := 16) (by decide), nI_add]
    congr 1
    omega
  unfold kBc
  rw [s1, s2, s3, s4, s5, pk_andN (by omega) 6 (by decide)]
  congr 1
  omega
theorem kBc_pop {x z : Int} (h : 0 ≤ x ∧ x < 65536) (hz : rg z) (e : kBc (zI x) = zI z) : z = kPop x := by
  obtain ⟨n, rfl⟩ := Int.eq_ofNat_of_zero_le h.1
  have q := kBc_N (h := n / 256) (l := n % 256) (by omega) (by omega)
  rw [show 256 * (n / 256) + n % 256 = n by omega] at q
  have p := kPc_add 8 8 (n % 256) (n / 256) (by omega)
  rw [show 2 ^ 8 * (n / 256) + n % 256 = n by omega] at p
  rw [← p] at q
  have q2 : kBc (zI (n : Int)) = zI ((kPc 16 n : Nat) : Int) := q
  rw [e] at q2
  have b := kPc_le 16 n
  have q3 := (zI_eq hz (by omega)).mp q2
  have h4 : ((n : Int)).toNat = n := by omega
  unfold kPop
  rw [h4]
  exact q3
/-! sixteen bits -/
theorem k16i {x : Int32} (h : 0 ≤ x.toInt ∧ x.toInt < 65536) : x &&& 65535 = x := by
  obtain ⟨z, hz, rfl⟩ := zI_ex x
  rw [zI_toInt hz] at h
  obtain ⟨n, rfl⟩ := Int.eq_ofNat_of_zero_le h.1
  have q : nI n &&& (65535 : Int32) = nI (n % 2 ^ 16) := pk_andN (n := n) (by omega) 16 (by decide)
  rw [show n % 2 ^ 16 = n from Nat.mod_eq_of_lt (by omega)] at q
  exact q
theorem k16o {x : Int32} (h : x &&& 65535 = x) : 0 ≤ x.toInt ∧ x.toInt < 65536 := by
  obtain ⟨j, hj, e⟩ := pk_andE x (m := 65535) 16 (by decide)
  rw [h] at e
  have e2 : x = zI (j : Int) := e
  rw [e2, zI_toInt (by omega)]
  omega
theorem k16or {x y : Int32} (hx : x &&& 65535 = x) (hy : y &&& 65535 = y) : (x ||| y) &&& 65535 = x ||| y := by
  apply b_ext
  intro i hi
  have a := congrArg (fun z => bt z i) hx
  have b := congrArg (fun z => bt z i) hy
  simp only [b_and] at a b
  rw [b_and, b_or]
  cases p : bt x i <;> cases q : bt y i <;> cases r : bt 65535 i <;> simp_all
theorem k16bit {k : Int} (h : 0 ≤ k ∧ k < 16) : (zI 1 <<< (zI k &&& 31)) &&& 65535 = zI 1 <<< (zI k &&& 31) := by
  have a : ∀ n : Nat, n < 16 → (zI 1 <<< (zI (n : Int) &&& 31)) &&& 65535 = zI 1 <<< (zI (n : Int) &&& 31) := by decide +kernel
  obtain ⟨n, rfl⟩ := Int.eq_ofNat_of_zero_le h.1
  exact a n (by omega)
theorem k16 {h k z : Int} (hh : 0 ≤ h ∧ h < 65536) (hk : 0 ≤ k ∧ k < 16) (hz : rg z) (e : zI h ||| (zI 1 <<< (zI k &&& 31)) = zI z) : 0 ≤ z ∧ z < 65536 := by
  have q := k16o (k16or (k16i (x := zI h) (by rw [zI_toInt (by omega)]; exact hh)) (k16bit hk))
  rw [e, zI_toInt hz] at q
  exact q
theorem kb1x {k : Nat} (hk : k < 32) {i : Nat} (hi : i < 32) : bt (zI 1 <<< (zI (k : Int) &&& 31)) i = decide (i = k) := by
  have q : bt (zI 1 <<< (zI (k : Int) &&& 31)) i = (decide (k ≤ i) && bt 1 (i - k)) := b_shl k hk (1 : Int32) hi
  rw [q]
  have o1 : ∀ j, j < 32 → bt 1 j = decide (j = 0) := by decide +kernel
  rw [o1 (i - k) (by omega)]
  by_cases c : i = k
  · subst c
    simp
  · by_cases c2 : k ≤ i
    · have c3 : ¬ i - k = 0 := by omega
      simp [c, c3]
    · simp [c, c2]
/-- the bit is not in the set -/
theorem kbt0 {h k a : Int} (hk : 0 ≤ k ∧ k < 32) (ha : rg a) (e : zI h &&& (zI 1 <<< (zI k &&& 31)) = zI a) : a = 0 ↔ bt (zI h) k.toNat = false := by
  obtain ⟨n, rfl⟩ := Int.eq_ofNat_of_zero_le hk.1
  have q3 : ((n : Int)).toNat = n := by omega
  rw [q3]
  constructor
  · intro c
    rw [c] at e
    have q := congrArg (fun z => bt z n) e
    simp only [b_and] at q
    rw [kb1x (by omega) (by omega), show bt (zI 0) n = false from b_0 n] at q
    simpa using q
  · intro c
    have q : zI h &&& (zI 1 <<< (zI (n : Int) &&& 31)) = zI 0 := by
      apply b_ext
      intro i hi
      rw [b_and, kb1x (by omega) hi, show bt (zI 0) i = false from b_0 i]
      by_cases d : i = n
      · subst d
        rw [c]
        rfl
      · simp [d]
    rw [e] at q
    exact (zI_eq ha (by omega)).mp q
theorem kor_ne {h k z : Int} (hk : 0 ≤ k ∧ k < 32) (e : zI h ||| (zI 1 <<< (zI k &&& 31)) = zI z) : ¬ z = 0 := by
  obtain ⟨n, rfl⟩ := Int.eq_ofNat_of_zero_le hk.1
  intro c
  rw [c] at e
  have q := congrArg (fun z => bt z n) e
  simp only [b_or] at q
  rw [kb1x (by omega) (by omega), show bt (zI 0) n = false from b_0 n] at q
  simp at q
theorem kupd2 {f : Nat → Int32} {k : Nat} {x y : Int32} : upd (upd f k x) k y = upd f k y := by
  funext i
  by_cases c : i = k
  · subst c
    rw [pk_us, pk_us]
  · rw [pk_un c, pk_un c, pk_un c]
/-! codes: the cells of a SHEET from a place on -/
def kCd (f : Nat → Int32) (o : Int) : Nat → Int32 := fun j => f (o + (j : Int)).toNat
theorem kCd_at {f : Nat → Int32} {o j : Int} (h : o ≤ j) : kCd f o (j - o).toNat = f j.toNat := by
  show f (o + ((j - o).toNat : Int)).toNat = _
  rw [show o + ((j - o).toNat : Int) = j by omega]
theorem kCd_z {f : Nat → Int32} {o j z : Int} (h : 0 ≤ j) (hz : rg z) (e : f (o + j).toNat = zI z) : (kCd f o j.toNat).toInt = z := by
  show (f (o + (j.toNat : Int)).toNat).toInt = z
  rw [show o + (j.toNat : Int) = o + j by omega, e, zI_toInt hz]
theorem kAt_in {th n i : Int} {f : Nat → Int32} (h : th = 1 ∧ 0 ≤ i ∧ i ≤ n - 1) : kAt th n i f = f i.toNat := by
  unfold kAt
  rw [if_pos h]
/-! reading a TEXT code by code: what is due, how many FONTS, their kinds, widths, letters -/
abbrev kPT : Type := Int × Int × (Nat → Int32) × (Nat → Int32) × (Nat → Int32)
def kSgC (n : Int) (C : Nat → Int32) (x : Int) : Option (Nat → Int32) := if x = 59 ∧ n < 4 then some (upd C n.toNat (zI 0)) else none
def kLtC (n : Int) (C : Nat → Int32) (x : Int) : Option (Nat → Int32) := if 1 ≤ n ∧ (97 ≤ x ∧ x ≤ 112) ∧ bt (C (n - 1).toNat) (x - 97).toNat = false ∧ kPop (C (n - 1).toNat).toInt < 8 then some (upd C (n - 1).toNat (C (n - 1).toNat ||| (zI 1 <<< (zI (x - 97) &&& 31)))) else none
def kSgn (n : Int) (A B C : Nat → Int32) (x : Int) : Option kPT := match kSgC n C x with
  | none => none
  | some c => some (2, n + 1, A, B, c)
def kLtr (n : Int) (A B C : Nat → Int32) (x : Int) : Option kPT := match kLtC n C x with
  | none => none
  | some c => some (5, n, A, B, c)
def kKnd (n : Int) (A B C : Nat → Int32) (x : Int) : Option kPT := if 1 ≤ n ∧ 65 ≤ x ∧ x ≤ 67 then some (3, n, upd A (n - 1).toNat (zI (x - 65)), B, C) else none
def kBrd (n : Int) (A B C : Nat → Int32) (x : Int) : Option kPT := if 1 ≤ n ∧ 49 ≤ x ∧ x ≤ 57 then some (4, n, A, upd B (n - 1).toNat (zI (x - 48)), C) else none
def kStp (d n : Int) (A B C : Nat → Int32) (x : Int) : Option kPT :=
  if d = 0 then (if x = 102 then some (1, n, A, B, C) else none)
  else if d = 1 then kSgn n A B C x
  else if d = 2 then kKnd n A B C x
  else if d = 3 then kBrd n A B C x
  else if d = 4 then kLtr n A B C x
  else if x = 59 then kSgn n A B C x else kLtr n A B C x
section
variable {d n x : Int} {A B C c : Nat → Int32}
theorem kSgn_s (h : kSgC n C x = some c) : kSgn n A B C x = some (2, n + 1, A, B, c) := by unfold kSgn; rw [h]
theorem kSgn_n (h : kSgC n C x = none) : kSgn n A B C x = none := by unfold kSgn; rw [h]
theorem kLtr_s (h : kLtC n C x = some c) : kLtr n A B C x = some (5, n, A, B, c) := by unfold kLtr; rw [h]
theorem kLtr_n (h : kLtC n C x = none) : kLtr n A B C x = none := by unfold kLtr; rw [h]
theorem kStp_0 (h : d = 0) : kStp d n A B C x = if x = 102 then some (1, n, A, B, C) else none := by unfold kStp; rw [if_pos h]
theorem kStp_0y (h : d = 0) (hx : x = 102) : kStp d n A B C x = some (1, n, A, B, C) := by rw [kStp_0 h, if_pos hx]
theorem kStp_0n (h : d = 0) (hx : ¬ x = 102) : kStp d n A B C x = none := by rw [kStp_0 h, if_neg hx]
theorem kStp_1 (h : d = 1) : kStp d n A B C x = kSgn n A B C x := by unfold kStp; rw [if_neg (by omega), if_pos h]
theorem kStp_2 (h : d = 2) : kStp d n A B C x = kKnd n A B C x := by unfold kStp; rw [if_neg (by omega), if_neg (by omega), if_pos h]
theorem kStp_3 (h : d = 3) : kStp d n A B C x = kBrd n A B C x := by unfold kStp; rw [if_neg (by omega), if_neg (by omega), if_neg (by omega), if_pos h]
theorem kStp_4 (h : d = 4) : kStp d n A B C x = kLtr n A B C x := by unfold kStp; rw [if_neg (by omega), if_neg (by omega), if_neg (by omega), if_neg (by omega), if_pos h]
theorem kStp_5s (h : d = 5) (hx : x = 59) : kStp d n A B C x = kSgn n A B C x := by unfold kStp; rw [if_neg (by omega), if_neg (by omega), if_neg (by omega), if_neg (by omega), if_neg (by omega), if_pos hx]
theorem kStp_5l (h : d = 5) (hx : ¬ x = 59) : kStp d n A B C x = kLtr n A B C x := by unfold kStp; rw [if_neg (by omega), if_neg (by omega), if_neg (by omega), if_neg (by omega), if_neg (by omega), if_neg hx]
theorem kSgC_y (h : x = 59 ∧ n < 4) : kSgC n C x = some (upd C n.toNat (zI 0)) := by unfold kSgC; rw [if_pos h]
theorem kSgC_n (h : ¬ (x = 59 ∧ n < 4)) : kSgC n C x = none := by unfold kSgC; rw [if_neg h]
theorem kKnd_y (h : 1 ≤ n ∧ 65 ≤ x ∧ x ≤ 67) : kKnd n A B C x = some (3, n, upd A (n - 1).toNat (zI (x - 65)), B, C) := by unfold kKnd; rw [if_pos h]
theorem kKnd_n (h : ¬ (1 ≤ n ∧ 65 ≤ x ∧ x ≤ 67)) : kKnd n A B C x = none := by unfold kKnd; rw [if_neg h]
theorem kBrd_y (h : 1 ≤ n ∧ 49 ≤ x ∧ x ≤ 57) : kBrd n A B C x = some (4, n, A, upd B (n - 1).toNat (zI (x - 48)), C) := by unfold kBrd; rw [if_pos h]
theorem kBrd_n (h : ¬ (1 ≤ n ∧ 49 ≤ x ∧ x ≤ 57)) : kBrd n A B C x = none := by unfold kBrd; rw [if_neg h]
theorem kLtC_n (q : ¬ (1 ≤ n ∧ (97 ≤ x ∧ x ≤ 112))) : kLtC n C x = none := by
  unfold kLtC
  rw [if_neg (fun p => q ⟨p.1, p.2.1⟩)]
theorem kLtC_b (q : bt (C (n - 1).toNat) (x - 97).toNat = true) : kLtC n C x = none := by
  unfold kLtC
  rw [if_neg (fun p => by have := p.2.2.1; rw [q] at this; cases this)]
theorem kLtC_8 (q : 8 ≤ kPop (C (n - 1).toNat).toInt) : kLtC n C x = none := by
  unfold kLtC
  rw [if_neg (fun p => by have := p.2.2.2; omega)]
theorem kLtC_y (h1 : 1 ≤ n) (h2 : 97 ≤ x ∧ x ≤ 112) (h3 : bt (C (n - 1).toNat) (x - 97).toNat = false) (h4 : kPop (C (n - 1).toNat).toInt < 8) : kLtC n C x = some (upd C (n - 1).toNat (C (n - 1).toNat ||| (zI 1 <<< (zI (x - 97) &&& 31)))) := by
  unfold kLtC
  rw [if_pos ⟨h1, h2, h3, h4⟩]
end
def kGo (cd : Nat → Int32) (A B C : Nat → Int32) : Nat → Option kPT
  | 0 => some (0, 0, A, B, C)
  | k + 1 => match kGo cd A B C k with
    | none => none
    | some s => kStp s.1 s.2.1 s.2.2.1 s.2.2.2.1 s.2.2.2.2 (cd k).toInt
section
variable {cd A B C : Nat → Int32} {k : Nat} {d n : Int} {a b c : Nat → Int32}
theorem kGo_s (h : kGo cd A B C k = some (d, n, a, b, c)) : kGo cd A B C (k + 1) = kStp d n a b c (cd k).toInt := by
  show (match kGo cd A B C k with | none => none | some s => kStp s.1 s.2.1 s.2.2.1 s.2.2.2.1 s.2.2.2.2 (cd k).toInt) = _
  rw [h]
theorem kGo_n (h : kGo cd A B C k = none) : kGo cd A B C (k + 1) = none := by
  show (match kGo cd A B C k with | none => none | some s => kStp s.1 s.2.1 s.2.2.1 s.2.2.2.1 s.2.2.2.2 (cd k).toInt) = _
  rw [h]
theorem kGo_none (h : kGo cd A B C k = none) : ∀ j : Nat, kGo cd A B C (k + j) = none
  | 0 => h
  | j + 1 => kGo_n (k := k + j) (kGo_none h j)
theorem kGo_cong {cd2 : Nat → Int32} : ∀ k : Nat, (∀ i, i < k → cd i = cd2 i) → kGo cd A B C k = kGo cd2 A B C k
  | 0, _ => rfl
  | k + 1, h => by
    show (match kGo cd A B C k with | none => none | some s => kStp s.1 s.2.1 s.2.2.1 s.2.2.2.1 s.2.2.2.2 (cd k).toInt) = (match kGo cd2 A B C k with | none => none | some s => kStp s.1 s.2.1 s.2.2.1 s.2.2.2.1 s.2.2.2.2 (cd2 k).toInt)
    rw [kGo_cong k (fun i hi => h i (by omega)), h k (by omega)]
end
/-- where the reading fails at k: it came so far, and the code there is wrong -/
def kBad (cd A B C : Nat → Int32) (N k : Nat) : Prop := ∃ d n a b c, kGo cd A B C k = some (d, n, a, b, c) ∧ ((k < N ∧ kStp d n a b c (cd k).toInt = none) ∨ (k = N ∧ ¬ d = 5))
theorem kBad_go {cd A B C : Nat → Int32} {N k : Nat} (h : kBad cd A B C N k) (hk : k < N) : ∀ j, k < j → kGo cd A B C j = none := by
  obtain ⟨d, n, a, b, c, h1, h2⟩ := h
  intro j hj
  have h3 : kGo cd A B C (k + 1) = none := by
    rw [kGo_s h1]
    rcases h2 with ⟨-, q⟩ | ⟨q, -⟩
    · exact q
    · omega
  have h4 := kGo_none h3 (j - (k + 1))
  rw [show k + 1 + (j - (k + 1)) = j by omega] at h4
  exact h4
theorem kBad_le {cd A B C : Nat → Int32} {N k : Nat} (h : kBad cd A B C N k) : k ≤ N := by
  obtain ⟨d, n, a, b, c, h1, h2⟩ := h
  omega
theorem kBad_uniq {cd A B C : Nat → Int32} {N k j : Nat} (h : kBad cd A B C N k) (h2 : kBad cd A B C N j) : k = j := by
  have l1 := kBad_le h
  have l2 := kBad_le h2
  rcases Nat.lt_trichotomy k j with q | q | q
  · have g := kBad_go h (by omega) j q
    obtain ⟨d, n, a, b, c, g1, -⟩ := h2
    rw [g] at g1
    cases g1
  · exact q
  · have g := kBad_go h2 (by omega) k q
    obtain ⟨d, n, a, b, c, g1, -⟩ := h
    rw [g] at g1
    cases g1
theorem kBad_not {cd A B C : Nat → Int32} {N k : Nat} {n : Int} {a b c : Nat → Int32} (h : kBad cd A B C N k) (h2 : kGo cd A B C N = some (5, n, a, b, c)) : False := by
  have l1 := kBad_le h
  by_cases q : k < N
  · rw [kBad_go h q N q] at h2
    cases h2
  · obtain ⟨d, n2, a2, b2, c2, g1, g2⟩ := h
    have e : k = N := by omega
    subst e
    rw [g1] at h2
    cases h2
    rcases g2 with ⟨q2, -⟩ | ⟨-, q2⟩
    · omega
    · exact q2 rfl
theorem kBad_cong {cd cd2 A B C : Nat → Int32} {N k : Nat} (h : kBad cd A B C N k) (e : ∀ i, i < N → cd i = cd2 i) : kBad cd2 A B C N k := by
  have l1 := kBad_le h
  obtain ⟨d, n, a, b, c, h1, h2⟩ := h
  refine ⟨d, n, a, b, c, ?_, ?_⟩
  · rw [← kGo_cong k (fun i hi => e i (by omega))]
    exact h1
  · rcases h2 with ⟨q1, q2⟩ | q
    · left
      refine ⟨q1, ?_⟩
      rw [← e k q1]
      exact q2
    · exact Or.inr q
/-! what every state of the reading has -/
def kOk (s : kPT) : Prop := (0 ≤ s.1 ∧ s.1 ≤ 5) ∧ (0 ≤ s.2.1 ∧ s.2.1 ≤ 4) ∧ (2 ≤ s.1 → 1 ≤ s.2.1) ∧ (s.1 ≤ 1 → s.2.1 = 0) ∧ (∀ i : Nat, (i : Int) < s.2.1 → (0 ≤ (s.2.2.2.2 i).toInt ∧ (s.2.2.2.2 i).toInt < 65536)) ∧ (∀ i : Nat, (i : Int) < s.2.1 - 1 → (0 ≤ (s.2.2.1 i).toInt ∧ (s.2.2.1 i).toInt ≤ 2)) ∧ (3 ≤ s.1 → (0 ≤ (s.2.2.1 (s.2.1 - 1).toNat).toInt ∧ (s.2.2.1 (s.2.1 - 1).toNat).toInt ≤ 2))
theorem kOk_sg {d n x : Int} {a b c : Nat → Int32} {t : kPT} (h : kOk (d, n, a, b, c)) (hd : d = 1 ∨ d = 5) (e : kSgn n a b c x = some t) : kOk t := by
  obtain ⟨h1, h2, h3, h4, h5, h6, h7⟩ := h
  dsimp only at h1 h2 h3 h4 h5 h6 h7
  by_cases q : x = 59 ∧ n < 4
  · rw [kSgn_s (kSgC_y q)] at e
    cases e
    refine ⟨by dsimp only; omega, by dsimp only; omega, fun _ => by dsimp only; omega, fun p => absurd p (by dsimp only; omega), ?_, ?_, fun p => absurd p (by dsimp only; omega)⟩
    · intro i hi
      dsimp only at hi ⊢
      by_cases c1 : i = n.toNat
      · subst c1
        rw [pk_us, zI_toInt (by omega)]
        omega
      · rw [pk_un c1]
        exact h5 i (by omega)
    · intro i hi
      dsimp only at hi ⊢
      by_cases c1 : (i : Int) < n - 1
      · exact h6 i c1
      · have c2 : (n - 1).toNat = i := by omega
        rw [← c2]
        exact h7 (by omega)
  · rw [kSgn_n (kSgC_n q)] at e
    cases e
theorem kOk_lt {d n x : Int} {a b c : Nat → Int32} {t : kPT} (h : kOk (d, n, a, b, c)) (hd : 4 ≤ d) (e : kLtr n a b c x = some t) : kOk t := by
  obtain ⟨h1, h2, h3, h4, h5, h6, h7⟩ := h
  dsimp only at h1 h2 h3 h4 h5 h6 h7
  by_cases q : 1 ≤ n ∧ (97 ≤ x ∧ x ≤ 112) ∧ bt (c (n - 1).toNat) (x - 97).toNat = false ∧ kPop (c (n - 1).toNat).toInt < 8
  · rw [kLtr_s (kLtC_y q.1 q.2.1 q.2.2.1 q.2.2.2)] at e
    cases e
    refine ⟨by dsimp only; omega, h2, fun _ => q.1, fun p => absurd p (by dsimp only; omega), ?_, h6, fun _ => h7 (by omega)⟩
    intro i hi
    dsimp only at hi ⊢
    by_cases c1 : i = (n - 1).toNat
    · subst c1
      rw [pk_us]
      exact k16o (k16or (k16i (h5 _ hi)) (k16bit (by omega)))
    · rw [pk_un c1]
      exact h5 i hi
  · have z : kLtC n c x = none := by unfold kLtC; rw [if_neg q]
    rw [kLtr_n z] at e
    cases e
theorem kOk_s {d n x : Int} {a b c : Nat → Int32} {t : kPT} (h : kOk (d, n, a, b, c)) (e : kStp d n a b c x = some t) : kOk t := by
  have hh := h
  obtain ⟨h1, h2, h3, h4, h5, h6, h7⟩ := hh
  dsimp only at h1 h2 h3 h4 h5 h6 h7
  rcases (show d = 0 ∨ d = 1 ∨ d = 2 ∨ d = 3 ∨ d = 4 ∨ d = 5 by omega) with q | q | q | q | q | q
  · rw [kStp_0 q] at e
    by_cases c1 : x = 102
    · rw [if_pos c1] at e
      cases e
      have n0 := h4 (by omega)
      exact ⟨by dsimp only; omega, h2, fun p => absurd p (by dsimp only; omega), fun _ => n0, h5, h6, fun p => absurd p (by dsimp only; omega)⟩
    · rw [if_neg c1] at e
      cases e
  · rw [kStp_1 q] at e
    exact kOk_sg h (Or.inl q) e
  · rw [kStp_2 q] at e
    by_cases c1 : 1 ≤ n ∧ 65 ≤ x ∧ x ≤ 67
    · rw [kKnd_y c1] at e
      cases e
      refine ⟨by dsimp only; omega, h2, fun _ => c1.1, fun p => absurd p (by dsimp only; omega), h5, ?_, fun _ => ?_⟩
      · intro i hi
        dsimp only at hi ⊢
        rw [pk_un (by omega)]
        exact h6 i hi
      · dsimp only
        rw [pk_us, zI_toInt (by omega)]
        omega
    · rw [kKnd_n c1] at e
      cases e
  · rw [kStp_3 q] at e
    by_cases c1 : 1 ≤ n ∧ 49 ≤ x ∧ x ≤ 57
    · rw [kBrd_y c1] at e
      cases e
      exact ⟨by dsimp only; omega, h2, fun _ => c1.1, fun p => absurd p (by dsimp only; omega), h5, h6, fun _ => h7 (by omega)⟩
    · rw [kBrd_n c1] at e
      cases e
  · rw [kStp_4 q] at e
    exact kOk_lt h (by omega) e
  · by_cases c1 : x = 59
    · rw [kStp_5s q c1] at e
      exact kOk_sg h (Or.inr q) e
    · rw [kStp_5l q c1] at e
      exact kOk_lt h (by omega) e
theorem kGo_ok {cd A B C : Nat → Int32} : ∀ (k : Nat) (s : kPT), kGo cd A B C k = some s → kOk s
  | 0, s, h => by
    cases h
    exact ⟨by dsimp only; omega, by dsimp only; omega, fun p => absurd p (by dsimp only; omega), fun _ => rfl, fun i hi => by dsimp only at hi; omega, fun i hi => by dsimp only at hi; omega, fun p => absurd p (by dsimp only; omega)⟩
  | k + 1, s, h => by
    cases g : kGo cd A B C k with
    | none => rw [kGo_n g] at h; cases h
    | some t =>
      obtain ⟨d, n, a, b, c⟩ := t
      rw [kGo_s g] at h
      exact kOk_s (kGo_ok k _ g) h
/-! two readings of the same codes over other rows -/
def kLk (s t : kPT) : Prop := s.1 = t.1 ∧ s.2.1 = t.2.1 ∧ (∀ i : Nat, (i : Int) < s.2.1 - 1 → s.2.2.1 i = t.2.2.1 i ∧ s.2.2.2.1 i = t.2.2.2.1 i) ∧ (∀ i : Nat, (i : Int) < s.2.1 → s.2.2.2.2 i = t.2.2.2.2 i) ∧ (3 ≤ s.1 → s.2.2.1 (s.2.1 - 1).toNat = t.2.2.1 (s.2.1 - 1).toNat) ∧ (4 ≤ s.1 → s.2.2.2.1 (s.2.1 - 1).toNat = t.2.2.2.1 (s.2.1 - 1).toNat)
def kLkO : Option kPT → Option kPT → Prop
  | none, none => True
  | some s, some t => kLk s t
  | _, _ => False
section
variable {d n x : Int} {a b c a2 b2 c2 : Nat → Int32}
theorem kLk_sg (h : kLk (d, n, a, b, c) (d, n, a2, b2, c2)) (o : kOk (d, n, a, b, c)) (hd : d = 1 ∨ d = 5) : kLkO (kSgn n a b c x) (kSgn n a2 b2 c2 x) := by
  obtain ⟨-, -, h3, h4, h5, h6⟩ := h
  obtain ⟨o1, o2, o3, o4, -⟩ := o
  dsimp only at h3 h4 h5 h6 o1 o2 o3 o4
  by_cases q : x = 59 ∧ n < 4
  · rw [kSgn_s (kSgC_y q), kSgn_s (kSgC_y q)]
    refine ⟨rfl, rfl, ?_, ?_, fun p => absurd p (by dsimp only; omega), fun p => absurd p (by dsimp only; omega)⟩
    · intro i hi
      dsimp only at hi ⊢
      by_cases c1 : (i : Int) < n - 1
      · exact h3 i c1
      · have e : (n - 1).toNat = i := by omega
        rw [← e]
        exact ⟨h5 (by omega), h6 (by omega)⟩
    · intro i hi
      dsimp only at hi ⊢
      by_cases c1 : i = n.toNat
      · subst c1
        rw [pk_us, pk_us]
      · rw [pk_un c1, pk_un c1]
        exact h4 i (by omega)
  · rw [kSgn_n (kSgC_n q), kSgn_n (kSgC_n q)]
    trivial
theorem kLk_lt (h : kLk (d, n, a, b, c) (d, n, a2, b2, c2)) (o : kOk (d, n, a, b, c)) (hd : 4 ≤ d) : kLkO (kLtr n a b c x) (kLtr n a2 b2 c2 x) := by
  obtain ⟨-, -, h3, h4, h5, h6⟩ := h
  obtain ⟨o1, o2, o3, o4, -⟩ := o
  dsimp only at h3 h4 h5 h6 o1 o2 o3 o4
  have n1 := o3 (by omega)
  have ec : c2 (n - 1).toNat = c (n - 1).toNat := (h4 _ (by omega)).symm
  by_cases q : 1 ≤ n ∧ (97 ≤ x ∧ x ≤ 112) ∧ bt (c (n - 1).toNat) (x - 97).toNat = false ∧ kPop (c (n - 1).toNat).toInt < 8
  · rw [kLtr_s (kLtC_y q.1 q.2.1 q.2.2.1 q.2.2.2), kLtr_s (kLtC_y (C := c2) q.1 q.2.1 (by rw [ec]; exact q.2.2.1) (by rw [ec]; exact q.2.2.2))]
    refine ⟨rfl, rfl, h3, ?_, fun _ => h5 (by omega), fun _ => h6 (by omega)⟩
    intro i hi
    dsimp only at hi ⊢
    by_cases c1 : i = (n - 1).toNat
    · subst c1
      rw [pk_us, pk_us, ec]
    · rw [pk_un c1, pk_un c1]
      exact h4 i hi
  · have z : kLtC n c x = none := by unfold kLtC; rw [if_neg q]
    have z2 : kLtC n c2 x = none := by unfold kLtC; rw [ec, if_neg q]
    rw [kLtr_n z, kLtr_n z2]
    trivial
theorem kLk_s (h : kLk (d, n, a, b, c) (d, n, a2, b2, c2)) (o : kOk (d, n, a, b, c)) : kLkO (kStp d n a b c x) (kStp d n a2 b2 c2 x) := by
  have hh := h
  have oo := o
  obtain ⟨-, -, h3, h4, h5, h6⟩ := hh
  obtain ⟨o1, o2, o3, o4, -⟩ := oo
  dsimp only at h3 h4 h5 h6 o1 o2 o3 o4
  rcases (show d = 0 ∨ d = 1 ∨ d = 2 ∨ d = 3 ∨ d = 4 ∨ d = 5 by omega) with q | q | q | q | q | q
  · rw [kStp_0 q, kStp_0 q]
    by_cases c1 : x = 102
    · rw [if_pos c1, if_pos c1]
      exact ⟨rfl, rfl, h3, h4, fun p => absurd p (by dsimp only; omega), fun p => absurd p (by dsimp only; omega)⟩
    · rw [if_neg c1, if_neg c1]
      trivial
  · rw [kStp_1 q, kStp_1 q]
    exact kLk_sg h o (Or.inl q)
  · rw [kStp_2 q, kStp_2 q]
    by_cases c1 : 1 ≤ n ∧ 65 ≤ x ∧ x ≤ 67
    · rw [kKnd_y c1, kKnd_y c1]
      refine ⟨rfl, rfl, ?_, h4, fun _ => ?_, fun p => absurd p (by dsimp only; omega)⟩
      · intro i hi
        dsimp only at hi ⊢
        rw [pk_un (by omega), pk_un (by omega)]
        exact h3 i hi
      · dsimp only
        rw [pk_us, pk_us]
    · rw [kKnd_n c1, kKnd_n c1]
      trivial
  · rw [kStp_3 q, kStp_3 q]
    by_cases c1 : 1 ≤ n ∧ 49 ≤ x ∧ x ≤ 57
    · rw [kBrd_y c1, kBrd_y c1]
      refine ⟨rfl, rfl, ?_, h4, fun _ => h5 (by omega), fun _ => ?_⟩
      · intro i hi
        dsimp only at hi ⊢
        rw [pk_un (by omega), pk_un (by omega)]
        exact h3 i hi
      · dsimp only
        rw [pk_us, pk_us]
    · rw [kBrd_n c1, kBrd_n c1]
      trivial
  · rw [kStp_4 q, kStp_4 q]
    exact kLk_lt h o (by omega)
  · by_cases c1 : x = 59
    · rw [kStp_5s q c1, kStp_5s q c1]
      exact kLk_sg h o (Or.inr q)
    · rw [kStp_5l q c1, kStp_5l q c1]
      exact kLk_lt h o (by omega)
end
theorem kGo_lk {cd A B C A2 B2 C2 : Nat → Int32} : ∀ k : Nat, kLkO (kGo cd A B C k) (kGo cd A2 B2 C2 k)
  | 0 => ⟨rfl, rfl, fun i hi => by dsimp only at hi; omega, fun i hi => by dsimp only at hi; omega, fun p => absurd p (by dsimp only; omega), fun p => absurd p (by dsimp only; omega)⟩
  | k + 1 => by
    have ih := kGo_lk (cd := cd) (A := A) (B := B) (C := C) (A2 := A2) (B2 := B2) (C2 := C2) k
    cases g : kGo cd A B C k with
    | none =>
      cases g2 : kGo cd A2 B2 C2 k with
      | none => rw [kGo_n g, kGo_n g2]; trivial
      | some t => rw [g, g2] at ih; exact ih.elim
    | some s =>
      cases g2 : kGo cd A2 B2 C2 k with
      | none => rw [g, g2] at ih; exact ih.elim
      | some t =>
        rw [g, g2] at ih
        have ok := kGo_ok k s g
        obtain ⟨d, n, a, b, c⟩ := s
        obtain ⟨d2, n2, a2, b2, c2⟩ := t
        have e1 : d = d2 := ih.1
        have e2 : n = n2 := ih.2.1
        subst e1
        subst e2
        rw [kGo_s g, kGo_s g2]
        exact kLk_s ih ok
theorem kBad_lk {cd A B C A2 B2 C2 : Nat → Int32} {N k : Nat} (h : kBad cd A B C N k) : kBad cd A2 B2 C2 N k := by
  obtain ⟨d, n, a, b, c, h1, h2⟩ := h
  have q := kGo_lk (cd := cd) (A := A) (B := B) (C := C) (A2 := A2) (B2 := B2) (C2 := C2) k
  have ok := kGo_ok k _ h1
  cases g2 : kGo cd A2 B2 C2 k with
  | none => rw [h1, g2] at q; exact q.elim
  | some t =>
    obtain ⟨d2, n2, a2, b2, c2⟩ := t
    rw [h1, g2] at q
    have e1 : d = d2 := q.1
    have e2 : n = n2 := q.2.1
    subst e1
    subst e2
    refine ⟨d, n, a2, b2, c2, g2, ?_⟩
    rcases h2 with ⟨p1, p2⟩ | p
    · left
      refine ⟨p1, ?_⟩
      have r := kLk_s (x := (cd k).toInt) q ok
      rw [p2] at r
      cases g3 : kStp d n a2 b2 c2 (cd k).toInt with
      | none => rfl
      | some t => rw [g3] at r; exact r.elim
    · exact Or.inr p
theorem kGo5 {cd A B C A2 B2 C2 : Nat → Int32} {N : Nat} {n n2 : Int} {a b c a2 b2 c2 : Nat → Int32} (h : kGo cd A B C N = some (5, n, a, b, c)) (h2 : kGo cd A2 B2 C2 N = some (5, n2, a2, b2, c2)) : n = n2 ∧ (1 ≤ n ∧ n ≤ 4) ∧ (∀ i : Nat, (i : Int) < n → a i = a2 i ∧ b i = b2 i ∧ c i = c2 i) ∧ (∀ i : Nat, (i : Int) < n → (0 ≤ (a i).toInt ∧ (a i).toInt ≤ 2) ∧ (0 ≤ (c i).toInt ∧ (c i).toInt < 65536)) := by
  have q := kGo_lk (cd := cd) (A := A) (B := B) (C := C) (A2 := A2) (B2 := B2) (C2 := C2) N
  rw [h, h2] at q
  obtain ⟨-, e, q3, q4, q5, q6⟩ := q
  obtain ⟨-, o2, o3, -, o5, o6, o7⟩ := kGo_ok N _ h
  have e : n = n2 := e
  have q3 : ∀ i : Nat, (i : Int) < n - 1 → a i = a2 i ∧ b i = b2 i := q3
  have q4 : ∀ i : Nat, (i : Int) < n → c i = c2 i := q4
  have q5 : (3 : Int) ≤ 5 → a (n - 1).toNat = a2 (n - 1).toNat := q5
  have q6 : (4 : Int) ≤ 5 → b (n - 1).toNat = b2 (n - 1).toNat := q6
  have o2 : 0 ≤ n ∧ n ≤ 4 := o2
  have o3 : (2 : Int) ≤ 5 → 1 ≤ n := o3
  have o5 : ∀ i : Nat, (i : Int) < n → (0 ≤ (c i).toInt ∧ (c i).toInt < 65536) := o5
  have o6 : ∀ i : Nat, (i : Int) < n - 1 → (0 ≤ (a i).toInt ∧ (a i).toInt ≤ 2) := o6
  have o7 : (3 : Int) ≤ 5 → (0 ≤ (a (n - 1).toNat).toInt ∧ (a (n - 1).toNat).toInt ≤ 2) := o7
  have n1 := o3 (by omega)
  refine ⟨e, ⟨n1, o2.2⟩, fun i hi => ?_, fun i hi => ⟨?_, o5 i hi⟩⟩
  · by_cases c1 : (i : Int) < n - 1
    · exact ⟨(q3 i c1).1, (q3 i c1).2, q4 i hi⟩
    · have e2 : (n - 1).toNat = i := by omega
      rw [← e2]
      exact ⟨q5 (by omega), q6 (by omega), q4 _ (by omega)⟩
  · by_cases c1 : (i : Int) < n - 1
    · exact o6 i c1
    · have e2 : (n - 1).toNat = i := by omega
      rw [← e2]
      exact o7 (by omega)
