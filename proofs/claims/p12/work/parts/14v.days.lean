/-! days -/
def kPair (k a : Int) : Prop := (a = 20 ∧ 0 ≤ k ∧ k ≤ 15) ∨ (a = 21 ∧ 0 ≤ k ∧ k ≤ 24) ∨ (a = 22 ∧ 0 ≤ k ∧ k ≤ 3)
def kPairs (f : Nat → Int32) (o n : Int) : Prop := ∀ k : Int, 0 ≤ k → k < n → ∃ x y : Int, rg x ∧ rg y ∧ f (o + 2 * k).toNat = zI x ∧ f (o + 2 * k + 1).toNat = zI y ∧ kPair x y
theorem kPairs_0 {f : Nat → Int32} {o : Int} : kPairs f o 0 := fun k h0 h1 => by omega
theorem kPairs_le {f : Nat → Int32} {o n j : Int} (h : kPairs f o j) (e : n ≤ j) : kPairs f o n := fun k h0 h1 => h k h0 (by omega)
theorem kPairs_s {f : Nat → Int32} {o n x y : Int} (h : kPairs f o n) (hx : rg x) (hy : rg y) (ex : f (o + 2 * n).toNat = zI x) (ey : f (o + 2 * n + 1).toNat = zI y) (p : kPair x y) : kPairs f o (n + 1) := by
  intro k h0 h1
  by_cases q : k = n
  · subst q
    exact ⟨x, y, hx, hy, ex, ey, p⟩
  · exact h k h0 (by omega)
theorem kPairs_at {f : Nat → Int32} {o n k x y : Int} (h : kPairs f o n) (h0 : 0 ≤ k) (h1 : k < n) (hx : rg x) (hy : rg y) (ex : f (o + 2 * k).toNat = zI x) (ey : f (o + 2 * k + 1).toNat = zI y) : (y = 20 ∧ 0 ≤ x ∧ x ≤ 15) ∨ (y = 21 ∧ 0 ≤ x ∧ x ≤ 24) ∨ (y = 22 ∧ 0 ≤ x ∧ x ≤ 3) := by
  obtain ⟨x2, y2, r1, r2, e1, e2, p⟩ := h k h0 h1
  rw [ex] at e1
  rw [ey] at e2
  have q1 := (zI_eq hx r1).mp e1
  have q2 := (zI_eq hy r2).mp e2
  subst q1
  subst q2
  exact p
def kKp (f : Nat → Int32) (n : Int) : Prop := (∃ m : Int, 0 ≤ m ∧ m ≤ 24 ∧ f 0 = zI m) ∧ kPm (fun i => f (25 + i)) n
theorem kKp_0 {f : Nat → Int32} {n z : Int} (h : kKp f n) (hz : rg z) (e : f 0 = zI z) : 0 ≤ z ∧ z ≤ 24 := by
  obtain ⟨⟨m, h1, h2, h3⟩, -⟩ := h
  rw [h3] at e
  have := (zI_eq (by omega) hz).mp e
  omega
theorem kPm_cong {f g : Nat → Int32} {n : Int} (h : kPm f n) (e : ∀ i : Nat, (i : Int) < n → g i = f i) : kPm g n := by
  refine ⟨fun p hp => ?_, fun x h0 h1 => ?_⟩
  · obtain ⟨z, a, b, c⟩ := h.1 p hp
    exact ⟨z, a, b, by rw [e p hp]; exact c⟩
  · obtain ⟨p, a, b⟩ := h.2 x h0 h1
    exact ⟨p, a, by rw [e p a]; exact b⟩
def kCp (f g : Nat → Int32) (n : Int) : Prop := ∀ i : Nat, (i : Int) < n → f (25 + i) = g i
theorem kCp_0 {f g : Nat → Int32} : kCp f g 0 := fun i h => by omega
theorem kCp_f {f f2 g : Nat → Int32} {n z : Int} (h : kCp f g n) (h0 : 0 ≤ n) (e : g n.toNat = zI z) (e2 : upd f (25 + n).toNat (zI z) = f2) : kCp f2 g (n + 1) := by
  intro i hi
  rw [← e2]
  by_cases q : i = n.toNat
  · subst q
    rw [show (25 + n).toNat = 25 + n.toNat by omega, pk_us, e]
  · rw [pk_un (by omega)]
    exact h i (by omega)
theorem kCp_g {f g g2 : Nat → Int32} {n z : Int} (h : kCp f g n) (h0 : 0 ≤ n) (e : f (25 + n).toNat = zI z) (e2 : upd g n.toNat (zI z) = g2) : kCp f g2 (n + 1) := by
  intro i hi
  rw [← e2]
  by_cases q : i = n.toNat
  · subst q
    rw [show 25 + n.toNat = (25 + n).toNat by omega, pk_us, e]
  · rw [pk_un q]
    exact h i (by omega)
theorem kKp_of {f g : Nat → Int32} {n m j : Int} (h : kCp f g j) (hj : n ≤ j) (hm : 0 ≤ m ∧ m ≤ 24) (e : f 0 = zI m) (p : kPm g n) : kKp f n := ⟨⟨m, hm.1, hm.2, e⟩, kPm_cong p (fun i hi => h i (by omega))⟩
theorem kKp_pm {f g : Nat → Int32} {n j : Int} (h : kCp f g j) (hj : n ≤ j) (k : kKp f n) : kPm g n := kPm_cong k.2 (fun i hi => (h i (by omega)).symm)
theorem dX9_does_0 : decode cX9_does 0 = .ok (.iload_n 2, 1) := by decide +kernel
theorem dX9_does_1 : decode cX9_does 1 = .ok (.bipush 20, 2) := by decide +kernel
theorem dX9_does_3 : decode cX9_does 3 = .ok (.if_icmp .ne 36, 3) := by decide +kernel
theorem dX9_does_6 : decode cX9_does 6 = .ok (.aload_n 0, 1) := by decide +kernel
theorem dX9_does_7 : decode cX9_does 7 = .ok (.getfield 101, 3) := by decide +kernel
theorem dX9_does_10 : decode cX9_does 10 = .ok (.bipush 24, 2) := by decide +kernel
theorem dX9_does_12 : decode cX9_does 12 = .ok (.if_icmp .ne 5, 3) := by decide +kernel
theorem dX9_does_15 : decode cX9_does 15 = .ok (.iconst 0, 1) := by decide +kernel
theorem dX9_does_16 : decode cX9_does 16 = .ok (.ireturn, 1) := by decide +kernel
theorem dX9_does_17 : decode cX9_does 17 = .ok (.aload_n 0, 1) := by decide +kernel
theorem dX9_does_18 : decode cX9_does 18 = .ok (.getfield 34, 3) := by decide +kernel
theorem dX9_does_21 : decode cX9_does 21 = .ok (.aload_n 0, 1) := by decide +kernel
theorem dX9_does_22 : decode cX9_does 22 = .ok (.getfield 101, 3) := by decide +kernel
theorem dX9_does_25 : decode cX9_does 25 = .ok (.iload_n 1, 1) := by decide +kernel
theorem dX9_does_26 : decode cX9_does 26 = .ok (.iastore, 1) := by decide +kernel
theorem dX9_does_27 : decode cX9_does 27 = .ok (.aload_n 0, 1) := by decide +kernel
theorem dX9_does_28 : decode cX9_does 28 = .ok (.dup, 1) := by decide +kernel
theorem dX9_does_29 : decode cX9_does 29 = .ok (.getfield 101, 3) := by decide +kernel
theorem dX9_does_32 : decode cX9_does 32 = .ok (.iconst 1, 1) := by decide +kernel
theorem dX9_does_33 : decode cX9_does 33 = .ok (.iadd, 1) := by decide +kernel
theorem dX9_does_34 : decode cX9_does 34 = .ok (.putfield 101, 3) := by decide +kernel
theorem dX9_does_37 : decode cX9_does 37 = .ok (.iconst 1, 1) := by decide +kernel
theorem dX9_does_38 : decode cX9_does 38 = .ok (.ireturn, 1) := by decide +kernel
theorem dX9_does_39 : decode cX9_does 39 = .ok (.iload_n 2, 1) := by decide +kernel
theorem dX9_does_40 : decode cX9_does 40 = .ok (.bipush 21, 2) := by decide +kernel
theorem dX9_does_42 : decode cX9_does 42 = .ok (.if_icmp .ne 25, 3) := by decide +kernel
theorem dX9_does_45 : decode cX9_does 45 = .ok (.iload_n 1, 1) := by decide +kernel
theorem dX9_does_46 : decode cX9_does 46 = .ok (.aload_n 0, 1) := by decide +kernel
theorem dX9_does_47 : decode cX9_does 47 = .ok (.getfield 101, 3) := by decide +kernel
theorem dX9_does_50 : decode cX9_does 50 = .ok (.if_icmp .le 5, 3) := by decide +kernel
theorem dX9_does_53 : decode cX9_does 53 = .ok (.iconst 0, 1) := by decide +kernel
theorem dX9_does_54 : decode cX9_does 54 = .ok (.ireturn, 1) := by decide +kernel
theorem dX9_does_55 : decode cX9_does 55 = .ok (.aload_n 0, 1) := by decide +kernel
theorem dX9_does_56 : decode cX9_does 56 = .ok (.dup, 1) := by decide +kernel
theorem dX9_does_57 : decode cX9_does 57 = .ok (.getfield 101, 3) := by decide +kernel
theorem dX9_does_60 : decode cX9_does 60 = .ok (.iload_n 1, 1) := by decide +kernel
theorem dX9_does_61 : decode cX9_does 61 = .ok (.isub, 1) := by decide +kernel
theorem dX9_does_62 : decode cX9_does 62 = .ok (.putfield 101, 3) := by decide +kernel
theorem dX9_does_65 : decode cX9_does 65 = .ok (.iconst 1, 1) := by decide +kernel
theorem dX9_does_66 : decode cX9_does 66 = .ok (.ireturn, 1) := by decide +kernel
theorem dX9_does_67 : decode cX9_does 67 = .ok (.aload_n 0, 1) := by decide +kernel
theorem dX9_does_68 : decode cX9_does 68 = .ok (.iload_n 1, 1) := by decide +kernel
theorem dX9_does_69 : decode cX9_does 69 = .ok (.invokevirtual 120, 3) := by decide +kernel
theorem dX9_does_72 : decode cX9_does 72 = .ok (.ifCond .ne 5, 3) := by decide +kernel
theorem dX9_does_75 : decode cX9_does 75 = .ok (.iconst 0, 1) := by decide +kernel
theorem dX9_does_76 : decode cX9_does 76 = .ok (.ireturn, 1) := by decide +kernel
theorem dX9_does_77 : decode cX9_does 77 = .ok (.aload_n 0, 1) := by decide +kernel
theorem dX9_does_78 : decode cX9_does 78 = .ok (.iload_n 1, 1) := by decide +kernel
theorem dX9_does_79 : decode cX9_does 79 = .ok (.invokevirtual 174, 3) := by decide +kernel
theorem dX9_does_82 : decode cX9_does 82 = .ok (.pop, 1) := by decide +kernel
theorem dX9_does_83 : decode cX9_does 83 = .ok (.iconst 1, 1) := by decide +kernel
theorem dX9_does_84 : decode cX9_does 84 = .ok (.ireturn, 1) := by decide +kernel
set_option maxRecDepth 20000 in
theorem ggX9_does_X9_comesFirst : GoodIn wsX9_does wsX9_comesFirst := goodIn_r _ [12, 13, 14, 15, 16, 6, 17, 18, 19, 20, 21, 22, 23, 24, 25, 26, 27, 28, 29, 30, 31, 32, 33, 34, 35, 36, 37, 38, 39, 40, 41, 42, 43, 44, 45, 46, 47, 48] (by decide +kernel) (by decide +kernel)
set_option maxRecDepth 20000 in
theorem gX9_does_X9_comesFirst : GoodIn wsX9_does (wsV RX9 174 RX9 yX9_comesFirst wsX9_comesFirst) := goodIn_app (goodIn_of _ (by decide +kernel)) ggX9_does_X9_comesFirst
set_option maxRecDepth 20000 in
theorem ggX9_does_X9_isFont : GoodIn wsX9_does wsX9_isFont := goodIn_r _ [7, 8, 18, 19, 20, 21, 22, 23, 24, 25, 26, 27, 28, 29, 30, 31, 32, 33, 34, 35, 36, 37, 38, 39, 40, 41, 42, 43, 44, 45, 46, 47, 48] (by decide +kernel) (by decide +kernel)
set_option maxRecDepth 20000 in
theorem gX9_does_X9_isFont : GoodIn wsX9_does (wsV RX9 120 RX9 yX9_isFont wsX9_isFont) := goodIn_app (goodIn_of _ (by decide +kernel)) ggX9_does_X9_isFont
set_option maxRecDepth 20000 in
theorem mw_X9_does_0 : (.fieldLink RX9 101 "FontRunsModel" "many" "I" : Cond) ∈ wsX9_does := by decide +kernel
set_option maxRecDepth 20000 in
theorem mw_X9_does_1 : (.fieldLink RX9 34 "FontRunsModel" "writing" "[I" : Cond) ∈ wsX9_does := by decide +kernel
theorem ax_X9_does_0 {e0 e1 e2 : Nat × va_E} : ([0] : List Nat).map (fun i => ([e0, e1, e2] : va_W)[i]?) = ([e0] : va_W).map some := rfl
theorem ax_X9_does_1 {e0 e1 e2 : Nat × va_E} : ([0, 2] : List Nat).map (fun i => ([e0, e1, e2] : va_W)[i]?) = ([e0, e2] : va_W).map some := rfl
theorem ax_X9_does_2 {e0 e1 e2 : Nat × va_E} : ([1] : List Nat).map (fun i => ([e0, e1, e2] : va_W)[i]?) = ([e1] : va_W).map some := rfl
theorem ax_X9_does_3 {D : va_G} {cl : List vw_C} {H : Heap} {e0 f0 f1 : Nat × va_E} (h : va_P D cl ((([e0] : va_W) ++ ([f0, f1] : va_W))) H) : va_P D cl (([e0, f0, f1] : va_W)) H := h
theorem ax_X9_does_4 {A : Nat → Prop} {e0 f0 f1 : Nat × va_E} (h : va_D A ((([e0] : va_W) ++ ([f0, f1] : va_W)))) : va_D A (([e0, f0, f1] : va_W)) := h
theorem ax_X9_does_5 {e0 e1 e2 : Nat × va_E} : ([1, 0, 2] : List Nat).map (fun i => ([e0, e1, e2] : va_W)[i]?) = ([e1, e0, e2] : va_W).map some := rfl
theorem ax_X9_does_6 {e0 e1 e2 : Nat × va_E} : ([0, 1, 2] : List Nat).map (fun i => ([e0, e1, e2] : va_W)[i]?) = ([e0, e1, e2] : va_W).map some := rfl
set_option maxHeartbeats 4000000 in
set_option maxRecDepth 100000 in
theorem c_X9_does (l : Launch) (D : va_G) (sz : Nat) (k : Int) (a : Int) (h0 : Nat) (fa : Int) (tc : Int) (so : Nat) (sl : Nat) (ce : Nat) (fn : Int) (kd : Nat) (wd : Nat) (hs : Nat) (pf : Nat) (lt : Nat) (mn : Int) (wg : Nat) (ta : Int) (ck : Int64) (at9 : Int) (rfn : Int) (rk : Nat) (rw : Nat) (rh : Nat) (cl : Int) (sa : Nat) (fi : Nat) (bo : Int) (ch : Nat) (cn : Nat) (ad : Int) (ru : Int) (kp : Nat) (dn : Int) (rfa : Nat) (c_wg : ClassId) (f_wg : Nat → Int32) (c_pf : ClassId) (f_pf : Nat → Int32) (q0 : (a = 20 ∧ 0 ≤ k ∧ k ≤ 15) ∨ (a = 21 ∧ 0 ≤ k ∧ k ≤ 24) ∨ (a = 22 ∧ 0 ≤ k ∧ k ≤ 3)) (q1 : rg k) (q2 : rg a) (q3 : 1 ≤ fn) (q4 : 0 ≤ mn ∧ mn ≤ 24) (q5 : 0 ≤ fn ∧ fn ≤ 4) (q6 : kPm f_pf fn) : Met l yX9_does wsX9_does ({ frames := 2, cells := 0, slots := 0, locals := 45 }) (kPre [.ref h0, .int (zI k), .int (zI a)] D [(h0, .inr (9, [.int (zI fa), .int (zI tc), .ref so, .ref sl, .ref ce, .int (zI fn), .ref kd, .ref wd, .ref hs, .ref pf, .ref lt, .int (zI mn), .ref wg, .int (zI ta), .long ck, .int (zI at9), .int (zI rfn), .ref rk, .ref rw, .ref rh, .int (zI cl), .ref sa, .ref fi, .int (zI bo), .ref ch, .ref cn, .int (zI ad), .int (zI ru), .ref kp, .int (zI dn), .ref rfa])), (wg, .inl (c_wg, 24, .inl f_wg)), (pf, .inl (c_pf, 4, .inl f_pf))] [(c_wg, .int), (c_pf, .int)] sz) (kQS (fun rz t => ∃ (u_mn : Int) (u_f_wg : Nat → Int32) (u_f_pf : Nat → Int32), (0 ≤ u_mn ∧ u_mn ≤ 24) ∧ (kPm u_f_pf fn) ∧ (rz = 0 ∨ rz = 1) ∧ va_P D vwCl [(h0, .inr (9, [.int (zI fa), .int (zI tc), .ref so, .ref sl, .ref ce, .int (zI fn), .ref kd, .ref wd, .ref hs, .ref pf, .ref lt, .int (zI u_mn), .ref wg, .int (zI ta), .long ck, .int (zI at9), .int (zI rfn), .ref rk, .ref rw, .ref rh, .int (zI cl), .ref sa, .ref fi, .int (zI bo), .ref ch, .ref cn, .int (zI ad), .int (zI ru), .ref kp, .int (zI dn), .ref rfa])), (wg, .inl (c_wg, 24, .inl u_f_wg)), (pf, .inl (c_pf, 4, .inl u_f_pf))] t.heap ∧ va_D (va_A [(h0, .inr (9, [.int (zI fa), .int (zI tc), .ref so, .ref sl, .ref ce, .int (zI fn), .ref kd, .ref wd, .ref hs, .ref pf, .ref lt, .int (zI mn), .ref wg, .int (zI ta), .long ck, .int (zI at9), .int (zI rfn), .ref rk, .ref rw, .ref rh, .int (zI cl), .ref sa, .ref fi, .int (zI bo), .ref ch, .ref cn, .int (zI ad), .int (zI ru), .ref kp, .int (zI dn), .ref rfa])), (wg, .inl (c_wg, 24, .inl f_wg)), (pf, .inl (c_pf, 4, .inl f_pf))] sz) [(h0, .inr (9, [.int (zI fa), .int (zI tc), .ref so, .ref sl, .ref ce, .int (zI fn), .ref kd, .ref wd, .ref hs, .ref pf, .ref lt, .int (zI u_mn), .ref wg, .int (zI ta), .long ck, .int (zI at9), .int (zI rfn), .ref rk, .ref rw, .ref rh, .int (zI cl), .ref sa, .ref fi, .int (zI bo), .ref ch, .ref cn, .int (zI ad), .int (zI ru), .ref kp, .int (zI dn), .ref rfa])), (wg, .inl (c_wg, 24, .inl u_f_wg)), (pf, .inl (c_pf, 4, .inl u_f_pf))]) (va_A [(h0, .inr (9, [.int (zI fa), .int (zI tc), .ref so, .ref sl, .ref ce, .int (zI fn), .ref kd, .ref wd, .ref hs, .ref pf, .ref lt, .int (zI mn), .ref wg, .int (zI ta), .long ck, .int (zI at9), .int (zI rfn), .ref rk, .ref rw, .ref rh, .int (zI cl), .ref sa, .ref fi, .int (zI bo), .ref ch, .ref cn, .int (zI ad), .int (zI ru), .ref kp, .int (zI dn), .ref rfa])), (wg, .inl (c_wg, 24, .inl f_wg)), (pf, .inl (c_pf, 4, .inl f_pf))] sz)) 0 0 (va_A [(h0, .inr (9, [.int (zI fa), .int (zI tc), .ref so, .ref sl, .ref ce, .int (zI fn), .ref kd, .ref wd, .ref hs, .ref pf, .ref lt, .int (zI mn), .ref wg, .int (zI ta), .long ck, .int (zI at9), .int (zI rfn), .ref rk, .ref rw, .ref rh, .int (zI cl), .ref sa, .ref fi, .int (zI bo), .ref ch, .ref cn, .int (zI ad), .int (zI ru), .ref kp, .int (zI dn), .ref rfa])), (wg, .inl (c_wg, 24, .inl f_wg)), (pf, .inl (c_pf, 4, .inl f_pf))] sz) := by
  refine Met.ofW (cc := cX9_does) (maxL := 3) (ret := (some .boolean)) (by decide) rfl ?_
  intro p e s m args below meth c s₁ B hml hv
  obtain ⟨rfl, hsz, hP, hK, hD0, hN⟩ := hv
  have hx := B.exec
  have hb := B.bytes
  have hr := B.returns
  have hts := atoms_spec (ws := wsX9_does) B.pre
  have hown : s.vm.findClass RX9 = some m.cls := findClass_of_methodNamed B.named
  have hlocks := B.notSynchronized
  subst hsz
  have hD := hD0.self (sz := s.heap.size)
  generalize hAe : va_A [(h0, .inr (9, [.int (zI fa), .int (zI tc), .ref so, .ref sl, .ref ce, .int (zI fn), .ref kd, .ref wd, .ref hs, .ref pf, .ref lt, .int (zI mn), .ref wg, .int (zI ta), .long ck, .int (zI at9), .int (zI rfn), .ref rk, .ref rw, .ref rh, .int (zI cl), .ref sa, .ref fi, .int (zI bo), .ref ch, .ref cn, .int (zI ad), .int (zI ru), .ref kp, .int (zI dn), .ref rfa])), (wg, .inl (c_wg, 24, .inl f_wg)), (pf, .inl (c_pf, 4, .inl f_pf))] s.heap.size = A at hD ⊢
  have hA : ∀ q : Nat, s.heap.size ≤ q → A q := fun q h => by rw [← hAe]; exact Or.inr h
  have hS : va_S A s.heap s.heap [] := va_S.rf
  have hP : va_P D vwCl [(h0, .inr (9, [.int (zI fa), .int (zI tc), .ref so, .ref sl, .ref ce, .int (zI fn), .ref kd, .ref wd, .ref hs, .ref pf, .ref lt, .int (zI mn), .ref wg, .int (zI ta), .long ck, .int (zI at9), .int (zI rfn), .ref rk, .ref rw, .ref rh, .int (zI cl), .ref sa, .ref fi, .int (zI bo), .ref ch, .ref cn, .int (zI ad), .int (zI ru), .ref kp, .int (zI dn), .ref rfa])), (wg, .inl (c_wg, 24, .inl f_wg)), (pf, .inl (c_pf, 4, .inl f_pf))] s.heap := hP
  have hl := lv_entry ([.ref h0, .int (zI k), .int (zI a)]) (n := 3) (Nat.le_of_ble_eq_true rfl)
  rw [lg_entry_eq]
  generalize (lg_sl ([.ref h0, .int (zI k), .int (zI a)]) ++ List.replicate (3 - (lg_sl ([.ref h0, .int (zI k), .int (zI a)])).length) Slot.unset).toArray = ls at hl ⊢
  have hl : lv_has ls 3 [(0, .ref h0), (1, .int (zI k)), (2, .int (zI a))] := hl
  refine lv_iload_n hx hb dX9_does_0 rfl (lv_at hl 2 rfl) ?_
  refine lv_bipush (v := zI 20) hx hb dX9_does_1 (by decide) ?_
  refine kz_icmp_ne (tgt := 39) hx hb dX9_does_3 (by decide) (by omega) (by omega) (fun c_1 => ?_) (fun c_1 => ?_)
  · refine lv_iload_n hx hb dX9_does_39 rfl (lv_at hl 2 rfl) ?_
    refine lv_bipush (v := zI 21) hx hb dX9_does_40 (by decide) ?_
    refine kz_icmp_ne (tgt := 67) hx hb dX9_does_42 (by decide) (by omega) (by omega) (fun c_2 => ?_) (fun c_2 => ?_)
    · refine lv_aload_n hx hb dX9_does_67 rfl (lv_at hl 0 rfl) ?_
      refine lv_iload_n hx hb dX9_does_68 rfl (lv_at hl 1 rfl) ?_
      refine k_callR (va_runV (As := [.int (zI k)]) (rest := []) ⟨hx, hb, hml, hown, hts⟩ (c_X9_isFont l D s.heap.size (f := k) (h0 := h0) (fa := fa) (tc := tc) (so := so) (sl := sl) (ce := ce) (fn := fn) (kd := kd) (wd := wd) (hs := hs) (pf := pf) (lt := lt) (mn := mn) (wg := wg) (ta := ta) (ck := ck) (at9 := at9) (rfn := rfn) (rk := rk) (rw := rw) (rh := rh) (cl := cl) (sa := sa) (fi := fi) (bo := bo) (ch := ch) (cn := cn) (ad := ad) (ru := ru) (kp := kp) (dn := dn) (rfa := rfa) q1 q5) (cwV 1 hts gX9_does_X9_isFont rfl rfl rfl (by decide +kernel) ⟨Nat.le_of_ble_eq_true rfl, Nat.le_of_ble_eq_true rfl⟩) (kPreV hP (kD0 hD) hK hN [0] [] ax_X9_does_0 rfl (by decide +kernel) 0 9 rfl rfl) rfl rfl hl.1 rfl (lv_room (Nat.le_of_ble_eq_true rfl)) dX9_does_69 ⟨Nat.le_of_ble_eq_true rfl, Nat.le_of_ble_eq_true rfl⟩) ?_
      refine lv_if_ne (tgt := 77) hx hb dX9_does_72 (by decide) (fun c_3 => ?_) (fun c_3 => ?_)
      · have c_3 : 0 ≤ k ∧ k < fn := b01t c_3
        refine lv_aload_n hx hb dX9_does_77 rfl (lv_at hl 0 rfl) ?_
        refine lv_iload_n hx hb dX9_does_78 rfl (lv_at hl 1 rfl) ?_
        have hFc := va_free (wc := [(h0, .inr (9, [.int (zI fa), .int (zI tc), .ref so, .ref sl, .ref ce, .int (zI fn), .ref kd, .ref wd, .ref hs, .ref pf, .ref lt, .int (zI mn), .ref wg, .int (zI ta), .long ck, .int (zI at9), .int (zI rfn), .ref rk, .ref rw, .ref rh, .int (zI cl), .ref sa, .ref fi, .int (zI bo), .ref ch, .ref cn, .int (zI ad), .int (zI ru), .ref kp, .int (zI dn), .ref rfa])), (pf, .inl (c_pf, 4, .inl f_pf))]) hD hS hA [0, 2] ax_X9_does_1
        refine va_calli (va_runV (As := [.int (zI k)]) (rest := []) ⟨hx, hb, hml, hown, hts⟩ (c_X9_comesFirst l D s.heap.size (f := k) (h0 := h0) (fa := fa) (tc := tc) (so := so) (sl := sl) (ce := ce) (fn := fn) (kd := kd) (wd := wd) (hs := hs) (pf := pf) (lt := lt) (mn := mn) (wg := wg) (ta := ta) (ck := ck) (at9 := at9) (rfn := rfn) (rk := rk) (rw := rw) (rh := rh) (cl := cl) (sa := sa) (fi := fi) (bo := bo) (ch := ch) (cn := cn) (ad := ad) (ru := ru) (kp := kp) (dn := dn) (rfa := rfa) (c_pf := c_pf) (f_pf := f_pf) (by omega) q5 q6) (cwV 1 hts gX9_does_X9_comesFirst rfl rfl rfl (by decide +kernel) ⟨Nat.le_of_ble_eq_true rfl, Nat.le_of_ble_eq_true rfl⟩) (kPreV hP (kD0 hD) hK hN [0, 2] [1] ax_X9_does_1 rfl (by decide +kernel) 0 9 rfl rfl) rfl rfl hl.1 rfl (lv_room (Nat.le_of_ble_eq_true rfl)) dX9_does_79 ⟨Nat.le_of_ble_eq_true rfl, Nat.le_of_ble_eq_true rfl⟩) hS (fun q _ h => hFc q h) hFc (fun r u t H1 locs ht hvm hw hB hz1 hk1 hS => ?_)
        obtain ⟨z_5, e9⟩ : ∃ z, z = u := ⟨_, rfl⟩
        subst e9
        obtain ⟨rfl, rz_5⟩ := hw
        refine Exists.elim hB (fun u_f_pf_4 hB1 => ?_)
        have h_6 := hB1.1
        have h_7 := hB1.2.1
        have hP1 := hB1.2.2.1
        have hD1 := hB1.2.2.2
        clear hB hB1
        rw [ht] at hP1
        obtain ⟨hP, hD⟩ := va_join (wr := [(wg, .inl (c_wg, 24, .inl f_wg))]) (w1 := [(h0, .inr (9, [.int (zI fa), .int (zI tc), .ref so, .ref sl, .ref ce, .int (zI fn), .ref kd, .ref wd, .ref hs, .ref pf, .ref lt, .int (zI mn), .ref wg, .int (zI ta), .long ck, .int (zI at9), .int (zI rfn), .ref rk, .ref rw, .ref rh, .int (zI cl), .ref sa, .ref fi, .int (zI bo), .ref ch, .ref cn, .int (zI ad), .int (zI ru), .ref kp, .int (zI dn), .ref rfa])), (pf, .inl (c_pf, 4, .inl u_f_pf_4))]) hP hD [0, 2] [1] ax_X9_does_1 ax_X9_does_2 (by decide +kernel) (by decide +kernel) hk1 hFc hP1 hD1
        have hP := ax_X9_does_3 hP
        have hD := ax_X9_does_4 hD
        generalize H1 = H at hP hS ⊢
        have hP : va_P D vwCl [(wg, .inl (c_wg, 24, .inl f_wg)), (h0, .inr (9, [.int (zI fa), .int (zI tc), .ref so, .ref sl, .ref ce, .int (zI fn), .ref kd, .ref wd, .ref hs, .ref pf, .ref lt, .int (zI mn), .ref wg, .int (zI ta), .long ck, .int (zI at9), .int (zI rfn), .ref rk, .ref rw, .ref rh, .int (zI cl), .ref sa, .ref fi, .int (zI bo), .ref ch, .ref cn, .int (zI ad), .int (zI ru), .ref kp, .int (zI dn), .ref rfa])), (pf, .inl (c_pf, 4, .inl u_f_pf_4))] H := hP
        have hD : va_D A [(wg, .inl (c_wg, 24, .inl f_wg)), (h0, .inr (9, [.int (zI fa), .int (zI tc), .ref so, .ref sl, .ref ce, .int (zI fn), .ref kd, .ref wd, .ref hs, .ref pf, .ref lt, .int (zI mn), .ref wg, .int (zI ta), .long ck, .int (zI at9), .int (zI rfn), .ref rk, .ref rw, .ref rh, .int (zI cl), .ref sa, .ref fi, .int (zI bo), .ref ch, .ref cn, .int (zI ad), .int (zI ru), .ref kp, .int (zI dn), .ref rfa])), (pf, .inl (c_pf, 4, .inl u_f_pf_4))] := hD
        refine lv_pop hx hb dX9_does_82 rfl ?_
        refine lv_iconst (v := zI 1) hx hb dX9_does_83 rfl ?_
        have hP9 := hP.sub (ws' := [(h0, .inr (9, [.int (zI fa), .int (zI tc), .ref so, .ref sl, .ref ce, .int (zI fn), .ref kd, .ref wd, .ref hs, .ref pf, .ref lt, .int (zI mn), .ref wg, .int (zI ta), .long ck, .int (zI at9), .int (zI rfn), .ref rk, .ref rw, .ref rh, .int (zI cl), .ref sa, .ref fi, .int (zI bo), .ref ch, .ref cn, .int (zI ad), .int (zI ru), .ref kp, .int (zI dn), .ref rfa])), (wg, .inl (c_wg, 24, .inl f_wg)), (pf, .inl (c_pf, 4, .inl u_f_pf_4))]) [1, 0, 2] rfl
        have hD9 := hD.sub (ws' := [(h0, .inr (9, [.int (zI fa), .int (zI tc), .ref so, .ref sl, .ref ce, .int (zI fn), .ref kd, .ref wd, .ref hs, .ref pf, .ref lt, .int (zI mn), .ref wg, .int (zI ta), .long ck, .int (zI at9), .int (zI rfn), .ref rk, .ref rw, .ref rh, .int (zI cl), .ref sa, .ref fi, .int (zI bo), .ref ch, .ref cn, .int (zI ad), .int (zI ru), .ref kp, .int (zI dn), .ref rfa])), (wg, .inl (c_wg, 24, .inl f_wg)), (pf, .inl (c_pf, 4, .inl u_f_pf_4))]) [1, 0, 2] (by decide +kernel) rfl
        exact W.zret (v := (zI 1)) hx hb hr rfl (fun t ht hW => kQS_of (by omega) ⟨mn, f_wg, u_f_pf_4, q4, h_6, (by omega), by rw [ht]; exact hP9, hD9⟩ (hS.F ht)) hS.2.2 dX9_does_84
      · have c_3 : ¬ (0 ≤ k ∧ k < fn) := b01f c_3
        refine lv_iconst (v := zI 0) hx hb dX9_does_75 rfl ?_
        have hP9 := hP.sub (ws' := [(h0, .inr (9, [.int (zI fa), .int (zI tc), .ref so, .ref sl, .ref ce, .int (zI fn), .ref kd, .ref wd, .ref hs, .ref pf, .ref lt, .int (zI mn), .ref wg, .int (zI ta), .long ck, .int (zI at9), .int (zI rfn), .ref rk, .ref rw, .ref rh, .int (zI cl), .ref sa, .ref fi, .int (zI bo), .ref ch, .ref cn, .int (zI ad), .int (zI ru), .ref kp, .int (zI dn), .ref rfa])), (wg, .inl (c_wg, 24, .inl f_wg)), (pf, .inl (c_pf, 4, .inl f_pf))]) [0, 1, 2] rfl
        have hD9 := hD.sub (ws' := [(h0, .inr (9, [.int (zI fa), .int (zI tc), .ref so, .ref sl, .ref ce, .int (zI fn), .ref kd, .ref wd, .ref hs, .ref pf, .ref lt, .int (zI mn), .ref wg, .int (zI ta), .long ck, .int (zI at9), .int (zI rfn), .ref rk, .ref rw, .ref rh, .int (zI cl), .ref sa, .ref fi, .int (zI bo), .ref ch, .ref cn, .int (zI ad), .int (zI ru), .ref kp, .int (zI dn), .ref rfa])), (wg, .inl (c_wg, 24, .inl f_wg)), (pf, .inl (c_pf, 4, .inl f_pf))]) [0, 1, 2] (by decide +kernel) rfl
        exact W.zret (v := (zI 0)) hx hb hr rfl (fun t ht hW => kQS_of (by omega) ⟨mn, f_wg, f_pf, q4, q6, (by omega), by rw [ht]; exact hP9, hD9⟩ (hS.F ht)) hS.2.2 dX9_does_76
    · refine lv_iload_n hx hb dX9_does_45 rfl (lv_at hl 1 rfl) ?_
      refine lv_aload_n hx hb dX9_does_46 rfl (lv_at hl 0 rfl) ?_
      refine va_get (D := D) (ci := 9) (v := .int (zI mn)) (C := RX9) (T := TX9) (N := 31) hx hb hts (fun _ h9 => List.mem_cons_of_mem _ (List.mem_append_right _ h9)) hown hK hP 0 rfl rfl 11 (by decide) (hts (.fieldLink RX9 101 "FontRunsModel" "many" "I") mw_X9_does_0) (fun _ h9 => h9) rfl dX9_does_47 ?_
      refine kz_icmp_le (tgt := 55) hx hb dX9_does_50 (by decide) (by omega) (by omega) (fun c_8 => ?_) (fun c_8 => ?_)
      · refine lv_aload_n hx hb dX9_does_55 rfl (lv_at hl 0 rfl) ?_
        refine lv_dup hx hb dX9_does_56 rfl ?_
        refine va_get (D := D) (ci := 9) (v := .int (zI mn)) (C := RX9) (T := TX9) (N := 31) hx hb hts (fun _ h9 => List.mem_cons_of_mem _ (List.mem_append_right _ h9)) hown hK hP 0 rfl rfl 11 (by decide) (hts (.fieldLink RX9 101 "FontRunsModel" "many" "I") mw_X9_does_0) (fun _ h9 => h9) rfl dX9_does_57 ?_
        refine lv_iload_n hx hb dX9_does_60 rfl (lv_at hl 1 rfl) ?_
        refine kz_isub hx hb dX9_does_61 ?_
        refine va_put (D := D) (ci := 9) (v := .int (zI (mn - k))) (ty := .int) (C := RX9) (T := TX9) (N := 31) hx hb hts (fun _ h9 => List.mem_cons_of_mem _ (List.mem_append_right _ h9)) tyX9 tyX9_ok nmX9 hown hK hP hD hS 0 rfl rfl 11 (by decide) (hts (.fieldLink RX9 101 "FontRunsModel" "many" "I") mw_X9_does_0) (fun _ h9 => h9) rfl (by decide +kernel) rfl rfl (Nat.le_of_ble_eq_true rfl) dX9_does_62 (fun H locs hP hD hS => ?_)
        have hP : va_P D vwCl [(h0, .inr (9, [.int (zI fa), .int (zI tc), .ref so, .ref sl, .ref ce, .int (zI fn), .ref kd, .ref wd, .ref hs, .ref pf, .ref lt, .int (zI (mn - k)), .ref wg, .int (zI ta), .long ck, .int (zI at9), .int (zI rfn), .ref rk, .ref rw, .ref rh, .int (zI cl), .ref sa, .ref fi, .int (zI bo), .ref ch, .ref cn, .int (zI ad), .int (zI ru), .ref kp, .int (zI dn), .ref rfa])), (wg, .inl (c_wg, 24, .inl f_wg)), (pf, .inl (c_pf, 4, .inl f_pf))] H := hP
        have hD : va_D A [(h0, .inr (9, [.int (zI fa), .int (zI tc), .ref so, .ref sl, .ref ce, .int (zI fn), .ref kd, .ref wd, .ref hs, .ref pf, .ref lt, .int (zI (mn - k)), .ref wg, .int (zI ta), .long ck, .int (zI at9), .int (zI rfn), .ref rk, .ref rw, .ref rh, .int (zI cl), .ref sa, .ref fi, .int (zI bo), .ref ch, .ref cn, .int (zI ad), .int (zI ru), .ref kp, .int (zI dn), .ref rfa])), (wg, .inl (c_wg, 24, .inl f_wg)), (pf, .inl (c_pf, 4, .inl f_pf))] := hD
        refine lv_iconst (v := zI 1) hx hb dX9_does_65 rfl ?_
        have hP9 := hP.sub (ws' := [(h0, .inr (9, [.int (zI fa), .int (zI tc), .ref so, .ref sl, .ref ce, .int (zI fn), .ref kd, .ref wd, .ref hs, .ref pf, .ref lt, .int (zI (mn - k)), .ref wg, .int (zI ta), .long ck, .int (zI at9), .int (zI rfn), .ref rk, .ref rw, .ref rh, .int (zI cl), .ref sa, .ref fi, .int (zI bo), .ref ch, .ref cn, .int (zI ad), .int (zI ru), .ref kp, .int (zI dn), .ref rfa])), (wg, .inl (c_wg, 24, .inl f_wg)), (pf, .inl (c_pf, 4, .inl f_pf))]) [0, 1, 2] rfl
        have hD9 := hD.sub (ws' := [(h0, .inr (9, [.int (zI fa), .int (zI tc), .ref so, .ref sl, .ref ce, .int (zI fn), .ref kd, .ref wd, .ref hs, .ref pf, .ref lt, .int (zI (mn - k)), .ref wg, .int (zI ta), .long ck, .int (zI at9), .int (zI rfn), .ref rk, .ref rw, .ref rh, .int (zI cl), .ref sa, .ref fi, .int (zI bo), .ref ch, .ref cn, .int (zI ad), .int (zI ru), .ref kp, .int (zI dn), .ref rfa])), (wg, .inl (c_wg, 24, .inl f_wg)), (pf, .inl (c_pf, 4, .inl f_pf))]) [0, 1, 2] (by decide +kernel) rfl
        exact W.zret (v := (zI 1)) hx hb hr rfl (fun t ht hW => kQS_of (by omega) ⟨(mn - k), f_wg, f_pf, (by omega), q6, (by omega), by rw [ht]; exact hP9, hD9⟩ (hS.F ht)) hS.2.2 dX9_does_66
      · refine lv_iconst (v := zI 0) hx hb dX9_does_53 rfl ?_
        have hP9 := hP.sub (ws' := [(h0, .inr (9, [.int (zI fa), .int (zI tc), .ref so, .ref sl, .ref ce, .int (zI fn), .ref kd, .ref wd, .ref hs, .ref pf, .ref lt, .int (zI mn), .ref wg, .int (zI ta), .long ck, .int (zI at9), .int (zI rfn), .ref rk, .ref rw, .ref rh, .int (zI cl), .ref sa, .ref fi, .int (zI bo), .ref ch, .ref cn, .int (zI ad), .int (zI ru), .ref kp, .int (zI dn), .ref rfa])), (wg, .inl (c_wg, 24, .inl f_wg)), (pf, .inl (c_pf, 4, .inl f_pf))]) [0, 1, 2] rfl
        have hD9 := hD.sub (ws' := [(h0, .inr (9, [.int (zI fa), .int (zI tc), .ref so, .ref sl, .ref ce, .int (zI fn), .ref kd, .ref wd, .ref hs, .ref pf, .ref lt, .int (zI mn), .ref wg, .int (zI ta), .long ck, .int (zI at9), .int (zI rfn), .ref rk, .ref rw, .ref rh, .int (zI cl), .ref sa, .ref fi, .int (zI bo), .ref ch, .ref cn, .int (zI ad), .int (zI ru), .ref kp, .int (zI dn), .ref rfa])), (wg, .inl (c_wg, 24, .inl f_wg)), (pf, .inl (c_pf, 4, .inl f_pf))]) [0, 1, 2] (by decide +kernel) rfl
        exact W.zret (v := (zI 0)) hx hb hr rfl (fun t ht hW => kQS_of (by omega) ⟨mn, f_wg, f_pf, q4, q6, (by omega), by rw [ht]; exact hP9, hD9⟩ (hS.F ht)) hS.2.2 dX9_does_54
  · refine lv_aload_n hx hb dX9_does_6 rfl (lv_at hl 0 rfl) ?_
    refine va_get (D := D) (ci := 9) (v := .int (zI mn)) (C := RX9) (T := TX9) (N := 31) hx hb hts (fun _ h9 => List.mem_cons_of_mem _ (List.mem_append_right _ h9)) hown hK hP 0 rfl rfl 11 (by decide) (hts (.fieldLink RX9 101 "FontRunsModel" "many" "I") mw_X9_does_0) (fun _ h9 => h9) rfl dX9_does_7 ?_
    refine lv_bipush (v := zI 24) hx hb dX9_does_10 (by decide) ?_
    refine kz_icmp_ne (tgt := 17) hx hb dX9_does_12 (by decide) (by omega) (by omega) (fun c_9 => ?_) (fun c_9 => ?_)
    · refine lv_aload_n hx hb dX9_does_17 rfl (lv_at hl 0 rfl) ?_
      refine va_get (D := D) (ci := 9) (v := .ref wg) (C := RX9) (T := TX9) (N := 31) hx hb hts (fun _ h9 => List.mem_cons_of_mem _ (List.mem_append_right _ h9)) hown hK hP 0 rfl rfl 12 (by decide) (hts (.fieldLink RX9 34 "FontRunsModel" "writing" "[I") mw_X9_does_1) (fun _ h9 => h9) rfl dX9_does_18 ?_
      refine lv_aload_n hx hb dX9_does_21 rfl (lv_at hl 0 rfl) ?_
      refine va_get (D := D) (ci := 9) (v := .int (zI mn)) (C := RX9) (T := TX9) (N := 31) hx hb hts (fun _ h9 => List.mem_cons_of_mem _ (List.mem_append_right _ h9)) hown hK hP 0 rfl rfl 11 (by decide) (hts (.fieldLink RX9 101 "FontRunsModel" "many" "I") mw_X9_does_0) (fun _ h9 => h9) rfl dX9_does_22 ?_
      refine lv_iload_n hx hb dX9_does_25 rfl (lv_at hl 1 rfl) ?_
      refine kz_iast hx hb hK hP hD hS 1 0 rfl rfl (by omega) dX9_does_26 (fun H locs hP hD hS => ?_)
      have hP : va_P D vwCl [(h0, .inr (9, [.int (zI fa), .int (zI tc), .ref so, .ref sl, .ref ce, .int (zI fn), .ref kd, .ref wd, .ref hs, .ref pf, .ref lt, .int (zI mn), .ref wg, .int (zI ta), .long ck, .int (zI at9), .int (zI rfn), .ref rk, .ref rw, .ref rh, .int (zI cl), .ref sa, .ref fi, .int (zI bo), .ref ch, .ref cn, .int (zI ad), .int (zI ru), .ref kp, .int (zI dn), .ref rfa])), (wg, .inl (c_wg, 24, .inl (upd f_wg (mn).toNat (zI k)))), (pf, .inl (c_pf, 4, .inl f_pf))] H := hP
      have hD : va_D A [(h0, .inr (9, [.int (zI fa), .int (zI tc), .ref so, .ref sl, .ref ce, .int (zI fn), .ref kd, .ref wd, .ref hs, .ref pf, .ref lt, .int (zI mn), .ref wg, .int (zI ta), .long ck, .int (zI at9), .int (zI rfn), .ref rk, .ref rw, .ref rh, .int (zI cl), .ref sa, .ref fi, .int (zI bo), .ref ch, .ref cn, .int (zI ad), .int (zI ru), .ref kp, .int (zI dn), .ref rfa])), (wg, .inl (c_wg, 24, .inl (upd f_wg (mn).toNat (zI k)))), (pf, .inl (c_pf, 4, .inl f_pf))] := hD
      generalize ef_10 : upd f_wg (mn).toNat (zI k) = f_10 at hP hD
      refine lv_aload_n hx hb dX9_does_27 rfl (lv_at hl 0 rfl) ?_
      refine lv_dup hx hb dX9_does_28 rfl ?_
      refine va_get (D := D) (ci := 9) (v := .int (zI mn)) (C := RX9) (T := TX9) (N := 31) hx hb hts (fun _ h9 => List.mem_cons_of_mem _ (List.mem_append_right _ h9)) hown hK hP 0 rfl rfl 11 (by decide) (hts (.fieldLink RX9 101 "FontRunsModel" "many" "I") mw_X9_does_0) (fun _ h9 => h9) rfl dX9_does_29 ?_
      refine lv_iconst (v := zI 1) hx hb dX9_does_32 rfl ?_
      refine kz_iadd hx hb dX9_does_33 ?_
      refine va_put (D := D) (ci := 9) (v := .int (zI (mn + 1))) (ty := .int) (C := RX9) (T := TX9) (N := 31) hx hb hts (fun _ h9 => List.mem_cons_of_mem _ (List.mem_append_right _ h9)) tyX9 tyX9_ok nmX9 hown hK hP hD hS 0 rfl rfl 11 (by decide) (hts (.fieldLink RX9 101 "FontRunsModel" "many" "I") mw_X9_does_0) (fun _ h9 => h9) rfl (by decide +kernel) rfl rfl (Nat.le_of_ble_eq_true rfl) dX9_does_34 (fun H locs hP hD hS => ?_)
      have hP : va_P D vwCl [(h0, .inr (9, [.int (zI fa), .int (zI tc), .ref so, .ref sl, .ref ce, .int (zI fn), .ref kd, .ref wd, .ref hs, .ref pf, .ref lt, .int (zI (mn + 1)), .ref wg, .int (zI ta), .long ck, .int (zI at9), .int (zI rfn), .ref rk, .ref rw, .ref rh, .int (zI cl), .ref sa, .ref fi, .int (zI bo), .ref ch, .ref cn, .int (zI ad), .int (zI ru), .ref kp, .int (zI dn), .ref rfa])), (wg, .inl (c_wg, 24, .inl f_10)), (pf, .inl (c_pf, 4, .inl f_pf))] H := hP
      have hD : va_D A [(h0, .inr (9, [.int (zI fa), .int (zI tc), .ref so, .ref sl, .ref ce, .int (zI fn), .ref kd, .ref wd, .ref hs, .ref pf, .ref lt, .int (zI (mn + 1)), .ref wg, .int (zI ta), .long ck, .int (zI at9), .int (zI rfn), .ref rk, .ref rw, .ref rh, .int (zI cl), .ref sa, .ref fi, .int (zI bo), .ref ch, .ref cn, .int (zI ad), .int (zI ru), .ref kp, .int (zI dn), .ref rfa])), (wg, .inl (c_wg, 24, .inl f_10)), (pf, .inl (c_pf, 4, .inl f_pf))] := hD
      refine lv_iconst (v := zI 1) hx hb dX9_does_37 rfl ?_
      have hP9 := hP.sub (ws' := [(h0, .inr (9, [.int (zI fa), .int (zI tc), .ref so, .ref sl, .ref ce, .int (zI fn), .ref kd, .ref wd, .ref hs, .ref pf, .ref lt, .int (zI (mn + 1)), .ref wg, .int (zI ta), .long ck, .int (zI at9), .int (zI rfn), .ref rk, .ref rw, .ref rh, .int (zI cl), .ref sa, .ref fi, .int (zI bo), .ref ch, .ref cn, .int (zI ad), .int (zI ru), .ref kp, .int (zI dn), .ref rfa])), (wg, .inl (c_wg, 24, .inl f_10)), (pf, .inl (c_pf, 4, .inl f_pf))]) [0, 1, 2] rfl
      have hD9 := hD.sub (ws' := [(h0, .inr (9, [.int (zI fa), .int (zI tc), .ref so, .ref sl, .ref ce, .int (zI fn), .ref kd, .ref wd, .ref hs, .ref pf, .ref lt, .int (zI (mn + 1)), .ref wg, .int (zI ta), .long ck, .int (zI at9), .int (zI rfn), .ref rk, .ref rw, .ref rh, .int (zI cl), .ref sa, .ref fi, .int (zI bo), .ref ch, .ref cn, .int (zI ad), .int (zI ru), .ref kp, .int (zI dn), .ref rfa])), (wg, .inl (c_wg, 24, .inl f_10)), (pf, .inl (c_pf, 4, .inl f_pf))]) [0, 1, 2] (by decide +kernel) rfl
      exact W.zret (v := (zI 1)) hx hb hr rfl (fun t ht hW => kQS_of (by omega) ⟨(mn + 1), f_10, f_pf, (by omega), q6, (by omega), by rw [ht]; exact hP9, hD9⟩ (hS.F ht)) hS.2.2 dX9_does_38
    · refine lv_iconst (v := zI 0) hx hb dX9_does_15 rfl ?_
      have hP9 := hP.sub (ws' := [(h0, .inr (9, [.int (zI fa), .int (zI tc), .ref so, .ref sl, .ref ce, .int (zI fn), .ref kd, .ref wd, .ref hs, .ref pf, .ref lt, .int (zI mn), .ref wg, .int (zI ta), .long ck, .int (zI at9), .int (zI rfn), .ref rk, .ref rw, .ref rh, .int (zI cl), .ref sa, .ref fi, .int (zI bo), .ref ch, .ref cn, .int (zI ad), .int (zI ru), .ref kp, .int (zI dn), .ref rfa])), (wg, .inl (c_wg, 24, .inl f_wg)), (pf, .inl (c_pf, 4, .inl f_pf))]) [0, 1, 2] rfl
      have hD9 := hD.sub (ws' := [(h0, .inr (9, [.int (zI fa), .int (zI tc), .ref so, .ref sl, .ref ce, .int (zI fn), .ref kd, .ref wd, .ref hs, .ref pf, .ref lt, .int (zI mn), .ref wg, .int (zI ta), .long ck, .int (zI at9), .int (zI rfn), .ref rk, .ref rw, .ref rh, .int (zI cl), .ref sa, .ref fi, .int (zI bo), .ref ch, .ref cn, .int (zI ad), .int (zI ru), .ref kp, .int (zI dn), .ref rfa])), (wg, .inl (c_wg, 24, .inl f_wg)), (pf, .inl (c_pf, 4, .inl f_pf))]) [0, 1, 2] (by decide +kernel) rfl
      exact W.zret (v := (zI 0)) hx hb hr rfl (fun t ht hW => kQS_of (by omega) ⟨mn, f_wg, f_pf, q4, q6, (by omega), by rw [ht]; exact hP9, hD9⟩ (hS.F ht)) hS.2.2 dX9_does_16
theorem dX9_goDay_0 : decode cX9_goDay 0 = .ok (.iconst 0, 1) := by decide +kernel
theorem dX9_goDay_1 : decode cX9_goDay 1 = .ok (.istore_n 3, 1) := by decide +kernel
theorem dX9_goDay_2 : decode cX9_goDay 2 = .ok (.iload_n 3, 1) := by decide +kernel
theorem dX9_goDay_3 : decode cX9_goDay 3 = .ok (.iload_n 2, 1) := by decide +kernel
theorem dX9_goDay_4 : decode cX9_goDay 4 = .ok (.if_icmp .ge 40, 3) := by decide +kernel
theorem dX9_goDay_7 : decode cX9_goDay 7 = .ok (.aload_n 0, 1) := by decide +kernel
theorem dX9_goDay_8 : decode cX9_goDay 8 = .ok (.aload_n 0, 1) := by decide +kernel
theorem dX9_goDay_9 : decode cX9_goDay 9 = .ok (.getfield 16, 3) := by decide +kernel
theorem dX9_goDay_12 : decode cX9_goDay 12 = .ok (.iload_n 1, 1) := by decide +kernel
theorem dX9_goDay_13 : decode cX9_goDay 13 = .ok (.iconst 2, 1) := by decide +kernel
theorem dX9_goDay_14 : decode cX9_goDay 14 = .ok (.iload_n 3, 1) := by decide +kernel
theorem dX9_goDay_15 : decode cX9_goDay 15 = .ok (.imul, 1) := by decide +kernel
theorem dX9_goDay_16 : decode cX9_goDay 16 = .ok (.iadd, 1) := by decide +kernel
theorem dX9_goDay_17 : decode cX9_goDay 17 = .ok (.iaload, 1) := by decide +kernel
theorem dX9_goDay_18 : decode cX9_goDay 18 = .ok (.aload_n 0, 1) := by decide +kernel
theorem dX9_goDay_19 : decode cX9_goDay 19 = .ok (.getfield 16, 3) := by decide +kernel
theorem dX9_goDay_22 : decode cX9_goDay 22 = .ok (.iload_n 1, 1) := by decide +kernel
theorem dX9_goDay_23 : decode cX9_goDay 23 = .ok (.iconst 2, 1) := by decide +kernel
theorem dX9_goDay_24 : decode cX9_goDay 24 = .ok (.iload_n 3, 1) := by decide +kernel
theorem dX9_goDay_25 : decode cX9_goDay 25 = .ok (.imul, 1) := by decide +kernel
theorem dX9_goDay_26 : decode cX9_goDay 26 = .ok (.iadd, 1) := by decide +kernel
theorem dX9_goDay_27 : decode cX9_goDay 27 = .ok (.iconst 1, 1) := by decide +kernel
theorem dX9_goDay_28 : decode cX9_goDay 28 = .ok (.iadd, 1) := by decide +kernel
theorem dX9_goDay_29 : decode cX9_goDay 29 = .ok (.iaload, 1) := by decide +kernel
theorem dX9_goDay_30 : decode cX9_goDay 30 = .ok (.invokevirtual 177, 3) := by decide +kernel
theorem dX9_goDay_33 : decode cX9_goDay 33 = .ok (.ifCond .ne 5, 3) := by decide +kernel
theorem dX9_goDay_36 : decode cX9_goDay 36 = .ok (.iload_n 3, 1) := by decide +kernel
theorem dX9_goDay_37 : decode cX9_goDay 37 = .ok (.ireturn, 1) := by decide +kernel
theorem dX9_goDay_38 : decode cX9_goDay 38 = .ok (.iinc 3 1, 3) := by decide +kernel
theorem dX9_goDay_41 : decode cX9_goDay 41 = .ok (.goto (-39), 3) := by decide +kernel
theorem dX9_goDay_44 : decode cX9_goDay 44 = .ok (.bipush (-9), 2) := by decide +kernel
theorem dX9_goDay_46 : decode cX9_goDay 46 = .ok (.ireturn, 1) := by decide +kernel
set_option maxRecDepth 20000 in
theorem ggX9_goDay_X9_does : GoodIn wsX9_goDay wsX9_does := goodIn_r _ [6, 7, 8, 9, 10, 11, 5, 12, 13, 14, 15, 16, 17, 18, 19, 20, 21, 22, 23, 24, 25, 26, 27, 28, 29, 30, 31, 32, 33, 34, 35, 36, 37, 38, 39, 40, 41, 42, 43, 44, 45, 46, 47, 48, 49, 50, 51, 52, 53] (by decide +kernel) (by decide +kernel)
set_option maxRecDepth 20000 in
theorem gX9_goDay_X9_does : GoodIn wsX9_goDay (wsV RX9 177 RX9 yX9_does wsX9_does) := goodIn_app (goodIn_of _ (by decide +kernel)) ggX9_goDay_X9_does
set_option maxRecDepth 20000 in
theorem mw_X9_goDay_0 : (.fieldLink RX9 16 "FontRunsModel" "cells" "[I" : Cond) ∈ wsX9_goDay := by decide +kernel
theorem ax_X9_goDay_0 {e0 e1 e2 e3 : Nat × va_E} : ([0, 1, 2, 3] : List Nat).map (fun i => ([e0, e1, e2, e3] : va_W)[i]?) = ([e0, e1, e2, e3] : va_W).map some := rfl
theorem ax_X9_goDay_1 {e0 e1 e2 e3 : Nat × va_E} : ([0, 2, 3] : List Nat).map (fun i => ([e0, e1, e2, e3] : va_W)[i]?) = ([e0, e2, e3] : va_W).map some := rfl
theorem ax_X9_goDay_2 {e0 e1 e2 e3 : Nat × va_E} : ([1] : List Nat).map (fun i => ([e0, e1, e2, e3] : va_W)[i]?) = ([e1] : va_W).map some := rfl
theorem ax_X9_goDay_3 {D : va_G} {cl : List vw_C} {H : Heap} {e0 f0 f1 f2 : Nat × va_E} (h : va_P D cl ((([e0] : va_W) ++ ([f0, f1, f2] : va_W))) H) : va_P D cl (([e0, f0, f1, f2] : va_W)) H := h
theorem ax_X9_goDay_4 {A : Nat → Prop} {e0 f0 f1 f2 : Nat × va_E} (h : va_D A ((([e0] : va_W) ++ ([f0, f1, f2] : va_W)))) : va_D A (([e0, f0, f1, f2] : va_W)) := h
theorem ax_X9_goDay_5 {e0 e1 e2 e3 : Nat × va_E} : ([1, 0, 2, 3] : List Nat).map (fun i => ([e0, e1, e2, e3] : va_W)[i]?) = ([e1, e0, e2, e3] : va_W).map some := rfl
set_option maxHeartbeats 4000000 in
set_option maxRecDepth 100000 in
theorem c_X9_goDay (l : Launch) (D : va_G) (sz : Nat) (o : Int) (n : Int) (h0 : Nat) (fa : Int) (tc : Int) (so : Nat) (sl : Nat) (ce : Nat) (fn : Int) (kd : Nat) (wd : Nat) (hs : Nat) (pf : Nat) (lt : Nat) (mn : Int) (wg : Nat) (ta : Int) (ck : Int64) (at9 : Int) (rfn : Int) (rk : Nat) (rw : Nat) (rh : Nat) (cl : Int) (sa : Nat) (fi : Nat) (bo : Int) (ch : Nat) (cn : Nat) (ad : Int) (ru : Int) (kp : Nat) (dn : Int) (rfa : Nat) (c_ce : ClassId) (f_ce : Nat → Int32) (c_wg : ClassId) (f_wg : Nat → Int32) (c_pf : ClassId) (f_pf : Nat → Int32) (q0 : 0 ≤ o ∧ 0 ≤ n ∧ o + 2 * n ≤ 240) (q1 : kPairs f_ce o n) (q2 : 1 ≤ fn) (q3 : 0 ≤ mn ∧ mn ≤ 24) (q4 : 0 ≤ fn ∧ fn ≤ 4) (q5 : kPm f_pf fn) : Met l yX9_goDay wsX9_goDay ({ frames := 3, cells := 0, slots := 0, locals := 67 }) (kPre [.ref h0, .int (zI o), .int (zI n)] D [(h0, .inr (9, [.int (zI fa), .int (zI tc), .ref so, .ref sl, .ref ce, .int (zI fn), .ref kd, .ref wd, .ref hs, .ref pf, .ref lt, .int (zI mn), .ref wg, .int (zI ta), .long ck, .int (zI at9), .int (zI rfn), .ref rk, .ref rw, .ref rh, .int (zI cl), .ref sa, .ref fi, .int (zI bo), .ref ch, .ref cn, .int (zI ad), .int (zI ru), .ref kp, .int (zI dn), .ref rfa])), (ce, .inl (c_ce, 240, .inl f_ce)), (wg, .inl (c_wg, 24, .inl f_wg)), (pf, .inl (c_pf, 4, .inl f_pf))] [(c_ce, .int), (c_wg, .int), (c_pf, .int)] sz) (kQS (fun rz t => ∃ (u_mn : Int) (u_f_wg : Nat → Int32) (u_f_pf : Nat → Int32), (0 ≤ u_mn ∧ u_mn ≤ 24) ∧ (kPm u_f_pf fn) ∧ (rz = -9 ∨ (0 ≤ rz ∧ rz ≤ n)) ∧ va_P D vwCl [(h0, .inr (9, [.int (zI fa), .int (zI tc), .ref so, .ref sl, .ref ce, .int (zI fn), .ref kd, .ref wd, .ref hs, .ref pf, .ref lt, .int (zI u_mn), .ref wg, .int (zI ta), .long ck, .int (zI at9), .int (zI rfn), .ref rk, .ref rw, .ref rh, .int (zI cl), .ref sa, .ref fi, .int (zI bo), .ref ch, .ref cn, .int (zI ad), .int (zI ru), .ref kp, .int (zI dn), .ref rfa])), (ce, .inl (c_ce, 240, .inl f_ce)), (wg, .inl (c_wg, 24, .inl u_f_wg)), (pf, .inl (c_pf, 4, .inl u_f_pf))] t.heap ∧ va_D (va_A [(h0, .inr (9, [.int (zI fa), .int (zI tc), .ref so, .ref sl, .ref ce, .int (zI fn), .ref kd, .ref wd, .ref hs, .ref pf, .ref lt, .int (zI mn), .ref wg, .int (zI ta), .long ck, .int (zI at9), .int (zI rfn), .ref rk, .ref rw, .ref rh, .int (zI cl), .ref sa, .ref fi, .int (zI bo), .ref ch, .ref cn, .int (zI ad), .int (zI ru), .ref kp, .int (zI dn), .ref rfa])), (ce, .inl (c_ce, 240, .inl f_ce)), (wg, .inl (c_wg, 24, .inl f_wg)), (pf, .inl (c_pf, 4, .inl f_pf))] sz) [(h0, .inr (9, [.int (zI fa), .int (zI tc), .ref so, .ref sl, .ref ce, .int (zI fn), .ref kd, .ref wd, .ref hs, .ref pf, .ref lt, .int (zI u_mn), .ref wg, .int (zI ta), .long ck, .int (zI at9), .int (zI rfn), .ref rk, .ref rw, .ref rh, .int (zI cl), .ref sa, .ref fi, .int (zI bo), .ref ch, .ref cn, .int (zI ad), .int (zI ru), .ref kp, .int (zI dn), .ref rfa])), (ce, .inl (c_ce, 240, .inl f_ce)), (wg, .inl (c_wg, 24, .inl u_f_wg)), (pf, .inl (c_pf, 4, .inl u_f_pf))]) (va_A [(h0, .inr (9, [.int (zI fa), .int (zI tc), .ref so, .ref sl, .ref ce, .int (zI fn), .ref kd, .ref wd, .ref hs, .ref pf, .ref lt, .int (zI mn), .ref wg, .int (zI ta), .long ck, .int (zI at9), .int (zI rfn), .ref rk, .ref rw, .ref rh, .int (zI cl), .ref sa, .ref fi, .int (zI bo), .ref ch, .ref cn, .int (zI ad), .int (zI ru), .ref kp, .int (zI dn), .ref rfa])), (ce, .inl (c_ce, 240, .inl f_ce)), (wg, .inl (c_wg, 24, .inl f_wg)), (pf, .inl (c_pf, 4, .inl f_pf))] sz)) 0 0 (va_A [(h0, .inr (9, [.int (zI fa), .int (zI tc), .ref so, .ref sl, .ref ce, .int (zI fn), .ref kd, .ref wd, .ref hs, .ref pf, .ref lt, .int (zI mn), .ref wg, .int (zI ta), .long ck, .int (zI at9), .int (zI rfn), .ref rk, .ref rw, .ref rh, .int (zI cl), .ref sa, .ref fi, .int (zI bo), .ref ch, .ref cn, .int (zI ad), .int (zI ru), .ref kp, .int (zI dn), .ref rfa])), (ce, .inl (c_ce, 240, .inl f_ce)), (wg, .inl (c_wg, 24, .inl f_wg)), (pf, .inl (c_pf, 4, .inl f_pf))] sz) := by
  refine Met.ofW (cc := cX9_goDay) (maxL := 4) (ret := (some .int)) (by decide) rfl ?_
  intro p e s m args below meth c s₁ B hml hv
  obtain ⟨rfl, hsz, hP, hK, hD0, hN⟩ := hv
  have hx := B.exec
  have hb := B.bytes
  have hr := B.returns
  have hts := atoms_spec (ws := wsX9_goDay) B.pre
  have hown : s.vm.findClass RX9 = some m.cls := findClass_of_methodNamed B.named
  have hlocks := B.notSynchronized
  subst hsz
  have hD := hD0.self (sz := s.heap.size)
  generalize hAe : va_A [(h0, .inr (9, [.int (zI fa), .int (zI tc), .ref so, .ref sl, .ref ce, .int (zI fn), .ref kd, .ref wd, .ref hs, .ref pf, .ref lt, .int (zI mn), .ref wg, .int (zI ta), .long ck, .int (zI at9), .int (zI rfn), .ref rk, .ref rw, .ref rh, .int (zI cl), .ref sa, .ref fi, .int (zI bo), .ref ch, .ref cn, .int (zI ad), .int (zI ru), .ref kp, .int (zI dn), .ref rfa])), (ce, .inl (c_ce, 240, .inl f_ce)), (wg, .inl (c_wg, 24, .inl f_wg)), (pf, .inl (c_pf, 4, .inl f_pf))] s.heap.size = A at hD ⊢
  have hA : ∀ q : Nat, s.heap.size ≤ q → A q := fun q h => by rw [← hAe]; exact Or.inr h
  have hS : va_S A s.heap s.heap [] := va_S.rf
  have hP : va_P D vwCl [(h0, .inr (9, [.int (zI fa), .int (zI tc), .ref so, .ref sl, .ref ce, .int (zI fn), .ref kd, .ref wd, .ref hs, .ref pf, .ref lt, .int (zI mn), .ref wg, .int (zI ta), .long ck, .int (zI at9), .int (zI rfn), .ref rk, .ref rw, .ref rh, .int (zI cl), .ref sa, .ref fi, .int (zI bo), .ref ch, .ref cn, .int (zI ad), .int (zI ru), .ref kp, .int (zI dn), .ref rfa])), (ce, .inl (c_ce, 240, .inl f_ce)), (wg, .inl (c_wg, 24, .inl f_wg)), (pf, .inl (c_pf, 4, .inl f_pf))] s.heap := hP
  have hl := lv_entry ([.ref h0, .int (zI o), .int (zI n)]) (n := 4) (Nat.le_of_ble_eq_true rfl)
  rw [lg_entry_eq]
  generalize (lg_sl ([.ref h0, .int (zI o), .int (zI n)]) ++ List.replicate (4 - (lg_sl ([.ref h0, .int (zI o), .int (zI n)])).length) Slot.unset).toArray = ls at hl ⊢
  have hl : lv_has ls 4 [(0, .ref h0), (1, .int (zI o)), (2, .int (zI n))] := hl
  refine lv_iconst (v := zI 0) hx hb dX9_goDay_0 rfl ?_
  refine lv_istore_n (lv' := [(3, .int (zI 0)), (0, .ref h0), (1, .int (zI o)), (2, .int (zI n))]) hx hb dX9_goDay_1 rfl hl (by decide) rfl (fun ls hl => ?_)
  refine k_loopM (I := fun n9 H locs ls => ∃ (jk : Int) (jm : Int) (ja : Nat → Int32) (jp : Nat → Int32), n9 = (n - jk).toNat ∧ (0 ≤ jk ∧ jk ≤ n) ∧ (0 ≤ jm ∧ jm ≤ 24) ∧ (kPm jp fn) ∧ va_P D vwCl [(h0, .inr (9, [.int (zI fa), .int (zI tc), .ref so, .ref sl, .ref ce, .int (zI fn), .ref kd, .ref wd, .ref hs, .ref pf, .ref lt, .int (zI jm), .ref wg, .int (zI ta), .long ck, .int (zI at9), .int (zI rfn), .ref rk, .ref rw, .ref rh, .int (zI cl), .ref sa, .ref fi, .int (zI bo), .ref ch, .ref cn, .int (zI ad), .int (zI ru), .ref kp, .int (zI dn), .ref rfa])), (ce, .inl (c_ce, 240, .inl f_ce)), (wg, .inl (c_wg, 24, .inl ja)), (pf, .inl (c_pf, 4, .inl jp))] H ∧ va_D A [(h0, .inr (9, [.int (zI fa), .int (zI tc), .ref so, .ref sl, .ref ce, .int (zI fn), .ref kd, .ref wd, .ref hs, .ref pf, .ref lt, .int (zI jm), .ref wg, .int (zI ta), .long ck, .int (zI at9), .int (zI rfn), .ref rk, .ref rw, .ref rh, .int (zI cl), .ref sa, .ref fi, .int (zI bo), .ref ch, .ref cn, .int (zI ad), .int (zI ru), .ref kp, .int (zI dn), .ref rfa])), (ce, .inl (c_ce, 240, .inl f_ce)), (wg, .inl (c_wg, 24, .inl ja)), (pf, .inl (c_pf, 4, .inl jp))] ∧ va_S A s.heap H locs ∧ lv_has ls 4 [(3, .int (zI jk)), (0, .ref h0), (1, .int (zI o)), (2, .int (zI n))]) ?_ _ ⟨0, mn, f_wg, f_pf, rfl, (by omega), q3, q5, hP, hD, hS, hl⟩
  intro n2 ih2 H locs ls hI
  obtain ⟨jk, jm, ja, jp, en2, v_20, v_21, v_22, hP, hD, hS, hl⟩ := hI
  refine lv_iload_n hx hb dX9_goDay_2 rfl (lv_at hl 0 rfl) ?_
  refine lv_iload_n hx hb dX9_goDay_3 rfl (lv_at hl 3 rfl) ?_
  refine kz_icmp_ge (tgt := 44) hx hb dX9_goDay_4 (by decide) (by omega) (by omega) (fun c_1 => ?_) (fun c_1 => ?_)
  · refine lv_bipush (v := zI (-9)) hx hb dX9_goDay_44 (by decide) ?_
    have hP9 := hP.sub (ws' := [(h0, .inr (9, [.int (zI fa), .int (zI tc), .ref so, .ref sl, .ref ce, .int (zI fn), .ref kd, .ref wd, .ref hs, .ref pf, .ref lt, .int (zI jm), .ref wg, .int (zI ta), .long ck, .int (zI at9), .int (zI rfn), .ref rk, .ref rw, .ref rh, .int (zI cl), .ref sa, .ref fi, .int (zI bo), .ref ch, .ref cn, .int (zI ad), .int (zI ru), .ref kp, .int (zI dn), .ref rfa])), (ce, .inl (c_ce, 240, .inl f_ce)), (wg, .inl (c_wg, 24, .inl ja)), (pf, .inl (c_pf, 4, .inl jp))]) [0, 1, 2, 3] rfl
    have hD9 := hD.sub (ws' := [(h0, .inr (9, [.int (zI fa), .int (zI tc), .ref so, .ref sl, .ref ce, .int (zI fn), .ref kd, .ref wd, .ref hs, .ref pf, .ref lt, .int (zI jm), .ref wg, .int (zI ta), .long ck, .int (zI at9), .int (zI rfn), .ref rk, .ref rw, .ref rh, .int (zI cl), .ref sa, .ref fi, .int (zI bo), .ref ch, .ref cn, .int (zI ad), .int (zI ru), .ref kp, .int (zI dn), .ref rfa])), (ce, .inl (c_ce, 240, .inl f_ce)), (wg, .inl (c_wg, 24, .inl ja)), (pf, .inl (c_pf, 4, .inl jp))]) [0, 1, 2, 3] (by decide +kernel) rfl
    exact W.iret (v := (zI (-9))) hx hb hr (fun t ht hW => kQS_of (by omega) ⟨jm, ja, jp, v_21, v_22, (by omega), by rw [ht]; exact hP9, hD9⟩ (hS.F ht)) hS.2.2 dX9_goDay_46
  · refine lv_aload_n hx hb dX9_goDay_7 rfl (lv_at hl 1 rfl) ?_
    refine lv_aload_n hx hb dX9_goDay_8 rfl (lv_at hl 1 rfl) ?_
    refine va_get (D := D) (ci := 9) (v := .ref ce) (C := RX9) (T := TX9) (N := 31) hx hb hts (fun _ h9 => List.mem_cons_of_mem _ (List.mem_append_right _ h9)) hown hK hP 0 rfl rfl 4 (by decide) (hts (.fieldLink RX9 16 "FontRunsModel" "cells" "[I") mw_X9_goDay_0) (fun _ h9 => h9) rfl dX9_goDay_9 ?_
    refine lv_iload_n hx hb dX9_goDay_12 rfl (lv_at hl 2 rfl) ?_
    refine lv_iconst (v := zI 2) hx hb dX9_goDay_13 rfl ?_
    refine lv_iload_n hx hb dX9_goDay_14 rfl (lv_at hl 0 rfl) ?_
    refine kz_imul hx hb dX9_goDay_15 ?_
    refine kz_iadd hx hb dX9_goDay_16 ?_
    refine kz_iald hx hb hK hP 1 0 rfl rfl (by omega) dX9_goDay_17 (fun z_2 rz_2 ez_2 => ?_)
    refine lv_aload_n hx hb dX9_goDay_18 rfl (lv_at hl 1 rfl) ?_
    refine va_get (D := D) (ci := 9) (v := .ref ce) (C := RX9) (T := TX9) (N := 31) hx hb hts (fun _ h9 => List.mem_cons_of_mem _ (List.mem_append_right _ h9)) hown hK hP 0 rfl rfl 4 (by decide) (hts (.fieldLink RX9 16 "FontRunsModel" "cells" "[I") mw_X9_goDay_0) (fun _ h9 => h9) rfl dX9_goDay_19 ?_
    refine lv_iload_n hx hb dX9_goDay_22 rfl (lv_at hl 2 rfl) ?_
    refine lv_iconst (v := zI 2) hx hb dX9_goDay_23 rfl ?_
    refine lv_iload_n hx hb dX9_goDay_24 rfl (lv_at hl 0 rfl) ?_
    refine kz_imul hx hb dX9_goDay_25 ?_
    refine kz_iadd hx hb dX9_goDay_26 ?_
    refine lv_iconst (v := zI 1) hx hb dX9_goDay_27 rfl ?_
    refine kz_iadd hx hb dX9_goDay_28 ?_
    refine kz_iald hx hb hK hP 1 0 rfl rfl (by omega) dX9_goDay_29 (fun z_3 rz_3 ez_3 => ?_)
    have hFc := va_free (wc := [(h0, .inr (9, [.int (zI fa), .int (zI tc), .ref so, .ref sl, .ref ce, .int (zI fn), .ref kd, .ref wd, .ref hs, .ref pf, .ref lt, .int (zI jm), .ref wg, .int (zI ta), .long ck, .int (zI at9), .int (zI rfn), .ref rk, .ref rw, .ref rh, .int (zI cl), .ref sa, .ref fi, .int (zI bo), .ref ch, .ref cn, .int (zI ad), .int (zI ru), .ref kp, .int (zI dn), .ref rfa])), (wg, .inl (c_wg, 24, .inl ja)), (pf, .inl (c_pf, 4, .inl jp))]) hD hS hA [0, 2, 3] ax_X9_goDay_1
    refine va_calli (va_runV (As := [.int (zI z_2), .int (zI z_3)]) (rest := []) ⟨hx, hb, hml, hown, hts⟩ (c_X9_does l D H.size (k := z_2) (a := z_3) (h0 := h0) (fa := fa) (tc := tc) (so := so) (sl := sl) (ce := ce) (fn := fn) (kd := kd) (wd := wd) (hs := hs) (pf := pf) (lt := lt) (mn := jm) (wg := wg) (ta := ta) (ck := ck) (at9 := at9) (rfn := rfn) (rk := rk) (rw := rw) (rh := rh) (cl := cl) (sa := sa) (fi := fi) (bo := bo) (ch := ch) (cn := cn) (ad := ad) (ru := ru) (kp := kp) (dn := dn) (rfa := rfa) (c_wg := c_wg) (f_wg := ja) (c_pf := c_pf) (f_pf := jp) (kPairs_at q1 (by omega) (by omega) rz_2 rz_3 ez_2 ez_3) (by omega) (by omega) q2 v_21 q4 v_22) (cwV 2 hts gX9_goDay_X9_does rfl rfl rfl (by decide +kernel) ⟨Nat.le_of_ble_eq_true rfl, Nat.le_of_ble_eq_true rfl⟩) (kPreV hP (kD0 hD) hK hN [0, 2, 3] [1, 2] ax_X9_goDay_1 rfl (by decide +kernel) 0 9 rfl rfl) rfl rfl hl.1 rfl (lv_room (Nat.le_of_ble_eq_true rfl)) dX9_goDay_30 ⟨Nat.le_of_ble_eq_true rfl, Nat.le_of_ble_eq_true rfl⟩) hS (fun q _ h => hFc q h) hFc (fun r u t H1 locs ht hvm hw hB hz1 hk1 hS => ?_)
    obtain ⟨z_7, e9⟩ : ∃ z, z = u := ⟨_, rfl⟩
    subst e9
    obtain ⟨rfl, rz_7⟩ := hw
    refine Exists.elim hB (fun u_mn_4 hB1 => Exists.elim hB1 (fun u_f_wg_5 hB2 => Exists.elim hB2 (fun u_f_pf_6 hB3 => ?_)))
    have h_8 := hB3.1
    have h_9 := hB3.2.1
    have h_10 := hB3.2.2.1
    have hP1 := hB3.2.2.2.1
    have hD1 := hB3.2.2.2.2
    clear hB hB1 hB2 hB3
    rw [ht] at hP1
    obtain ⟨hP, hD⟩ := va_join (wr := [(ce, .inl (c_ce, 240, .inl f_ce))]) (w1 := [(h0, .inr (9, [.int (zI fa), .int (zI tc), .ref so, .ref sl, .ref ce, .int (zI fn), .ref kd, .ref wd, .ref hs, .ref pf, .ref lt, .int (zI u_mn_4), .ref wg, .int (zI ta), .long ck, .int (zI at9), .int (zI rfn), .ref rk, .ref rw, .ref rh, .int (zI cl), .ref sa, .ref fi, .int (zI bo), .ref ch, .ref cn, .int (zI ad), .int (zI ru), .ref kp, .int (zI dn), .ref rfa])), (wg, .inl (c_wg, 24, .inl u_f_wg_5)), (pf, .inl (c_pf, 4, .inl u_f_pf_6))]) hP hD [0, 2, 3] [1] ax_X9_goDay_1 ax_X9_goDay_2 (by decide +kernel) (by decide +kernel) hk1 hFc hP1 hD1
    have hP := ax_X9_goDay_3 hP
    have hD := ax_X9_goDay_4 hD
    generalize H1 = H at hP hS ⊢
    have hP : va_P D vwCl [(ce, .inl (c_ce, 240, .inl f_ce)), (h0, .inr (9, [.int (zI fa), .int (zI tc), .ref so, .ref sl, .ref ce, .int (zI fn), .ref kd, .ref wd, .ref hs, .ref pf, .ref lt, .int (zI u_mn_4), .ref wg, .int (zI ta), .long ck, .int (zI at9), .int (zI rfn), .ref rk, .ref rw, .ref rh, .int (zI cl), .ref sa, .ref fi, .int (zI bo), .ref ch, .ref cn, .int (zI ad), .int (zI ru), .ref kp, .int (zI dn), .ref rfa])), (wg, .inl (c_wg, 24, .inl u_f_wg_5)), (pf, .inl (c_pf, 4, .inl u_f_pf_6))] H := hP
    have hD : va_D A [(ce, .inl (c_ce, 240, .inl f_ce)), (h0, .inr (9, [.int (zI fa), .int (zI tc), .ref so, .ref sl, .ref ce, .int (zI fn), .ref kd, .ref wd, .ref hs, .ref pf, .ref lt, .int (zI u_mn_4), .ref wg, .int (zI ta), .long ck, .int (zI at9), .int (zI rfn), .ref rk, .ref rw, .ref rh, .int (zI cl), .ref sa, .ref fi, .int (zI bo), .ref ch, .ref cn, .int (zI ad), .int (zI ru), .ref kp, .int (zI dn), .ref rfa])), (wg, .inl (c_wg, 24, .inl u_f_wg_5)), (pf, .inl (c_pf, 4, .inl u_f_pf_6))] := hD
    refine kz_if_ne (tgt := 38) hx hb dX9_goDay_33 (by decide) (by omega) (fun c_11 => ?_) (fun c_11 => ?_)
    · refine lv_iinc (v := (zI (jk + 1))) (lv' := [(3, .int (zI (jk + 1))), (0, .ref h0), (1, .int (zI o)), (2, .int (zI n))]) hx hb dX9_goDay_38 hl (k := 0) rfl (kz_inc _ 1) (by decide) rfl (fun ls hl => ?_)
      refine lv_goto (tgt := 2) hx hb dX9_goDay_41 (by decide) ?_
      exact ih2 _ (by omega) _ _ _ ⟨(jk + 1), u_mn_4, u_f_wg_5, u_f_pf_6, rfl, (by omega), h_8, h_9, (hP.sub [1, 0, 2, 3] rfl), (hD.sub [1, 0, 2, 3] (by decide) rfl), hS, lv_sub hl [0, 1, 2, 3] rfl⟩
    · refine lv_iload_n hx hb dX9_goDay_36 rfl (lv_at hl 0 rfl) ?_
      have hP9 := hP.sub (ws' := [(h0, .inr (9, [.int (zI fa), .int (zI tc), .ref so, .ref sl, .ref ce, .int (zI fn), .ref kd, .ref wd, .ref hs, .ref pf, .ref lt, .int (zI u_mn_4), .ref wg, .int (zI ta), .long ck, .int (zI at9), .int (zI rfn), .ref rk, .ref rw, .ref rh, .int (zI cl), .ref sa, .ref fi, .int (zI bo), .ref ch, .ref cn, .int (zI ad), .int (zI ru), .ref kp, .int (zI dn), .ref rfa])), (ce, .inl (c_ce, 240, .inl f_ce)), (wg, .inl (c_wg, 24, .inl u_f_wg_5)), (pf, .inl (c_pf, 4, .inl u_f_pf_6))]) [1, 0, 2, 3] rfl
      have hD9 := hD.sub (ws' := [(h0, .inr (9, [.int (zI fa), .int (zI tc), .ref so, .ref sl, .ref ce, .int (zI fn), .ref kd, .ref wd, .ref hs, .ref pf, .ref lt, .int (zI u_mn_4), .ref wg, .int (zI ta), .long ck, .int (zI at9), .int (zI rfn), .ref rk, .ref rw, .ref rh, .int (zI cl), .ref sa, .ref fi, .int (zI bo), .ref ch, .ref cn, .int (zI ad), .int (zI ru), .ref kp, .int (zI dn), .ref rfa])), (ce, .inl (c_ce, 240, .inl f_ce)), (wg, .inl (c_wg, 24, .inl u_f_wg_5)), (pf, .inl (c_pf, 4, .inl u_f_pf_6))]) [1, 0, 2, 3] (by decide +kernel) rfl
      exact W.iret (v := (zI jk)) hx hb hr (fun t ht hW => kQS_of (by omega) ⟨u_mn_4, u_f_wg_5, u_f_pf_6, h_8, h_9, (by omega), by rw [ht]; exact hP9, hD9⟩ (hS.F ht)) hS.2.2 dX9_goDay_37


theorem dX9_tellDay_0 : decode cX9_tellDay 0 = .ok (.iload_n 1, 1) := by decide +kernel
theorem dX9_tellDay_1 : decode cX9_tellDay 1 = .ok (.bipush 10, 2) := by decide +kernel
theorem dX9_tellDay_3 : decode cX9_tellDay 3 = .ok (.if_icmp .lt 28, 3) := by decide +kernel
theorem dX9_tellDay_6 : decode cX9_tellDay 6 = .ok (.aload_n 0, 1) := by decide +kernel
theorem dX9_tellDay_7 : decode cX9_tellDay 7 = .ok (.iload_n 1, 1) := by decide +kernel
theorem dX9_tellDay_8 : decode cX9_tellDay 8 = .ok (.bipush 10, 2) := by decide +kernel
theorem dX9_tellDay_10 : decode cX9_tellDay 10 = .ok (.isub, 1) := by decide +kernel
theorem dX9_tellDay_11 : decode cX9_tellDay 11 = .ok (.invokevirtual 120, 3) := by decide +kernel
theorem dX9_tellDay_14 : decode cX9_tellDay 14 = .ok (.ifCond .eq 14, 3) := by decide +kernel
theorem dX9_tellDay_17 : decode cX9_tellDay 17 = .ok (.aload_n 0, 1) := by decide +kernel
theorem dX9_tellDay_18 : decode cX9_tellDay 18 = .ok (.iload_n 1, 1) := by decide +kernel
theorem dX9_tellDay_19 : decode cX9_tellDay 19 = .ok (.bipush 10, 2) := by decide +kernel
theorem dX9_tellDay_21 : decode cX9_tellDay 21 = .ok (.isub, 1) := by decide +kernel
theorem dX9_tellDay_22 : decode cX9_tellDay 22 = .ok (.invokevirtual 126, 3) := by decide +kernel
theorem dX9_tellDay_25 : decode cX9_tellDay 25 = .ok (.goto 5, 3) := by decide +kernel
theorem dX9_tellDay_28 : decode cX9_tellDay 28 = .ok (.bipush (-9), 2) := by decide +kernel
theorem dX9_tellDay_30 : decode cX9_tellDay 30 = .ok (.ireturn, 1) := by decide +kernel
theorem dX9_tellDay_31 : decode cX9_tellDay 31 = .ok (.aload_n 0, 1) := by decide +kernel
theorem dX9_tellDay_32 : decode cX9_tellDay 32 = .ok (.invokevirtual 167, 3) := by decide +kernel
theorem dX9_tellDay_35 : decode cX9_tellDay 35 = .ok (.istore_n 2, 1) := by decide +kernel
theorem dX9_tellDay_36 : decode cX9_tellDay 36 = .ok (.iload_n 1, 1) := by decide +kernel
theorem dX9_tellDay_37 : decode cX9_tellDay 37 = .ok (.ifCond .ne 7, 3) := by decide +kernel
theorem dX9_tellDay_40 : decode cX9_tellDay 40 = .ok (.iload_n 2, 1) := by decide +kernel
theorem dX9_tellDay_41 : decode cX9_tellDay 41 = .ok (.goto 31, 3) := by decide +kernel
theorem dX9_tellDay_44 : decode cX9_tellDay 44 = .ok (.iload_n 1, 1) := by decide +kernel
theorem dX9_tellDay_45 : decode cX9_tellDay 45 = .ok (.iconst 2, 1) := by decide +kernel
theorem dX9_tellDay_46 : decode cX9_tellDay 46 = .ok (.if_icmp .ne 10, 3) := by decide +kernel
theorem dX9_tellDay_49 : decode cX9_tellDay 49 = .ok (.aload_n 0, 1) := by decide +kernel
theorem dX9_tellDay_50 : decode cX9_tellDay 50 = .ok (.getfield 138, 3) := by decide +kernel
theorem dX9_tellDay_53 : decode cX9_tellDay 53 = .ok (.goto 19, 3) := by decide +kernel
theorem dX9_tellDay_56 : decode cX9_tellDay 56 = .ok (.iload_n 1, 1) := by decide +kernel
theorem dX9_tellDay_57 : decode cX9_tellDay 57 = .ok (.iconst 3, 1) := by decide +kernel
theorem dX9_tellDay_58 : decode cX9_tellDay 58 = .ok (.if_icmp .ne 10, 3) := by decide +kernel
theorem dX9_tellDay_61 : decode cX9_tellDay 61 = .ok (.aload_n 0, 1) := by decide +kernel
theorem dX9_tellDay_62 : decode cX9_tellDay 62 = .ok (.getfield 141, 3) := by decide +kernel
theorem dX9_tellDay_65 : decode cX9_tellDay 65 = .ok (.goto 7, 3) := by decide +kernel
theorem dX9_tellDay_68 : decode cX9_tellDay 68 = .ok (.aload_n 0, 1) := by decide +kernel
theorem dX9_tellDay_69 : decode cX9_tellDay 69 = .ok (.getfield 158, 3) := by decide +kernel
theorem dX9_tellDay_72 : decode cX9_tellDay 72 = .ok (.ireturn, 1) := by decide +kernel
set_option maxRecDepth 20000 in
theorem ggX9_tellDay_X9_findBest : GoodIn wsX9_tellDay wsX9_findBest := goodIn_r _ [18, 3, 19, 1, 14, 20, 21, 22, 23, 7, 24, 9, 25, 26, 27, 28, 29, 2, 30, 31, 32, 33, 34, 35, 36, 37, 38, 39, 40, 41, 42, 43, 44, 45, 46, 47, 48, 49, 50, 51, 52, 53, 54, 55, 56, 57, 58, 59, 60, 61, 62, 63, 64, 65, 66, 67, 68, 69, 70, 71, 72, 73, 74, 75, 76, 77, 78, 79, 80, 81, 82, 83, 84, 85, 86] (by decide +kernel) (by decide +kernel)
set_option maxRecDepth 20000 in
theorem gX9_tellDay_X9_findBest : GoodIn wsX9_tellDay (wsV RX9 167 RX9 yX9_findBest wsX9_findBest) := goodIn_app (goodIn_of _ (by decide +kernel)) ggX9_tellDay_X9_findBest
set_option maxRecDepth 20000 in
theorem ggX9_tellDay_X9_isFont : GoodIn wsX9_tellDay wsX9_isFont := goodIn_r _ [8, 9, 56, 57, 58, 59, 60, 61, 62, 63, 64, 65, 66, 67, 68, 69, 70, 71, 72, 73, 74, 75, 76, 77, 78, 79, 80, 81, 82, 83, 84, 85, 86] (by decide +kernel) (by decide +kernel)
set_option maxRecDepth 20000 in
theorem gX9_tellDay_X9_isFont : GoodIn wsX9_tellDay (wsV RX9 120 RX9 yX9_isFont wsX9_isFont) := goodIn_app (goodIn_of _ (by decide +kernel)) ggX9_tellDay_X9_isFont
set_option maxRecDepth 20000 in
theorem ggX9_tellDay_X9_placeOf : GoodIn wsX9_tellDay wsX9_placeOf := goodIn_r _ [13, 14, 56, 57, 58, 59, 60, 61, 62, 63, 64, 65, 66, 67, 68, 69, 70, 71, 72, 73, 74, 75, 76, 77, 78, 79, 80, 81, 82, 83, 84, 85, 86] (by decide +kernel) (by decide +kernel)
set_option maxRecDepth 20000 in
theorem gX9_tellDay_X9_placeOf : GoodIn wsX9_tellDay (wsV RX9 126 RX9 yX9_placeOf wsX9_placeOf) := goodIn_app (goodIn_of _ (by decide +kernel)) ggX9_tellDay_X9_placeOf
set_option maxRecDepth 20000 in
theorem mw_X9_tellDay_0 : (.fieldLink RX9 158 "FontRunsModel" "advance" "I" : Cond) ∈ wsX9_tellDay := by decide +kernel
set_option maxRecDepth 20000 in
theorem mw_X9_tellDay_1 : (.fieldLink RX9 141 "FontRunsModel" "boxes" "I" : Cond) ∈ wsX9_tellDay := by decide +kernel
set_option maxRecDepth 20000 in
theorem mw_X9_tellDay_2 : (.fieldLink RX9 138 "FontRunsModel" "clusters" "I" : Cond) ∈ wsX9_tellDay := by decide +kernel
theorem ax_X9_tellDay_0 {e0 e1 e2 e3 e4 e5 e6 e7 e8 e9 : Nat × va_E} : ([0, 1, 2, 3, 4, 5, 6, 7, 8, 9] : List Nat).map (fun i => ([e0, e1, e2, e3, e4, e5, e6, e7, e8, e9] : va_W)[i]?) = ([e0, e1, e2, e3, e4, e5, e6, e7, e8, e9] : va_W).map some := rfl
theorem ax_X9_tellDay_1 {e0 e1 e2 e3 e4 e5 e6 e7 e8 e9 : Nat × va_E} : ([] : List Nat).map (fun i => ([e0, e1, e2, e3, e4, e5, e6, e7, e8, e9] : va_W)[i]?) = ([] : va_W).map some := rfl
theorem ax_X9_tellDay_2 {D : va_G} {cl : List vw_C} {H : Heap} {f0 f1 f2 f3 f4 f5 f6 f7 f8 f9 : Nat × va_E} (h : va_P D cl ((([] : va_W) ++ ([f0, f1, f2, f3, f4, f5, f6, f7, f8, f9] : va_W))) H) : va_P D cl (([f0, f1, f2, f3, f4, f5, f6, f7, f8, f9] : va_W)) H := h
theorem ax_X9_tellDay_3 {A : Nat → Prop} {f0 f1 f2 f3 f4 f5 f6 f7 f8 f9 : Nat × va_E} (h : va_D A ((([] : va_W) ++ ([f0, f1, f2, f3, f4, f5, f6, f7, f8, f9] : va_W)))) : va_D A (([f0, f1, f2, f3, f4, f5, f6, f7, f8, f9] : va_W)) := h
theorem ax_X9_tellDay_4 {e0 e1 e2 e3 e4 e5 e6 e7 e8 e9 : Nat × va_E} : ([0] : List Nat).map (fun i => ([e0, e1, e2, e3, e4, e5, e6, e7, e8, e9] : va_W)[i]?) = ([e0] : va_W).map some := rfl
theorem ax_X9_tellDay_5 {e0 e1 e2 e3 e4 e5 e6 e7 e8 e9 : Nat × va_E} : ([0, 7] : List Nat).map (fun i => ([e0, e1, e2, e3, e4, e5, e6, e7, e8, e9] : va_W)[i]?) = ([e0, e7] : va_W).map some := rfl
set_option maxHeartbeats 4000000 in
set_option maxRecDepth 100000 in
theorem c_X9_tellDay (l : Launch) (D : va_G) (sz : Nat) (w : Int) (h0 : Nat) (fa : Int) (tc : Int) (so : Nat) (sl : Nat) (ce : Nat) (fn : Int) (kd : Nat) (wd : Nat) (hs : Nat) (pf : Nat) (lt : Nat) (mn : Int) (wg : Nat) (ta : Int) (ck : Int64) (at9 : Int) (rfn : Int) (rk : Nat) (rw : Nat) (rh : Nat) (cl : Int) (sa : Nat) (fi : Nat) (bo : Int) (ch : Nat) (cn : Nat) (ad : Int) (ru : Int) (kp : Nat) (dn : Int) (rfa : Nat) (c_wg : ClassId) (f_wg : Nat → Int32) (c_sa : ClassId) (f_sa : Nat → Int32) (c_fi : ClassId) (f_fi : Nat → Int32) (c_hs : ClassId) (f_hs : Nat → Int32) (c_ch : ClassId) (f_ch : Nat → Int32) (c_cn : ClassId) (f_cn : Nat → Int32) (c_pf : ClassId) (f_pf : Nat → Int32) (c_kd : ClassId) (f_kd : Nat → Int32) (c_wd : ClassId) (f_wd : Nat → Int32) (q0 : (0 ≤ w ∧ w ≤ 4) ∨ (10 ≤ w ∧ w ≤ 13)) (q1 : 0 ≤ mn ∧ mn ≤ 24) (q2 : 0 ≤ fn ∧ fn ≤ 4) (q3 : kPm f_pf fn) (q4 : ¬ (fn = 0 ∧ 1 ≤ mn)) (q5 : rg ad) (q6 : 0 ≤ ru ∧ ru ≤ 24) (q7 : 0 ≤ cl ∧ cl ≤ 24) (q8 : 0 ≤ bo ∧ bo ≤ 24) : Met l yX9_tellDay wsX9_tellDay ({ frames := 5, cells := 0, slots := 0, locals := 118 }) (kPre [.ref h0, .int (zI w)] D [(h0, .inr (9, [.int (zI fa), .int (zI tc), .ref so, .ref sl, .ref ce, .int (zI fn), .ref kd, .ref wd, .ref hs, .ref pf, .ref lt, .int (zI mn), .ref wg, .int (zI ta), .long ck, .int (zI at9), .int (zI rfn), .ref rk, .ref rw, .ref rh, .int (zI cl), .ref sa, .ref fi, .int (zI bo), .ref ch, .ref cn, .int (zI ad), .int (zI ru), .ref kp, .int (zI dn), .ref rfa])), (wg, .inl (c_wg, 24, .inl f_wg)), (sa, .inl (c_sa, 25, .inl f_sa)), (fi, .inl (c_fi, 24, .inl f_fi)), (hs, .inl (c_hs, 4, .inl f_hs)), (ch, .inl (c_ch, 96, .inl f_ch)), (cn, .inl (c_cn, 24, .inl f_cn)), (pf, .inl (c_pf, 4, .inl f_pf)), (kd, .inl (c_kd, 4, .inl f_kd)), (wd, .inl (c_wd, 4, .inl f_wd))] [(c_wg, .int), (c_sa, .int), (c_fi, .int), (c_hs, .int), (c_ch, .int), (c_cn, .int), (c_pf, .int), (c_kd, .int), (c_wd, .int)] sz) (kQS (fun rz t => ∃ (u_cl : Int) (u_bo : Int) (u_ad : Int) (u_ru : Int) (u_f_sa : Nat → Int32) (u_f_fi : Nat → Int32) (u_f_ch : Nat → Int32) (u_f_cn : Nat → Int32), (rg u_ad) ∧ (0 ≤ u_ru ∧ u_ru ≤ 24) ∧ (0 ≤ u_cl ∧ u_cl ≤ 24) ∧ (0 ≤ u_bo ∧ u_bo ≤ 24) ∧ va_P D vwCl [(h0, .inr (9, [.int (zI fa), .int (zI tc), .ref so, .ref sl, .ref ce, .int (zI fn), .ref kd, .ref wd, .ref hs, .ref pf, .ref lt, .int (zI mn), .ref wg, .int (zI ta), .long ck, .int (zI at9), .int (zI rfn), .ref rk, .ref rw, .ref rh, .int (zI u_cl), .ref sa, .ref fi, .int (zI u_bo), .ref ch, .ref cn, .int (zI u_ad), .int (zI u_ru), .ref kp, .int (zI dn), .ref rfa])), (wg, .inl (c_wg, 24, .inl f_wg)), (sa, .inl (c_sa, 25, .inl u_f_sa)), (fi, .inl (c_fi, 24, .inl u_f_fi)), (hs, .inl (c_hs, 4, .inl f_hs)), (ch, .inl (c_ch, 96, .inl u_f_ch)), (cn, .inl (c_cn, 24, .inl u_f_cn)), (pf, .inl (c_pf, 4, .inl f_pf)), (kd, .inl (c_kd, 4, .inl f_kd)), (wd, .inl (c_wd, 4, .inl f_wd))] t.heap ∧ va_D (va_A [(h0, .inr (9, [.int (zI fa), .int (zI tc), .ref so, .ref sl, .ref ce, .int (zI fn), .ref kd, .ref wd, .ref hs, .ref pf, .ref lt, .int (zI mn), .ref wg, .int (zI ta), .long ck, .int (zI at9), .int (zI rfn), .ref rk, .ref rw, .ref rh, .int (zI cl), .ref sa, .ref fi, .int (zI bo), .ref ch, .ref cn, .int (zI ad), .int (zI ru), .ref kp, .int (zI dn), .ref rfa])), (wg, .inl (c_wg, 24, .inl f_wg)), (sa, .inl (c_sa, 25, .inl f_sa)), (fi, .inl (c_fi, 24, .inl f_fi)), (hs, .inl (c_hs, 4, .inl f_hs)), (ch, .inl (c_ch, 96, .inl f_ch)), (cn, .inl (c_cn, 24, .inl f_cn)), (pf, .inl (c_pf, 4, .inl f_pf)), (kd, .inl (c_kd, 4, .inl f_kd)), (wd, .inl (c_wd, 4, .inl f_wd))] sz) [(h0, .inr (9, [.int (zI fa), .int (zI tc), .ref so, .ref sl, .ref ce, .int (zI fn), .ref kd, .ref wd, .ref hs, .ref pf, .ref lt, .int (zI mn), .ref wg, .int (zI ta), .long ck, .int (zI at9), .int (zI rfn), .ref rk, .ref rw, .ref rh, .int (zI u_cl), .ref sa, .ref fi, .int (zI u_bo), .ref ch, .ref cn, .int (zI u_ad), .int (zI u_ru), .ref kp, .int (zI dn), .ref rfa])), (wg, .inl (c_wg, 24, .inl f_wg)), (sa, .inl (c_sa, 25, .inl u_f_sa)), (fi, .inl (c_fi, 24, .inl u_f_fi)), (hs, .inl (c_hs, 4, .inl f_hs)), (ch, .inl (c_ch, 96, .inl u_f_ch)), (cn, .inl (c_cn, 24, .inl u_f_cn)), (pf, .inl (c_pf, 4, .inl f_pf)), (kd, .inl (c_kd, 4, .inl f_kd)), (wd, .inl (c_wd, 4, .inl f_wd))]) (va_A [(h0, .inr (9, [.int (zI fa), .int (zI tc), .ref so, .ref sl, .ref ce, .int (zI fn), .ref kd, .ref wd, .ref hs, .ref pf, .ref lt, .int (zI mn), .ref wg, .int (zI ta), .long ck, .int (zI at9), .int (zI rfn), .ref rk, .ref rw, .ref rh, .int (zI cl), .ref sa, .ref fi, .int (zI bo), .ref ch, .ref cn, .int (zI ad), .int (zI ru), .ref kp, .int (zI dn), .ref rfa])), (wg, .inl (c_wg, 24, .inl f_wg)), (sa, .inl (c_sa, 25, .inl f_sa)), (fi, .inl (c_fi, 24, .inl f_fi)), (hs, .inl (c_hs, 4, .inl f_hs)), (ch, .inl (c_ch, 96, .inl f_ch)), (cn, .inl (c_cn, 24, .inl f_cn)), (pf, .inl (c_pf, 4, .inl f_pf)), (kd, .inl (c_kd, 4, .inl f_kd)), (wd, .inl (c_wd, 4, .inl f_wd))] sz)) 0 0 (va_A [(h0, .inr (9, [.int (zI fa), .int (zI tc), .ref so, .ref sl, .ref ce, .int (zI fn), .ref kd, .ref wd, .ref hs, .ref pf, .ref lt, .int (zI mn), .ref wg, .int (zI ta), .long ck, .int (zI at9), .int (zI rfn), .ref rk, .ref rw, .ref rh, .int (zI cl), .ref sa, .ref fi, .int (zI bo), .ref ch, .ref cn, .int (zI ad), .int (zI ru), .ref kp, .int (zI dn), .ref rfa])), (wg, .inl (c_wg, 24, .inl f_wg)), (sa, .inl (c_sa, 25, .inl f_sa)), (fi, .inl (c_fi, 24, .inl f_fi)), (hs, .inl (c_hs, 4, .inl f_hs)), (ch, .inl (c_ch, 96, .inl f_ch)), (cn, .inl (c_cn, 24, .inl f_cn)), (pf, .inl (c_pf, 4, .inl f_pf)), (kd, .inl (c_kd, 4, .inl f_kd)), (wd, .inl (c_wd, 4, .inl f_wd))] sz) := by
  refine Met.ofW (cc := cX9_tellDay) (maxL := 3) (ret := (some .int)) (by decide) rfl ?_
  intro p e s m args below meth c s₁ B hml hv
  obtain ⟨rfl, hsz, hP, hK, hD0, hN⟩ := hv
  have hx := B.exec
  have hb := B.bytes
  have hr := B.returns
  have hts := atoms_spec (ws := wsX9_tellDay) B.pre
  have hown : s.vm.findClass RX9 = some m.cls := findClass_of_methodNamed B.named
  have hlocks := B.notSynchronized
  subst hsz
  have hD := hD0.self (sz := s.heap.size)
  generalize hAe : va_A [(h0, .inr (9, [.int (zI fa), .int (zI tc), .ref so, .ref sl, .ref ce, .int (zI fn), .ref kd, .ref wd, .ref hs, .ref pf, .ref lt, .int (zI mn), .ref wg, .int (zI ta), .long ck, .int (zI at9), .int (zI rfn), .ref rk, .ref rw, .ref rh, .int (zI cl), .ref sa, .ref fi, .int (zI bo), .ref ch, .ref cn, .int (zI ad), .int (zI ru), .ref kp, .int (zI dn), .ref rfa])), (wg, .inl (c_wg, 24, .inl f_wg)), (sa, .inl (c_sa, 25, .inl f_sa)), (fi, .inl (c_fi, 24, .inl f_fi)), (hs, .inl (c_hs, 4, .inl f_hs)), (ch, .inl (c_ch, 96, .inl f_ch)), (cn, .inl (c_cn, 24, .inl f_cn)), (pf, .inl (c_pf, 4, .inl f_pf)), (kd, .inl (c_kd, 4, .inl f_kd)), (wd, .inl (c_wd, 4, .inl f_wd))] s.heap.size = A at hD ⊢
  have hA : ∀ q : Nat, s.heap.size ≤ q → A q := fun q h => by rw [← hAe]; exact Or.inr h
  have hS : va_S A s.heap s.heap [] := va_S.rf
  have hP : va_P D vwCl [(h0, .inr (9, [.int (zI fa), .int (zI tc), .ref so, .ref sl, .ref ce, .int (zI fn), .ref kd, .ref wd, .ref hs, .ref pf, .ref lt, .int (zI mn), .ref wg, .int (zI ta), .long ck, .int (zI at9), .int (zI rfn), .ref rk, .ref rw, .ref rh, .int (zI cl), .ref sa, .ref fi, .int (zI bo), .ref ch, .ref cn, .int (zI ad), .int (zI ru), .ref kp, .int (zI dn), .ref rfa])), (wg, .inl (c_wg, 24, .inl f_wg)), (sa, .inl (c_sa, 25, .inl f_sa)), (fi, .inl (c_fi, 24, .inl f_fi)), (hs, .inl (c_hs, 4, .inl f_hs)), (ch, .inl (c_ch, 96, .inl f_ch)), (cn, .inl (c_cn, 24, .inl f_cn)), (pf, .inl (c_pf, 4, .inl f_pf)), (kd, .inl (c_kd, 4, .inl f_kd)), (wd, .inl (c_wd, 4, .inl f_wd))] s.heap := hP
  have hl := lv_entry ([.ref h0, .int (zI w)]) (n := 3) (Nat.le_of_ble_eq_true rfl)
  rw [lg_entry_eq]
  generalize (lg_sl ([.ref h0, .int (zI w)]) ++ List.replicate (3 - (lg_sl ([.ref h0, .int (zI w)])).length) Slot.unset).toArray = ls at hl ⊢
  have hl : lv_has ls 3 [(0, .ref h0), (1, .int (zI w))] := hl
  refine lv_iload_n hx hb dX9_tellDay_0 rfl (lv_at hl 1 rfl) ?_
  refine lv_bipush (v := zI 10) hx hb dX9_tellDay_1 (by decide) ?_
  refine kz_icmp_lt (tgt := 31) hx hb dX9_tellDay_3 (by decide) (by omega) (by omega) (fun c_1 => ?_) (fun c_1 => ?_)
  · refine lv_aload_n hx hb dX9_tellDay_31 rfl (lv_at hl 0 rfl) ?_
    have hFc := va_free (wc := [(h0, .inr (9, [.int (zI fa), .int (zI tc), .ref so, .ref sl, .ref ce, .int (zI fn), .ref kd, .ref wd, .ref hs, .ref pf, .ref lt, .int (zI mn), .ref wg, .int (zI ta), .long ck, .int (zI at9), .int (zI rfn), .ref rk, .ref rw, .ref rh, .int (zI cl), .ref sa, .ref fi, .int (zI bo), .ref ch, .ref cn, .int (zI ad), .int (zI ru), .ref kp, .int (zI dn), .ref rfa])), (wg, .inl (c_wg, 24, .inl f_wg)), (sa, .inl (c_sa, 25, .inl f_sa)), (fi, .inl (c_fi, 24, .inl f_fi)), (hs, .inl (c_hs, 4, .inl f_hs)), (ch, .inl (c_ch, 96, .inl f_ch)), (cn, .inl (c_cn, 24, .inl f_cn)), (pf, .inl (c_pf, 4, .inl f_pf)), (kd, .inl (c_kd, 4, .inl f_kd)), (wd, .inl (c_wd, 4, .inl f_wd))]) hD hS hA [0, 1, 2, 3, 4, 5, 6, 7, 8, 9] ax_X9_tellDay_0
    refine va_calli (va_runV (As := []) (rest := []) ⟨hx, hb, hml, hown, hts⟩ (c_X9_findBest l D s.heap.size (h0 := h0) (fa := fa) (tc := tc) (so := so) (sl := sl) (ce := ce) (fn := fn) (kd := kd) (wd := wd) (hs := hs) (pf := pf) (lt := lt) (mn := mn) (wg := wg) (ta := ta) (ck := ck) (at9 := at9) (rfn := rfn) (rk := rk) (rw := rw) (rh := rh) (cl := cl) (sa := sa) (fi := fi) (bo := bo) (ch := ch) (cn := cn) (ad := ad) (ru := ru) (kp := kp) (dn := dn) (rfa := rfa) (c_wg := c_wg) (f_wg := f_wg) (c_sa := c_sa) (f_sa := f_sa) (c_fi := c_fi) (f_fi := f_fi) (c_hs := c_hs) (f_hs := f_hs) (c_ch := c_ch) (f_ch := f_ch) (c_cn := c_cn) (f_cn := f_cn) (c_pf := c_pf) (f_pf := f_pf) (c_kd := c_kd) (f_kd := f_kd) (c_wd := c_wd) (f_wd := f_wd) q1 q2 q3 q4) (cwV 0 hts gX9_tellDay_X9_findBest rfl rfl rfl (by decide +kernel) ⟨Nat.le_of_ble_eq_true rfl, Nat.le_of_ble_eq_true rfl⟩) (kPreV hP (kD0 hD) hK hN [0, 1, 2, 3, 4, 5, 6, 7, 8, 9] [0, 1, 2, 3, 4, 5, 6, 7, 8] ax_X9_tellDay_0 rfl (by decide +kernel) 0 9 rfl rfl) rfl rfl hl.1 rfl (lv_room (Nat.le_of_ble_eq_true rfl)) dX9_tellDay_32 ⟨Nat.le_of_ble_eq_true rfl, Nat.le_of_ble_eq_true rfl⟩) hS (fun q _ h => hFc q h) hFc (fun r u t H1 locs ht hvm hw hB hz1 hk1 hS => ?_)
    obtain ⟨z_10, e9⟩ : ∃ z, z = u := ⟨_, rfl⟩
    subst e9
    obtain ⟨rfl, rz_10⟩ := hw
    refine Exists.elim hB (fun u_cl_2 hB1 => Exists.elim hB1 (fun u_bo_3 hB2 => Exists.elim hB2 (fun u_ad_4 hB3 => Exists.elim hB3 (fun u_ru_5 hB4 => Exists.elim hB4 (fun u_f_sa_6 hB5 => Exists.elim hB5 (fun u_f_fi_7 hB6 => Exists.elim hB6 (fun u_f_ch_8 hB7 => Exists.elim hB7 (fun u_f_cn_9 hB8 => ?_))))))))
    have h_11 := hB8.1
    have h_12 := hB8.2.1
    have h_13 := hB8.2.2.1
    have h_14 := hB8.2.2.2.1
    have h_15 := hB8.2.2.2.2.1
    have h_16 := hB8.2.2.2.2.2.1
    have h_17 := hB8.2.2.2.2.2.2.1
    have h_18 := hB8.2.2.2.2.2.2.2.1
    have hP1 := hB8.2.2.2.2.2.2.2.2.1
    have hD1 := hB8.2.2.2.2.2.2.2.2.2
    clear hB hB1 hB2 hB3 hB4 hB5 hB6 hB7 hB8
    rw [ht] at hP1
    obtain ⟨hP, hD⟩ := va_join (wr := []) (w1 := [(h0, .inr (9, [.int (zI fa), .int (zI tc), .ref so, .ref sl, .ref ce, .int (zI fn), .ref kd, .ref wd, .ref hs, .ref pf, .ref lt, .int (zI mn), .ref wg, .int (zI ta), .long ck, .int (zI at9), .int (zI rfn), .ref rk, .ref rw, .ref rh, .int (zI u_cl_2), .ref sa, .ref fi, .int (zI u_bo_3), .ref ch, .ref cn, .int (zI u_ad_4), .int (zI u_ru_5), .ref kp, .int (zI dn), .ref rfa])), (wg, .inl (c_wg, 24, .inl f_wg)), (sa, .inl (c_sa, 25, .inl u_f_sa_6)), (fi, .inl (c_fi, 24, .inl u_f_fi_7)), (hs, .inl (c_hs, 4, .inl f_hs)), (ch, .inl (c_ch, 96, .inl u_f_ch_8)), (cn, .inl (c_cn, 24, .inl u_f_cn_9)), (pf, .inl (c_pf, 4, .inl f_pf)), (kd, .inl (c_kd, 4, .inl f_kd)), (wd, .inl (c_wd, 4, .inl f_wd))]) hP hD [0, 1, 2, 3, 4, 5, 6, 7, 8, 9] [] ax_X9_tellDay_0 ax_X9_tellDay_1 (by decide +kernel) (by decide +kernel) hk1 hFc hP1 hD1
    have hP := ax_X9_tellDay_2 hP
    have hD := ax_X9_tellDay_3 hD
    generalize H1 = H at hP hS ⊢
    have hP : va_P D vwCl [(h0, .inr (9, [.int (zI fa), .int (zI tc), .ref so, .ref sl, .ref ce, .int (zI fn), .ref kd, .ref wd, .ref hs, .ref pf, .ref lt, .int (zI mn), .ref wg, .int (zI ta), .long ck, .int (zI at9), .int (zI rfn), .ref rk, .ref rw, .ref rh, .int (zI u_cl_2), .ref sa, .ref fi, .int (zI u_bo_3), .ref ch, .ref cn, .int (zI u_ad_4), .int (zI u_ru_5), .ref kp, .int (zI dn), .ref rfa])), (wg, .inl (c_wg, 24, .inl f_wg)), (sa, .inl (c_sa, 25, .inl u_f_sa_6)), (fi, .inl (c_fi, 24, .inl u_f_fi_7)), (hs, .inl (c_hs, 4, .inl f_hs)), (ch, .inl (c_ch, 96, .inl u_f_ch_8)), (cn, .inl (c_cn, 24, .inl u_f_cn_9)), (pf, .inl (c_pf, 4, .inl f_pf)), (kd, .inl (c_kd, 4, .inl f_kd)), (wd, .inl (c_wd, 4, .inl f_wd))] H := hP
    have hD : va_D A [(h0, .inr (9, [.int (zI fa), .int (zI tc), .ref so, .ref sl, .ref ce, .int (zI fn), .ref kd, .ref wd, .ref hs, .ref pf, .ref lt, .int (zI mn), .ref wg, .int (zI ta), .long ck, .int (zI at9), .int (zI rfn), .ref rk, .ref rw, .ref rh, .int (zI u_cl_2), .ref sa, .ref fi, .int (zI u_bo_3), .ref ch, .ref cn, .int (zI u_ad_4), .int (zI u_ru_5), .ref kp, .int (zI dn), .ref rfa])), (wg, .inl (c_wg, 24, .inl f_wg)), (sa, .inl (c_sa, 25, .inl u_f_sa_6)), (fi, .inl (c_fi, 24, .inl u_f_fi_7)), (hs, .inl (c_hs, 4, .inl f_hs)), (ch, .inl (c_ch, 96, .inl u_f_ch_8)), (cn, .inl (c_cn, 24, .inl u_f_cn_9)), (pf, .inl (c_pf, 4, .inl f_pf)), (kd, .inl (c_kd, 4, .inl f_kd)), (wd, .inl (c_wd, 4, .inl f_wd))] := hD
    refine lv_istore_n (lv' := [(2, .int (zI z_10)), (0, .ref h0), (1, .int (zI w))]) hx hb dX9_tellDay_35 rfl hl (by decide) rfl (fun ls hl => ?_)
    refine lv_iload_n hx hb dX9_tellDay_36 rfl (lv_at hl 2 rfl) ?_
    refine kz_if_ne (tgt := 44) hx hb dX9_tellDay_37 (by decide) (by omega) (fun c_19 => ?_) (fun c_19 => ?_)
    · refine lv_iload_n hx hb dX9_tellDay_44 rfl (lv_at hl 2 rfl) ?_
      refine lv_iconst (v := zI 2) hx hb dX9_tellDay_45 rfl ?_
      refine kz_icmp_ne (tgt := 56) hx hb dX9_tellDay_46 (by decide) (by omega) (by omega) (fun c_20 => ?_) (fun c_20 => ?_)
      · refine lv_iload_n hx hb dX9_tellDay_56 rfl (lv_at hl 2 rfl) ?_
        refine lv_iconst (v := zI 3) hx hb dX9_tellDay_57 rfl ?_
        refine kz_icmp_ne (tgt := 68) hx hb dX9_tellDay_58 (by decide) (by omega) (by omega) (fun c_21 => ?_) (fun c_21 => ?_)
        · refine lv_aload_n hx hb dX9_tellDay_68 rfl (lv_at hl 1 rfl) ?_
          refine va_get (D := D) (ci := 9) (v := .int (zI u_ad_4)) (C := RX9) (T := TX9) (N := 31) hx hb hts (fun _ h9 => List.mem_cons_of_mem _ (List.mem_append_right _ h9)) hown hK hP 0 rfl rfl 26 (by decide) (hts (.fieldLink RX9 158 "FontRunsModel" "advance" "I") mw_X9_tellDay_0) (fun _ h9 => h9) rfl dX9_tellDay_69 ?_
          have hP9 := hP.sub (ws' := [(h0, .inr (9, [.int (zI fa), .int (zI tc), .ref so, .ref sl, .ref ce, .int (zI fn), .ref kd, .ref wd, .ref hs, .ref pf, .ref lt, .int (zI mn), .ref wg, .int (zI ta), .long ck, .int (zI at9), .int (zI rfn), .ref rk, .ref rw, .ref rh, .int (zI u_cl_2), .ref sa, .ref fi, .int (zI u_bo_3), .ref ch, .ref cn, .int (zI u_ad_4), .int (zI u_ru_5), .ref kp, .int (zI dn), .ref rfa])), (wg, .inl (c_wg, 24, .inl f_wg)), (sa, .inl (c_sa, 25, .inl u_f_sa_6)), (fi, .inl (c_fi, 24, .inl u_f_fi_7)), (hs, .inl (c_hs, 4, .inl f_hs)), (ch, .inl (c_ch, 96, .inl u_f_ch_8)), (cn, .inl (c_cn, 24, .inl u_f_cn_9)), (pf, .inl (c_pf, 4, .inl f_pf)), (kd, .inl (c_kd, 4, .inl f_kd)), (wd, .inl (c_wd, 4, .inl f_wd))]) [0, 1, 2, 3, 4, 5, 6, 7, 8, 9] rfl
          have hD9 := hD.sub (ws' := [(h0, .inr (9, [.int (zI fa), .int (zI tc), .ref so, .ref sl, .ref ce, .int (zI fn), .ref kd, .ref wd, .ref hs, .ref pf, .ref lt, .int (zI mn), .ref wg, .int (zI ta), .long ck, .int (zI at9), .int (zI rfn), .ref rk, .ref rw, .ref rh, .int (zI u_cl_2), .ref sa, .ref fi, .int (zI u_bo_3), .ref ch, .ref cn, .int (zI u_ad_4), .int (zI u_ru_5), .ref kp, .int (zI dn), .ref rfa])), (wg, .inl (c_wg, 24, .inl f_wg)), (sa, .inl (c_sa, 25, .inl u_f_sa_6)), (fi, .inl (c_fi, 24, .inl u_f_fi_7)), (hs, .inl (c_hs, 4, .inl f_hs)), (ch, .inl (c_ch, 96, .inl u_f_ch_8)), (cn, .inl (c_cn, 24, .inl u_f_cn_9)), (pf, .inl (c_pf, 4, .inl f_pf)), (kd, .inl (c_kd, 4, .inl f_kd)), (wd, .inl (c_wd, 4, .inl f_wd))]) [0, 1, 2, 3, 4, 5, 6, 7, 8, 9] (by decide +kernel) rfl
          exact W.iret (v := (zI u_ad_4)) hx hb hr (fun t ht hW => kQS_of (by omega) ⟨u_cl_2, u_bo_3, u_ad_4, u_ru_5, u_f_sa_6, u_f_fi_7, u_f_ch_8, u_f_cn_9, h_14, (by omega), (by omega), h_12, by rw [ht]; exact hP9, hD9⟩ (hS.F ht)) hS.2.2 dX9_tellDay_72
        · refine lv_aload_n hx hb dX9_tellDay_61 rfl (lv_at hl 1 rfl) ?_
          refine va_get (D := D) (ci := 9) (v := .int (zI u_bo_3)) (C := RX9) (T := TX9) (N := 31) hx hb hts (fun _ h9 => List.mem_cons_of_mem _ (List.mem_append_right _ h9)) hown hK hP 0 rfl rfl 23 (by decide) (hts (.fieldLink RX9 141 "FontRunsModel" "boxes" "I") mw_X9_tellDay_1) (fun _ h9 => h9) rfl dX9_tellDay_62 ?_
          refine lv_goto (tgt := 72) hx hb dX9_tellDay_65 (by decide) ?_
          have hP9 := hP.sub (ws' := [(h0, .inr (9, [.int (zI fa), .int (zI tc), .ref so, .ref sl, .ref ce, .int (zI fn), .ref kd, .ref wd, .ref hs, .ref pf, .ref lt, .int (zI mn), .ref wg, .int (zI ta), .long ck, .int (zI at9), .int (zI rfn), .ref rk, .ref rw, .ref rh, .int (zI u_cl_2), .ref sa, .ref fi, .int (zI u_bo_3), .ref ch, .ref cn, .int (zI u_ad_4), .int (zI u_ru_5), .ref kp, .int (zI dn), .ref rfa])), (wg, .inl (c_wg, 24, .inl f_wg)), (sa, .inl (c_sa, 25, .inl u_f_sa_6)), (fi, .inl (c_fi, 24, .inl u_f_fi_7)), (hs, .inl (c_hs, 4, .inl f_hs)), (ch, .inl (c_ch, 96, .inl u_f_ch_8)), (cn, .inl (c_cn, 24, .inl u_f_cn_9)), (pf, .inl (c_pf, 4, .inl f_pf)), (kd, .inl (c_kd, 4, .inl f_kd)), (wd, .inl (c_wd, 4, .inl f_wd))]) [0, 1, 2, 3, 4, 5, 6, 7, 8, 9] rfl
          have hD9 := hD.sub (ws' := [(h0, .inr (9, [.int (zI fa), .int (zI tc), .ref so, .ref sl, .ref ce, .int (zI fn), .ref kd, .ref wd, .ref hs, .ref pf, .ref lt, .int (zI mn), .ref wg, .int (zI ta), .long ck, .int (zI at9), .int (zI rfn), .ref rk, .ref rw, .ref rh, .int (zI u_cl_2), .ref sa, .ref fi, .int (zI u_bo_3), .ref ch, .ref cn, .int (zI u_ad_4), .int (zI u_ru_5), .ref kp, .int (zI dn), .ref rfa])), (wg, .inl (c_wg, 24, .inl f_wg)), (sa, .inl (c_sa, 25, .inl u_f_sa_6)), (fi, .inl (c_fi, 24, .inl u_f_fi_7)), (hs, .inl (c_hs, 4, .inl f_hs)), (ch, .inl (c_ch, 96, .inl u_f_ch_8)), (cn, .inl (c_cn, 24, .inl u_f_cn_9)), (pf, .inl (c_pf, 4, .inl f_pf)), (kd, .inl (c_kd, 4, .inl f_kd)), (wd, .inl (c_wd, 4, .inl f_wd))]) [0, 1, 2, 3, 4, 5, 6, 7, 8, 9] (by decide +kernel) rfl
          exact W.iret (v := (zI u_bo_3)) hx hb hr (fun t ht hW => kQS_of (by omega) ⟨u_cl_2, u_bo_3, u_ad_4, u_ru_5, u_f_sa_6, u_f_fi_7, u_f_ch_8, u_f_cn_9, h_14, (by omega), (by omega), h_12, by rw [ht]; exact hP9, hD9⟩ (hS.F ht)) hS.2.2 dX9_tellDay_72
      · refine lv_aload_n hx hb dX9_tellDay_49 rfl (lv_at hl 1 rfl) ?_
        refine va_get (D := D) (ci := 9) (v := .int (zI u_cl_2)) (C := RX9) (T := TX9) (N := 31) hx hb hts (fun _ h9 => List.mem_cons_of_mem _ (List.mem_append_right _ h9)) hown hK hP 0 rfl rfl 20 (by decide) (hts (.fieldLink RX9 138 "FontRunsModel" "clusters" "I") mw_X9_tellDay_2) (fun _ h9 => h9) rfl dX9_tellDay_50 ?_
        refine lv_goto (tgt := 72) hx hb dX9_tellDay_53 (by decide) ?_
        have hP9 := hP.sub (ws' := [(h0, .inr (9, [.int (zI fa), .int (zI tc), .ref so, .ref sl, .ref ce, .int (zI fn), .ref kd, .ref wd, .ref hs, .ref pf, .ref lt, .int (zI mn), .ref wg, .int (zI ta), .long ck, .int (zI at9), .int (zI rfn), .ref rk, .ref rw, .ref rh, .int (zI u_cl_2), .ref sa, .ref fi, .int (zI u_bo_3), .ref ch, .ref cn, .int (zI u_ad_4), .int (zI u_ru_5), .ref kp, .int (zI dn), .ref rfa])), (wg, .inl (c_wg, 24, .inl f_wg)), (sa, .inl (c_sa, 25, .inl u_f_sa_6)), (fi, .inl (c_fi, 24, .inl u_f_fi_7)), (hs, .inl (c_hs, 4, .inl f_hs)), (ch, .inl (c_ch, 96, .inl u_f_ch_8)), (cn, .inl (c_cn, 24, .inl u_f_cn_9)), (pf, .inl (c_pf, 4, .inl f_pf)), (kd, .inl (c_kd, 4, .inl f_kd)), (wd, .inl (c_wd, 4, .inl f_wd))]) [0, 1, 2, 3, 4, 5, 6, 7, 8, 9] rfl
        have hD9 := hD.sub (ws' := [(h0, .inr (9, [.int (zI fa), .int (zI tc), .ref so, .ref sl, .ref ce, .int (zI fn), .ref kd, .ref wd, .ref hs, .ref pf, .ref lt, .int (zI mn), .ref wg, .int (zI ta), .long ck, .int (zI at9), .int (zI rfn), .ref rk, .ref rw, .ref rh, .int (zI u_cl_2), .ref sa, .ref fi, .int (zI u_bo_3), .ref ch, .ref cn, .int (zI u_ad_4), .int (zI u_ru_5), .ref kp, .int (zI dn), .ref rfa])), (wg, .inl (c_wg, 24, .inl f_wg)), (sa, .inl (c_sa, 25, .inl u_f_sa_6)), (fi, .inl (c_fi, 24, .inl u_f_fi_7)), (hs, .inl (c_hs, 4, .inl f_hs)), (ch, .inl (c_ch, 96, .inl u_f_ch_8)), (cn, .inl (c_cn, 24, .inl u_f_cn_9)), (pf, .inl (c_pf, 4, .inl f_pf)), (kd, .inl (c_kd, 4, .inl f_kd)), (wd, .inl (c_wd, 4, .inl f_wd))]) [0, 1, 2, 3, 4, 5, 6, 7, 8, 9] (by decide +kernel) rfl
        exact W.iret (v := (zI u_cl_2)) hx hb hr (fun t ht hW => kQS_of (by omega) ⟨u_cl_2, u_bo_3, u_ad_4, u_ru_5, u_f_sa_6, u_f_fi_7, u_f_ch_8, u_f_cn_9, h_14, (by omega), (by omega), h_12, by rw [ht]; exact hP9, hD9⟩ (hS.F ht)) hS.2.2 dX9_tellDay_72
    · refine lv_iload_n hx hb dX9_tellDay_40 rfl (lv_at hl 0 rfl) ?_
      refine lv_goto (tgt := 72) hx hb dX9_tellDay_41 (by decide) ?_
      have hP9 := hP.sub (ws' := [(h0, .inr (9, [.int (zI fa), .int (zI tc), .ref so, .ref sl, .ref ce, .int (zI fn), .ref kd, .ref wd, .ref hs, .ref pf, .ref lt, .int (zI mn), .ref wg, .int (zI ta), .long ck, .int (zI at9), .int (zI rfn), .ref rk, .ref rw, .ref rh, .int (zI u_cl_2), .ref sa, .ref fi, .int (zI u_bo_3), .ref ch, .ref cn, .int (zI u_ad_4), .int (zI u_ru_5), .ref kp, .int (zI dn), .ref rfa])), (wg, .inl (c_wg, 24, .inl f_wg)), (sa, .inl (c_sa, 25, .inl u_f_sa_6)), (fi, .inl (c_fi, 24, .inl u_f_fi_7)), (hs, .inl (c_hs, 4, .inl f_hs)), (ch, .inl (c_ch, 96, .inl u_f_ch_8)), (cn, .inl (c_cn, 24, .inl u_f_cn_9)), (pf, .inl (c_pf, 4, .inl f_pf)), (kd, .inl (c_kd, 4, .inl f_kd)), (wd, .inl (c_wd, 4, .inl f_wd))]) [0, 1, 2, 3, 4, 5, 6, 7, 8, 9] rfl
      have hD9 := hD.sub (ws' := [(h0, .inr (9, [.int (zI fa), .int (zI tc), .ref so, .ref sl, .ref ce, .int (zI fn), .ref kd, .ref wd, .ref hs, .ref pf, .ref lt, .int (zI mn), .ref wg, .int (zI ta), .long ck, .int (zI at9), .int (zI rfn), .ref rk, .ref rw, .ref rh, .int (zI u_cl_2), .ref sa, .ref fi, .int (zI u_bo_3), .ref ch, .ref cn, .int (zI u_ad_4), .int (zI u_ru_5), .ref kp, .int (zI dn), .ref rfa])), (wg, .inl (c_wg, 24, .inl f_wg)), (sa, .inl (c_sa, 25, .inl u_f_sa_6)), (fi, .inl (c_fi, 24, .inl u_f_fi_7)), (hs, .inl (c_hs, 4, .inl f_hs)), (ch, .inl (c_ch, 96, .inl u_f_ch_8)), (cn, .inl (c_cn, 24, .inl u_f_cn_9)), (pf, .inl (c_pf, 4, .inl f_pf)), (kd, .inl (c_kd, 4, .inl f_kd)), (wd, .inl (c_wd, 4, .inl f_wd))]) [0, 1, 2, 3, 4, 5, 6, 7, 8, 9] (by decide +kernel) rfl
      exact W.iret (v := (zI z_10)) hx hb hr (fun t ht hW => kQS_of (by omega) ⟨u_cl_2, u_bo_3, u_ad_4, u_ru_5, u_f_sa_6, u_f_fi_7, u_f_ch_8, u_f_cn_9, h_14, (by omega), (by omega), h_12, by rw [ht]; exact hP9, hD9⟩ (hS.F ht)) hS.2.2 dX9_tellDay_72
  · refine lv_aload_n hx hb dX9_tellDay_6 rfl (lv_at hl 0 rfl) ?_
    refine lv_iload_n hx hb dX9_tellDay_7 rfl (lv_at hl 1 rfl) ?_
    refine lv_bipush (v := zI 10) hx hb dX9_tellDay_8 (by decide) ?_
    refine kz_isub hx hb dX9_tellDay_10 ?_
    refine k_callR (va_runV (As := [.int (zI (w - 10))]) (rest := []) ⟨hx, hb, hml, hown, hts⟩ (c_X9_isFont l D s.heap.size (f := (w - 10)) (h0 := h0) (fa := fa) (tc := tc) (so := so) (sl := sl) (ce := ce) (fn := fn) (kd := kd) (wd := wd) (hs := hs) (pf := pf) (lt := lt) (mn := mn) (wg := wg) (ta := ta) (ck := ck) (at9 := at9) (rfn := rfn) (rk := rk) (rw := rw) (rh := rh) (cl := cl) (sa := sa) (fi := fi) (bo := bo) (ch := ch) (cn := cn) (ad := ad) (ru := ru) (kp := kp) (dn := dn) (rfa := rfa) (by omega) q2) (cwV 1 hts gX9_tellDay_X9_isFont rfl rfl rfl (by decide +kernel) ⟨Nat.le_of_ble_eq_true rfl, Nat.le_of_ble_eq_true rfl⟩) (kPreV hP (kD0 hD) hK hN [0] [] ax_X9_tellDay_4 rfl (by decide +kernel) 0 9 rfl rfl) rfl rfl hl.1 rfl (lv_room (Nat.le_of_ble_eq_true rfl)) dX9_tellDay_11 ⟨Nat.le_of_ble_eq_true rfl, Nat.le_of_ble_eq_true rfl⟩) ?_
    refine lv_if_eq (tgt := 28) hx hb dX9_tellDay_14 (by decide) (fun c_22 => ?_) (fun c_22 => ?_)
    · have c_22 : ¬ (0 ≤ (w - 10) ∧ (w - 10) < fn) := b01f c_22
      refine lv_bipush (v := zI (-9)) hx hb dX9_tellDay_28 (by decide) ?_
      have hP9 := hP.sub (ws' := [(h0, .inr (9, [.int (zI fa), .int (zI tc), .ref so, .ref sl, .ref ce, .int (zI fn), .ref kd, .ref wd, .ref hs, .ref pf, .ref lt, .int (zI mn), .ref wg, .int (zI ta), .long ck, .int (zI at9), .int (zI rfn), .ref rk, .ref rw, .ref rh, .int (zI cl), .ref sa, .ref fi, .int (zI bo), .ref ch, .ref cn, .int (zI ad), .int (zI ru), .ref kp, .int (zI dn), .ref rfa])), (wg, .inl (c_wg, 24, .inl f_wg)), (sa, .inl (c_sa, 25, .inl f_sa)), (fi, .inl (c_fi, 24, .inl f_fi)), (hs, .inl (c_hs, 4, .inl f_hs)), (ch, .inl (c_ch, 96, .inl f_ch)), (cn, .inl (c_cn, 24, .inl f_cn)), (pf, .inl (c_pf, 4, .inl f_pf)), (kd, .inl (c_kd, 4, .inl f_kd)), (wd, .inl (c_wd, 4, .inl f_wd))]) [0, 1, 2, 3, 4, 5, 6, 7, 8, 9] rfl
      have hD9 := hD.sub (ws' := [(h0, .inr (9, [.int (zI fa), .int (zI tc), .ref so, .ref sl, .ref ce, .int (zI fn), .ref kd, .ref wd, .ref hs, .ref pf, .ref lt, .int (zI mn), .ref wg, .int (zI ta), .long ck, .int (zI at9), .int (zI rfn), .ref rk, .ref rw, .ref rh, .int (zI cl), .ref sa, .ref fi, .int (zI bo), .ref ch, .ref cn, .int (zI ad), .int (zI ru), .ref kp, .int (zI dn), .ref rfa])), (wg, .inl (c_wg, 24, .inl f_wg)), (sa, .inl (c_sa, 25, .inl f_sa)), (fi, .inl (c_fi, 24, .inl f_fi)), (hs, .inl (c_hs, 4, .inl f_hs)), (ch, .inl (c_ch, 96, .inl f_ch)), (cn, .inl (c_cn, 24, .inl f_cn)), (pf, .inl (c_pf, 4, .inl f_pf)), (kd, .inl (c_kd, 4, .inl f_kd)), (wd, .inl (c_wd, 4, .inl f_wd))]) [0, 1, 2, 3, 4, 5, 6, 7, 8, 9] (by decide +kernel) rfl
      exact W.iret (v := (zI (-9))) hx hb hr (fun t ht hW => kQS_of (by omega) ⟨cl, bo, ad, ru, f_sa, f_fi, f_ch, f_cn, q5, q6, q7, q8, by rw [ht]; exact hP9, hD9⟩ (hS.F ht)) hS.2.2 dX9_tellDay_30
    · have c_22 : 0 ≤ (w - 10) ∧ (w - 10) < fn := b01t c_22
      refine lv_aload_n hx hb dX9_tellDay_17 rfl (lv_at hl 0 rfl) ?_
      refine lv_iload_n hx hb dX9_tellDay_18 rfl (lv_at hl 1 rfl) ?_
      refine lv_bipush (v := zI 10) hx hb dX9_tellDay_19 (by decide) ?_
      refine kz_isub hx hb dX9_tellDay_21 ?_
      refine k_callP (va_runV (As := [.int (zI (w - 10))]) (rest := []) ⟨hx, hb, hml, hown, hts⟩ (c_X9_placeOf l D s.heap.size (f := (w - 10)) (h0 := h0) (fa := fa) (tc := tc) (so := so) (sl := sl) (ce := ce) (fn := fn) (kd := kd) (wd := wd) (hs := hs) (pf := pf) (lt := lt) (mn := mn) (wg := wg) (ta := ta) (ck := ck) (at9 := at9) (rfn := rfn) (rk := rk) (rw := rw) (rh := rh) (cl := cl) (sa := sa) (fi := fi) (bo := bo) (ch := ch) (cn := cn) (ad := ad) (ru := ru) (kp := kp) (dn := dn) (rfa := rfa) (c_pf := c_pf) (f_pf := f_pf) (by omega) q2 q3) (cwV 1 hts gX9_tellDay_X9_placeOf rfl rfl rfl (by decide +kernel) ⟨Nat.le_of_ble_eq_true rfl, Nat.le_of_ble_eq_true rfl⟩) (kPreV hP (kD0 hD) hK hN [0, 7] [6] ax_X9_tellDay_5 rfl (by decide +kernel) 0 9 rfl rfl) rfl rfl hl.1 rfl (lv_room (Nat.le_of_ble_eq_true rfl)) dX9_tellDay_22 ⟨Nat.le_of_ble_eq_true rfl, Nat.le_of_ble_eq_true rfl⟩) (fun z_23 rz_23 h_24 => ?_)
      refine lv_goto (tgt := 30) hx hb dX9_tellDay_25 (by decide) ?_
      have hP9 := hP.sub (ws' := [(h0, .inr (9, [.int (zI fa), .int (zI tc), .ref so, .ref sl, .ref ce, .int (zI fn), .ref kd, .ref wd, .ref hs, .ref pf, .ref lt, .int (zI mn), .ref wg, .int (zI ta), .long ck, .int (zI at9), .int (zI rfn), .ref rk, .ref rw, .ref rh, .int (zI cl), .ref sa, .ref fi, .int (zI bo), .ref ch, .ref cn, .int (zI ad), .int (zI ru), .ref kp, .int (zI dn), .ref rfa])), (wg, .inl (c_wg, 24, .inl f_wg)), (sa, .inl (c_sa, 25, .inl f_sa)), (fi, .inl (c_fi, 24, .inl f_fi)), (hs, .inl (c_hs, 4, .inl f_hs)), (ch, .inl (c_ch, 96, .inl f_ch)), (cn, .inl (c_cn, 24, .inl f_cn)), (pf, .inl (c_pf, 4, .inl f_pf)), (kd, .inl (c_kd, 4, .inl f_kd)), (wd, .inl (c_wd, 4, .inl f_wd))]) [0, 1, 2, 3, 4, 5, 6, 7, 8, 9] rfl
      have hD9 := hD.sub (ws' := [(h0, .inr (9, [.int (zI fa), .int (zI tc), .ref so, .ref sl, .ref ce, .int (zI fn), .ref kd, .ref wd, .ref hs, .ref pf, .ref lt, .int (zI mn), .ref wg, .int (zI ta), .long ck, .int (zI at9), .int (zI rfn), .ref rk, .ref rw, .ref rh, .int (zI cl), .ref sa, .ref fi, .int (zI bo), .ref ch, .ref cn, .int (zI ad), .int (zI ru), .ref kp, .int (zI dn), .ref rfa])), (wg, .inl (c_wg, 24, .inl f_wg)), (sa, .inl (c_sa, 25, .inl f_sa)), (fi, .inl (c_fi, 24, .inl f_fi)), (hs, .inl (c_hs, 4, .inl f_hs)), (ch, .inl (c_ch, 96, .inl f_ch)), (cn, .inl (c_cn, 24, .inl f_cn)), (pf, .inl (c_pf, 4, .inl f_pf)), (kd, .inl (c_kd, 4, .inl f_kd)), (wd, .inl (c_wd, 4, .inl f_wd))]) [0, 1, 2, 3, 4, 5, 6, 7, 8, 9] (by decide +kernel) rfl
      exact W.iret (v := (zI z_23)) hx hb hr (fun t ht hW => kQS_of (by omega) ⟨cl, bo, ad, ru, f_sa, f_fi, f_ch, f_cn, q5, q6, q7, q8, by rw [ht]; exact hP9, hD9⟩ (hS.F ht)) hS.2.2 dX9_tellDay_30
