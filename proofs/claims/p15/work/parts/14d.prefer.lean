def kPm (f : Nat → Int32) (n : Int) : Prop := (∀ p : Nat, (p : Int) < n → ∃ z : Int, 0 ≤ z ∧ z < n ∧ f p = zI z) ∧ ∀ x : Int, 0 ≤ x → x < n → ∃ p : Nat, (p : Int) < n ∧ f p = zI x
def kHas (f : Nat → Int32) (n x j : Int) : Prop := 0 ≤ j ∧ ∃ q : Nat, j ≤ q ∧ (q : Int) < n ∧ f q = zI x
theorem kHas_0 {f : Nat → Int32} {n x : Int} (h : kPm f n) (h1 : 0 ≤ x) (h2 : x < n) : kHas f n x 0 := by
  obtain ⟨p, h3, h4⟩ := h.2 x h1 h2
  exact ⟨by omega, p, by omega, h3, h4⟩
theorem kHas_lt {f : Nat → Int32} {n x j : Int} (h : kHas f n x j) : 0 ≤ j ∧ j < n := by
  obtain ⟨h0, q, h1, h2, -⟩ := h
  omega
theorem kHas_1 {f : Nat → Int32} {n x j z : Int} (h : kHas f n x j) (hz : rg z) (hx : rg x) (e : f j.toNat = zI z) (ne : ¬ z = x) : kHas f n x (j + 1) := by
  obtain ⟨h0, q, h1, h2, h3⟩ := h
  refine ⟨by omega, q, ?_, h2, h3⟩
  by_cases c : (q : Int) = j
  · exfalso
    have c2 : j.toNat = q := by omega
    rw [c2, h3] at e
    exact ne ((zI_eq hx hz).mp e).symm
  · omega
theorem kPm_at {f : Nat → Int32} {n : Int} (h : kPm f n) {i : Nat} {z : Int} (hn : n ≤ 4) (hi : (i : Int) < n) (hz : rg z) (e : f i = zI z) : 0 ≤ z ∧ z < n := by
  obtain ⟨w, h1, h2, h3⟩ := h.1 i hi
  rw [h3] at e
  have := (zI_eq (by omega) hz).mp e
  omega
/-- the first place + 1 values moved one back, x ahead -/
def kMv (f : Nat → Int32) (w j : Int) : Nat → Int32 := fun i => if j < (i : Int) ∧ (i : Int) ≤ w then f (i - 1) else f i
theorem kMv_0 (f : Nat → Int32) (w : Int) : kMv f w w = f := by
  funext i
  unfold kMv
  rw [if_neg (by omega)]
theorem kMv_1 (f : Nat → Int32) {w j z : Int} (h : 0 < j ∧ j ≤ w) (e : kMv f w j (j - 1).toNat = zI z) : upd (kMv f w j) j.toNat (zI z) = kMv f w (j - 1) := by
  funext i
  unfold kMv at e ⊢
  rw [if_neg (by omega)] at e
  by_cases c : i = j.toNat
  · subst c
    rw [pk_us, if_pos (by omega), ← e]
    congr 1
    omega
  · rw [pk_un c]
    by_cases c2 : j < (i : Int) ∧ (i : Int) ≤ w
    · rw [if_pos c2, if_pos (by omega)]
    · rw [if_neg c2, if_neg (by omega)]
theorem kPm_mv {f : Nat → Int32} {n x w : Int} (h : kPm f n) (hn : n ≤ 4) (hw : 0 ≤ w ∧ w < n) (hx : 0 ≤ x ∧ x < n) (e : f w.toNat = zI x) : kPm (upd (kMv f w 0) 0 (zI x)) n := by
  refine ⟨fun p hp => ?_, fun y h0 h1 => ?_⟩
  · by_cases c : p = 0
    · subst c
      exact ⟨x, hx.1, hx.2, pk_us⟩
    · rw [pk_un c]
      unfold kMv
      by_cases c2 : (0 : Int) < (p : Int) ∧ (p : Int) ≤ w
      · rw [if_pos c2]
        exact h.1 (p - 1) (by omega)
      · rw [if_neg c2]
        exact h.1 p hp
  · by_cases c : y = x
    · subst c
      exact ⟨0, by omega, pk_us⟩
    · obtain ⟨p, h2, h3⟩ := h.2 y h0 h1
      by_cases c2 : (p : Int) < w
      · refine ⟨p + 1, by omega, ?_⟩
        rw [pk_un (by omega)]
        unfold kMv
        rw [if_pos (by omega)]
        exact h3
      · have c3 : ¬ (p : Int) = w := by
          intro q
          have q2 : w.toNat = p := by omega
          rw [q2, h3] at e
          exact c ((zI_eq (by omega) (by omega)).mp e)
        refine ⟨p, h2, ?_⟩
        rw [pk_un (by omega)]
        unfold kMv
        rw [if_neg (by omega)]
        exact h3
theorem dX9_placeOf_0 : decode cX9_placeOf 0 = .ok (.iconst 0, 1) := by decide +kernel
theorem dX9_placeOf_1 : decode cX9_placeOf 1 = .ok (.istore_n 2, 1) := by decide +kernel
theorem dX9_placeOf_2 : decode cX9_placeOf 2 = .ok (.aload_n 0, 1) := by decide +kernel
theorem dX9_placeOf_3 : decode cX9_placeOf 3 = .ok (.getfield 28, 3) := by decide +kernel
theorem dX9_placeOf_6 : decode cX9_placeOf 6 = .ok (.iload_n 2, 1) := by decide +kernel
theorem dX9_placeOf_7 : decode cX9_placeOf 7 = .ok (.iaload, 1) := by decide +kernel
theorem dX9_placeOf_8 : decode cX9_placeOf 8 = .ok (.iload_n 1, 1) := by decide +kernel
theorem dX9_placeOf_9 : decode cX9_placeOf 9 = .ok (.if_icmp .eq 9, 3) := by decide +kernel
theorem dX9_placeOf_12 : decode cX9_placeOf 12 = .ok (.iinc 2 1, 3) := by decide +kernel
theorem dX9_placeOf_15 : decode cX9_placeOf 15 = .ok (.goto (-13), 3) := by decide +kernel
theorem dX9_placeOf_18 : decode cX9_placeOf 18 = .ok (.iload_n 2, 1) := by decide +kernel
theorem dX9_placeOf_19 : decode cX9_placeOf 19 = .ok (.ireturn, 1) := by decide +kernel
set_option maxRecDepth 20000 in
theorem mw_X9_placeOf_0 : (.fieldLink RX9 28 "FontRunsModel" "preference" "[I" : Cond) ∈ wsX9_placeOf := List.mem_cons_of_mem _ (List.mem_append_left _ (List.mem_of_getElem? (i := 0) rfl))
set_option maxHeartbeats 4000000 in
set_option maxRecDepth 100000 in
theorem c_X9_placeOf (l : Launch) (D : va_G) (sz : Nat) (f : Int) (h0 : Nat) (fa : Int) (tc : Int) (so : Nat) (sl : Nat) (ce : Nat) (fn : Int) (kd : Nat) (wd : Nat) (hs : Nat) (pf : Nat) (lt : Nat) (mn : Int) (wg : Nat) (ta : Int) (ck : Int64) (at9 : Int) (rfn : Int) (rk : Nat) (rw : Nat) (rh : Nat) (cl : Int) (sa : Nat) (fi : Nat) (bo : Int) (ch : Nat) (cn : Nat) (ad : Int) (ru : Int) (kp : Nat) (dn : Int) (rfa : Nat) (c_pf : ClassId) (f_pf : Nat → Int32) (q0 : 0 ≤ f ∧ f < fn) (q1 : 0 ≤ fn ∧ fn ≤ 4) (q2 : kPm f_pf fn) : Met l yX9_placeOf wsX9_placeOf ({ frames := 0, cells := 0, slots := 0, locals := 0 }) (kPre [.ref h0, .int (zI f)] D [(h0, .inr (9, [.int (zI fa), .int (zI tc), .ref so, .ref sl, .ref ce, .int (zI fn), .ref kd, .ref wd, .ref hs, .ref pf, .ref lt, .int (zI mn), .ref wg, .int (zI ta), .long ck, .int (zI at9), .int (zI rfn), .ref rk, .ref rw, .ref rh, .int (zI cl), .ref sa, .ref fi, .int (zI bo), .ref ch, .ref cn, .int (zI ad), .int (zI ru), .ref kp, .int (zI dn), .ref rfa])), (pf, .inl (c_pf, 4, .inl f_pf))] [(c_pf, .int)] sz) (QcP (fun rz => (0 ≤ rz ∧ rz < fn) ∧ f_pf rz.toNat = zI f)) 0 0 (fun _ => False) := by
  refine Met.ofW (cc := cX9_placeOf) (maxL := 3) (ret := (some .int)) (by decide) rfl ?_
  intro p e s m args below meth c s₁ B hml hv
  obtain ⟨rfl, hsz, hP, hK, hD0, hN⟩ := hv
  have hx := B.exec
  have hb := B.bytes
  have hr := B.returns
  have hts := atoms_spec (ws := wsX9_placeOf) B.pre
  have hown : s.vm.findClass RX9 = some m.cls := findClass_of_methodNamed B.named
  have hlocks := B.notSynchronized
  subst hsz
  have hD := hD0
  have hP : va_P D vwCl [(h0, .inr (9, [.int (zI fa), .int (zI tc), .ref so, .ref sl, .ref ce, .int (zI fn), .ref kd, .ref wd, .ref hs, .ref pf, .ref lt, .int (zI mn), .ref wg, .int (zI ta), .long ck, .int (zI at9), .int (zI rfn), .ref rk, .ref rw, .ref rh, .int (zI cl), .ref sa, .ref fi, .int (zI bo), .ref ch, .ref cn, .int (zI ad), .int (zI ru), .ref kp, .int (zI dn), .ref rfa])), (pf, .inl (c_pf, 4, .inl f_pf))] s.heap := hP
  have hl := lv_entry ([.ref h0, .int (zI f)]) (n := 3) (Nat.le_of_ble_eq_true rfl)
  rw [lg_entry_eq]
  generalize (lg_sl ([.ref h0, .int (zI f)]) ++ List.replicate (3 - (lg_sl ([.ref h0, .int (zI f)])).length) Slot.unset).toArray = ls at hl ⊢
  have hl : lv_has ls 3 [(0, .ref h0), (1, .int (zI f))] := hl
  refine lv_iconst (v := zI 0) hx hb dX9_placeOf_0 rfl ?_
  refine lv_istore_n (lv' := [(2, .int (zI 0)), (0, .ref h0), (1, .int (zI f))]) hx hb dX9_placeOf_1 rfl hl (by decide) rfl (fun ls hl => ?_)
  refine k_loopM (I := fun n9 H locs ls => ∃ (jk : Int), n9 = (fn - jk).toNat ∧ (kHas f_pf fn f jk) ∧ H = s.heap ∧ locs = [] ∧ lv_has ls 3 [(2, .int (zI jk)), (0, .ref h0), (1, .int (zI f))]) ?_ _ ⟨0, rfl, (kHas_0 q2 (by omega) (by omega)), rfl, rfl, hl⟩
  intro n2 ih2 H locs ls hI
  obtain ⟨jk, en2, v_20, eH, eL, hl⟩ := hI
  subst eH
  subst eL
  have b2 := kHas_lt v_20
  refine lv_aload_n hx hb dX9_placeOf_2 rfl (lv_at hl 1 rfl) ?_
  refine va_get (D := D) (ci := 9) (v := .ref pf) (C := RX9) (T := TX9) (N := 31) hx hb hts (fun _ h9 => List.mem_cons_of_mem _ (List.mem_append_right _ h9)) hown hK hP 0 rfl rfl 9 (by decide) (hts (.fieldLink RX9 28 "FontRunsModel" "preference" "[I") mw_X9_placeOf_0) (fun _ h9 => h9) rfl dX9_placeOf_3 ?_
  refine lv_iload_n hx hb dX9_placeOf_6 rfl (lv_at hl 0 rfl) ?_
  refine kz_iald hx hb hK hP 1 0 rfl rfl (by omega) dX9_placeOf_7 (fun z_1 rz_1 ez_1 => ?_)
  refine lv_iload_n hx hb dX9_placeOf_8 rfl (lv_at hl 2 rfl) ?_
  refine kz_icmp_eq (tgt := 18) hx hb dX9_placeOf_9 (by decide) (by omega) (by omega) (fun c_2 => ?_) (fun c_2 => ?_)
  · refine lv_iload_n hx hb dX9_placeOf_18 rfl (lv_at hl 0 rfl) ?_
    exact W.iret (v := (zI jk)) hx hb hr (fun t ht hW => QcP_of (by omega) ⟨by omega, by rw [ez_1, c_2]⟩ ht) (fun _ h9 => by cases h9) dX9_placeOf_19
  · refine lv_iinc (v := (zI (jk + 1))) (lv' := [(2, .int (zI (jk + 1))), (0, .ref h0), (1, .int (zI f))]) hx hb dX9_placeOf_12 hl (k := 0) rfl (kz_inc _ 1) (by decide) rfl (fun ls hl => ?_)
    refine lv_goto (tgt := 2) hx hb dX9_placeOf_15 (by decide) ?_
    exact ih2 _ (by omega) _ _ _ ⟨(jk + 1), rfl, (kHas_1 v_20 rz_1 (by omega) ez_1 c_2), rfl, rfl, lv_sub hl [0, 1, 2] rfl⟩
theorem dX9_comesFirst_0 : decode cX9_comesFirst 0 = .ok (.aload_n 0, 1) := by decide +kernel
theorem dX9_comesFirst_1 : decode cX9_comesFirst 1 = .ok (.iload_n 1, 1) := by decide +kernel
theorem dX9_comesFirst_2 : decode cX9_comesFirst 2 = .ok (.invokevirtual 126, 3) := by decide +kernel
theorem dX9_comesFirst_5 : decode cX9_comesFirst 5 = .ok (.istore_n 2, 1) := by decide +kernel
theorem dX9_comesFirst_6 : decode cX9_comesFirst 6 = .ok (.iload_n 2, 1) := by decide +kernel
theorem dX9_comesFirst_7 : decode cX9_comesFirst 7 = .ok (.istore_n 3, 1) := by decide +kernel
theorem dX9_comesFirst_8 : decode cX9_comesFirst 8 = .ok (.iload_n 3, 1) := by decide +kernel
theorem dX9_comesFirst_9 : decode cX9_comesFirst 9 = .ok (.ifCond .le 23, 3) := by decide +kernel
theorem dX9_comesFirst_12 : decode cX9_comesFirst 12 = .ok (.aload_n 0, 1) := by decide +kernel
theorem dX9_comesFirst_13 : decode cX9_comesFirst 13 = .ok (.getfield 28, 3) := by decide +kernel
theorem dX9_comesFirst_16 : decode cX9_comesFirst 16 = .ok (.iload_n 3, 1) := by decide +kernel
theorem dX9_comesFirst_17 : decode cX9_comesFirst 17 = .ok (.aload_n 0, 1) := by decide +kernel
theorem dX9_comesFirst_18 : decode cX9_comesFirst 18 = .ok (.getfield 28, 3) := by decide +kernel
theorem dX9_comesFirst_21 : decode cX9_comesFirst 21 = .ok (.iload_n 3, 1) := by decide +kernel
theorem dX9_comesFirst_22 : decode cX9_comesFirst 22 = .ok (.iconst 1, 1) := by decide +kernel
theorem dX9_comesFirst_23 : decode cX9_comesFirst 23 = .ok (.isub, 1) := by decide +kernel
theorem dX9_comesFirst_24 : decode cX9_comesFirst 24 = .ok (.iaload, 1) := by decide +kernel
theorem dX9_comesFirst_25 : decode cX9_comesFirst 25 = .ok (.iastore, 1) := by decide +kernel
theorem dX9_comesFirst_26 : decode cX9_comesFirst 26 = .ok (.iinc 3 (-1), 3) := by decide +kernel
theorem dX9_comesFirst_29 : decode cX9_comesFirst 29 = .ok (.goto (-21), 3) := by decide +kernel
theorem dX9_comesFirst_32 : decode cX9_comesFirst 32 = .ok (.aload_n 0, 1) := by decide +kernel
theorem dX9_comesFirst_33 : decode cX9_comesFirst 33 = .ok (.getfield 28, 3) := by decide +kernel
theorem dX9_comesFirst_36 : decode cX9_comesFirst 36 = .ok (.iconst 0, 1) := by decide +kernel
theorem dX9_comesFirst_37 : decode cX9_comesFirst 37 = .ok (.iload_n 1, 1) := by decide +kernel
theorem dX9_comesFirst_38 : decode cX9_comesFirst 38 = .ok (.iastore, 1) := by decide +kernel
theorem dX9_comesFirst_39 : decode cX9_comesFirst 39 = .ok (.iload_n 2, 1) := by decide +kernel
theorem dX9_comesFirst_40 : decode cX9_comesFirst 40 = .ok (.ireturn, 1) := by decide +kernel
set_option maxRecDepth 20000 in
theorem ggX9_comesFirst_X9_placeOf : GoodIn wsX9_comesFirst wsX9_placeOf := goodIn_4 _ (List.forall_mem_cons.mpr ⟨List.mem_cons_of_mem _ (List.mem_append_left _ (List.mem_of_getElem? (i := 5) rfl)), List.forall_mem_append.mpr ⟨List.forall_mem_cons.mpr ⟨List.mem_cons_of_mem _ (List.mem_append_left _ (List.mem_of_getElem? (i := 0) rfl)), fun _ h9 => absurd h9 List.not_mem_nil⟩, fun w h9 => List.mem_cons_of_mem _ (List.mem_append_right _ (h9))⟩⟩) (by decide +kernel)
set_option maxRecDepth 20000 in
theorem gX9_comesFirst_X9_placeOf : GoodIn wsX9_comesFirst (wsV RX9 126 RX9 yX9_placeOf wsX9_placeOf) := goodIn_app (goodIn_4 _ (List.forall_mem_cons.mpr ⟨List.mem_cons_of_mem _ (List.mem_append_left _ (List.mem_of_getElem? (i := 1) rfl)), List.forall_mem_cons.mpr ⟨List.mem_cons_of_mem _ (List.mem_append_left _ (List.mem_of_getElem? (i := 2) rfl)), List.forall_mem_cons.mpr ⟨List.mem_cons_of_mem _ (List.mem_append_left _ (List.mem_of_getElem? (i := 3) rfl)), List.forall_mem_cons.mpr ⟨List.mem_cons_of_mem _ (List.mem_append_left _ (List.mem_of_getElem? (i := 4) rfl)), fun _ h9 => absurd h9 List.not_mem_nil⟩⟩⟩⟩) (by decide +kernel)) ggX9_comesFirst_X9_placeOf
set_option maxRecDepth 20000 in
theorem mw_X9_comesFirst_0 : (.fieldLink RX9 28 "FontRunsModel" "preference" "[I" : Cond) ∈ wsX9_comesFirst := List.mem_cons_of_mem _ (List.mem_append_left _ (List.mem_of_getElem? (i := 0) rfl))
theorem ax_X9_comesFirst_0 {e0 e1 : Nat × va_E} : ([0, 1] : List Nat).map (fun i => ([e0, e1] : va_W)[i]?) = ([e0, e1] : va_W).map some := rfl
set_option maxHeartbeats 4000000 in
set_option maxRecDepth 100000 in
theorem c_X9_comesFirst (l : Launch) (D : va_G) (sz : Nat) (f : Int) (h0 : Nat) (fa : Int) (tc : Int) (so : Nat) (sl : Nat) (ce : Nat) (fn : Int) (kd : Nat) (wd : Nat) (hs : Nat) (pf : Nat) (lt : Nat) (mn : Int) (wg : Nat) (ta : Int) (ck : Int64) (at9 : Int) (rfn : Int) (rk : Nat) (rw : Nat) (rh : Nat) (cl : Int) (sa : Nat) (fi : Nat) (bo : Int) (ch : Nat) (cn : Nat) (ad : Int) (ru : Int) (kp : Nat) (dn : Int) (rfa : Nat) (c_pf : ClassId) (f_pf : Nat → Int32) (q0 : 0 ≤ f ∧ f < fn) (q1 : 0 ≤ fn ∧ fn ≤ 4) (q2 : kPm f_pf fn) : Met l yX9_comesFirst wsX9_comesFirst ({ frames := 1, cells := 0, slots := 0, locals := 22 }) (kPre [.ref h0, .int (zI f)] D [(h0, .inr (9, [.int (zI fa), .int (zI tc), .ref so, .ref sl, .ref ce, .int (zI fn), .ref kd, .ref wd, .ref hs, .ref pf, .ref lt, .int (zI mn), .ref wg, .int (zI ta), .long ck, .int (zI at9), .int (zI rfn), .ref rk, .ref rw, .ref rh, .int (zI cl), .ref sa, .ref fi, .int (zI bo), .ref ch, .ref cn, .int (zI ad), .int (zI ru), .ref kp, .int (zI dn), .ref rfa])), (pf, .inl (c_pf, 4, .inl f_pf))] [(c_pf, .int)] sz) (kQS (fun rz t => ∃ (u_f_pf : Nat → Int32), (kPm u_f_pf fn) ∧ (0 ≤ rz ∧ rz < fn) ∧ va_P D vwCl [(h0, .inr (9, [.int (zI fa), .int (zI tc), .ref so, .ref sl, .ref ce, .int (zI fn), .ref kd, .ref wd, .ref hs, .ref pf, .ref lt, .int (zI mn), .ref wg, .int (zI ta), .long ck, .int (zI at9), .int (zI rfn), .ref rk, .ref rw, .ref rh, .int (zI cl), .ref sa, .ref fi, .int (zI bo), .ref ch, .ref cn, .int (zI ad), .int (zI ru), .ref kp, .int (zI dn), .ref rfa])), (pf, .inl (c_pf, 4, .inl u_f_pf))] t.heap ∧ va_D (va_A [(h0, .inr (9, [.int (zI fa), .int (zI tc), .ref so, .ref sl, .ref ce, .int (zI fn), .ref kd, .ref wd, .ref hs, .ref pf, .ref lt, .int (zI mn), .ref wg, .int (zI ta), .long ck, .int (zI at9), .int (zI rfn), .ref rk, .ref rw, .ref rh, .int (zI cl), .ref sa, .ref fi, .int (zI bo), .ref ch, .ref cn, .int (zI ad), .int (zI ru), .ref kp, .int (zI dn), .ref rfa])), (pf, .inl (c_pf, 4, .inl f_pf))] sz) [(h0, .inr (9, [.int (zI fa), .int (zI tc), .ref so, .ref sl, .ref ce, .int (zI fn), .ref kd, .ref wd, .ref hs, .ref pf, .ref lt, .int (zI mn), .ref wg, .int (zI ta), .long ck, .int (zI at9), .int (zI rfn), .ref rk, .ref rw, .ref rh, .int (zI cl), .ref sa, .ref fi, .int (zI bo), .ref ch, .ref cn, .int (zI ad), .int (zI ru), .ref kp, .int (zI dn), .ref rfa])), (pf, .inl (c_pf, 4, .inl u_f_pf))]) (va_A [(h0, .inr (9, [.int (zI fa), .int (zI tc), .ref so, .ref sl, .ref ce, .int (zI fn), .ref kd, .ref wd, .ref hs, .ref pf, .ref lt, .int (zI mn), .ref wg, .int (zI ta), .long ck, .int (zI at9), .int (zI rfn), .ref rk, .ref rw, .ref rh, .int (zI cl), .ref sa, .ref fi, .int (zI bo), .ref ch, .ref cn, .int (zI ad), .int (zI ru), .ref kp, .int (zI dn), .ref rfa])), (pf, .inl (c_pf, 4, .inl f_pf))] sz)) 0 0 (va_A [(h0, .inr (9, [.int (zI fa), .int (zI tc), .ref so, .ref sl, .ref ce, .int (zI fn), .ref kd, .ref wd, .ref hs, .ref pf, .ref lt, .int (zI mn), .ref wg, .int (zI ta), .long ck, .int (zI at9), .int (zI rfn), .ref rk, .ref rw, .ref rh, .int (zI cl), .ref sa, .ref fi, .int (zI bo), .ref ch, .ref cn, .int (zI ad), .int (zI ru), .ref kp, .int (zI dn), .ref rfa])), (pf, .inl (c_pf, 4, .inl f_pf))] sz) := by
  refine Met.ofW (cc := cX9_comesFirst) (maxL := 4) (ret := (some .int)) (by decide) rfl ?_
  intro p e s m args below meth c s₁ B hml hv
  obtain ⟨rfl, hsz, hP, hK, hD0, hN⟩ := hv
  have hx := B.exec
  have hb := B.bytes
  have hr := B.returns
  have hts := atoms_spec (ws := wsX9_comesFirst) B.pre
  have hown : s.vm.findClass RX9 = some m.cls := findClass_of_methodNamed B.named
  have hlocks := B.notSynchronized
  subst hsz
  have hD := hD0.self (sz := s.heap.size)
  generalize hAe : va_A [(h0, .inr (9, [.int (zI fa), .int (zI tc), .ref so, .ref sl, .ref ce, .int (zI fn), .ref kd, .ref wd, .ref hs, .ref pf, .ref lt, .int (zI mn), .ref wg, .int (zI ta), .long ck, .int (zI at9), .int (zI rfn), .ref rk, .ref rw, .ref rh, .int (zI cl), .ref sa, .ref fi, .int (zI bo), .ref ch, .ref cn, .int (zI ad), .int (zI ru), .ref kp, .int (zI dn), .ref rfa])), (pf, .inl (c_pf, 4, .inl f_pf))] s.heap.size = A at hD ⊢
  have hA : ∀ q : Nat, s.heap.size ≤ q → A q := fun q h => by rw [← hAe]; exact Or.inr h
  have hS : va_S A s.heap s.heap [] := va_S.rf
  have hP : va_P D vwCl [(h0, .inr (9, [.int (zI fa), .int (zI tc), .ref so, .ref sl, .ref ce, .int (zI fn), .ref kd, .ref wd, .ref hs, .ref pf, .ref lt, .int (zI mn), .ref wg, .int (zI ta), .long ck, .int (zI at9), .int (zI rfn), .ref rk, .ref rw, .ref rh, .int (zI cl), .ref sa, .ref fi, .int (zI bo), .ref ch, .ref cn, .int (zI ad), .int (zI ru), .ref kp, .int (zI dn), .ref rfa])), (pf, .inl (c_pf, 4, .inl f_pf))] s.heap := hP
  have hl := lv_entry ([.ref h0, .int (zI f)]) (n := 4) (Nat.le_of_ble_eq_true rfl)
  rw [lg_entry_eq]
  generalize (lg_sl ([.ref h0, .int (zI f)]) ++ List.replicate (4 - (lg_sl ([.ref h0, .int (zI f)])).length) Slot.unset).toArray = ls at hl ⊢
  have hl : lv_has ls 4 [(0, .ref h0), (1, .int (zI f))] := hl
  refine lv_aload_n hx hb dX9_comesFirst_0 rfl (lv_at hl 0 rfl) ?_
  refine lv_iload_n hx hb dX9_comesFirst_1 rfl (lv_at hl 1 rfl) ?_
  refine k_callP (va_runV (As := [.int (zI f)]) (rest := []) ⟨hx, hb, hml, hown, hts⟩ (c_X9_placeOf l D s.heap.size (f := f) (h0 := h0) (fa := fa) (tc := tc) (so := so) (sl := sl) (ce := ce) (fn := fn) (kd := kd) (wd := wd) (hs := hs) (pf := pf) (lt := lt) (mn := mn) (wg := wg) (ta := ta) (ck := ck) (at9 := at9) (rfn := rfn) (rk := rk) (rw := rw) (rh := rh) (cl := cl) (sa := sa) (fi := fi) (bo := bo) (ch := ch) (cn := cn) (ad := ad) (ru := ru) (kp := kp) (dn := dn) (rfa := rfa) (c_pf := c_pf) (f_pf := f_pf) q0 q1 q2) (cwV 1 hts gX9_comesFirst_X9_placeOf rfl rfl rfl (by decide +kernel) ⟨Nat.le_of_ble_eq_true rfl, Nat.le_of_ble_eq_true rfl⟩) (kPreV hP (kD0 hD) hK hN [0, 1] [0] ax_X9_comesFirst_0 rfl (by decide +kernel) 0 9 rfl rfl) rfl rfl hl.1 rfl (lv_room (Nat.le_of_ble_eq_true rfl)) dX9_comesFirst_2 ⟨Nat.le_of_ble_eq_true rfl, Nat.le_of_ble_eq_true rfl⟩) (fun z_1 rz_1 h_2 => ?_)
  refine lv_istore_n (lv' := [(2, .int (zI z_1)), (0, .ref h0), (1, .int (zI f))]) hx hb dX9_comesFirst_5 rfl hl (by decide) rfl (fun ls hl => ?_)
  refine lv_iload_n hx hb dX9_comesFirst_6 rfl (lv_at hl 0 rfl) ?_
  refine lv_istore_n (lv' := [(3, .int (zI z_1)), (2, .int (zI z_1)), (0, .ref h0), (1, .int (zI f))]) hx hb dX9_comesFirst_7 rfl hl (by decide) rfl (fun ls hl => ?_)
  refine k_loopM (I := fun n9 H locs ls => ∃ (jk : Int) (ja : Nat → Int32), n9 = (jk).toNat ∧ (0 ≤ jk ∧ jk ≤ z_1) ∧ (ja = kMv f_pf z_1 jk) ∧ va_P D vwCl [(h0, .inr (9, [.int (zI fa), .int (zI tc), .ref so, .ref sl, .ref ce, .int (zI fn), .ref kd, .ref wd, .ref hs, .ref pf, .ref lt, .int (zI mn), .ref wg, .int (zI ta), .long ck, .int (zI at9), .int (zI rfn), .ref rk, .ref rw, .ref rh, .int (zI cl), .ref sa, .ref fi, .int (zI bo), .ref ch, .ref cn, .int (zI ad), .int (zI ru), .ref kp, .int (zI dn), .ref rfa])), (pf, .inl (c_pf, 4, .inl ja))] H ∧ va_D A [(h0, .inr (9, [.int (zI fa), .int (zI tc), .ref so, .ref sl, .ref ce, .int (zI fn), .ref kd, .ref wd, .ref hs, .ref pf, .ref lt, .int (zI mn), .ref wg, .int (zI ta), .long ck, .int (zI at9), .int (zI rfn), .ref rk, .ref rw, .ref rh, .int (zI cl), .ref sa, .ref fi, .int (zI bo), .ref ch, .ref cn, .int (zI ad), .int (zI ru), .ref kp, .int (zI dn), .ref rfa])), (pf, .inl (c_pf, 4, .inl ja))] ∧ va_S A s.heap H locs ∧ lv_has ls 4 [(3, .int (zI jk)), (2, .int (zI z_1)), (0, .ref h0), (1, .int (zI f))]) ?_ _ ⟨z_1, f_pf, rfl, (by omega), (kMv_0 _ _).symm, hP, hD, hS, hl⟩
  intro n8 ih8 H locs ls hI
  obtain ⟨jk, ja, en8, v_80, v_81, hP, hD, hS, hl⟩ := hI
  refine lv_iload_n hx hb dX9_comesFirst_8 rfl (lv_at hl 0 rfl) ?_
  refine kz_if_le (tgt := 32) hx hb dX9_comesFirst_9 (by decide) (by omega) (fun c_3 => ?_) (fun c_3 => ?_)
  · refine lv_aload_n hx hb dX9_comesFirst_32 rfl (lv_at hl 2 rfl) ?_
    refine va_get (D := D) (ci := 9) (v := .ref pf) (C := RX9) (T := TX9) (N := 31) hx hb hts (fun _ h9 => List.mem_cons_of_mem _ (List.mem_append_right _ h9)) hown hK hP 0 rfl rfl 9 (by decide) (hts (.fieldLink RX9 28 "FontRunsModel" "preference" "[I") mw_X9_comesFirst_0) (fun _ h9 => h9) rfl dX9_comesFirst_33 ?_
    refine lv_iconst (v := zI 0) hx hb dX9_comesFirst_36 rfl ?_
    refine lv_iload_n hx hb dX9_comesFirst_37 rfl (lv_at hl 3 rfl) ?_
    refine kz_iast hx hb hK hP hD hS 1 0 rfl rfl (by omega) dX9_comesFirst_38 (fun H locs hP hD hS => ?_)
    have hP : va_P D vwCl [(h0, .inr (9, [.int (zI fa), .int (zI tc), .ref so, .ref sl, .ref ce, .int (zI fn), .ref kd, .ref wd, .ref hs, .ref pf, .ref lt, .int (zI mn), .ref wg, .int (zI ta), .long ck, .int (zI at9), .int (zI rfn), .ref rk, .ref rw, .ref rh, .int (zI cl), .ref sa, .ref fi, .int (zI bo), .ref ch, .ref cn, .int (zI ad), .int (zI ru), .ref kp, .int (zI dn), .ref rfa])), (pf, .inl (c_pf, 4, .inl (upd ja (0 : Int).toNat (zI f))))] H := hP
    have hD : va_D A [(h0, .inr (9, [.int (zI fa), .int (zI tc), .ref so, .ref sl, .ref ce, .int (zI fn), .ref kd, .ref wd, .ref hs, .ref pf, .ref lt, .int (zI mn), .ref wg, .int (zI ta), .long ck, .int (zI at9), .int (zI rfn), .ref rk, .ref rw, .ref rh, .int (zI cl), .ref sa, .ref fi, .int (zI bo), .ref ch, .ref cn, .int (zI ad), .int (zI ru), .ref kp, .int (zI dn), .ref rfa])), (pf, .inl (c_pf, 4, .inl (upd ja (0 : Int).toNat (zI f))))] := hD
    generalize ef_4 : upd ja (0 : Int).toNat (zI f) = f_4 at hP hD
    refine lv_iload_n hx hb dX9_comesFirst_39 rfl (lv_at hl 1 rfl) ?_
    have hP9 := hP.sub (ws' := [(h0, .inr (9, [.int (zI fa), .int (zI tc), .ref so, .ref sl, .ref ce, .int (zI fn), .ref kd, .ref wd, .ref hs, .ref pf, .ref lt, .int (zI mn), .ref wg, .int (zI ta), .long ck, .int (zI at9), .int (zI rfn), .ref rk, .ref rw, .ref rh, .int (zI cl), .ref sa, .ref fi, .int (zI bo), .ref ch, .ref cn, .int (zI ad), .int (zI ru), .ref kp, .int (zI dn), .ref rfa])), (pf, .inl (c_pf, 4, .inl f_4))]) [0, 1] rfl
    have hD9 := hD.sub (ws' := [(h0, .inr (9, [.int (zI fa), .int (zI tc), .ref so, .ref sl, .ref ce, .int (zI fn), .ref kd, .ref wd, .ref hs, .ref pf, .ref lt, .int (zI mn), .ref wg, .int (zI ta), .long ck, .int (zI at9), .int (zI rfn), .ref rk, .ref rw, .ref rh, .int (zI cl), .ref sa, .ref fi, .int (zI bo), .ref ch, .ref cn, .int (zI ad), .int (zI ru), .ref kp, .int (zI dn), .ref rfa])), (pf, .inl (c_pf, 4, .inl f_4))]) [0, 1] (by decide +kernel) rfl
    exact W.iret (v := (zI z_1)) hx hb hr (fun t ht hW => kQS_of (by omega) ⟨f_4, (by rw [← ef_4, v_81, show jk = 0 by omega]; exact kPm_mv q2 (by omega) (by omega) (by omega) h_2.2), (by omega), by rw [ht]; exact hP9, hD9⟩ (hS.F ht)) hS.2.2 dX9_comesFirst_40
  · refine lv_aload_n hx hb dX9_comesFirst_12 rfl (lv_at hl 2 rfl) ?_
    refine va_get (D := D) (ci := 9) (v := .ref pf) (C := RX9) (T := TX9) (N := 31) hx hb hts (fun _ h9 => List.mem_cons_of_mem _ (List.mem_append_right _ h9)) hown hK hP 0 rfl rfl 9 (by decide) (hts (.fieldLink RX9 28 "FontRunsModel" "preference" "[I") mw_X9_comesFirst_0) (fun _ h9 => h9) rfl dX9_comesFirst_13 ?_
    refine lv_iload_n hx hb dX9_comesFirst_16 rfl (lv_at hl 0 rfl) ?_
    refine lv_aload_n hx hb dX9_comesFirst_17 rfl (lv_at hl 2 rfl) ?_
    refine va_get (D := D) (ci := 9) (v := .ref pf) (C := RX9) (T := TX9) (N := 31) hx hb hts (fun _ h9 => List.mem_cons_of_mem _ (List.mem_append_right _ h9)) hown hK hP 0 rfl rfl 9 (by decide) (hts (.fieldLink RX9 28 "FontRunsModel" "preference" "[I") mw_X9_comesFirst_0) (fun _ h9 => h9) rfl dX9_comesFirst_18 ?_
    refine lv_iload_n hx hb dX9_comesFirst_21 rfl (lv_at hl 0 rfl) ?_
    refine lv_iconst (v := zI 1) hx hb dX9_comesFirst_22 rfl ?_
    refine kz_isub hx hb dX9_comesFirst_23 ?_
    refine kz_iald hx hb hK hP 1 0 rfl rfl (by omega) dX9_comesFirst_24 (fun z_5 rz_5 ez_5 => ?_)
    refine kz_iast hx hb hK hP hD hS 1 0 rfl rfl (by omega) dX9_comesFirst_25 (fun H locs hP hD hS => ?_)
    have hP : va_P D vwCl [(h0, .inr (9, [.int (zI fa), .int (zI tc), .ref so, .ref sl, .ref ce, .int (zI fn), .ref kd, .ref wd, .ref hs, .ref pf, .ref lt, .int (zI mn), .ref wg, .int (zI ta), .long ck, .int (zI at9), .int (zI rfn), .ref rk, .ref rw, .ref rh, .int (zI cl), .ref sa, .ref fi, .int (zI bo), .ref ch, .ref cn, .int (zI ad), .int (zI ru), .ref kp, .int (zI dn), .ref rfa])), (pf, .inl (c_pf, 4, .inl (upd ja (jk).toNat (zI z_5))))] H := hP
    have hD : va_D A [(h0, .inr (9, [.int (zI fa), .int (zI tc), .ref so, .ref sl, .ref ce, .int (zI fn), .ref kd, .ref wd, .ref hs, .ref pf, .ref lt, .int (zI mn), .ref wg, .int (zI ta), .long ck, .int (zI at9), .int (zI rfn), .ref rk, .ref rw, .ref rh, .int (zI cl), .ref sa, .ref fi, .int (zI bo), .ref ch, .ref cn, .int (zI ad), .int (zI ru), .ref kp, .int (zI dn), .ref rfa])), (pf, .inl (c_pf, 4, .inl (upd ja (jk).toNat (zI z_5))))] := hD
    generalize ef_6 : upd ja (jk).toNat (zI z_5) = f_6 at hP hD
    refine lv_iinc (v := (zI (jk - 1))) (lv' := [(3, .int (zI (jk - 1))), (2, .int (zI z_1)), (0, .ref h0), (1, .int (zI f))]) hx hb dX9_comesFirst_26 hl (k := 0) rfl (kz_dec _ 1) (by decide) rfl (fun ls hl => ?_)
    refine lv_goto (tgt := 8) hx hb dX9_comesFirst_29 (by decide) ?_
    exact ih8 _ (by omega) _ _ _ ⟨(jk - 1), f_6, rfl, (by omega), (by rw [← ef_6, v_81]; exact kMv_1 f_pf (by omega) (by rw [← v_81]; exact ez_5)), hP, hD, hS, lv_sub hl [0, 1, 2, 3] rfl⟩

