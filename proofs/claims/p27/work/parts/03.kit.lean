/-! the words of the nest and of arrays over rows: carried by every contract -/
def kNt : List (String × Nat × MethodName) := [(RX8, 17, yX5_init), (RX8, 20, yX6_init), (RX8, 27, yX0_init), (RX8, 34, yX7_init), (RX8, 41, yX1_init), (RX8, 48, yX3_init), (RX8, 55, yX4_init), (RX8, 62, yX2_init), (RX0, 25, yX8_isWithin), (RX0, 33, yX8_stepOf), (RX2, 24, yX8_isWithin), (RX4, 55, yX8_isWithin), (RX5, 26, yX8_isWithin), (RX6, 11, yX0_init), (RX6, 58, yX8_isWithin), (RX7, 19, yX8_isWithin)]
abbrev vwCl : List vw_C := [(RX0, TX0, 4), (RX1, TX1, 2), (RX2, TX2, 3), (RX3, TX3, 2), (RX4, TX4, 10), (RX5, TX5, 4), (RX6, TX6, 2), (RX7, TX7, 2), (RX8, TX8, 15), (RX9, TX9, 31)]
theorem va_AOA.moved {ty : FieldType} {u U : State} (hvm : u.vm.Alike U.vm) (h : va_AOA ty u) : va_AOA ty U := by
  have h2 : (Cond.arrayOver (.array ty)).before #[] (u.setVm U.vm) = true := by rw [Cond.arrayOver_setVmC hvm]; exact h
  unfold va_AOA
  simp only [Cond.before, Cond.holds, Cond.value] at h2 ⊢
  exact h2
def kN (U : State) : Prop := (∀ q ∈ kNt, va_Nw (.methodLinkNest q.1 q.2.1 q.2.2 "FontRuns") U) ∧ va_AO RX5 U ∧ va_AOA .int U ∧ ∃ cy, U.vm.findClass (FieldType.array .int).toString = some cy
theorem kN_warm {s U : State} (hW : s.WarmedH U.vm) (h : kN s) : kN U := ⟨fun q hq => va_Nw.warmM hW (h.1 q hq), va_AO.moved hW.alike h.2.1, va_AOA.moved hW.alike h.2.2.1, by obtain ⟨cy, e⟩ := h.2.2.2; exact ⟨cy, by rw [hW.alike.findClass]; exact e⟩⟩
theorem kN_same {s U : State} (e : s.vm = U.vm) (h : kN s) : kN U := ⟨fun q hq => va_Nw.same rfl e (h.1 q hq), va_AO.moved (e ▸ Vm.Alike.refl s.vm) h.2.1, va_AOA.moved (e ▸ Vm.Alike.refl s.vm) h.2.2.1, by rw [← e]; exact h.2.2.2⟩
/-! a contract's start -/
def kPre (av : List Value) (D : va_G) (w0 : va_W) (tys : List (ClassId × FieldType)) (sz : Nat) : Array Value → State → Prop := fun v U => v = av.toArray ∧ U.heap.size = sz ∧ va_P D vwCl w0 U.heap ∧ va_K D vwCl tys U ∧ va_D (fun _ => True) w0 ∧ kN U
theorem kPre_blind {av : List Value} {D : va_G} {w0 : va_W} {tys : List (ClassId × FieldType)} {sz : Nat} : FrameBlind (kPre av D w0 tys sz) := fun a U g mk q => by
  obtain ⟨q0, q1, qP, qK, qD, qN⟩ := q
  exact ⟨q0, q1, qP, va_K.moved (u := U) (U := U.calling g mk a) (Vm.Alike.refl U.vm) qK, qD, kN_same (s := U) (U := U.calling g mk a) rfl qN⟩
theorem kfm {α β : Type} {f : α → Option β} : ∀ {l : List α} {r : List β}, l.map f = r.map some → l.filterMap f = r
  | [], r, h => by cases r with | nil => rfl | cons a b => cases h
  | x :: l, r, h => by
    cases r with
    | nil => cases h
    | cons a b =>
      rw [List.map_cons, List.map_cons] at h
      obtain ⟨h1, h2⟩ := List.cons.inj h
      rw [List.filterMap_cons, h1, kfm h2]
theorem kD0 {A : Nat → Prop} {ws : va_W} (h : va_D A ws) : va_D (fun _ => True) ws := h.weaken (fun _ _ _ _ => trivial)
theorem kPre_at {s : State} {H : Heap} {D : va_G} {ws w0 : va_W} {tys t0 : List (ClassId × FieldType)} {av : List Value} (hP : va_P D vwCl ws H) (hD : va_D (fun _ => True) ws) (hK : va_K D vwCl tys s) (hN : kN s) (is ts : List Nat) (hs : is.map (fun i => ws[i]?) = w0.map some) (ht : ts.filterMap (fun i => tys[i]?) = t0) (hn : va_nd is = true) (U : State) (hU : U.heap = H) (hW : s.WarmedH U.vm) : kPre av D w0 t0 H.size av.toArray U :=
  ⟨rfl, by rw [hU], by rw [hU]; exact hP.sub is (kfm hs), va_K.moved hW.alike (hK.sub ts ht), hD.sub is hn hs, kN_warm hW hN⟩
theorem kPreS {s : State} {H : Heap} {D : va_G} {ws w0 : va_W} {tys t0 : List (ClassId × FieldType)} {As : List Value} (hP : va_P D vwCl ws H) (hD : va_D (fun _ => True) ws) (hK : va_K D vwCl tys s) (hN : kN s) (is ts : List Nat) (hs : is.map (fun i => ws[i]?) = w0.map some) (ht : ts.filterMap (fun i => tys[i]?) = t0) (hn : va_nd is = true) : PreS s H (kPre As D w0 t0 H.size) As :=
  ⟨kPre_blind, fun U hU hW => kPre_at hP hD hK hN is ts hs ht hn U hU hW⟩
theorem kPreV {s : State} {H : Heap} {D : va_G} {ws w0 : va_W} {tys t0 : List (ClassId × FieldType)} {As : List Value} {b : Nat} {C : String} {T : u_T} {N : Nat} {fs : List Value} (hP : va_P D vwCl ws H) (hD : va_D (fun _ => True) ws) (hK : va_K D vwCl tys s) (hN : kN s) (is ts : List Nat) (hs : is.map (fun i => ws[i]?) = w0.map some) (ht : ts.filterMap (fun i => tys[i]?) = t0) (hn : va_nd is = true) (q0 ci : Nat) (he : ws[q0]? = some (b, .inr (ci, fs))) (hc : vwCl[ci]? = some (C, T, N)) : PreV s H C b (kPre (.ref b :: As) D w0 t0 H.size) As :=
  ⟨kPre_blind, va_recv hK hP hc he, fun U hU hW => kPre_at hP hD hK hN is ts hs ht hn U hU hW⟩
/-! ends -/
def QcReadL (r : Int64) : Array Value → State → Outcome → State → Prop := fun _ st o t => o = .returned (some (.long r)) ∧ t.heap = st.heap
def kQi (r : Int32) (A : Nat → Prop) : Array Value → State → Outcome → State → Prop := va_Qi (fun r' (_ : Unit) => r' = r) (fun _ _ => True) A
def kQl (r : Int64) (A : Nat → Prop) : Array Value → State → Outcome → State → Prop := va_Ql (fun r' (_ : Unit) => r' = r) (fun _ _ => True) A
def kQiW (r : Int32) (D : va_G) (w1 : va_W) (A : Nat → Prop) : Array Value → State → Outcome → State → Prop := va_Qi (fun r' (_ : Unit) => r' = r) (fun _ t => va_P D vwCl w1 t.heap ∧ va_D A w1) A
def kQvW (D : va_G) (w1 : va_W) (A : Nat → Prop) : Array Value → State → Outcome → State → Prop := va_Qv (fun (_ : Unit) => True) (fun _ t => va_P D vwCl w1 t.heap ∧ va_D A w1) A
theorem kRd {a : Array Value} {st t : State} {v r : Int32} (h : v = r) (ht : t.heap = st.heap) : QcRead r a st (.returned (some (.int v))) t := ⟨by rw [h], ht⟩
theorem kRdL {a : Array Value} {st t : State} {v r : Int64} (h : v = r) (ht : t.heap = st.heap) : QcReadL r a st (.returned (some (.long v))) t := ⟨by rw [h], ht⟩
theorem kQi_of {a : Array Value} {A : Nat → Prop} {st t : State} {v r : Int32} (h : v = r) (hF : va_F A st t) : kQi r A a st (.returned (some (.int v))) t := ⟨⟨v, (), rfl, h, trivial⟩, hF⟩
theorem kQl_of {a : Array Value} {A : Nat → Prop} {st t : State} {v r : Int64} (h : v = r) (hF : va_F A st t) : kQl r A a st (.returned (some (.long v))) t := ⟨⟨v, (), rfl, h, trivial⟩, hF⟩
theorem kQiW_of {a : Array Value} {A : Nat → Prop} {D : va_G} {w1 : va_W} {st t : State} {v r : Int32} (h : v = r) (hP : va_P D vwCl w1 t.heap) (hD : va_D A w1) (hF : va_F A st t) : kQiW r D w1 A a st (.returned (some (.int v))) t := ⟨⟨v, (), rfl, h, hP, hD⟩, hF⟩
theorem kQvW_of {a : Array Value} {A : Nat → Prop} {D : va_G} {w1 : va_W} {st t : State} (hP : va_P D vwCl w1 t.heap) (hD : va_D A w1) (hF : va_F A st t) : kQvW D w1 A a st (.returned none) t := ⟨⟨(), rfl, trivial, hP, hD⟩, hF⟩
section
variable {p : Program} {l : Launch} {e : Env} {R : Room} {s : State} {m : MethodId} {args : Array Value} {below : List Frame} {meth : Method} {c : Code} {H : Heap} {locs : List Loc} {cells slots : Nat} {Q : State → Prop} {pc : Nat} {ls : Array Slot} {rest st0 : List Value} {a : Array Value}
theorem kn_i {x : Int32} (y : Int32) (h : x = y) (k : W p l e R s m args below meth c H locs cells slots Q (F0 m pc ls (.int y :: rest))) : W p l e R s m args below meth c H locs cells slots Q (F0 m pc ls (.int x :: rest)) := h ▸ k
theorem kn_l {x : Int64} (y : Int64) (h : x = y) (k : W p l e R s m args below meth c H locs cells slots Q (F0 m pc ls (.long y :: rest))) : W p l e R s m args below meth c H locs cells slots Q (F0 m pc ls (.long x :: rest)) := h ▸ k
theorem kn_v {x : Value} (y : Value) (h : x = y) (k : W p l e R s m args below meth c H locs cells slots Q (F0 m pc ls (y :: rest))) : W p l e R s m args below meth c H locs cells slots Q (F0 m pc ls (x :: rest)) := h ▸ k
theorem k_callR {r : Int32} (hr : va_Run p l e R s m args below meth c H locs cells slots 0 0 (F0 m pc ls st0) rest (QcRead r a) (fun _ => False)) (kk : W p l e R s m args below meth c H locs cells slots Q (F0 m (pc + 3) ls (.int r :: rest))) : W p l e R s m args below meth c H locs cells slots Q (F0 m pc ls st0) := by
  intro T hT X
  obtain ⟨v, st₀, t, T', L, h0, X', hL, e1, e2, ⟨hv, hh⟩, st⟩ := hr T hT X
  cases hv
  obtain ⟨t2, a1, b1⟩ := kk T' (by rw [e1, hh, h0]) (Stand.forget X' (fun q h => (hL q h).elim))
  exact ⟨t2, st t2 a1, b1⟩
theorem k_callRL {r : Int64} (hr : va_Run p l e R s m args below meth c H locs cells slots 0 0 (F0 m pc ls st0) rest (QcReadL r a) (fun _ => False)) (kk : W p l e R s m args below meth c H locs cells slots Q (F0 m (pc + 3) ls (.long r :: rest))) : W p l e R s m args below meth c H locs cells slots Q (F0 m pc ls st0) := by
  intro T hT X
  obtain ⟨v, st₀, t, T', L, h0, X', hL, e1, e2, ⟨hv, hh⟩, st⟩ := hr T hT X
  cases hv
  obtain ⟨t2, a1, b1⟩ := kk T' (by rw [e1, hh, h0]) (Stand.forget X' (fun q h => (hL q h).elim))
  exact ⟨t2, st t2 a1, b1⟩
theorem k_loop {I : Nat → Heap → List Loc → Array Slot → Prop} (N : Nat) (step : ∀ j, j ≤ N → (∀ H locs ls, j < N → I (j + 1) H locs ls → W p l e R s m args below meth c H locs cells slots Q (F0 m pc ls rest)) → ∀ H locs ls, I j H locs ls → W p l e R s m args below meth c H locs cells slots Q (F0 m pc ls rest)) (j0 : Nat) (hj : j0 ≤ N) (h0 : I j0 H locs ls) : W p l e R s m args below meth c H locs cells slots Q (F0 m pc ls rest) := by
  have all : ∀ n j, N - j < n → j ≤ N → ∀ H locs ls, I j H locs ls → W p l e R s m args below meth c H locs cells slots Q (F0 m pc ls rest) := by
    intro n
    induction n with
    | zero => intro j h; omega
    | succ n ih => intro j h hj; exact step j hj (fun H locs ls hlt hI => ih (j + 1) (by omega) (by omega) H locs ls hI)
  exact all (N - j0 + 1) j0 (by omega) hj H locs ls h0
end
/-! conditions -/
theorem b01t {P : Prop} [Decidable P] (h : ¬ (if P then (1 : Int32) else 0) = 0) : P := by
  by_cases c : P
  · exact c
  · exact absurd (if_neg c) h
theorem b01f {P : Prop} [Decidable P] (h : (if P then (1 : Int32) else 0) = 0) : ¬ P := fun c => by rw [if_pos c] at h; exact absurd h (by decide)
theorem kle {x y : Int32} : x ≤ y ↔ x.toInt ≤ y.toInt := Int32.le_iff_toInt_le
theorem klt {x y : Int32} : x < y ↔ x.toInt < y.toInt := Int32.lt_iff_toInt_lt
theorem kwi {v a b : Int32} (h1 : ¬ v < a) (h2 : ¬ b < v) : a ≤ v ∧ v ≤ b := by rw [klt] at h1 h2; rw [kle, kle]; omega
theorem kwi1 {v a b : Int32} (h : v < a) : ¬ (a ≤ v ∧ v ≤ b) := by rw [klt] at h; rw [kle, kle]; omega
theorem kwi2 {v a b : Int32} (h : b < v) : ¬ (a ≤ v ∧ v ≤ b) := by rw [klt] at h; rw [kle, kle]; omega
theorem kno {v : Int32} : ¬ (0 ≤ v ∧ v ≤ (-1 : Int32)) := by rw [kle, kle, show (0 : Int32).toInt = 0 from rfl, show (-1 : Int32).toInt = -1 from rfl]; omega
theorem k4 {x : Int32} (h : 0 ≤ x ∧ x ≤ 3) : x = 0 ∨ x = 1 ∨ x = 2 ∨ x = 3 := by
  rw [kle, kle, show (0 : Int32).toInt = 0 from rfl, show (3 : Int32).toInt = 3 from rfl] at h
  have e : x.toInt = 0 ∨ x.toInt = 1 ∨ x.toInt = 2 ∨ x.toInt = 3 := by omega
  rcases e with e | e | e | e
  · exact Or.inl (Int32.toInt_inj.mp e)
  · exact Or.inr (Or.inl (Int32.toInt_inj.mp e))
  · exact Or.inr (Or.inr (Or.inl (Int32.toInt_inj.mp e)))
  · exact Or.inr (Or.inr (Or.inr (Int32.toInt_inj.mp e)))
theorem k4in {x : Int32} (h : 0 ≤ x ∧ x ≤ 3) : vp_in x 4 := by rcases k4 h with e | e | e | e <;> (subst e; unfold vp_in; decide)
theorem kz1 {x : Int32} (h : 0 ≤ x ∧ x ≤ 0) : x = 0 := by
  rw [kle, kle, show (0 : Int32).toInt = 0 from rfl] at h
  exact Int32.toInt_inj.mp (by rw [show (0 : Int32).toInt = 0 from rfl]; omega)
theorem kzb {P : Prop} [Decidable P] : narrow .boolean (.int (if P then 1 else 0)) = .int (if P then 1 else 0) := by
  by_cases c : P
  · rw [if_pos c]; rfl
  · rw [if_neg c]; rfl
theorem kno' {v : Int32} : ¬ (0 ≤ v ∧ v ≤ (0 : Int32) - 1) := kno
theorem kT4 (x : Int32) : x = 0 ∨ x = 1 ∨ x = 2 ∨ x = 3 ∨ (x.toInt < 0 ∨ 3 < x.toInt) := by
  by_cases h : 0 ≤ x ∧ x ≤ 3
  · rcases k4 h with e | e | e | e
    · exact Or.inl e
    · exact Or.inr (Or.inl e)
    · exact Or.inr (Or.inr (Or.inl e))
    · exact Or.inr (Or.inr (Or.inr (Or.inl e)))
  · rw [kle, kle, show (0 : Int32).toInt = 0 from rfl, show (3 : Int32).toInt = 3 from rfl] at h
    exact Or.inr (Or.inr (Or.inr (Or.inr (by omega))))
theorem klt60 {j : Nat} (h : ¬ (60 : Int32) ≤ nI j) (hj : j ≤ 60) : j < 60 := by
  rcases Nat.lt_or_ge j 60 with h1 | h1
  · exact h1
  · have e : j = 60 := by omega
    subst e
    exact absurd (by decide) h
theorem k60in {j : Nat} (h : ¬ (60 : Int32) ≤ nI j) (hj : j ≤ 60) : vp_in (nI j) 60 := vp_in_nI (klt60 h hj) (by decide)
theorem k240 {k : Int32} {j : Nat} (h : 0 ≤ k ∧ k ≤ 3) (h2 : ¬ (60 : Int32) ≤ nI j) (hj : j ≤ 60) : vp_in (60 * k + nI j) 240 := by
  have hlt := klt60 h2 hj
  rcases k4 h with e | e | e | e <;> subst e
  · rw [show (60 * 0 : Int32) = nI 0 from by decide, nI_add]; exact vp_in_nI (by omega) (by decide)
  · rw [show (60 * 1 : Int32) = nI 60 from by decide, nI_add]; exact vp_in_nI (by omega) (by decide)
  · rw [show (60 * 2 : Int32) = nI 120 from by decide, nI_add]; exact vp_in_nI (by omega) (by decide)
  · rw [show (60 * 3 : Int32) = nI 180 from by decide, nI_add]; exact vp_in_nI (by omega) (by decide)
def kSO : Nat → Int32 := upd (upd (upd (upd (fun _ => 0) 0 (-9)) 1 (-9)) 2 (-9)) 3 (-9)
theorem kso {x : Int32} (h : 0 ≤ x ∧ x ≤ 3) : kSO x.toNatClampNeg = -9 := by rcases k4 h with e | e | e | e <;> (subst e; decide)
theorem kP0 {D : va_G} {cl : List vw_C} {H : Heap} : va_P D cl [] H := fun k q h => by simp at h
theorem kDn {A : Nat → Prop} : va_D A [] := ⟨fun i j p q h => by simp at h, fun k q h => by simp at h⟩
