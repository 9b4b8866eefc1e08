/-! the rows of arrays of arrays: one pool of 56 rows of four -/
def kRows (r : Nat → Nat) (gp : Nat → Nat → Int32) (cy : ClassId) : va_W := (List.range 56).map (fun i => (r i, .inl (cy, 4, .inl (gp i))))
def kOut (fo : Nat → Option Nat) (r : Nat → Nat) (o n : Nat) : Prop := ∀ i, i < n → fo i = some (r (o + i))
theorem kRows_at (X : va_W) (r : Nat → Nat) (gp : Nat → Nat → Int32) (cy : ClassId) {j : Nat} (hj : j < 56) : (X ++ kRows r gp cy)[X.length + j]? = some (r j, .inl (cy, 4, .inl (gp j))) := by
  rw [List.getElem?_append_right (by omega)]
  simp [kRows, hj]
theorem kRows_set (X : va_W) (r : Nat → Nat) (gp : Nat → Nat → Int32) (cy : ClassId) {j : Nat} (g : Nat → Int32) (hj : j < 56) : (X ++ kRows r gp cy).set (X.length + j) (r j, .inl (cy, 4, .inl g)) = X ++ kRows r (va_up gp j g) cy := by
  rw [List.set_append_right _ _ (by omega)]
  congr 1
  apply List.ext_getElem?
  intro i
  rw [List.getElem?_set]
  by_cases h : i < 56
  · by_cases e : X.length + j - X.length = i
    · have e2 : j = i := by omega
      subst e2
      simp [kRows, hj, va_up_self]
    · have e2 : i ≠ j := by omega
      simp [kRows, h, va_up_ne _ _ e2, show ¬ j = i from fun q => e2 q.symm]
  · have e2 : ¬ X.length + j - X.length = i := by omega
    simp [kRows, h, show ¬ j = i by omega]
section
variable {p : Program} {l : Launch} {e : Env} {R : Room} {s : State} {m : MethodId} {args : Array Value} {below : List Frame} {meth : Method} {c : Code} {H : Heap} {locs : List Loc} {cells slots : Nat} {Q : State → Prop} {cc : ByteArray} {pc : Nat} {ls : Array Slot} {rest : List Value} {D : va_G} {cl : List vw_C} {A : Nat → Prop} {a : Nat} {tys : List (ClassId × FieldType)} {ws : va_W} {H0 : Heap}
theorem kz_aald (hexec : p.tables.exec = Jvm.exec) (hb : c.code = cc) (hK : va_K D cl tys s) (hP : va_P D cl ws H) (q0 t0 : Nat) {cA : ClassId} {n : Nat} {f : Nat → Option Nat} (ha : ws[q0]? = some (a, .inl (cA, n, .inr (.inr (.inr (.inr f)))))) (ht : tys[t0]? = some (cA, .array .int)) {i : Int} (hi : 0 ≤ i ∧ i < n ∧ i < 2147483648) (hdg : decode cc pc = .ok (.aaload, 1)) {y : Nat} (hy : f i.toNat = some y) (kk : W p l e R s m args below meth c H locs cells slots Q (F0 m (pc + 1) ls (.ref y :: rest))) : W p l e R s m args below meth c H locs cells slots Q (F0 m pc ls (.int (zI i) :: .ref a :: rest)) := by
  have hin : vp_in (zI i) n := zI_in hi
  have hlt : (zI i).toNatClampNeg < n := Nat.not_le.mp fun q => hin (Or.inr q)
  refine W.aald (v := va_rf (f (zI i).toNatClampNeg)) (ty := .array .int) hexec hb (hP q0 _ ha) ((hK.2 t0 _ ht).1 n (fun j => va_rf (f j))) rfl (fun q => by cases q) (by show ¬ (zI i < 0 ∨ (arrV _ _ _).slots.size ≤ _); rw [arrV_size]; exact hin) (by show (arrV _ _ _).slots[_]? = _; rw [arrV_read _ _ hlt]) rfl rfl hdg ?_
  rw [zI_cl (by omega), hy]
  exact kk
theorem kz_aldq (hexec : p.tables.exec = Jvm.exec) (hb : c.code = cc) (hK : va_K D cl tys s) (hP : va_P D cl ws H) (q0 t0 : Nat) {cA : ClassId} {C : String} {n : Nat} {f : Nat → Option Nat} (ha : ws[q0]? = some (a, .inl (cA, n, .inr (.inr (.inr (.inr f)))))) (ht : tys[t0]? = some (cA, .object C)) {i : Int} (hi : 0 ≤ i ∧ i < n ∧ i < 2147483648) (hdg : decode cc pc = .ok (.aaload, 1)) {y : Nat} (hy : f i.toNat = some y) (kk : W p l e R s m args below meth c H locs cells slots Q (F0 m (pc + 1) ls (.ref y :: rest))) : W p l e R s m args below meth c H locs cells slots Q (F0 m pc ls (.int (zI i) :: .ref a :: rest)) := by
  refine va_aldq hexec hb hK hP q0 t0 ha ht (zI_in hi) hdg ?_
  rw [zI_cl (by omega), hy]
  exact kk
theorem kz_copy (hexec : p.tables.exec = Jvm.exec) (hb : c.code = cc) (hml : c.maxLocals = ls.size) {own : String} {index : Nat} (hown : s.vm.findClass own = some m.cls) (hlink : (Cond.methodLink own index arraycopyName).before args s = true) (hnat : (Cond.native arraycopyName).before args s = true) (hstat : (Cond.static arraycopyName).before args s = true) (hini : (Cond.initialized "java/lang/System").before args s = true) (hK : va_K D cl tys s) (hP : va_P D cl ws H) (hD : va_D A ws) (hS : va_S A H0 H locs) (q0 q1 t0 t1 : Nat) {a0 : Nat} {c0 c1 : ClassId} {n0 n1 : Nat} {f g : Nat → Int32} (ha0 : ws[q0]? = some (a0, .inl (c0, n0, .inl f))) (ha1 : ws[q1]? = some (a, .inl (c1, n1, .inl g))) (ht0 : tys[t0]? = some (c0, .int)) (ht1 : tys[t1]? = some (c1, .int)) {i j k : Int} (h1 : 0 ≤ i ∧ 0 ≤ j ∧ 0 ≤ k ∧ i + k ≤ n0 ∧ j + k ≤ n1 ∧ i < 2147483648 ∧ j < 2147483648 ∧ k < 2147483648) (hframes : 1 ≤ R.frames) (hlocals : (rest.map fun v => v.category).sum + (nativeFrameWords "java/lang/System" "arraycopy" 5 + 11) ≤ R.locals) (hdg : decode cc pc = .ok (.invokestatic index, 3)) (kk : ∀ (H1 : Heap) (locs1 : List Loc), va_P D cl (ws.set q1 (a, .inl (c1, n1, .inl (va_cpy f g i.toNat j.toNat k.toNat)))) H1 → va_D A (ws.set q1 (a, .inl (c1, n1, .inl (va_cpy f g i.toNat j.toNat k.toNat)))) → va_S A H0 H1 locs1 → W p l e R s m args below meth c H1 locs1 cells slots Q (F0 m (pc + 3) ls rest)) : W p l e R s m args below meth c H locs cells slots Q (F0 m pc ls (.int (zI k) :: .int (zI j) :: .ref a :: .int (zI i) :: .ref a0 :: rest)) := by
  have e0 : (0 : Int32) = zI 0 := rfl
  refine va_copyi hexec hb hml hown hlink hnat hstat hini hK hP hD hS q0 q1 t0 t1 ha0 ha1 ht0 ht1 rfl (by rw [e0, zI_lt (by omega) (by omega)]; omega) (by rw [e0, zI_lt (by omega) (by omega)]; omega) (by rw [e0, zI_lt (by omega) (by omega)]; omega) (by rw [zI_cl (by omega), zI_cl (by omega)]; omega) (by rw [zI_cl (by omega), zI_cl (by omega)]; omega) (fun _ _ => rfl) hframes hlocals hdg ?_
  rw [zI_cl (i := i) (by omega), zI_cl (i := j) (by omega), zI_cl (i := k) (by omega)]
  exact kk
theorem kz_idiv2 (hexec : p.tables.exec = Jvm.exec) (hb : c.code = cc) {x : Int} (hdg : decode cc pc = .ok (.idiv, 1)) (hx : 0 ≤ x ∧ x < 2147483648) (k : W p l e R s m args below meth c H locs cells slots Q (F0 m (pc + 1) ls (.int (zI (x / 2)) :: rest))) : W p l e R s m args below meth c H locs cells slots Q (F0 m pc ls (.int (zI 2) :: .int (zI x) :: rest)) := by
  refine lv_idiv hexec hb hdg (by decide) ?_
  have e : zI x / zI 2 = zI (x / 2) := by
    obtain ⟨n, rfl⟩ := Int.eq_ofNat_of_zero_le hx.1
    exact pk_div (a := n) (d := 2) (by omega) (by omega) (by omega)
  rw [e]
  exact k
theorem kz_rowld {X : va_W} {r : Nat → Nat} {gp : Nat → Nat → Int32} {cy : ClassId} (hexec : p.tables.exec = Jvm.exec) (hb : c.code = cc) (hK : va_K D cl tys s) (hP : va_P D cl (X ++ kRows r gp cy) H) (t0 : Nat) (ht : tys[t0]? = some (cy, .int)) {j : Nat} (hj : j < 56) {i : Int} (hi : 0 ≤ i ∧ i < 4) (hdg : decode cc pc = .ok (.iaload, 1)) (kk : ∀ z : Int, rg z → gp j i.toNat = zI z → W p l e R s m args below meth c H locs cells slots Q (F0 m (pc + 1) ls (.int (zI z) :: rest))) : W p l e R s m args below meth c H locs cells slots Q (F0 m pc ls (.int (zI i) :: .ref (r j) :: rest)) := kz_iald hexec hb hK hP (X.length + j) t0 (kRows_at X r gp cy hj) ht (by omega) hdg kk
theorem kz_rowst {X : va_W} {r : Nat → Nat} {gp : Nat → Nat → Int32} {cy : ClassId} (hexec : p.tables.exec = Jvm.exec) (hb : c.code = cc) (hK : va_K D cl tys s) (hP : va_P D cl (X ++ kRows r gp cy) H) (hD : va_D A (X ++ kRows r gp cy)) (hS : va_S A H0 H locs) (t0 : Nat) (ht : tys[t0]? = some (cy, .int)) {j : Nat} (hj : j < 56) {i : Int} {x : Int32} (hi : 0 ≤ i ∧ i < 4) (hdg : decode cc pc = .ok (.iastore, 1)) (kk : ∀ (H1 : Heap) (locs1 : List Loc), va_P D cl (X ++ kRows r (va_up gp j (upd (gp j) i.toNat x)) cy) H1 → va_D A (X ++ kRows r (va_up gp j (upd (gp j) i.toNat x)) cy) → va_S A H0 H1 locs1 → W p l e R s m args below meth c H1 locs1 cells slots Q (F0 m (pc + 1) ls rest)) : W p l e R s m args below meth c H locs cells slots Q (F0 m pc ls (.int x :: .int (zI i) :: .ref (r j) :: rest)) := by
  refine kz_iast hexec hb hK hP hD hS (X.length + j) t0 (kRows_at X r gp cy hj) ht (by omega) hdg (fun H1 locs1 h1 h2 h3 => ?_)
  rw [kRows_set X r gp cy _ hj] at h1 h2
  exact kk H1 locs1 h1 h2 h3
end
theorem kPre_atP {s : State} {H : Heap} {D : va_G} {X cx pl : va_W} {tys t0 : List (ClassId × FieldType)} {av : List Value} (hP : va_P D vwCl (X ++ pl) H) (hD : va_D (fun _ => True) (X ++ pl)) (hK : va_K D vwCl tys s) (hN : kN s) (is ts : List Nat) (hs : is.map (fun i => X[i]?) = cx.map some) (ht : ts.filterMap (fun i => tys[i]?) = t0) (hn : va_nd is = true) (U : State) (hU : U.heap = H) (hW : s.WarmedH U.vm) : kPre av D (cx ++ pl) t0 H.size av.toArray U :=
  ⟨rfl, by rw [hU], by rw [hU]; exact hP.part is hs, va_K.moved hW.alike (hK.sub ts ht), hD.part is hn hs, kN_warm hW hN⟩
theorem kPreSP {s : State} {H : Heap} {D : va_G} {X cx pl : va_W} {tys t0 : List (ClassId × FieldType)} {As : List Value} (hP : va_P D vwCl (X ++ pl) H) (hD : va_D (fun _ => True) (X ++ pl)) (hK : va_K D vwCl tys s) (hN : kN s) (is ts : List Nat) (hs : is.map (fun i => X[i]?) = cx.map some) (ht : ts.filterMap (fun i => tys[i]?) = t0) (hn : va_nd is = true) : PreS s H (kPre As D (cx ++ pl) t0 H.size) As := ⟨kPre_blind, fun U hU hW => kPre_atP hP hD hK hN is ts hs ht hn U hU hW⟩
theorem kPreVP {s : State} {H : Heap} {D : va_G} {X cx pl : va_W} {tys t0 : List (ClassId × FieldType)} {As : List Value} {b : Nat} {C : String} {T : u_T} {N : Nat} {fs : List Value} (hP : va_P D vwCl (X ++ pl) H) (hD : va_D (fun _ => True) (X ++ pl)) (hK : va_K D vwCl tys s) (hN : kN s) (is ts : List Nat) (hs : is.map (fun i => X[i]?) = cx.map some) (ht : ts.filterMap (fun i => tys[i]?) = t0) (hn : va_nd is = true) (q0 ci : Nat) (he : (X ++ pl)[q0]? = some (b, .inr (ci, fs))) (hc : vwCl[ci]? = some (C, T, N)) : PreV s H C b (kPre (.ref b :: As) D (cx ++ pl) t0 H.size) As := ⟨kPre_blind, va_recv hK hP hc he, fun U hU hW => kPre_atP hP hD hK hN is ts hs ht hn U hU hW⟩
