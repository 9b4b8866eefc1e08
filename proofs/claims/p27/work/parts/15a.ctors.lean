theorem kinner (c : ClassId) (k : Nat) : Jvm.Free.Multi.innerC c k (defaultValue .int) = vp_cell c (k, .inl (fun _ => 0)) := by
  show ({ cls := c, slots := Array.replicate k (.int 0), vm := .none } : Cell) = arrV c k (fun _ => .int 0)
  rw [arrV_new]
def kR (n : Nat) (r : Nat → Nat) (cy : ClassId) : va_W := (List.range n).map (fun i => (r i, .inl (cy, 4, .inl (fun _ => 0))))
theorem kpl {n : Nat} {r : Nat → Nat} {cy : ClassId} {f : Nat → va_E} : va_pl ([] ++ (List.range n).map r) (vr_up f ((List.range n).map r) (.inl (cy, 4, .inl (fun _ => 0)))) = kR n r cy := by
  unfold va_pl kR
  rw [List.nil_append, List.map_map]
  apply List.map_congr_left
  intro i hi
  show (r i, vr_up f ((List.range n).map r) _ (r i)) = _
  rw [vr_up_in (List.mem_map.mpr ⟨i, hi, rfl⟩)]
theorem kcy {D : va_G} {cl : List vw_C} {tys : List (ClassId × FieldType)} {U : State} {c cy : ClassId} (hK : va_K D cl tys U) (hcy : U.vm.findClass (FieldType.array .int).toString = some cy) (i : Nat) (h : tys[i]? = some (c, .int)) : c = cy := by
  have h1 : U.vm.findClass ("[" ++ FieldType.int.toString) = some c := (hK.2 i _ h).2
  have h2 : (FieldType.array .int).toString = "[" ++ FieldType.int.toString := rfl
  rw [h2, h1] at hcy
  exact Option.some.inj hcy
theorem kcc {D : va_G} {cl : List vw_C} {tys : List (ClassId × FieldType)} {U : State} {c c2 : ClassId} (hK : va_K D cl tys U) (i j : Nat) (h : tys[i]? = some (c, .int)) (h2 : tys[j]? = some (c2, .int)) : c = c2 := by
  have q1 : U.vm.findClass ("[" ++ FieldType.int.toString) = some c := (hK.2 i _ h).2
  have q2 : U.vm.findClass ("[" ++ FieldType.int.toString) = some c2 := (hK.2 j _ h2).2
  rw [q1] at q2
  exact Option.some.inj q2
theorem kP_one {D : va_G} {cl : List vw_C} {a b c : va_W} {H : Heap} (h : va_P D cl (a ++ (b ++ c)) H) : va_P D cl ((a ++ b) ++ c) H := by rw [List.append_assoc]; exact h
theorem kD_one {A : Nat → Prop} {a b c : va_W} (h : va_D A (a ++ (b ++ c))) : va_D A ((a ++ b) ++ c) := by rw [List.append_assoc]; exact h
theorem kP_two {D : va_G} {cl : List vw_C} {a b c d : va_W} {H : Heap} (h : va_P D cl ((a ++ (b ++ c)) ++ d) H) : va_P D cl ((a ++ b) ++ (d ++ c)) H := by
  rw [← List.append_assoc a b c] at h
  have h2 := h.swap
  rw [List.append_assoc (a ++ b) d c] at h2
  exact h2
theorem kD_two {A : Nat → Prop} {a b c d : va_W} (h : va_D A ((a ++ (b ++ c)) ++ d)) : va_D A ((a ++ b) ++ (d ++ c)) := by
  rw [← List.append_assoc a b c] at h
  have h2 := h.swap
  rw [List.append_assoc (a ++ b) d c] at h2
  exact h2
theorem dX5_init_0 : decode cX5_init 0 = .ok (.aload_n 0, 1) := kqo_2a kbl_X5_init (pc := 0) rfl
theorem dX5_init_1 : decode cX5_init 1 = .ok (.invokespecial 3, 3) := kqo_b7 (x1 := 0) (x2 := 3) kbl_X5_init (pc := 1) rfl rfl
theorem dX5_init_4 : decode cX5_init 4 = .ok (.aload_n 0, 1) := kqo_2a kbl_X5_init (pc := 4) rfl
theorem dX5_init_5 : decode cX5_init 5 = .ok (.bipush 60, 2) := kqo_10 (x1 := 60) kbl_X5_init (pc := 5) rfl rfl
theorem dX5_init_7 : decode cX5_init 7 = .ok (.newarray .int, 2) := by decide +kernel
theorem dX5_init_9 : decode cX5_init 9 = .ok (.putfield 9, 3) := kqo_b5 (x1 := 0) (x2 := 9) kbl_X5_init (pc := 9) rfl rfl
theorem dX5_init_12 : decode cX5_init 12 = .ok (.return_, 1) := kqo_b1 kbl_X5_init (pc := 12) rfl
set_option maxHeartbeats 4000000 in
set_option maxRecDepth 100000 in
theorem c_X5_init (l : Launch) (D : va_G) (sz : Nat) (h0 : Nat) : Met l yX5_init wsX5_init ({ frames := 1, cells := 1, slots := 60, locals := 20 }) (kPre [.ref h0] D [(h0, .inr (5, [.null, .int 0, .int 0, .int 0]))] [] sz) (va_Qv (fun (_ : Nat × ClassId) => True) (fun u t => va_P D vwCl [(h0, .inr (5, [.ref u.1, .int 0, .int 0, .int 0])), (u.1, .inl (u.2, 60, .inl (fun _ => 0)))] t.heap ∧ va_D (va_A [(h0, .inr (5, [.null, .int 0, .int 0, .int 0]))] sz) [(h0, .inr (5, [.ref u.1, .int 0, .int 0, .int 0])), (u.1, .inl (u.2, 60, .inl (fun _ => 0)))] ∧ va_K D vwCl [(u.2, .int)] t) (va_A [(h0, .inr (5, [.null, .int 0, .int 0, .int 0]))] sz)) 1 60 (va_A [(h0, .inr (5, [.null, .int 0, .int 0, .int 0]))] sz) := by
  refine Met.ofW (cc := cX5_init) (maxL := 1) (ret := none) (by decide) rfl ?_
  intro p e s m args below meth c s₁ B hml hv
  obtain ⟨rfl, hsz, hP, hK, hD0, hN⟩ := hv
  have hx := B.exec
  have hb := B.bytes
  have hr := B.returns
  have hts := atoms_spec (ws := wsX5_init) B.pre
  have hown : s.vm.findClass RX5 = some m.cls := findClass_of_methodNamed B.named
  have hlocks := B.notSynchronized
  have hin : meth.name = "<init>" := (name_of_methodNamed B.named B.method).1
  subst hsz
  have hD := hD0.self (sz := s.heap.size)
  generalize hAe : va_A [(h0, .inr (5, [.null, .int 0, .int 0, .int 0]))] s.heap.size = A at hD ⊢
  have hA : ∀ q : Nat, s.heap.size ≤ q → A q := fun q h => by rw [← hAe]; exact Or.inr h
  have hS : va_S A s.heap s.heap [] := va_S.rf
  have hP : va_P D vwCl [(h0, .inr (5, [.null, .int 0, .int 0, .int 0]))] s.heap := hP
  have hl := lv_entry ([.ref h0]) (n := 1) (Nat.le_of_ble_eq_true rfl)
  rw [lg_entry_eq]
  generalize (lg_sl ([.ref h0]) ++ List.replicate (1 - (lg_sl ([.ref h0])).length) Slot.unset).toArray = ls at hl ⊢
  have hl : lv_has ls 1 [(0, .ref h0)] := hl
  refine lv_aload_n hx hb dX5_init_0 rfl (lv_at hl 0 rfl) ?_
  refine W.objInit hx hb hown (hts (.methodLink RX5 3 objectInit) (by decide +kernel)) (hts (.instanceMethod objectInit) (by decide +kernel)) (hts (.code objectInit ⟨#[0xb1]⟩ 1 none) (by decide +kernel)) rfl (by rw [hml]; exact hl.1) rfl dX5_init_1 (Nat.le_of_ble_eq_true rfl) (Nat.le_of_ble_eq_true rfl) ?_
  refine W.eq (g2 := F0 m 4 ls []) rfl ?_
  refine lv_aload_n hx hb dX5_init_4 rfl (lv_at hl 0 rfl) ?_
  refine lv_bipush (v := 60) hx hb dX5_init_5 (by decide) ?_
  refine va_newa (atype := .int) (ty := .int) (a0 := (60, .inl (fun _ => 0))) (N' := 60) hx hb (hts (.arrayClass .int) (by decide +kernel)) rfl hK hP hD hS hA (fun _ => rfl) (by decide) (by decide) (Nat.le_of_ble_eq_true rfl) (Nat.le_of_ble_eq_true rfl) (Nat.le_of_ble_eq_true rfl) dX5_init_7 (fun a_1 cA_2 H hK hP hD hS => ?_)
  have hK : va_K D vwCl [(cA_2, .int)] s := hK
  have hP : va_P D vwCl [(h0, .inr (5, [.null, .int 0, .int 0, .int 0])), (a_1, .inl (cA_2, 60, .inl (fun _ => 0)))] H := hP
  have hD : va_D A [(h0, .inr (5, [.null, .int 0, .int 0, .int 0])), (a_1, .inl (cA_2, 60, .inl (fun _ => 0)))] := hD
  refine va_putF (D := D) (ci := 5) (v := .ref a_1) (ty := .array .int) (C := RX5) (T := TX5) (N := 4) hx hb hts (fun _ h9 => List.mem_cons_of_mem _ (List.mem_append_right _ h9)) tyX5 tyX5_ok nmX5 hown hK hP hD hS 0 rfl rfl 0 (by decide) (hts (.fieldLink RX5 9 "FontRuns$Sheet" "cells" "[I") (by decide +kernel)) (fun _ h9 => h9) rfl hin rfl (by decide +kernel) rfl rfl (Nat.le_of_ble_eq_true rfl) dX5_init_9 (fun H locs hP hD hS => ?_)
  have hP : va_P D vwCl [(h0, .inr (5, [.ref a_1, .int 0, .int 0, .int 0])), (a_1, .inl (cA_2, 60, .inl (fun _ => 0)))] H := hP
  have hD : va_D A [(h0, .inr (5, [.ref a_1, .int 0, .int 0, .int 0])), (a_1, .inl (cA_2, 60, .inl (fun _ => 0)))] := hD
  refine W.widen (k := 1) (n := 60) (Nat.le_of_ble_eq_true rfl) (Nat.le_of_ble_eq_true rfl) ?_
  have hP9 := hP.sub (ws' := [(h0, .inr (5, [.ref a_1, .int 0, .int 0, .int 0])), (a_1, .inl (cA_2, 60, .inl (fun _ => 0)))]) [0, 1] rfl
  have hD9 := hD.sub (ws' := [(h0, .inr (5, [.ref a_1, .int 0, .int 0, .int 0])), (a_1, .inl (cA_2, 60, .inl (fun _ => 0)))]) [0, 1] (by decide) rfl
  have hK9 := hK.sub (tys' := [(cA_2, .int)]) [0] rfl
  exact W.vret hx hb hr (fun t ht hW => ⟨⟨(a_1, cA_2), rfl, trivial, by rw [ht]; exact hP9, hD9, va_K.moved hW.alike hK9⟩, hS.F ht⟩) hS.2.2 dX5_init_12
theorem dX0_init_0 : decode cX0_init 0 = .ok (.aload_n 0, 1) := kqo_2a kbl_X0_init (pc := 0) rfl
theorem dX0_init_1 : decode cX0_init 1 = .ok (.invokespecial 3, 3) := kqo_b7 (x1 := 0) (x2 := 3) kbl_X0_init (pc := 1) rfl rfl
theorem dX0_init_4 : decode cX0_init 4 = .ok (.aload_n 0, 1) := kqo_2a kbl_X0_init (pc := 4) rfl
theorem dX0_init_5 : decode cX0_init 5 = .ok (.iconst 4, 1) := kqo_07 kbl_X0_init (pc := 5) rfl
theorem dX0_init_6 : decode cX0_init 6 = .ok (.newarray .int, 2) := by decide +kernel
theorem dX0_init_8 : decode cX0_init 8 = .ok (.putfield 9, 3) := kqo_b5 (x1 := 0) (x2 := 9) kbl_X0_init (pc := 8) rfl rfl
theorem dX0_init_11 : decode cX0_init 11 = .ok (.aload_n 0, 1) := kqo_2a kbl_X0_init (pc := 11) rfl
theorem dX0_init_12 : decode cX0_init 12 = .ok (.iconst 4, 1) := kqo_07 kbl_X0_init (pc := 12) rfl
theorem dX0_init_13 : decode cX0_init 13 = .ok (.newarray .int, 2) := by decide +kernel
theorem dX0_init_15 : decode cX0_init 15 = .ok (.putfield 15, 3) := kqo_b5 (x1 := 0) (x2 := 15) kbl_X0_init (pc := 15) rfl rfl
theorem dX0_init_18 : decode cX0_init 18 = .ok (.aload_n 0, 1) := kqo_2a kbl_X0_init (pc := 18) rfl
theorem dX0_init_19 : decode cX0_init 19 = .ok (.iconst 4, 1) := kqo_07 kbl_X0_init (pc := 19) rfl
theorem dX0_init_20 : decode cX0_init 20 = .ok (.newarray .int, 2) := by decide +kernel
theorem dX0_init_22 : decode cX0_init 22 = .ok (.putfield 18, 3) := kqo_b5 (x1 := 0) (x2 := 18) kbl_X0_init (pc := 22) rfl rfl
theorem dX0_init_25 : decode cX0_init 25 = .ok (.return_, 1) := kqo_b1 kbl_X0_init (pc := 25) rfl
set_option maxHeartbeats 4000000 in
set_option maxRecDepth 100000 in
theorem c_X0_init (l : Launch) (D : va_G) (sz : Nat) (h0 : Nat) : Met l yX0_init wsX0_init ({ frames := 1, cells := 3, slots := 12, locals := 20 }) (kPre [.ref h0] D [(h0, .inr (0, [.null, .null, .null, .int 0]))] [] sz) (va_Qv (fun (_ : Nat × Nat × Nat × ClassId × ClassId × ClassId) => True) (fun u t => va_P D vwCl [(h0, .inr (0, [.ref u.1, .ref u.2.1, .ref u.2.2.1, .int 0])), (u.1, .inl (u.2.2.2.1, 4, .inl (fun _ => 0))), (u.2.1, .inl (u.2.2.2.2.1, 4, .inl (fun _ => 0))), (u.2.2.1, .inl (u.2.2.2.2.2, 4, .inl (fun _ => 0)))] t.heap ∧ va_D (va_A [(h0, .inr (0, [.null, .null, .null, .int 0]))] sz) [(h0, .inr (0, [.ref u.1, .ref u.2.1, .ref u.2.2.1, .int 0])), (u.1, .inl (u.2.2.2.1, 4, .inl (fun _ => 0))), (u.2.1, .inl (u.2.2.2.2.1, 4, .inl (fun _ => 0))), (u.2.2.1, .inl (u.2.2.2.2.2, 4, .inl (fun _ => 0)))] ∧ va_K D vwCl [(u.2.2.2.1, .int), (u.2.2.2.2.1, .int), (u.2.2.2.2.2, .int)] t) (va_A [(h0, .inr (0, [.null, .null, .null, .int 0]))] sz)) 3 12 (va_A [(h0, .inr (0, [.null, .null, .null, .int 0]))] sz) := by
  refine Met.ofW (cc := cX0_init) (maxL := 1) (ret := none) (by decide) rfl ?_
  intro p e s m args below meth c s₁ B hml hv
  obtain ⟨rfl, hsz, hP, hK, hD0, hN⟩ := hv
  have hx := B.exec
  have hb := B.bytes
  have hr := B.returns
  have hts := atoms_spec (ws := wsX0_init) B.pre
  have hown : s.vm.findClass RX0 = some m.cls := findClass_of_methodNamed B.named
  have hlocks := B.notSynchronized
  have hin : meth.name = "<init>" := (name_of_methodNamed B.named B.method).1
  subst hsz
  have hD := hD0.self (sz := s.heap.size)
  generalize hAe : va_A [(h0, .inr (0, [.null, .null, .null, .int 0]))] s.heap.size = A at hD ⊢
  have hA : ∀ q : Nat, s.heap.size ≤ q → A q := fun q h => by rw [← hAe]; exact Or.inr h
  have hS : va_S A s.heap s.heap [] := va_S.rf
  have hP : va_P D vwCl [(h0, .inr (0, [.null, .null, .null, .int 0]))] s.heap := hP
  have hl := lv_entry ([.ref h0]) (n := 1) (Nat.le_of_ble_eq_true rfl)
  rw [lg_entry_eq]
  generalize (lg_sl ([.ref h0]) ++ List.replicate (1 - (lg_sl ([.ref h0])).length) Slot.unset).toArray = ls at hl ⊢
  have hl : lv_has ls 1 [(0, .ref h0)] := hl
  refine lv_aload_n hx hb dX0_init_0 rfl (lv_at hl 0 rfl) ?_
  refine W.objInit hx hb hown (hts (.methodLink RX0 3 objectInit) (by decide +kernel)) (hts (.instanceMethod objectInit) (by decide +kernel)) (hts (.code objectInit ⟨#[0xb1]⟩ 1 none) (by decide +kernel)) rfl (by rw [hml]; exact hl.1) rfl dX0_init_1 (Nat.le_of_ble_eq_true rfl) (Nat.le_of_ble_eq_true rfl) ?_
  refine W.eq (g2 := F0 m 4 ls []) rfl ?_
  refine lv_aload_n hx hb dX0_init_4 rfl (lv_at hl 0 rfl) ?_
  refine lv_iconst (v := 4) hx hb dX0_init_5 (by decide) ?_
  refine va_newa (atype := .int) (ty := .int) (a0 := (4, .inl (fun _ => 0))) (N' := 4) hx hb (hts (.arrayClass .int) (by decide +kernel)) rfl hK hP hD hS hA (fun _ => rfl) (by decide) (by decide) (Nat.le_of_ble_eq_true rfl) (Nat.le_of_ble_eq_true rfl) (Nat.le_of_ble_eq_true rfl) dX0_init_6 (fun a_1 cA_2 H hK hP hD hS => ?_)
  have hK : va_K D vwCl [(cA_2, .int)] s := hK
  have hP : va_P D vwCl [(h0, .inr (0, [.null, .null, .null, .int 0])), (a_1, .inl (cA_2, 4, .inl (fun _ => 0)))] H := hP
  have hD : va_D A [(h0, .inr (0, [.null, .null, .null, .int 0])), (a_1, .inl (cA_2, 4, .inl (fun _ => 0)))] := hD
  refine va_putF (D := D) (ci := 0) (v := .ref a_1) (ty := .array .int) (C := RX0) (T := TX0) (N := 4) hx hb hts (fun _ h9 => List.mem_cons_of_mem _ (List.mem_append_right _ h9)) tyX0 tyX0_ok nmX0 hown hK hP hD hS 0 rfl rfl 0 (by decide) (hts (.fieldLink RX0 9 "FontRuns$FontRow" "kind" "[I") (by decide +kernel)) (fun _ h9 => h9) rfl hin rfl (by decide +kernel) rfl rfl (Nat.le_of_ble_eq_true rfl) dX0_init_8 (fun H locs hP hD hS => ?_)
  have hP : va_P D vwCl [(h0, .inr (0, [.ref a_1, .null, .null, .int 0])), (a_1, .inl (cA_2, 4, .inl (fun _ => 0)))] H := hP
  have hD : va_D A [(h0, .inr (0, [.ref a_1, .null, .null, .int 0])), (a_1, .inl (cA_2, 4, .inl (fun _ => 0)))] := hD
  refine lv_aload_n hx hb dX0_init_11 rfl (lv_at hl 0 rfl) ?_
  refine lv_iconst (v := 4) hx hb dX0_init_12 (by decide) ?_
  refine va_newa (atype := .int) (ty := .int) (a0 := (4, .inl (fun _ => 0))) (N' := 4) hx hb (hts (.arrayClass .int) (by decide +kernel)) rfl hK hP hD hS hA (fun _ => rfl) (by decide) (by decide) (Nat.le_of_ble_eq_true rfl) (Nat.le_of_ble_eq_true rfl) (Nat.le_of_ble_eq_true rfl) dX0_init_13 (fun a_3 cA_4 H hK hP hD hS => ?_)
  have hK : va_K D vwCl [(cA_2, .int), (cA_4, .int)] s := hK
  have hP : va_P D vwCl [(h0, .inr (0, [.ref a_1, .null, .null, .int 0])), (a_1, .inl (cA_2, 4, .inl (fun _ => 0))), (a_3, .inl (cA_4, 4, .inl (fun _ => 0)))] H := hP
  have hD : va_D A [(h0, .inr (0, [.ref a_1, .null, .null, .int 0])), (a_1, .inl (cA_2, 4, .inl (fun _ => 0))), (a_3, .inl (cA_4, 4, .inl (fun _ => 0)))] := hD
  refine va_putF (D := D) (ci := 0) (v := .ref a_3) (ty := .array .int) (C := RX0) (T := TX0) (N := 4) hx hb hts (fun _ h9 => List.mem_cons_of_mem _ (List.mem_append_right _ h9)) tyX0 tyX0_ok nmX0 hown hK hP hD hS 0 rfl rfl 1 (by decide) (hts (.fieldLink RX0 15 "FontRuns$FontRow" "breadth" "[I") (by decide +kernel)) (fun _ h9 => h9) rfl hin rfl (by decide +kernel) rfl rfl (Nat.le_of_ble_eq_true rfl) dX0_init_15 (fun H locs hP hD hS => ?_)
  have hP : va_P D vwCl [(h0, .inr (0, [.ref a_1, .ref a_3, .null, .int 0])), (a_1, .inl (cA_2, 4, .inl (fun _ => 0))), (a_3, .inl (cA_4, 4, .inl (fun _ => 0)))] H := hP
  have hD : va_D A [(h0, .inr (0, [.ref a_1, .ref a_3, .null, .int 0])), (a_1, .inl (cA_2, 4, .inl (fun _ => 0))), (a_3, .inl (cA_4, 4, .inl (fun _ => 0)))] := hD
  refine lv_aload_n hx hb dX0_init_18 rfl (lv_at hl 0 rfl) ?_
  refine lv_iconst (v := 4) hx hb dX0_init_19 (by decide) ?_
  refine va_newa (atype := .int) (ty := .int) (a0 := (4, .inl (fun _ => 0))) (N' := 4) hx hb (hts (.arrayClass .int) (by decide +kernel)) rfl hK hP hD hS hA (fun _ => rfl) (by decide) (by decide) (Nat.le_of_ble_eq_true rfl) (Nat.le_of_ble_eq_true rfl) (Nat.le_of_ble_eq_true rfl) dX0_init_20 (fun a_5 cA_6 H hK hP hD hS => ?_)
  have hK : va_K D vwCl [(cA_2, .int), (cA_4, .int), (cA_6, .int)] s := hK
  have hP : va_P D vwCl [(h0, .inr (0, [.ref a_1, .ref a_3, .null, .int 0])), (a_1, .inl (cA_2, 4, .inl (fun _ => 0))), (a_3, .inl (cA_4, 4, .inl (fun _ => 0))), (a_5, .inl (cA_6, 4, .inl (fun _ => 0)))] H := hP
  have hD : va_D A [(h0, .inr (0, [.ref a_1, .ref a_3, .null, .int 0])), (a_1, .inl (cA_2, 4, .inl (fun _ => 0))), (a_3, .inl (cA_4, 4, .inl (fun _ => 0))), (a_5, .inl (cA_6, 4, .inl (fun _ => 0)))] := hD
  refine va_putF (D := D) (ci := 0) (v := .ref a_5) (ty := .array .int) (C := RX0) (T := TX0) (N := 4) hx hb hts (fun _ h9 => List.mem_cons_of_mem _ (List.mem_append_right _ h9)) tyX0 tyX0_ok nmX0 hown hK hP hD hS 0 rfl rfl 2 (by decide) (hts (.fieldLink RX0 18 "FontRuns$FontRow" "has" "[I") (by decide +kernel)) (fun _ h9 => h9) rfl hin rfl (by decide +kernel) rfl rfl (Nat.le_of_ble_eq_true rfl) dX0_init_22 (fun H locs hP hD hS => ?_)
  have hP : va_P D vwCl [(h0, .inr (0, [.ref a_1, .ref a_3, .ref a_5, .int 0])), (a_1, .inl (cA_2, 4, .inl (fun _ => 0))), (a_3, .inl (cA_4, 4, .inl (fun _ => 0))), (a_5, .inl (cA_6, 4, .inl (fun _ => 0)))] H := hP
  have hD : va_D A [(h0, .inr (0, [.ref a_1, .ref a_3, .ref a_5, .int 0])), (a_1, .inl (cA_2, 4, .inl (fun _ => 0))), (a_3, .inl (cA_4, 4, .inl (fun _ => 0))), (a_5, .inl (cA_6, 4, .inl (fun _ => 0)))] := hD
  refine W.widen (k := 3) (n := 12) (Nat.le_of_ble_eq_true rfl) (Nat.le_of_ble_eq_true rfl) ?_
  have hP9 := hP.sub (ws' := [(h0, .inr (0, [.ref a_1, .ref a_3, .ref a_5, .int 0])), (a_1, .inl (cA_2, 4, .inl (fun _ => 0))), (a_3, .inl (cA_4, 4, .inl (fun _ => 0))), (a_5, .inl (cA_6, 4, .inl (fun _ => 0)))]) [0, 1, 2, 3] rfl
  have hD9 := hD.sub (ws' := [(h0, .inr (0, [.ref a_1, .ref a_3, .ref a_5, .int 0])), (a_1, .inl (cA_2, 4, .inl (fun _ => 0))), (a_3, .inl (cA_4, 4, .inl (fun _ => 0))), (a_5, .inl (cA_6, 4, .inl (fun _ => 0)))]) [0, 1, 2, 3] (by decide) rfl
  have hK9 := hK.sub (tys' := [(cA_2, .int), (cA_4, .int), (cA_6, .int)]) [0, 1, 2] rfl
  exact W.vret hx hb hr (fun t ht hW => ⟨⟨(a_1, a_3, a_5, cA_2, cA_4, cA_6), rfl, trivial, by rw [ht]; exact hP9, hD9, va_K.moved hW.alike hK9⟩, hS.F ht⟩) hS.2.2 dX0_init_25
theorem dX7_init_0 : decode cX7_init 0 = .ok (.aload_n 0, 1) := kqo_2a kbl_X7_init (pc := 0) rfl
theorem dX7_init_1 : decode cX7_init 1 = .ok (.invokespecial 3, 3) := kqo_b7 (x1 := 0) (x2 := 3) kbl_X7_init (pc := 1) rfl rfl
theorem dX7_init_4 : decode cX7_init 4 = .ok (.aload_n 0, 1) := kqo_2a kbl_X7_init (pc := 4) rfl
theorem dX7_init_5 : decode cX7_init 5 = .ok (.bipush 24, 2) := kqo_10 (x1 := 24) kbl_X7_init (pc := 5) rfl rfl
theorem dX7_init_7 : decode cX7_init 7 = .ok (.newarray .int, 2) := by decide +kernel
theorem dX7_init_9 : decode cX7_init 9 = .ok (.putfield 9, 3) := kqo_b5 (x1 := 0) (x2 := 9) kbl_X7_init (pc := 9) rfl rfl
theorem dX7_init_12 : decode cX7_init 12 = .ok (.return_, 1) := kqo_b1 kbl_X7_init (pc := 12) rfl
set_option maxHeartbeats 4000000 in
set_option maxRecDepth 100000 in
theorem c_X7_init (l : Launch) (D : va_G) (sz : Nat) (h0 : Nat) : Met l yX7_init wsX7_init ({ frames := 1, cells := 1, slots := 24, locals := 20 }) (kPre [.ref h0] D [(h0, .inr (7, [.null, .int 0]))] [] sz) (va_Qv (fun (_ : Nat × ClassId) => True) (fun u t => va_P D vwCl [(h0, .inr (7, [.ref u.1, .int 0])), (u.1, .inl (u.2, 24, .inl (fun _ => 0)))] t.heap ∧ va_D (va_A [(h0, .inr (7, [.null, .int 0]))] sz) [(h0, .inr (7, [.ref u.1, .int 0])), (u.1, .inl (u.2, 24, .inl (fun _ => 0)))] ∧ va_K D vwCl [(u.2, .int)] t) (va_A [(h0, .inr (7, [.null, .int 0]))] sz)) 1 24 (va_A [(h0, .inr (7, [.null, .int 0]))] sz) := by
  refine Met.ofW (cc := cX7_init) (maxL := 1) (ret := none) (by decide) rfl ?_
  intro p e s m args below meth c s₁ B hml hv
  obtain ⟨rfl, hsz, hP, hK, hD0, hN⟩ := hv
  have hx := B.exec
  have hb := B.bytes
  have hr := B.returns
  have hts := atoms_spec (ws := wsX7_init) B.pre
  have hown : s.vm.findClass RX7 = some m.cls := findClass_of_methodNamed B.named
  have hlocks := B.notSynchronized
  have hin : meth.name = "<init>" := (name_of_methodNamed B.named B.method).1
  subst hsz
  have hD := hD0.self (sz := s.heap.size)
  generalize hAe : va_A [(h0, .inr (7, [.null, .int 0]))] s.heap.size = A at hD ⊢
  have hA : ∀ q : Nat, s.heap.size ≤ q → A q := fun q h => by rw [← hAe]; exact Or.inr h
  have hS : va_S A s.heap s.heap [] := va_S.rf
  have hP : va_P D vwCl [(h0, .inr (7, [.null, .int 0]))] s.heap := hP
  have hl := lv_entry ([.ref h0]) (n := 1) (Nat.le_of_ble_eq_true rfl)
  rw [lg_entry_eq]
  generalize (lg_sl ([.ref h0]) ++ List.replicate (1 - (lg_sl ([.ref h0])).length) Slot.unset).toArray = ls at hl ⊢
  have hl : lv_has ls 1 [(0, .ref h0)] := hl
  refine lv_aload_n hx hb dX7_init_0 rfl (lv_at hl 0 rfl) ?_
  refine W.objInit hx hb hown (hts (.methodLink RX7 3 objectInit) (by decide +kernel)) (hts (.instanceMethod objectInit) (by decide +kernel)) (hts (.code objectInit ⟨#[0xb1]⟩ 1 none) (by decide +kernel)) rfl (by rw [hml]; exact hl.1) rfl dX7_init_1 (Nat.le_of_ble_eq_true rfl) (Nat.le_of_ble_eq_true rfl) ?_
  refine W.eq (g2 := F0 m 4 ls []) rfl ?_
  refine lv_aload_n hx hb dX7_init_4 rfl (lv_at hl 0 rfl) ?_
  refine lv_bipush (v := 24) hx hb dX7_init_5 (by decide) ?_
  refine va_newa (atype := .int) (ty := .int) (a0 := (24, .inl (fun _ => 0))) (N' := 24) hx hb (hts (.arrayClass .int) (by decide +kernel)) rfl hK hP hD hS hA (fun _ => rfl) (by decide) (by decide) (Nat.le_of_ble_eq_true rfl) (Nat.le_of_ble_eq_true rfl) (Nat.le_of_ble_eq_true rfl) dX7_init_7 (fun a_1 cA_2 H hK hP hD hS => ?_)
  have hK : va_K D vwCl [(cA_2, .int)] s := hK
  have hP : va_P D vwCl [(h0, .inr (7, [.null, .int 0])), (a_1, .inl (cA_2, 24, .inl (fun _ => 0)))] H := hP
  have hD : va_D A [(h0, .inr (7, [.null, .int 0])), (a_1, .inl (cA_2, 24, .inl (fun _ => 0)))] := hD
  refine va_putF (D := D) (ci := 7) (v := .ref a_1) (ty := .array .int) (C := RX7) (T := TX7) (N := 2) hx hb hts (fun _ h9 => List.mem_cons_of_mem _ (List.mem_append_right _ h9)) tyX7 tyX7_ok nmX7 hown hK hP hD hS 0 rfl rfl 0 (by decide) (hts (.fieldLink RX7 9 "FontRuns$Writing" "row" "[I") (by decide +kernel)) (fun _ h9 => h9) rfl hin rfl (by decide +kernel) rfl rfl (Nat.le_of_ble_eq_true rfl) dX7_init_9 (fun H locs hP hD hS => ?_)
  have hP : va_P D vwCl [(h0, .inr (7, [.ref a_1, .int 0])), (a_1, .inl (cA_2, 24, .inl (fun _ => 0)))] H := hP
  have hD : va_D A [(h0, .inr (7, [.ref a_1, .int 0])), (a_1, .inl (cA_2, 24, .inl (fun _ => 0)))] := hD
  refine W.widen (k := 1) (n := 24) (Nat.le_of_ble_eq_true rfl) (Nat.le_of_ble_eq_true rfl) ?_
  have hP9 := hP.sub (ws' := [(h0, .inr (7, [.ref a_1, .int 0])), (a_1, .inl (cA_2, 24, .inl (fun _ => 0)))]) [0, 1] rfl
  have hD9 := hD.sub (ws' := [(h0, .inr (7, [.ref a_1, .int 0])), (a_1, .inl (cA_2, 24, .inl (fun _ => 0)))]) [0, 1] (by decide) rfl
  have hK9 := hK.sub (tys' := [(cA_2, .int)]) [0] rfl
  exact W.vret hx hb hr (fun t ht hW => ⟨⟨(a_1, cA_2), rfl, trivial, by rw [ht]; exact hP9, hD9, va_K.moved hW.alike hK9⟩, hS.F ht⟩) hS.2.2 dX7_init_12
theorem dX1_init_0 : decode cX1_init 0 = .ok (.aload_n 0, 1) := kqo_2a kbl_X1_init (pc := 0) rfl
theorem dX1_init_1 : decode cX1_init 1 = .ok (.invokespecial 3, 3) := kqo_b7 (x1 := 0) (x2 := 3) kbl_X1_init (pc := 1) rfl rfl
theorem dX1_init_4 : decode cX1_init 4 = .ok (.aload_n 0, 1) := kqo_2a kbl_X1_init (pc := 4) rfl
theorem dX1_init_5 : decode cX1_init 5 = .ok (.iconst 4, 1) := kqo_07 kbl_X1_init (pc := 5) rfl
theorem dX1_init_6 : decode cX1_init 6 = .ok (.newarray .int, 2) := by decide +kernel
theorem dX1_init_8 : decode cX1_init 8 = .ok (.putfield 9, 3) := kqo_b5 (x1 := 0) (x2 := 9) kbl_X1_init (pc := 8) rfl rfl
theorem dX1_init_11 : decode cX1_init 11 = .ok (.return_, 1) := kqo_b1 kbl_X1_init (pc := 11) rfl
set_option maxHeartbeats 4000000 in
set_option maxRecDepth 100000 in
theorem c_X1_init (l : Launch) (D : va_G) (sz : Nat) (h0 : Nat) : Met l yX1_init wsX1_init ({ frames := 1, cells := 1, slots := 4, locals := 20 }) (kPre [.ref h0] D [(h0, .inr (1, [.null, .int 0]))] [] sz) (va_Qv (fun (_ : Nat × ClassId) => True) (fun u t => va_P D vwCl [(h0, .inr (1, [.ref u.1, .int 0])), (u.1, .inl (u.2, 4, .inl (fun _ => 0)))] t.heap ∧ va_D (va_A [(h0, .inr (1, [.null, .int 0]))] sz) [(h0, .inr (1, [.ref u.1, .int 0])), (u.1, .inl (u.2, 4, .inl (fun _ => 0)))] ∧ va_K D vwCl [(u.2, .int)] t) (va_A [(h0, .inr (1, [.null, .int 0]))] sz)) 1 4 (va_A [(h0, .inr (1, [.null, .int 0]))] sz) := by
  refine Met.ofW (cc := cX1_init) (maxL := 1) (ret := none) (by decide) rfl ?_
  intro p e s m args below meth c s₁ B hml hv
  obtain ⟨rfl, hsz, hP, hK, hD0, hN⟩ := hv
  have hx := B.exec
  have hb := B.bytes
  have hr := B.returns
  have hts := atoms_spec (ws := wsX1_init) B.pre
  have hown : s.vm.findClass RX1 = some m.cls := findClass_of_methodNamed B.named
  have hlocks := B.notSynchronized
  have hin : meth.name = "<init>" := (name_of_methodNamed B.named B.method).1
  subst hsz
  have hD := hD0.self (sz := s.heap.size)
  generalize hAe : va_A [(h0, .inr (1, [.null, .int 0]))] s.heap.size = A at hD ⊢
  have hA : ∀ q : Nat, s.heap.size ≤ q → A q := fun q h => by rw [← hAe]; exact Or.inr h
  have hS : va_S A s.heap s.heap [] := va_S.rf
  have hP : va_P D vwCl [(h0, .inr (1, [.null, .int 0]))] s.heap := hP
  have hl := lv_entry ([.ref h0]) (n := 1) (Nat.le_of_ble_eq_true rfl)
  rw [lg_entry_eq]
  generalize (lg_sl ([.ref h0]) ++ List.replicate (1 - (lg_sl ([.ref h0])).length) Slot.unset).toArray = ls at hl ⊢
  have hl : lv_has ls 1 [(0, .ref h0)] := hl
  refine lv_aload_n hx hb dX1_init_0 rfl (lv_at hl 0 rfl) ?_
  refine W.objInit hx hb hown (hts (.methodLink RX1 3 objectInit) (by decide +kernel)) (hts (.instanceMethod objectInit) (by decide +kernel)) (hts (.code objectInit ⟨#[0xb1]⟩ 1 none) (by decide +kernel)) rfl (by rw [hml]; exact hl.1) rfl dX1_init_1 (Nat.le_of_ble_eq_true rfl) (Nat.le_of_ble_eq_true rfl) ?_
  refine W.eq (g2 := F0 m 4 ls []) rfl ?_
  refine lv_aload_n hx hb dX1_init_4 rfl (lv_at hl 0 rfl) ?_
  refine lv_iconst (v := 4) hx hb dX1_init_5 (by decide) ?_
  refine va_newa (atype := .int) (ty := .int) (a0 := (4, .inl (fun _ => 0))) (N' := 4) hx hb (hts (.arrayClass .int) (by decide +kernel)) rfl hK hP hD hS hA (fun _ => rfl) (by decide) (by decide) (Nat.le_of_ble_eq_true rfl) (Nat.le_of_ble_eq_true rfl) (Nat.le_of_ble_eq_true rfl) dX1_init_6 (fun a_1 cA_2 H hK hP hD hS => ?_)
  have hK : va_K D vwCl [(cA_2, .int)] s := hK
  have hP : va_P D vwCl [(h0, .inr (1, [.null, .int 0])), (a_1, .inl (cA_2, 4, .inl (fun _ => 0)))] H := hP
  have hD : va_D A [(h0, .inr (1, [.null, .int 0])), (a_1, .inl (cA_2, 4, .inl (fun _ => 0)))] := hD
  refine va_putF (D := D) (ci := 1) (v := .ref a_1) (ty := .array .int) (C := RX1) (T := TX1) (N := 2) hx hb hts (fun _ h9 => List.mem_cons_of_mem _ (List.mem_append_right _ h9)) tyX1 tyX1_ok nmX1 hown hK hP hD hS 0 rfl rfl 0 (by decide) (hts (.fieldLink RX1 9 "FontRuns$Preference" "row" "[I") (by decide +kernel)) (fun _ h9 => h9) rfl hin rfl (by decide +kernel) rfl rfl (Nat.le_of_ble_eq_true rfl) dX1_init_8 (fun H locs hP hD hS => ?_)
  have hP : va_P D vwCl [(h0, .inr (1, [.ref a_1, .int 0])), (a_1, .inl (cA_2, 4, .inl (fun _ => 0)))] H := hP
  have hD : va_D A [(h0, .inr (1, [.ref a_1, .int 0])), (a_1, .inl (cA_2, 4, .inl (fun _ => 0)))] := hD
  refine W.widen (k := 1) (n := 4) (Nat.le_of_ble_eq_true rfl) (Nat.le_of_ble_eq_true rfl) ?_
  have hP9 := hP.sub (ws' := [(h0, .inr (1, [.ref a_1, .int 0])), (a_1, .inl (cA_2, 4, .inl (fun _ => 0)))]) [0, 1] rfl
  have hD9 := hD.sub (ws' := [(h0, .inr (1, [.ref a_1, .int 0])), (a_1, .inl (cA_2, 4, .inl (fun _ => 0)))]) [0, 1] (by decide) rfl
  have hK9 := hK.sub (tys' := [(cA_2, .int)]) [0] rfl
  exact W.vret hx hb hr (fun t ht hW => ⟨⟨(a_1, cA_2), rfl, trivial, by rw [ht]; exact hP9, hD9, va_K.moved hW.alike hK9⟩, hS.F ht⟩) hS.2.2 dX1_init_11
theorem dX3_init_0 : decode cX3_init 0 = .ok (.aload_n 0, 1) := kqo_2a kbl_X3_init (pc := 0) rfl
theorem dX3_init_1 : decode cX3_init 1 = .ok (.invokespecial 3, 3) := kqo_b7 (x1 := 0) (x2 := 3) kbl_X3_init (pc := 1) rfl rfl
theorem dX3_init_4 : decode cX3_init 4 = .ok (.aload_n 0, 1) := kqo_2a kbl_X3_init (pc := 4) rfl
theorem dX3_init_5 : decode cX3_init 5 = .ok (.iconst 5, 1) := kqo_08 kbl_X3_init (pc := 5) rfl
theorem dX3_init_6 : decode cX3_init 6 = .ok (.newarray .int, 2) := by decide +kernel
theorem dX3_init_8 : decode cX3_init 8 = .ok (.putfield 9, 3) := kqo_b5 (x1 := 0) (x2 := 9) kbl_X3_init (pc := 8) rfl rfl
theorem dX3_init_11 : decode cX3_init 11 = .ok (.return_, 1) := kqo_b1 kbl_X3_init (pc := 11) rfl
set_option maxHeartbeats 4000000 in
set_option maxRecDepth 100000 in
theorem c_X3_init (l : Launch) (D : va_G) (sz : Nat) (h0 : Nat) : Met l yX3_init wsX3_init ({ frames := 1, cells := 1, slots := 5, locals := 20 }) (kPre [.ref h0] D [(h0, .inr (3, [.null, .int 0]))] [] sz) (va_Qv (fun (_ : Nat × ClassId) => True) (fun u t => va_P D vwCl [(h0, .inr (3, [.ref u.1, .int 0])), (u.1, .inl (u.2, 5, .inl (fun _ => 0)))] t.heap ∧ va_D (va_A [(h0, .inr (3, [.null, .int 0]))] sz) [(h0, .inr (3, [.ref u.1, .int 0])), (u.1, .inl (u.2, 5, .inl (fun _ => 0)))] ∧ va_K D vwCl [(u.2, .int)] t) (va_A [(h0, .inr (3, [.null, .int 0]))] sz)) 1 5 (va_A [(h0, .inr (3, [.null, .int 0]))] sz) := by
  refine Met.ofW (cc := cX3_init) (maxL := 1) (ret := none) (by decide) rfl ?_
  intro p e s m args below meth c s₁ B hml hv
  obtain ⟨rfl, hsz, hP, hK, hD0, hN⟩ := hv
  have hx := B.exec
  have hb := B.bytes
  have hr := B.returns
  have hts := atoms_spec (ws := wsX3_init) B.pre
  have hown : s.vm.findClass RX3 = some m.cls := findClass_of_methodNamed B.named
  have hlocks := B.notSynchronized
  have hin : meth.name = "<init>" := (name_of_methodNamed B.named B.method).1
  subst hsz
  have hD := hD0.self (sz := s.heap.size)
  generalize hAe : va_A [(h0, .inr (3, [.null, .int 0]))] s.heap.size = A at hD ⊢
  have hA : ∀ q : Nat, s.heap.size ≤ q → A q := fun q h => by rw [← hAe]; exact Or.inr h
  have hS : va_S A s.heap s.heap [] := va_S.rf
  have hP : va_P D vwCl [(h0, .inr (3, [.null, .int 0]))] s.heap := hP
  have hl := lv_entry ([.ref h0]) (n := 1) (Nat.le_of_ble_eq_true rfl)
  rw [lg_entry_eq]
  generalize (lg_sl ([.ref h0]) ++ List.replicate (1 - (lg_sl ([.ref h0])).length) Slot.unset).toArray = ls at hl ⊢
  have hl : lv_has ls 1 [(0, .ref h0)] := hl
  refine lv_aload_n hx hb dX3_init_0 rfl (lv_at hl 0 rfl) ?_
  refine W.objInit hx hb hown (hts (.methodLink RX3 3 objectInit) (by decide +kernel)) (hts (.instanceMethod objectInit) (by decide +kernel)) (hts (.code objectInit ⟨#[0xb1]⟩ 1 none) (by decide +kernel)) rfl (by rw [hml]; exact hl.1) rfl dX3_init_1 (Nat.le_of_ble_eq_true rfl) (Nat.le_of_ble_eq_true rfl) ?_
  refine W.eq (g2 := F0 m 4 ls []) rfl ?_
  refine lv_aload_n hx hb dX3_init_4 rfl (lv_at hl 0 rfl) ?_
  refine lv_iconst (v := 5) hx hb dX3_init_5 (by decide) ?_
  refine va_newa (atype := .int) (ty := .int) (a0 := (5, .inl (fun _ => 0))) (N' := 5) hx hb (hts (.arrayClass .int) (by decide +kernel)) rfl hK hP hD hS hA (fun _ => rfl) (by decide) (by decide) (Nat.le_of_ble_eq_true rfl) (Nat.le_of_ble_eq_true rfl) (Nat.le_of_ble_eq_true rfl) dX3_init_6 (fun a_1 cA_2 H hK hP hD hS => ?_)
  have hK : va_K D vwCl [(cA_2, .int)] s := hK
  have hP : va_P D vwCl [(h0, .inr (3, [.null, .int 0])), (a_1, .inl (cA_2, 5, .inl (fun _ => 0)))] H := hP
  have hD : va_D A [(h0, .inr (3, [.null, .int 0])), (a_1, .inl (cA_2, 5, .inl (fun _ => 0)))] := hD
  refine va_putF (D := D) (ci := 3) (v := .ref a_1) (ty := .array .int) (C := RX3) (T := TX3) (N := 2) hx hb hts (fun _ h9 => List.mem_cons_of_mem _ (List.mem_append_right _ h9)) tyX3 tyX3_ok nmX3 hown hK hP hD hS 0 rfl rfl 0 (by decide) (hts (.fieldLink RX3 9 "FontRuns$Recent" "row" "[I") (by decide +kernel)) (fun _ h9 => h9) rfl hin rfl (by decide +kernel) rfl rfl (Nat.le_of_ble_eq_true rfl) dX3_init_8 (fun H locs hP hD hS => ?_)
  have hP : va_P D vwCl [(h0, .inr (3, [.ref a_1, .int 0])), (a_1, .inl (cA_2, 5, .inl (fun _ => 0)))] H := hP
  have hD : va_D A [(h0, .inr (3, [.ref a_1, .int 0])), (a_1, .inl (cA_2, 5, .inl (fun _ => 0)))] := hD
  refine W.widen (k := 1) (n := 5) (Nat.le_of_ble_eq_true rfl) (Nat.le_of_ble_eq_true rfl) ?_
  have hP9 := hP.sub (ws' := [(h0, .inr (3, [.ref a_1, .int 0])), (a_1, .inl (cA_2, 5, .inl (fun _ => 0)))]) [0, 1] rfl
  have hD9 := hD.sub (ws' := [(h0, .inr (3, [.ref a_1, .int 0])), (a_1, .inl (cA_2, 5, .inl (fun _ => 0)))]) [0, 1] (by decide) rfl
  have hK9 := hK.sub (tys' := [(cA_2, .int)]) [0] rfl
  exact W.vret hx hb hr (fun t ht hW => ⟨⟨(a_1, cA_2), rfl, trivial, by rw [ht]; exact hP9, hD9, va_K.moved hW.alike hK9⟩, hS.F ht⟩) hS.2.2 dX3_init_11
theorem dX6_init_0 : decode cX6_init 0 = .ok (.aload_n 0, 1) := kqo_2a kbl_X6_init (pc := 0) rfl
theorem dX6_init_1 : decode cX6_init 1 = .ok (.invokespecial 3, 3) := kqo_b7 (x1 := 0) (x2 := 3) kbl_X6_init (pc := 1) rfl rfl
theorem dX6_init_4 : decode cX6_init 4 = .ok (.aload_n 0, 1) := kqo_2a kbl_X6_init (pc := 4) rfl
theorem dX6_init_5 : decode cX6_init 5 = .ok (.new 9, 3) := by decide +kernel
theorem dX6_init_8 : decode cX6_init 8 = .ok (.dup, 1) := kqo_59 kbl_X6_init (pc := 8) rfl
theorem dX6_init_9 : decode cX6_init 9 = .ok (.invokespecial 11, 3) := kqo_b7 (x1 := 0) (x2 := 11) kbl_X6_init (pc := 9) rfl rfl
theorem dX6_init_12 : decode cX6_init 12 = .ok (.putfield 12, 3) := kqo_b5 (x1 := 0) (x2 := 12) kbl_X6_init (pc := 12) rfl rfl
theorem dX6_init_15 : decode cX6_init 15 = .ok (.return_, 1) := kqo_b1 kbl_X6_init (pc := 15) rfl
set_option maxRecDepth 20000 in
theorem ggX6_init_X0_init : GoodIn wsX6_init wsX0_init := goodIn_4 _ (List.forall_mem_cons.mpr ⟨List.mem_cons_of_mem _ (List.mem_append_left _ (List.mem_append_left _ (List.mem_of_getElem? (i := 8) rfl))), List.forall_mem_append.mpr ⟨List.forall_mem_cons.mpr ⟨List.mem_cons_of_mem _ (List.mem_append_left _ (List.mem_append_left _ (List.mem_of_getElem? (i := 9) rfl))), List.forall_mem_cons.mpr ⟨List.mem_cons_of_mem _ (List.mem_append_left _ (List.mem_append_left _ (List.mem_of_getElem? (i := 1) rfl))), List.forall_mem_cons.mpr ⟨List.mem_cons_of_mem _ (List.mem_append_left _ (List.mem_append_left _ (List.mem_of_getElem? (i := 2) rfl))), List.forall_mem_cons.mpr ⟨List.mem_cons_of_mem _ (List.mem_append_left _ (List.mem_append_left _ (List.mem_of_getElem? (i := 10) rfl))), List.forall_mem_cons.mpr ⟨List.mem_cons_of_mem _ (List.mem_append_left _ (List.mem_append_left _ (List.mem_of_getElem? (i := 11) rfl))), List.forall_mem_cons.mpr ⟨List.mem_cons_of_mem _ (List.mem_append_left _ (List.mem_append_left _ (List.mem_of_getElem? (i := 12) rfl))), List.forall_mem_cons.mpr ⟨List.mem_cons_of_mem _ (List.mem_append_left _ (List.mem_append_left _ (List.mem_of_getElem? (i := 13) rfl))), fun _ h9 => absurd h9 List.not_mem_nil⟩⟩⟩⟩⟩⟩⟩, fun w h9 => List.mem_cons_of_mem _ (List.mem_append_left _ (List.mem_append_right _ (h9)))⟩⟩) (by decide +kernel)
set_option maxRecDepth 20000 in
theorem gX6_init_X0_init_n11 : GoodIn wsX6_init (wsX0_init) := ggX6_init_X0_init
set_option maxHeartbeats 4000000 in
set_option maxRecDepth 100000 in
theorem c_X6_init (l : Launch) (D : va_G) (sz : Nat) (h0 : Nat) : Met l yX6_init wsX6_init ({ frames := 2, cells := 4, slots := 16, locals := 40 }) (kPre [.ref h0] D [(h0, .inr (6, [.null, .int 0]))] [] sz) (va_Qv (fun (_ : Nat × Nat × Nat × Nat × ClassId × ClassId × ClassId) => True) (fun u t => va_P D vwCl [(h0, .inr (6, [.ref u.1, .int 0])), (u.1, .inr (0, [.ref u.2.1, .ref u.2.2.1, .ref u.2.2.2.1, .int 0])), (u.2.1, .inl (u.2.2.2.2.1, 4, .inl (fun _ => 0))), (u.2.2.1, .inl (u.2.2.2.2.2.1, 4, .inl (fun _ => 0))), (u.2.2.2.1, .inl (u.2.2.2.2.2.2, 4, .inl (fun _ => 0)))] t.heap ∧ va_D (va_A [(h0, .inr (6, [.null, .int 0]))] sz) [(h0, .inr (6, [.ref u.1, .int 0])), (u.1, .inr (0, [.ref u.2.1, .ref u.2.2.1, .ref u.2.2.2.1, .int 0])), (u.2.1, .inl (u.2.2.2.2.1, 4, .inl (fun _ => 0))), (u.2.2.1, .inl (u.2.2.2.2.2.1, 4, .inl (fun _ => 0))), (u.2.2.2.1, .inl (u.2.2.2.2.2.2, 4, .inl (fun _ => 0)))] ∧ va_K D vwCl [(u.2.2.2.2.1, .int), (u.2.2.2.2.2.1, .int), (u.2.2.2.2.2.2, .int)] t) (va_A [(h0, .inr (6, [.null, .int 0]))] sz)) 4 16 (va_A [(h0, .inr (6, [.null, .int 0]))] sz) := by
  refine Met.ofW (cc := cX6_init) (maxL := 1) (ret := none) (by decide) rfl ?_
  intro p e s m args below meth c s₁ B hml hv
  obtain ⟨rfl, hsz, hP, hK, hD0, hN⟩ := hv
  have hx := B.exec
  have hb := B.bytes
  have hr := B.returns
  have hts := atoms_spec (ws := wsX6_init) B.pre
  have hown : s.vm.findClass RX6 = some m.cls := findClass_of_methodNamed B.named
  have hlocks := B.notSynchronized
  have hin : meth.name = "<init>" := (name_of_methodNamed B.named B.method).1
  subst hsz
  have hD := hD0.self (sz := s.heap.size)
  generalize hAe : va_A [(h0, .inr (6, [.null, .int 0]))] s.heap.size = A at hD ⊢
  have hA : ∀ q : Nat, s.heap.size ≤ q → A q := fun q h => by rw [← hAe]; exact Or.inr h
  have hS : va_S A s.heap s.heap [] := va_S.rf
  have hP : va_P D vwCl [(h0, .inr (6, [.null, .int 0]))] s.heap := hP
  have hl := lv_entry ([.ref h0]) (n := 1) (Nat.le_of_ble_eq_true rfl)
  rw [lg_entry_eq]
  generalize (lg_sl ([.ref h0]) ++ List.replicate (1 - (lg_sl ([.ref h0])).length) Slot.unset).toArray = ls at hl ⊢
  have hl : lv_has ls 1 [(0, .ref h0)] := hl
  refine lv_aload_n hx hb dX6_init_0 rfl (lv_at hl 0 rfl) ?_
  refine W.objInit hx hb hown (hts (.methodLink RX6 3 objectInit) (by decide +kernel)) (hts (.instanceMethod objectInit) (by decide +kernel)) (hts (.code objectInit ⟨#[0xb1]⟩ 1 none) (by decide +kernel)) rfl (by rw [hml]; exact hl.1) rfl dX6_init_1 (Nat.le_of_ble_eq_true rfl) (Nat.le_of_ble_eq_true rfl) ?_
  refine W.eq (g2 := F0 m 4 ls []) rfl ?_
  refine lv_aload_n hx hb dX6_init_4 rfl (lv_at hl 0 rfl) ?_
  refine va_new (ci := 0) (fs := [.null, .null, .null, .int 0]) (C := RX0) (T := TX0) (N := 4) hx hb hts (fun _ h9 => List.mem_cons_of_mem _ (List.mem_append_left _ (List.mem_append_right _ h9))) tyX0 tyX0_ok hown (hts (.classLink RX6 9 RX0) (by decide +kernel)) (hts (.instantiable RX0 4) (by decide +kernel)) (hts (.initialized RX0) (by decide +kernel)) hK hP hD hS hA rfl (by decide +kernel) (Nat.le_of_ble_eq_true rfl) (Nat.le_of_ble_eq_true rfl) dX6_init_5 (fun o_1 H hP hD hS => ?_)
  have hP : va_P D vwCl [(h0, .inr (6, [.null, .int 0])), (o_1, .inr (0, [.null, .null, .null, .int 0]))] H := hP
  have hD : va_D A [(h0, .inr (6, [.null, .int 0])), (o_1, .inr (0, [.null, .null, .null, .int 0]))] := hD
  refine lv_dup hx hb dX6_init_8 rfl ?_
  have hFc := va_free (wc := [(o_1, .inr (0, [.null, .null, .null, .int 0]))]) hD hS hA [1] rfl
  refine va_callv (va_runIN (As := []) (rest := [.ref o_1, .ref h0]) ⟨hx, hb, hml, hown, hts⟩ (c_X0_init l D H.size (h0 := o_1)) (⟨va_cnB 0 hts gX6_init_X0_init_n11 rfl rfl rfl (hN.1 (RX6, 11, yX0_init) (by decide +kernel)) (hts (.initialized RX0) (by decide +kernel)) (by decide +kernel) ⟨Nat.le_of_ble_eq_true rfl, Nat.le_of_ble_eq_true rfl⟩, rfl, (hts (.instanceMethod yX0_init) (by decide +kernel))⟩) (kPreS hP (kD0 hD) hK hN [1] [] rfl rfl (by decide)) rfl rfl hl.1 rfl (lv_room (Nat.le_of_ble_eq_true rfl)) dX6_init_9 ⟨Nat.le_of_ble_eq_true rfl, Nat.le_of_ble_eq_true rfl⟩) hS (fun q _ h => hFc q h) hFc (fun u t H1 locs ht hvm hw hB hz1 hk1 hS => ?_)
  obtain ⟨k1_2, k2_3, k3_4, ck1_5, ck2_6, ck3_7⟩ := u
  obtain ⟨hP1, hD1, hK1⟩ := hB
  rw [ht] at hP1
  obtain ⟨hP, hD⟩ := va_join (wr := [(h0, .inr (6, [.null, .int 0]))]) (w1 := [(o_1, .inr (0, [.ref k1_2, .ref k2_3, .ref k3_4, .int 0])), (k1_2, .inl (ck1_5, 4, .inl (fun _ => 0))), (k2_3, .inl (ck2_6, 4, .inl (fun _ => 0))), (k3_4, .inl (ck3_7, 4, .inl (fun _ => 0)))]) hP hD [1] [0] rfl rfl (by decide) (by decide) hk1 hFc hP1 hD1
  have hK : va_K D vwCl [(ck1_5, .int), (ck2_6, .int), (ck3_7, .int)] s := hK.app (va_K.moved hvm.symm hK1)
  generalize H1 = H at hP hS ⊢
  have hP : va_P D vwCl [(h0, .inr (6, [.null, .int 0])), (o_1, .inr (0, [.ref k1_2, .ref k2_3, .ref k3_4, .int 0])), (k1_2, .inl (ck1_5, 4, .inl (fun _ => 0))), (k2_3, .inl (ck2_6, 4, .inl (fun _ => 0))), (k3_4, .inl (ck3_7, 4, .inl (fun _ => 0)))] H := hP
  have hD : va_D A [(h0, .inr (6, [.null, .int 0])), (o_1, .inr (0, [.ref k1_2, .ref k2_3, .ref k3_4, .int 0])), (k1_2, .inl (ck1_5, 4, .inl (fun _ => 0))), (k2_3, .inl (ck2_6, 4, .inl (fun _ => 0))), (k3_4, .inl (ck3_7, 4, .inl (fun _ => 0)))] := hD
  refine va_putF (D := D) (ci := 6) (v := .ref o_1) (ty := .object "FontRuns$FontRow") (C := RX6) (T := TX6) (N := 2) hx hb hts (fun _ h9 => List.mem_cons_of_mem _ (List.mem_append_right _ h9)) tyX6 tyX6_ok nmX6 hown hK hP hD hS 0 rfl rfl 0 (by decide) (hts (.fieldLink RX6 12 "FontRuns$TextReader" "told" "LFontRuns$FontRow;") (by decide +kernel)) (fun _ h9 => h9) rfl hin rfl (by decide +kernel) rfl rfl (Nat.le_of_ble_eq_true rfl) dX6_init_12 (fun H locs hP hD hS => ?_)
  have hP : va_P D vwCl [(h0, .inr (6, [.ref o_1, .int 0])), (o_1, .inr (0, [.ref k1_2, .ref k2_3, .ref k3_4, .int 0])), (k1_2, .inl (ck1_5, 4, .inl (fun _ => 0))), (k2_3, .inl (ck2_6, 4, .inl (fun _ => 0))), (k3_4, .inl (ck3_7, 4, .inl (fun _ => 0)))] H := hP
  have hD : va_D A [(h0, .inr (6, [.ref o_1, .int 0])), (o_1, .inr (0, [.ref k1_2, .ref k2_3, .ref k3_4, .int 0])), (k1_2, .inl (ck1_5, 4, .inl (fun _ => 0))), (k2_3, .inl (ck2_6, 4, .inl (fun _ => 0))), (k3_4, .inl (ck3_7, 4, .inl (fun _ => 0)))] := hD
  refine W.widen (k := 4) (n := 16) (Nat.le_of_ble_eq_true rfl) (Nat.le_of_ble_eq_true rfl) ?_
  have hP9 := hP.sub (ws' := [(h0, .inr (6, [.ref o_1, .int 0])), (o_1, .inr (0, [.ref k1_2, .ref k2_3, .ref k3_4, .int 0])), (k1_2, .inl (ck1_5, 4, .inl (fun _ => 0))), (k2_3, .inl (ck2_6, 4, .inl (fun _ => 0))), (k3_4, .inl (ck3_7, 4, .inl (fun _ => 0)))]) [0, 1, 2, 3, 4] rfl
  have hD9 := hD.sub (ws' := [(h0, .inr (6, [.ref o_1, .int 0])), (o_1, .inr (0, [.ref k1_2, .ref k2_3, .ref k3_4, .int 0])), (k1_2, .inl (ck1_5, 4, .inl (fun _ => 0))), (k2_3, .inl (ck2_6, 4, .inl (fun _ => 0))), (k3_4, .inl (ck3_7, 4, .inl (fun _ => 0)))]) [0, 1, 2, 3, 4] (by decide) rfl
  have hK9 := hK.sub (tys' := [(ck1_5, .int), (ck2_6, .int), (ck3_7, .int)]) [0, 1, 2] rfl
  exact W.vret hx hb hr (fun t ht hW => ⟨⟨(o_1, k1_2, k2_3, k3_4, ck1_5, ck2_6, ck3_7), rfl, trivial, by rw [ht]; exact hP9, hD9, va_K.moved hW.alike hK9⟩, hS.F ht⟩) hS.2.2 dX6_init_15
theorem dX2_init_0 : decode cX2_init 0 = .ok (.aload_n 0, 1) := kqo_2a kbl_X2_init (pc := 0) rfl
theorem dX2_init_1 : decode cX2_init 1 = .ok (.invokespecial 3, 3) := kqo_b7 (x1 := 0) (x2 := 3) kbl_X2_init (pc := 1) rfl rfl
theorem dX2_init_4 : decode cX2_init 4 = .ok (.aload_n 0, 1) := kqo_2a kbl_X2_init (pc := 4) rfl
theorem dX2_init_5 : decode cX2_init 5 = .ok (.bipush 8, 2) := kqo_10 (x1 := 8) kbl_X2_init (pc := 5) rfl rfl
theorem dX2_init_7 : decode cX2_init 7 = .ok (.newarray .int, 2) := by decide +kernel
theorem dX2_init_9 : decode cX2_init 9 = .ok (.putfield 9, 3) := kqo_b5 (x1 := 0) (x2 := 9) kbl_X2_init (pc := 9) rfl rfl
theorem dX2_init_12 : decode cX2_init 12 = .ok (.aload_n 0, 1) := kqo_2a kbl_X2_init (pc := 12) rfl
theorem dX2_init_13 : decode cX2_init 13 = .ok (.bipush 8, 2) := kqo_10 (x1 := 8) kbl_X2_init (pc := 13) rfl rfl
theorem dX2_init_15 : decode cX2_init 15 = .ok (.iconst 4, 1) := kqo_07 kbl_X2_init (pc := 15) rfl
theorem dX2_init_16 : decode cX2_init 16 = .ok (.multianewarray 15 2, 4) := by decide +kernel
theorem dX2_init_20 : decode cX2_init 20 = .ok (.putfield 17, 3) := kqo_b5 (x1 := 0) (x2 := 17) kbl_X2_init (pc := 20) rfl rfl
theorem dX2_init_23 : decode cX2_init 23 = .ok (.return_, 1) := kqo_b1 kbl_X2_init (pc := 23) rfl
set_option maxHeartbeats 4000000 in
set_option maxRecDepth 100000 in
theorem c_X2_init (l : Launch) (D : va_G) (sz : Nat) (h0 : Nat) : Met l yX2_init wsX2_init ({ frames := 1, cells := 10, slots := 48, locals := 20 }) (kPre [.ref h0] D [(h0, .inr (2, [.int 0, .null, .null]))] [] sz) (va_Qv (fun (_ : Nat × Nat × ClassId × ClassId × (Nat → Nat)) => True) (fun u t => va_P D vwCl (([(h0, .inr (2, [.int 0, .ref u.1, .ref u.2.1])), (u.1, .inl (u.2.2.1, 8, .inl (fun _ => 0))), (u.2.1, .inl (u.2.2.2.1, 8, .inr (.inr (.inr (.inr (fun i => if i < 8 then some (u.2.2.2.2 i) else none))))))] : va_W) ++ kR 8 u.2.2.2.2 u.2.2.1) t.heap ∧ va_D (va_A [(h0, .inr (2, [.int 0, .null, .null]))] sz) (([(h0, .inr (2, [.int 0, .ref u.1, .ref u.2.1])), (u.1, .inl (u.2.2.1, 8, .inl (fun _ => 0))), (u.2.1, .inl (u.2.2.2.1, 8, .inr (.inr (.inr (.inr (fun i => if i < 8 then some (u.2.2.2.2 i) else none))))))] : va_W) ++ kR 8 u.2.2.2.2 u.2.2.1) ∧ va_K D vwCl [(u.2.2.1, .int), (u.2.2.2.1, .array .int)] t) (va_A [(h0, .inr (2, [.int 0, .null, .null]))] sz)) 10 48 (va_A [(h0, .inr (2, [.int 0, .null, .null]))] sz) := by
  refine Met.ofW (cc := cX2_init) (maxL := 1) (ret := none) (by decide) rfl ?_
  intro p e s m args below meth c s₁ B hml hv
  obtain ⟨rfl, hsz, hP, hK, hD0, hN⟩ := hv
  have hx := B.exec
  have hb := B.bytes
  have hr := B.returns
  have hts := atoms_spec (ws := wsX2_init) B.pre
  have hown : s.vm.findClass RX2 = some m.cls := findClass_of_methodNamed B.named
  have hlocks := B.notSynchronized
  have hin : meth.name = "<init>" := (name_of_methodNamed B.named B.method).1
  subst hsz
  have hD := hD0.self (sz := s.heap.size)
  generalize hAe : va_A [(h0, .inr (2, [.int 0, .null, .null]))] s.heap.size = A at hD ⊢
  have hA : ∀ q : Nat, s.heap.size ≤ q → A q := fun q h => by rw [← hAe]; exact Or.inr h
  have hS : va_S A s.heap s.heap [] := va_S.rf
  have hP : va_P D vwCl [(h0, .inr (2, [.int 0, .null, .null]))] s.heap := hP
  have hl := lv_entry ([.ref h0]) (n := 1) (Nat.le_of_ble_eq_true rfl)
  rw [lg_entry_eq]
  generalize (lg_sl ([.ref h0]) ++ List.replicate (1 - (lg_sl ([.ref h0])).length) Slot.unset).toArray = ls at hl ⊢
  have hl : lv_has ls 1 [(0, .ref h0)] := hl
  refine lv_aload_n hx hb dX2_init_0 rfl (lv_at hl 0 rfl) ?_
  refine W.objInit hx hb hown (hts (.methodLink RX2 3 objectInit) (by decide +kernel)) (hts (.instanceMethod objectInit) (by decide +kernel)) (hts (.code objectInit ⟨#[0xb1]⟩ 1 none) (by decide +kernel)) rfl (by rw [hml]; exact hl.1) rfl dX2_init_1 (Nat.le_of_ble_eq_true rfl) (Nat.le_of_ble_eq_true rfl) ?_
  refine W.eq (g2 := F0 m 4 ls []) rfl ?_
  refine lv_aload_n hx hb dX2_init_4 rfl (lv_at hl 0 rfl) ?_
  refine lv_bipush (v := 8) hx hb dX2_init_5 (by decide) ?_
  refine va_newa (atype := .int) (ty := .int) (a0 := (8, .inl (fun _ => 0))) (N' := 8) hx hb (hts (.arrayClass .int) (by decide +kernel)) rfl hK hP hD hS hA (fun _ => rfl) (by decide) (by decide) (Nat.le_of_ble_eq_true rfl) (Nat.le_of_ble_eq_true rfl) (Nat.le_of_ble_eq_true rfl) dX2_init_7 (fun a_1 cA_2 H hK hP hD hS => ?_)
  have hK : va_K D vwCl [(cA_2, .int)] s := hK
  have hP : va_P D vwCl [(h0, .inr (2, [.int 0, .null, .null])), (a_1, .inl (cA_2, 8, .inl (fun _ => 0)))] H := hP
  have hD : va_D A [(h0, .inr (2, [.int 0, .null, .null])), (a_1, .inl (cA_2, 8, .inl (fun _ => 0)))] := hD
  refine va_putF (D := D) (ci := 2) (v := .ref a_1) (ty := .array .int) (C := RX2) (T := TX2) (N := 3) hx hb hts (fun _ h9 => List.mem_cons_of_mem _ (List.mem_append_right _ h9)) tyX2 tyX2_ok nmX2 hown hK hP hD hS 0 rfl rfl 1 (by decide) (hts (.fieldLink RX2 9 "FontRuns$Readings" "value" "[I") (by decide +kernel)) (fun _ h9 => h9) rfl hin rfl (by decide +kernel) rfl rfl (Nat.le_of_ble_eq_true rfl) dX2_init_9 (fun H locs hP hD hS => ?_)
  have hP : va_P D vwCl [(h0, .inr (2, [.int 0, .ref a_1, .null])), (a_1, .inl (cA_2, 8, .inl (fun _ => 0)))] H := hP
  have hD : va_D A [(h0, .inr (2, [.int 0, .ref a_1, .null])), (a_1, .inl (cA_2, 8, .inl (fun _ => 0)))] := hD
  refine lv_aload_n hx hb dX2_init_12 rfl (lv_at hl 0 rfl) ?_
  refine lv_bipush (v := 8) hx hb dX2_init_13 (by decide) ?_
  refine lv_iconst (v := 4) hx hb dX2_init_15 (by decide) ?_
  obtain ⟨cy, hcy⟩ := hN.2.2.2
  have ecy : cA_2 = cy := kcy hK hcy 0 rfl
  subst ecy
  refine va_mna (X := [(h0, .inr (2, [.int 0, .ref a_1, .null])), (a_1, .inl (cA_2, 8, .inl (fun _ => 0)))]) (L := []) (f := fun _ => .inr (0, [])) (ty := .int) (cy := cA_2) (N' := 8) (K' := 4) (z := (4, .inl (fun _ => 0))) hx hb hown (show (Cond.classLink RX2 15 ("[" ++ (FieldType.array .int).toString)).before _ s = true from hts _ (by decide +kernel)) hN.2.2.1 (hts (.arrayClass .int) (by decide +kernel)) hcy hK hP hD hS hA (by decide) (by decide) (by decide) (by decide) (Nat.le_of_ble_eq_true rfl) (Nat.le_of_ble_eq_true rfl) (Nat.le_of_ble_eq_true rfl) rfl rfl (Nat.le_of_ble_eq_true rfl) (Nat.le_of_ble_eq_true rfl) (fun c9 => kinner c9 4) dX2_init_16 (fun a_3 r_5 cA_4 H _ _ hK hP hD hS => ?_)
  rw [kpl] at hP hD
  have hK : va_K D vwCl [(cA_2, .int), (cA_4, .array .int)] s := hK
  have hP : va_P D vwCl (([(h0, .inr (2, [.int 0, .ref a_1, .null])), (a_1, .inl (cA_2, 8, .inl (fun _ => 0))), (a_3, .inl (cA_4, 8, .inr (.inr (.inr (.inr (fun i => if i < 8 then some (r_5 i) else none))))))] : va_W) ++ kR 8 r_5 cA_2) H := hP
  have hD : va_D A (([(h0, .inr (2, [.int 0, .ref a_1, .null])), (a_1, .inl (cA_2, 8, .inl (fun _ => 0))), (a_3, .inl (cA_4, 8, .inr (.inr (.inr (.inr (fun i => if i < 8 then some (r_5 i) else none))))))] : va_W) ++ kR 8 r_5 cA_2) := hD
  refine va_putF (D := D) (ci := 2) (v := .ref a_3) (ty := .array (.array .int)) (C := RX2) (T := TX2) (N := 3) hx hb hts (fun _ h9 => List.mem_cons_of_mem _ (List.mem_append_right _ h9)) tyX2 tyX2_ok nmX2 hown hK hP hD hS 0 rfl rfl 2 (by decide) (hts (.fieldLink RX2 17 "FontRuns$Readings" "clusters" "[[I") (by decide +kernel)) (fun _ h9 => h9) rfl hin rfl (by decide +kernel) rfl rfl (Nat.le_of_ble_eq_true rfl) dX2_init_20 (fun H locs hP hD hS => ?_)
  have hP : va_P D vwCl (([(h0, .inr (2, [.int 0, .ref a_1, .ref a_3])), (a_1, .inl (cA_2, 8, .inl (fun _ => 0))), (a_3, .inl (cA_4, 8, .inr (.inr (.inr (.inr (fun i => if i < 8 then some (r_5 i) else none))))))] : va_W) ++ kR 8 r_5 cA_2) H := hP
  have hD : va_D A (([(h0, .inr (2, [.int 0, .ref a_1, .ref a_3])), (a_1, .inl (cA_2, 8, .inl (fun _ => 0))), (a_3, .inl (cA_4, 8, .inr (.inr (.inr (.inr (fun i => if i < 8 then some (r_5 i) else none))))))] : va_W) ++ kR 8 r_5 cA_2) := hD
  refine W.widen (k := 10) (n := 48) (Nat.le_of_ble_eq_true rfl) (Nat.le_of_ble_eq_true rfl) ?_
  have hP9 : va_P D vwCl (([(h0, .inr (2, [.int 0, .ref a_1, .ref a_3])), (a_1, .inl (cA_2, 8, .inl (fun _ => 0))), (a_3, .inl (cA_4, 8, .inr (.inr (.inr (.inr (fun i => if i < 8 then some (r_5 i) else none))))))] : va_W) ++ kR 8 r_5 cA_2) H := hP.part [0, 1, 2] rfl
  have hD9 : va_D A (([(h0, .inr (2, [.int 0, .ref a_1, .ref a_3])), (a_1, .inl (cA_2, 8, .inl (fun _ => 0))), (a_3, .inl (cA_4, 8, .inr (.inr (.inr (.inr (fun i => if i < 8 then some (r_5 i) else none))))))] : va_W) ++ kR 8 r_5 cA_2) := hD.part [0, 1, 2] (by decide) rfl
  have hK9 := hK.sub (tys' := [(cA_2, .int), (cA_4, .array .int)]) [0, 1] rfl
  exact W.vret hx hb hr (fun t ht hW => ⟨⟨(a_1, a_3, cA_2, cA_4, r_5), rfl, trivial, by rw [ht]; exact hP9, hD9, va_K.moved hW.alike hK9⟩, hS.F ht⟩) hS.2.2 dX2_init_23
theorem dX4_init_0 : decode cX4_init 0 = .ok (.aload_n 0, 1) := kqo_2a kbl_X4_init (pc := 0) rfl
theorem dX4_init_1 : decode cX4_init 1 = .ok (.invokespecial 3, 3) := kqo_b7 (x1 := 0) (x2 := 3) kbl_X4_init (pc := 1) rfl rfl
theorem dX4_init_4 : decode cX4_init 4 = .ok (.aload_n 0, 1) := kqo_2a kbl_X4_init (pc := 4) rfl
theorem dX4_init_5 : decode cX4_init 5 = .ok (.bipush 24, 2) := kqo_10 (x1 := 24) kbl_X4_init (pc := 5) rfl rfl
theorem dX4_init_7 : decode cX4_init 7 = .ok (.newarray .int, 2) := by decide +kernel
theorem dX4_init_9 : decode cX4_init 9 = .ok (.putfield 9, 3) := kqo_b5 (x1 := 0) (x2 := 9) kbl_X4_init (pc := 9) rfl rfl
theorem dX4_init_12 : decode cX4_init 12 = .ok (.aload_n 0, 1) := kqo_2a kbl_X4_init (pc := 12) rfl
theorem dX4_init_13 : decode cX4_init 13 = .ok (.bipush 24, 2) := kqo_10 (x1 := 24) kbl_X4_init (pc := 13) rfl rfl
theorem dX4_init_15 : decode cX4_init 15 = .ok (.newarray .int, 2) := by decide +kernel
theorem dX4_init_17 : decode cX4_init 17 = .ok (.putfield 15, 3) := kqo_b5 (x1 := 0) (x2 := 15) kbl_X4_init (pc := 17) rfl rfl
theorem dX4_init_20 : decode cX4_init 20 = .ok (.aload_n 0, 1) := kqo_2a kbl_X4_init (pc := 20) rfl
theorem dX4_init_21 : decode cX4_init 21 = .ok (.bipush 24, 2) := kqo_10 (x1 := 24) kbl_X4_init (pc := 21) rfl rfl
theorem dX4_init_23 : decode cX4_init 23 = .ok (.newarray .int, 2) := by decide +kernel
theorem dX4_init_25 : decode cX4_init 25 = .ok (.putfield 18, 3) := kqo_b5 (x1 := 0) (x2 := 18) kbl_X4_init (pc := 25) rfl rfl
theorem dX4_init_28 : decode cX4_init 28 = .ok (.aload_n 0, 1) := kqo_2a kbl_X4_init (pc := 28) rfl
theorem dX4_init_29 : decode cX4_init 29 = .ok (.bipush 24, 2) := kqo_10 (x1 := 24) kbl_X4_init (pc := 29) rfl rfl
theorem dX4_init_31 : decode cX4_init 31 = .ok (.newarray .int, 2) := by decide +kernel
theorem dX4_init_33 : decode cX4_init 33 = .ok (.putfield 21, 3) := kqo_b5 (x1 := 0) (x2 := 21) kbl_X4_init (pc := 33) rfl rfl
theorem dX4_init_36 : decode cX4_init 36 = .ok (.aload_n 0, 1) := kqo_2a kbl_X4_init (pc := 36) rfl
theorem dX4_init_37 : decode cX4_init 37 = .ok (.bipush 24, 2) := kqo_10 (x1 := 24) kbl_X4_init (pc := 37) rfl rfl
theorem dX4_init_39 : decode cX4_init 39 = .ok (.newarray .int, 2) := by decide +kernel
theorem dX4_init_41 : decode cX4_init 41 = .ok (.putfield 24, 3) := kqo_b5 (x1 := 0) (x2 := 24) kbl_X4_init (pc := 41) rfl rfl
theorem dX4_init_44 : decode cX4_init 44 = .ok (.aload_n 0, 1) := kqo_2a kbl_X4_init (pc := 44) rfl
theorem dX4_init_45 : decode cX4_init 45 = .ok (.bipush 24, 2) := kqo_10 (x1 := 24) kbl_X4_init (pc := 45) rfl rfl
theorem dX4_init_47 : decode cX4_init 47 = .ok (.newarray .int, 2) := by decide +kernel
theorem dX4_init_49 : decode cX4_init 49 = .ok (.putfield 27, 3) := kqo_b5 (x1 := 0) (x2 := 27) kbl_X4_init (pc := 49) rfl rfl
theorem dX4_init_52 : decode cX4_init 52 = .ok (.aload_n 0, 1) := kqo_2a kbl_X4_init (pc := 52) rfl
theorem dX4_init_53 : decode cX4_init 53 = .ok (.bipush 24, 2) := kqo_10 (x1 := 24) kbl_X4_init (pc := 53) rfl rfl
theorem dX4_init_55 : decode cX4_init 55 = .ok (.iconst 4, 1) := kqo_07 kbl_X4_init (pc := 55) rfl
theorem dX4_init_56 : decode cX4_init 56 = .ok (.multianewarray 30 2, 4) := by decide +kernel
theorem dX4_init_60 : decode cX4_init 60 = .ok (.putfield 32, 3) := kqo_b5 (x1 := 0) (x2 := 32) kbl_X4_init (pc := 60) rfl rfl
theorem dX4_init_63 : decode cX4_init 63 = .ok (.return_, 1) := kqo_b1 kbl_X4_init (pc := 63) rfl
set_option maxHeartbeats 4000000 in
set_option maxRecDepth 100000 in
theorem c_X4_init (l : Launch) (D : va_G) (sz : Nat) (h0 : Nat) : Met l yX4_init wsX4_init ({ frames := 1, cells := 31, slots := 264, locals := 20 }) (kPre [.ref h0] D [(h0, .inr (4, [.null, .null, .null, .null, .null, .int 0, .int 0, .int 0, .null, .null]))] [] sz) (va_Qv (fun (_ : Nat × Nat × Nat × Nat × Nat × Nat × Nat × ClassId × ClassId × ClassId × ClassId × ClassId × ClassId × ClassId × (Nat → Nat)) => True) (fun u t => va_P D vwCl (([(h0, .inr (4, [.ref u.1, .ref u.2.1, .ref u.2.2.1, .ref u.2.2.2.1, .ref u.2.2.2.2.1, .int 0, .int 0, .int 0, .ref u.2.2.2.2.2.1, .ref u.2.2.2.2.2.2.1])), (u.1, .inl (u.2.2.2.2.2.2.2.1, 24, .inl (fun _ => 0))), (u.2.1, .inl (u.2.2.2.2.2.2.2.2.1, 24, .inl (fun _ => 0))), (u.2.2.1, .inl (u.2.2.2.2.2.2.2.2.2.1, 24, .inl (fun _ => 0))), (u.2.2.2.1, .inl (u.2.2.2.2.2.2.2.2.2.2.1, 24, .inl (fun _ => 0))), (u.2.2.2.2.1, .inl (u.2.2.2.2.2.2.2.2.2.2.2.1, 24, .inl (fun _ => 0))), (u.2.2.2.2.2.1, .inl (u.2.2.2.2.2.2.2.2.2.2.2.2.1, 24, .inl (fun _ => 0))), (u.2.2.2.2.2.2.1, .inl (u.2.2.2.2.2.2.2.2.2.2.2.2.2.1, 24, .inr (.inr (.inr (.inr (fun i => if i < 24 then some (u.2.2.2.2.2.2.2.2.2.2.2.2.2.2 i) else none))))))] : va_W) ++ kR 24 u.2.2.2.2.2.2.2.2.2.2.2.2.2.2 u.2.2.2.2.2.2.2.1) t.heap ∧ va_D (va_A [(h0, .inr (4, [.null, .null, .null, .null, .null, .int 0, .int 0, .int 0, .null, .null]))] sz) (([(h0, .inr (4, [.ref u.1, .ref u.2.1, .ref u.2.2.1, .ref u.2.2.2.1, .ref u.2.2.2.2.1, .int 0, .int 0, .int 0, .ref u.2.2.2.2.2.1, .ref u.2.2.2.2.2.2.1])), (u.1, .inl (u.2.2.2.2.2.2.2.1, 24, .inl (fun _ => 0))), (u.2.1, .inl (u.2.2.2.2.2.2.2.2.1, 24, .inl (fun _ => 0))), (u.2.2.1, .inl (u.2.2.2.2.2.2.2.2.2.1, 24, .inl (fun _ => 0))), (u.2.2.2.1, .inl (u.2.2.2.2.2.2.2.2.2.2.1, 24, .inl (fun _ => 0))), (u.2.2.2.2.1, .inl (u.2.2.2.2.2.2.2.2.2.2.2.1, 24, .inl (fun _ => 0))), (u.2.2.2.2.2.1, .inl (u.2.2.2.2.2.2.2.2.2.2.2.2.1, 24, .inl (fun _ => 0))), (u.2.2.2.2.2.2.1, .inl (u.2.2.2.2.2.2.2.2.2.2.2.2.2.1, 24, .inr (.inr (.inr (.inr (fun i => if i < 24 then some (u.2.2.2.2.2.2.2.2.2.2.2.2.2.2 i) else none))))))] : va_W) ++ kR 24 u.2.2.2.2.2.2.2.2.2.2.2.2.2.2 u.2.2.2.2.2.2.2.1) ∧ va_K D vwCl [(u.2.2.2.2.2.2.2.1, .int), (u.2.2.2.2.2.2.2.2.1, .int), (u.2.2.2.2.2.2.2.2.2.1, .int), (u.2.2.2.2.2.2.2.2.2.2.1, .int), (u.2.2.2.2.2.2.2.2.2.2.2.1, .int), (u.2.2.2.2.2.2.2.2.2.2.2.2.1, .int), (u.2.2.2.2.2.2.2.2.2.2.2.2.2.1, .array .int)] t) (va_A [(h0, .inr (4, [.null, .null, .null, .null, .null, .int 0, .int 0, .int 0, .null, .null]))] sz)) 31 264 (va_A [(h0, .inr (4, [.null, .null, .null, .null, .null, .int 0, .int 0, .int 0, .null, .null]))] sz) := by
  refine Met.ofW (cc := cX4_init) (maxL := 1) (ret := none) (by decide) rfl ?_
  intro p e s m args below meth c s₁ B hml hv
  obtain ⟨rfl, hsz, hP, hK, hD0, hN⟩ := hv
  have hx := B.exec
  have hb := B.bytes
  have hr := B.returns
  have hts := atoms_spec (ws := wsX4_init) B.pre
  have hown : s.vm.findClass RX4 = some m.cls := findClass_of_methodNamed B.named
  have hlocks := B.notSynchronized
  have hin : meth.name = "<init>" := (name_of_methodNamed B.named B.method).1
  subst hsz
  have hD := hD0.self (sz := s.heap.size)
  generalize hAe : va_A [(h0, .inr (4, [.null, .null, .null, .null, .null, .int 0, .int 0, .int 0, .null, .null]))] s.heap.size = A at hD ⊢
  have hA : ∀ q : Nat, s.heap.size ≤ q → A q := fun q h => by rw [← hAe]; exact Or.inr h
  have hS : va_S A s.heap s.heap [] := va_S.rf
  have hP : va_P D vwCl [(h0, .inr (4, [.null, .null, .null, .null, .null, .int 0, .int 0, .int 0, .null, .null]))] s.heap := hP
  have hl := lv_entry ([.ref h0]) (n := 1) (Nat.le_of_ble_eq_true rfl)
  rw [lg_entry_eq]
  generalize (lg_sl ([.ref h0]) ++ List.replicate (1 - (lg_sl ([.ref h0])).length) Slot.unset).toArray = ls at hl ⊢
  have hl : lv_has ls 1 [(0, .ref h0)] := hl
  refine lv_aload_n hx hb dX4_init_0 rfl (lv_at hl 0 rfl) ?_
  refine W.objInit hx hb hown (hts (.methodLink RX4 3 objectInit) (by decide +kernel)) (hts (.instanceMethod objectInit) (by decide +kernel)) (hts (.code objectInit ⟨#[0xb1]⟩ 1 none) (by decide +kernel)) rfl (by rw [hml]; exact hl.1) rfl dX4_init_1 (Nat.le_of_ble_eq_true rfl) (Nat.le_of_ble_eq_true rfl) ?_
  refine W.eq (g2 := F0 m 4 ls []) rfl ?_
  refine lv_aload_n hx hb dX4_init_4 rfl (lv_at hl 0 rfl) ?_
  refine lv_bipush (v := 24) hx hb dX4_init_5 (by decide) ?_
  refine va_newa (atype := .int) (ty := .int) (a0 := (24, .inl (fun _ => 0))) (N' := 24) hx hb (hts (.arrayClass .int) (by decide +kernel)) rfl hK hP hD hS hA (fun _ => rfl) (by decide) (by decide) (Nat.le_of_ble_eq_true rfl) (Nat.le_of_ble_eq_true rfl) (Nat.le_of_ble_eq_true rfl) dX4_init_7 (fun a_1 cA_2 H hK hP hD hS => ?_)
  have hK : va_K D vwCl [(cA_2, .int)] s := hK
  have hP : va_P D vwCl [(h0, .inr (4, [.null, .null, .null, .null, .null, .int 0, .int 0, .int 0, .null, .null])), (a_1, .inl (cA_2, 24, .inl (fun _ => 0)))] H := hP
  have hD : va_D A [(h0, .inr (4, [.null, .null, .null, .null, .null, .int 0, .int 0, .int 0, .null, .null])), (a_1, .inl (cA_2, 24, .inl (fun _ => 0)))] := hD
  refine va_putF (D := D) (ci := 4) (v := .ref a_1) (ty := .array .int) (C := RX4) (T := TX4) (N := 10) hx hb hts (fun _ h9 => List.mem_cons_of_mem _ (List.mem_append_right _ h9)) tyX4 tyX4_ok nmX4 hown hK hP hD hS 0 rfl rfl 0 (by decide) (hts (.fieldLink RX4 9 "FontRuns$Setting" "first" "[I") (by decide +kernel)) (fun _ h9 => h9) rfl hin rfl (by decide +kernel) rfl rfl (Nat.le_of_ble_eq_true rfl) dX4_init_9 (fun H locs hP hD hS => ?_)
  have hP : va_P D vwCl [(h0, .inr (4, [.ref a_1, .null, .null, .null, .null, .int 0, .int 0, .int 0, .null, .null])), (a_1, .inl (cA_2, 24, .inl (fun _ => 0)))] H := hP
  have hD : va_D A [(h0, .inr (4, [.ref a_1, .null, .null, .null, .null, .int 0, .int 0, .int 0, .null, .null])), (a_1, .inl (cA_2, 24, .inl (fun _ => 0)))] := hD
  refine lv_aload_n hx hb dX4_init_12 rfl (lv_at hl 0 rfl) ?_
  refine lv_bipush (v := 24) hx hb dX4_init_13 (by decide) ?_
  refine va_newa (atype := .int) (ty := .int) (a0 := (24, .inl (fun _ => 0))) (N' := 24) hx hb (hts (.arrayClass .int) (by decide +kernel)) rfl hK hP hD hS hA (fun _ => rfl) (by decide) (by decide) (Nat.le_of_ble_eq_true rfl) (Nat.le_of_ble_eq_true rfl) (Nat.le_of_ble_eq_true rfl) dX4_init_15 (fun a_3 cA_4 H hK hP hD hS => ?_)
  have hK : va_K D vwCl [(cA_2, .int), (cA_4, .int)] s := hK
  have hP : va_P D vwCl [(h0, .inr (4, [.ref a_1, .null, .null, .null, .null, .int 0, .int 0, .int 0, .null, .null])), (a_1, .inl (cA_2, 24, .inl (fun _ => 0))), (a_3, .inl (cA_4, 24, .inl (fun _ => 0)))] H := hP
  have hD : va_D A [(h0, .inr (4, [.ref a_1, .null, .null, .null, .null, .int 0, .int 0, .int 0, .null, .null])), (a_1, .inl (cA_2, 24, .inl (fun _ => 0))), (a_3, .inl (cA_4, 24, .inl (fun _ => 0)))] := hD
  refine va_putF (D := D) (ci := 4) (v := .ref a_3) (ty := .array .int) (C := RX4) (T := TX4) (N := 10) hx hb hts (fun _ h9 => List.mem_cons_of_mem _ (List.mem_append_right _ h9)) tyX4 tyX4_ok nmX4 hown hK hP hD hS 0 rfl rfl 1 (by decide) (hts (.fieldLink RX4 15 "FontRuns$Setting" "length" "[I") (by decide +kernel)) (fun _ h9 => h9) rfl hin rfl (by decide +kernel) rfl rfl (Nat.le_of_ble_eq_true rfl) dX4_init_17 (fun H locs hP hD hS => ?_)
  have hP : va_P D vwCl [(h0, .inr (4, [.ref a_1, .ref a_3, .null, .null, .null, .int 0, .int 0, .int 0, .null, .null])), (a_1, .inl (cA_2, 24, .inl (fun _ => 0))), (a_3, .inl (cA_4, 24, .inl (fun _ => 0)))] H := hP
  have hD : va_D A [(h0, .inr (4, [.ref a_1, .ref a_3, .null, .null, .null, .int 0, .int 0, .int 0, .null, .null])), (a_1, .inl (cA_2, 24, .inl (fun _ => 0))), (a_3, .inl (cA_4, 24, .inl (fun _ => 0)))] := hD
  refine lv_aload_n hx hb dX4_init_20 rfl (lv_at hl 0 rfl) ?_
  refine lv_bipush (v := 24) hx hb dX4_init_21 (by decide) ?_
  refine va_newa (atype := .int) (ty := .int) (a0 := (24, .inl (fun _ => 0))) (N' := 24) hx hb (hts (.arrayClass .int) (by decide +kernel)) rfl hK hP hD hS hA (fun _ => rfl) (by decide) (by decide) (Nat.le_of_ble_eq_true rfl) (Nat.le_of_ble_eq_true rfl) (Nat.le_of_ble_eq_true rfl) dX4_init_23 (fun a_5 cA_6 H hK hP hD hS => ?_)
  have hK : va_K D vwCl [(cA_2, .int), (cA_4, .int), (cA_6, .int)] s := hK
  have hP : va_P D vwCl [(h0, .inr (4, [.ref a_1, .ref a_3, .null, .null, .null, .int 0, .int 0, .int 0, .null, .null])), (a_1, .inl (cA_2, 24, .inl (fun _ => 0))), (a_3, .inl (cA_4, 24, .inl (fun _ => 0))), (a_5, .inl (cA_6, 24, .inl (fun _ => 0)))] H := hP
  have hD : va_D A [(h0, .inr (4, [.ref a_1, .ref a_3, .null, .null, .null, .int 0, .int 0, .int 0, .null, .null])), (a_1, .inl (cA_2, 24, .inl (fun _ => 0))), (a_3, .inl (cA_4, 24, .inl (fun _ => 0))), (a_5, .inl (cA_6, 24, .inl (fun _ => 0)))] := hD
  refine va_putF (D := D) (ci := 4) (v := .ref a_5) (ty := .array .int) (C := RX4) (T := TX4) (N := 10) hx hb hts (fun _ h9 => List.mem_cons_of_mem _ (List.mem_append_right _ h9)) tyX4 tyX4_ok nmX4 hown hK hP hD hS 0 rfl rfl 2 (by decide) (hts (.fieldLink RX4 18 "FontRuns$Setting" "fitting" "[I") (by decide +kernel)) (fun _ h9 => h9) rfl hin rfl (by decide +kernel) rfl rfl (Nat.le_of_ble_eq_true rfl) dX4_init_25 (fun H locs hP hD hS => ?_)
  have hP : va_P D vwCl [(h0, .inr (4, [.ref a_1, .ref a_3, .ref a_5, .null, .null, .int 0, .int 0, .int 0, .null, .null])), (a_1, .inl (cA_2, 24, .inl (fun _ => 0))), (a_3, .inl (cA_4, 24, .inl (fun _ => 0))), (a_5, .inl (cA_6, 24, .inl (fun _ => 0)))] H := hP
  have hD : va_D A [(h0, .inr (4, [.ref a_1, .ref a_3, .ref a_5, .null, .null, .int 0, .int 0, .int 0, .null, .null])), (a_1, .inl (cA_2, 24, .inl (fun _ => 0))), (a_3, .inl (cA_4, 24, .inl (fun _ => 0))), (a_5, .inl (cA_6, 24, .inl (fun _ => 0)))] := hD
  refine lv_aload_n hx hb dX4_init_28 rfl (lv_at hl 0 rfl) ?_
  refine lv_bipush (v := 24) hx hb dX4_init_29 (by decide) ?_
  refine va_newa (atype := .int) (ty := .int) (a0 := (24, .inl (fun _ => 0))) (N' := 24) hx hb (hts (.arrayClass .int) (by decide +kernel)) rfl hK hP hD hS hA (fun _ => rfl) (by decide) (by decide) (Nat.le_of_ble_eq_true rfl) (Nat.le_of_ble_eq_true rfl) (Nat.le_of_ble_eq_true rfl) dX4_init_31 (fun a_7 cA_8 H hK hP hD hS => ?_)
  have hK : va_K D vwCl [(cA_2, .int), (cA_4, .int), (cA_6, .int), (cA_8, .int)] s := hK
  have hP : va_P D vwCl [(h0, .inr (4, [.ref a_1, .ref a_3, .ref a_5, .null, .null, .int 0, .int 0, .int 0, .null, .null])), (a_1, .inl (cA_2, 24, .inl (fun _ => 0))), (a_3, .inl (cA_4, 24, .inl (fun _ => 0))), (a_5, .inl (cA_6, 24, .inl (fun _ => 0))), (a_7, .inl (cA_8, 24, .inl (fun _ => 0)))] H := hP
  have hD : va_D A [(h0, .inr (4, [.ref a_1, .ref a_3, .ref a_5, .null, .null, .int 0, .int 0, .int 0, .null, .null])), (a_1, .inl (cA_2, 24, .inl (fun _ => 0))), (a_3, .inl (cA_4, 24, .inl (fun _ => 0))), (a_5, .inl (cA_6, 24, .inl (fun _ => 0))), (a_7, .inl (cA_8, 24, .inl (fun _ => 0)))] := hD
  refine va_putF (D := D) (ci := 4) (v := .ref a_7) (ty := .array .int) (C := RX4) (T := TX4) (N := 10) hx hb hts (fun _ h9 => List.mem_cons_of_mem _ (List.mem_append_right _ h9)) tyX4 tyX4_ok nmX4 hown hK hP hD hS 0 rfl rfl 3 (by decide) (hts (.fieldLink RX4 21 "FontRuns$Setting" "chosen" "[I") (by decide +kernel)) (fun _ h9 => h9) rfl hin rfl (by decide +kernel) rfl rfl (Nat.le_of_ble_eq_true rfl) dX4_init_33 (fun H locs hP hD hS => ?_)
  have hP : va_P D vwCl [(h0, .inr (4, [.ref a_1, .ref a_3, .ref a_5, .ref a_7, .null, .int 0, .int 0, .int 0, .null, .null])), (a_1, .inl (cA_2, 24, .inl (fun _ => 0))), (a_3, .inl (cA_4, 24, .inl (fun _ => 0))), (a_5, .inl (cA_6, 24, .inl (fun _ => 0))), (a_7, .inl (cA_8, 24, .inl (fun _ => 0)))] H := hP
  have hD : va_D A [(h0, .inr (4, [.ref a_1, .ref a_3, .ref a_5, .ref a_7, .null, .int 0, .int 0, .int 0, .null, .null])), (a_1, .inl (cA_2, 24, .inl (fun _ => 0))), (a_3, .inl (cA_4, 24, .inl (fun _ => 0))), (a_5, .inl (cA_6, 24, .inl (fun _ => 0))), (a_7, .inl (cA_8, 24, .inl (fun _ => 0)))] := hD
  refine lv_aload_n hx hb dX4_init_36 rfl (lv_at hl 0 rfl) ?_
  refine lv_bipush (v := 24) hx hb dX4_init_37 (by decide) ?_
  refine va_newa (atype := .int) (ty := .int) (a0 := (24, .inl (fun _ => 0))) (N' := 24) hx hb (hts (.arrayClass .int) (by decide +kernel)) rfl hK hP hD hS hA (fun _ => rfl) (by decide) (by decide) (Nat.le_of_ble_eq_true rfl) (Nat.le_of_ble_eq_true rfl) (Nat.le_of_ble_eq_true rfl) dX4_init_39 (fun a_9 cA_10 H hK hP hD hS => ?_)
  have hK : va_K D vwCl [(cA_2, .int), (cA_4, .int), (cA_6, .int), (cA_8, .int), (cA_10, .int)] s := hK
  have hP : va_P D vwCl [(h0, .inr (4, [.ref a_1, .ref a_3, .ref a_5, .ref a_7, .null, .int 0, .int 0, .int 0, .null, .null])), (a_1, .inl (cA_2, 24, .inl (fun _ => 0))), (a_3, .inl (cA_4, 24, .inl (fun _ => 0))), (a_5, .inl (cA_6, 24, .inl (fun _ => 0))), (a_7, .inl (cA_8, 24, .inl (fun _ => 0))), (a_9, .inl (cA_10, 24, .inl (fun _ => 0)))] H := hP
  have hD : va_D A [(h0, .inr (4, [.ref a_1, .ref a_3, .ref a_5, .ref a_7, .null, .int 0, .int 0, .int 0, .null, .null])), (a_1, .inl (cA_2, 24, .inl (fun _ => 0))), (a_3, .inl (cA_4, 24, .inl (fun _ => 0))), (a_5, .inl (cA_6, 24, .inl (fun _ => 0))), (a_7, .inl (cA_8, 24, .inl (fun _ => 0))), (a_9, .inl (cA_10, 24, .inl (fun _ => 0)))] := hD
  refine va_putF (D := D) (ci := 4) (v := .ref a_9) (ty := .array .int) (C := RX4) (T := TX4) (N := 10) hx hb hts (fun _ h9 => List.mem_cons_of_mem _ (List.mem_append_right _ h9)) tyX4 tyX4_ok nmX4 hown hK hP hD hS 0 rfl rfl 4 (by decide) (hts (.fieldLink RX4 24 "FontRuns$Setting" "runOf" "[I") (by decide +kernel)) (fun _ h9 => h9) rfl hin rfl (by decide +kernel) rfl rfl (Nat.le_of_ble_eq_true rfl) dX4_init_41 (fun H locs hP hD hS => ?_)
  have hP : va_P D vwCl [(h0, .inr (4, [.ref a_1, .ref a_3, .ref a_5, .ref a_7, .ref a_9, .int 0, .int 0, .int 0, .null, .null])), (a_1, .inl (cA_2, 24, .inl (fun _ => 0))), (a_3, .inl (cA_4, 24, .inl (fun _ => 0))), (a_5, .inl (cA_6, 24, .inl (fun _ => 0))), (a_7, .inl (cA_8, 24, .inl (fun _ => 0))), (a_9, .inl (cA_10, 24, .inl (fun _ => 0)))] H := hP
  have hD : va_D A [(h0, .inr (4, [.ref a_1, .ref a_3, .ref a_5, .ref a_7, .ref a_9, .int 0, .int 0, .int 0, .null, .null])), (a_1, .inl (cA_2, 24, .inl (fun _ => 0))), (a_3, .inl (cA_4, 24, .inl (fun _ => 0))), (a_5, .inl (cA_6, 24, .inl (fun _ => 0))), (a_7, .inl (cA_8, 24, .inl (fun _ => 0))), (a_9, .inl (cA_10, 24, .inl (fun _ => 0)))] := hD
  refine lv_aload_n hx hb dX4_init_44 rfl (lv_at hl 0 rfl) ?_
  refine lv_bipush (v := 24) hx hb dX4_init_45 (by decide) ?_
  refine va_newa (atype := .int) (ty := .int) (a0 := (24, .inl (fun _ => 0))) (N' := 24) hx hb (hts (.arrayClass .int) (by decide +kernel)) rfl hK hP hD hS hA (fun _ => rfl) (by decide) (by decide) (Nat.le_of_ble_eq_true rfl) (Nat.le_of_ble_eq_true rfl) (Nat.le_of_ble_eq_true rfl) dX4_init_47 (fun a_11 cA_12 H hK hP hD hS => ?_)
  have hK : va_K D vwCl [(cA_2, .int), (cA_4, .int), (cA_6, .int), (cA_8, .int), (cA_10, .int), (cA_12, .int)] s := hK
  have hP : va_P D vwCl [(h0, .inr (4, [.ref a_1, .ref a_3, .ref a_5, .ref a_7, .ref a_9, .int 0, .int 0, .int 0, .null, .null])), (a_1, .inl (cA_2, 24, .inl (fun _ => 0))), (a_3, .inl (cA_4, 24, .inl (fun _ => 0))), (a_5, .inl (cA_6, 24, .inl (fun _ => 0))), (a_7, .inl (cA_8, 24, .inl (fun _ => 0))), (a_9, .inl (cA_10, 24, .inl (fun _ => 0))), (a_11, .inl (cA_12, 24, .inl (fun _ => 0)))] H := hP
  have hD : va_D A [(h0, .inr (4, [.ref a_1, .ref a_3, .ref a_5, .ref a_7, .ref a_9, .int 0, .int 0, .int 0, .null, .null])), (a_1, .inl (cA_2, 24, .inl (fun _ => 0))), (a_3, .inl (cA_4, 24, .inl (fun _ => 0))), (a_5, .inl (cA_6, 24, .inl (fun _ => 0))), (a_7, .inl (cA_8, 24, .inl (fun _ => 0))), (a_9, .inl (cA_10, 24, .inl (fun _ => 0))), (a_11, .inl (cA_12, 24, .inl (fun _ => 0)))] := hD
  refine va_putF (D := D) (ci := 4) (v := .ref a_11) (ty := .array .int) (C := RX4) (T := TX4) (N := 10) hx hb hts (fun _ h9 => List.mem_cons_of_mem _ (List.mem_append_right _ h9)) tyX4 tyX4_ok nmX4 hown hK hP hD hS 0 rfl rfl 8 (by decide) (hts (.fieldLink RX4 27 "FontRuns$Setting" "letters" "[I") (by decide +kernel)) (fun _ h9 => h9) rfl hin rfl (by decide +kernel) rfl rfl (Nat.le_of_ble_eq_true rfl) dX4_init_49 (fun H locs hP hD hS => ?_)
  have hP : va_P D vwCl [(h0, .inr (4, [.ref a_1, .ref a_3, .ref a_5, .ref a_7, .ref a_9, .int 0, .int 0, .int 0, .ref a_11, .null])), (a_1, .inl (cA_2, 24, .inl (fun _ => 0))), (a_3, .inl (cA_4, 24, .inl (fun _ => 0))), (a_5, .inl (cA_6, 24, .inl (fun _ => 0))), (a_7, .inl (cA_8, 24, .inl (fun _ => 0))), (a_9, .inl (cA_10, 24, .inl (fun _ => 0))), (a_11, .inl (cA_12, 24, .inl (fun _ => 0)))] H := hP
  have hD : va_D A [(h0, .inr (4, [.ref a_1, .ref a_3, .ref a_5, .ref a_7, .ref a_9, .int 0, .int 0, .int 0, .ref a_11, .null])), (a_1, .inl (cA_2, 24, .inl (fun _ => 0))), (a_3, .inl (cA_4, 24, .inl (fun _ => 0))), (a_5, .inl (cA_6, 24, .inl (fun _ => 0))), (a_7, .inl (cA_8, 24, .inl (fun _ => 0))), (a_9, .inl (cA_10, 24, .inl (fun _ => 0))), (a_11, .inl (cA_12, 24, .inl (fun _ => 0)))] := hD
  refine lv_aload_n hx hb dX4_init_52 rfl (lv_at hl 0 rfl) ?_
  refine lv_bipush (v := 24) hx hb dX4_init_53 (by decide) ?_
  refine lv_iconst (v := 4) hx hb dX4_init_55 (by decide) ?_
  obtain ⟨cy, hcy⟩ := hN.2.2.2
  have ecy : cA_2 = cy := kcy hK hcy 0 rfl
  subst ecy
  refine va_mna (X := [(h0, .inr (4, [.ref a_1, .ref a_3, .ref a_5, .ref a_7, .ref a_9, .int 0, .int 0, .int 0, .ref a_11, .null])), (a_1, .inl (cA_2, 24, .inl (fun _ => 0))), (a_3, .inl (cA_4, 24, .inl (fun _ => 0))), (a_5, .inl (cA_6, 24, .inl (fun _ => 0))), (a_7, .inl (cA_8, 24, .inl (fun _ => 0))), (a_9, .inl (cA_10, 24, .inl (fun _ => 0))), (a_11, .inl (cA_12, 24, .inl (fun _ => 0)))]) (L := []) (f := fun _ => .inr (0, [])) (ty := .int) (cy := cA_2) (N' := 24) (K' := 4) (z := (4, .inl (fun _ => 0))) hx hb hown (show (Cond.classLink RX4 30 ("[" ++ (FieldType.array .int).toString)).before _ s = true from hts _ (by decide +kernel)) hN.2.2.1 (hts (.arrayClass .int) (by decide +kernel)) hcy hK hP hD hS hA (by decide) (by decide) (by decide) (by decide) (Nat.le_of_ble_eq_true rfl) (Nat.le_of_ble_eq_true rfl) (Nat.le_of_ble_eq_true rfl) rfl rfl (Nat.le_of_ble_eq_true rfl) (Nat.le_of_ble_eq_true rfl) (fun c9 => kinner c9 4) dX4_init_56 (fun a_13 r_15 cA_14 H _ _ hK hP hD hS => ?_)
  rw [kpl] at hP hD
  have hK : va_K D vwCl [(cA_2, .int), (cA_4, .int), (cA_6, .int), (cA_8, .int), (cA_10, .int), (cA_12, .int), (cA_14, .array .int)] s := hK
  have hP : va_P D vwCl (([(h0, .inr (4, [.ref a_1, .ref a_3, .ref a_5, .ref a_7, .ref a_9, .int 0, .int 0, .int 0, .ref a_11, .null])), (a_1, .inl (cA_2, 24, .inl (fun _ => 0))), (a_3, .inl (cA_4, 24, .inl (fun _ => 0))), (a_5, .inl (cA_6, 24, .inl (fun _ => 0))), (a_7, .inl (cA_8, 24, .inl (fun _ => 0))), (a_9, .inl (cA_10, 24, .inl (fun _ => 0))), (a_11, .inl (cA_12, 24, .inl (fun _ => 0))), (a_13, .inl (cA_14, 24, .inr (.inr (.inr (.inr (fun i => if i < 24 then some (r_15 i) else none))))))] : va_W) ++ kR 24 r_15 cA_2) H := hP
  have hD : va_D A (([(h0, .inr (4, [.ref a_1, .ref a_3, .ref a_5, .ref a_7, .ref a_9, .int 0, .int 0, .int 0, .ref a_11, .null])), (a_1, .inl (cA_2, 24, .inl (fun _ => 0))), (a_3, .inl (cA_4, 24, .inl (fun _ => 0))), (a_5, .inl (cA_6, 24, .inl (fun _ => 0))), (a_7, .inl (cA_8, 24, .inl (fun _ => 0))), (a_9, .inl (cA_10, 24, .inl (fun _ => 0))), (a_11, .inl (cA_12, 24, .inl (fun _ => 0))), (a_13, .inl (cA_14, 24, .inr (.inr (.inr (.inr (fun i => if i < 24 then some (r_15 i) else none))))))] : va_W) ++ kR 24 r_15 cA_2) := hD
  refine va_putF (D := D) (ci := 4) (v := .ref a_13) (ty := .array (.array .int)) (C := RX4) (T := TX4) (N := 10) hx hb hts (fun _ h9 => List.mem_cons_of_mem _ (List.mem_append_right _ h9)) tyX4 tyX4_ok nmX4 hown hK hP hD hS 0 rfl rfl 9 (by decide) (hts (.fieldLink RX4 32 "FontRuns$Setting" "behind" "[[I") (by decide +kernel)) (fun _ h9 => h9) rfl hin rfl (by decide +kernel) rfl rfl (Nat.le_of_ble_eq_true rfl) dX4_init_60 (fun H locs hP hD hS => ?_)
  have hP : va_P D vwCl (([(h0, .inr (4, [.ref a_1, .ref a_3, .ref a_5, .ref a_7, .ref a_9, .int 0, .int 0, .int 0, .ref a_11, .ref a_13])), (a_1, .inl (cA_2, 24, .inl (fun _ => 0))), (a_3, .inl (cA_4, 24, .inl (fun _ => 0))), (a_5, .inl (cA_6, 24, .inl (fun _ => 0))), (a_7, .inl (cA_8, 24, .inl (fun _ => 0))), (a_9, .inl (cA_10, 24, .inl (fun _ => 0))), (a_11, .inl (cA_12, 24, .inl (fun _ => 0))), (a_13, .inl (cA_14, 24, .inr (.inr (.inr (.inr (fun i => if i < 24 then some (r_15 i) else none))))))] : va_W) ++ kR 24 r_15 cA_2) H := hP
  have hD : va_D A (([(h0, .inr (4, [.ref a_1, .ref a_3, .ref a_5, .ref a_7, .ref a_9, .int 0, .int 0, .int 0, .ref a_11, .ref a_13])), (a_1, .inl (cA_2, 24, .inl (fun _ => 0))), (a_3, .inl (cA_4, 24, .inl (fun _ => 0))), (a_5, .inl (cA_6, 24, .inl (fun _ => 0))), (a_7, .inl (cA_8, 24, .inl (fun _ => 0))), (a_9, .inl (cA_10, 24, .inl (fun _ => 0))), (a_11, .inl (cA_12, 24, .inl (fun _ => 0))), (a_13, .inl (cA_14, 24, .inr (.inr (.inr (.inr (fun i => if i < 24 then some (r_15 i) else none))))))] : va_W) ++ kR 24 r_15 cA_2) := hD
  refine W.widen (k := 31) (n := 264) (Nat.le_of_ble_eq_true rfl) (Nat.le_of_ble_eq_true rfl) ?_
  have hP9 : va_P D vwCl (([(h0, .inr (4, [.ref a_1, .ref a_3, .ref a_5, .ref a_7, .ref a_9, .int 0, .int 0, .int 0, .ref a_11, .ref a_13])), (a_1, .inl (cA_2, 24, .inl (fun _ => 0))), (a_3, .inl (cA_4, 24, .inl (fun _ => 0))), (a_5, .inl (cA_6, 24, .inl (fun _ => 0))), (a_7, .inl (cA_8, 24, .inl (fun _ => 0))), (a_9, .inl (cA_10, 24, .inl (fun _ => 0))), (a_11, .inl (cA_12, 24, .inl (fun _ => 0))), (a_13, .inl (cA_14, 24, .inr (.inr (.inr (.inr (fun i => if i < 24 then some (r_15 i) else none))))))] : va_W) ++ kR 24 r_15 cA_2) H := hP.part [0, 1, 2, 3, 4, 5, 6, 7] rfl
  have hD9 : va_D A (([(h0, .inr (4, [.ref a_1, .ref a_3, .ref a_5, .ref a_7, .ref a_9, .int 0, .int 0, .int 0, .ref a_11, .ref a_13])), (a_1, .inl (cA_2, 24, .inl (fun _ => 0))), (a_3, .inl (cA_4, 24, .inl (fun _ => 0))), (a_5, .inl (cA_6, 24, .inl (fun _ => 0))), (a_7, .inl (cA_8, 24, .inl (fun _ => 0))), (a_9, .inl (cA_10, 24, .inl (fun _ => 0))), (a_11, .inl (cA_12, 24, .inl (fun _ => 0))), (a_13, .inl (cA_14, 24, .inr (.inr (.inr (.inr (fun i => if i < 24 then some (r_15 i) else none))))))] : va_W) ++ kR 24 r_15 cA_2) := hD.part [0, 1, 2, 3, 4, 5, 6, 7] (by decide) rfl
  have hK9 := hK.sub (tys' := [(cA_2, .int), (cA_4, .int), (cA_6, .int), (cA_8, .int), (cA_10, .int), (cA_12, .int), (cA_14, .array .int)]) [0, 1, 2, 3, 4, 5, 6] rfl
  exact W.vret hx hb hr (fun t ht hW => ⟨⟨(a_1, a_3, a_5, a_7, a_9, a_11, a_13, cA_2, cA_4, cA_6, cA_8, cA_10, cA_12, cA_14, r_15), rfl, trivial, by rw [ht]; exact hP9, hD9, va_K.moved hW.alike hK9⟩, hS.F ht⟩) hS.2.2 dX4_init_63
