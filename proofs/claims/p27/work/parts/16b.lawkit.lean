theorem kP_cut {D : va_G} {cl : List vw_C} {x k y : va_W} {H : Heap} (h : va_P D cl (x ++ (k ++ y)) H) : va_P D cl (x ++ k) H := by
  rw [← List.append_assoc] at h
  intro i q hi
  exact h i q (by rw [List.getElem?_append_left (List.getElem?_eq_some_iff.mp hi).1]; exact hi)
theorem kD_cut {A : Nat → Prop} {x k y : va_W} (h : va_D A (x ++ (k ++ y))) : va_D A (x ++ k) := by
  rw [← List.append_assoc] at h
  have g : ∀ (i : Nat) (q : Nat × va_E), (x ++ k)[i]? = some q → ((x ++ k) ++ y)[i]? = some q := fun i q hi => by rw [List.getElem?_append_left (List.getElem?_eq_some_iff.mp hi).1]; exact hi
  exact ⟨fun i j a b hi hj e => h.1 i j a b (g i a hi) (g j b hj) e, fun i q hi => h.2 i q (g i q hi)⟩
theorem kP_in {D : va_G} {cl : List vw_C} {n o k : va_W} {H : Heap} (h : va_P D cl ((n ++ o) ++ k) H) : va_P D cl (n ++ (k ++ o)) H := by
  have h2 := h.swap
  rw [List.append_assoc] at h2
  exact h2
theorem kD_in {A : Nat → Prop} {n o k : va_W} (h : va_D A ((n ++ o) ++ k)) : va_D A (n ++ (k ++ o)) := by
  have h2 := h.swap
  rw [List.append_assoc] at h2
  exact h2
theorem kP_out {D : va_G} {cl : List vw_C} {n o k : va_W} {H : Heap} (h : va_P D cl (n ++ (k ++ o)) H) : va_P D cl ((n ++ o) ++ k) H := by
  rw [← List.append_assoc] at h
  exact h.swap
theorem kD_out {A : Nat → Prop} {n o k : va_W} (h : va_D A (n ++ (k ++ o))) : va_D A ((n ++ o) ++ k) := by
  rw [← List.append_assoc] at h
  exact h.swap
theorem kix {X cx pl : va_W} {is : List Nat} (h : is.map (fun i => X[i]?) = cx.map some) : (is ++ (List.range pl.length).map (fun j => X.length + j)).map (fun i => (X ++ pl)[i]?) = (cx ++ pl).map some := by
  rw [List.map_append, List.map_append]
  congr 1
  · rw [← h]
    apply List.map_congr_left
    intro i hi
    have h2 : X[i]? ∈ is.map (fun i => X[i]?) := List.mem_map.mpr ⟨i, hi, rfl⟩
    rw [h] at h2
    obtain ⟨q, -, hq⟩ := List.mem_map.mp h2
    rw [← hq, List.getElem?_append_left (List.getElem?_eq_some_iff.mp hq.symm).1, hq]
  · rw [List.map_map]
    apply List.ext_getElem?
    intro i
    rw [List.getElem?_map, List.getElem?_map]
    by_cases c : i < pl.length
    · rw [List.getElem?_range c]
      show some ((X ++ pl)[X.length + i]?) = Option.map some pl[i]?
      rw [List.getElem?_append_right (by omega), show X.length + i - X.length = i by omega, List.getElem?_eq_getElem c]
      rfl
    · rw [List.getElem?_eq_none (by rw [List.length_range]; omega), List.getElem?_eq_none (by omega)]
      rfl
theorem kJoinY {A0 : Nat → Prop} {D : va_G} {cl : List vw_C} {X cx wr rx pl pl1 Y : va_W} {H H1 : Heap} (hP : va_P D cl (X ++ (pl ++ Y)) H) (hD : va_D A0 (X ++ (pl ++ Y))) (isC isR : List Nat) (hC : isC.map (fun i => X[i]?) = cx.map some) (hR : isR.map (fun i => X[i]?) = wr.map some) (hn : va_nd isR = true) (hdis : ∀ i ∈ isR, i ∉ isC)
    (hk : ∀ q : Nat, q < H.size → ¬ va_A (cx ++ pl) H.size q → H1[q]? = H[q]?) (hF : ∀ q, va_A (cx ++ pl) H.size q → A0 q) (hP1 : va_P D cl (rx ++ pl1) H1) (hD1 : va_D (va_A (cx ++ pl) H.size) (rx ++ pl1)) : va_P D cl ((wr ++ rx) ++ (pl1 ++ Y)) H1 ∧ va_D A0 ((wr ++ rx) ++ (pl1 ++ Y)) := by
  rw [← List.append_assoc] at hP hD
  have lt : ∀ i ∈ isR, i < X.length := fun i hi => by
    have h2 : X[i]? ∈ isR.map (fun i => X[i]?) := List.mem_map.mpr ⟨i, hi, rfl⟩
    rw [hR] at h2
    obtain ⟨q, -, hq⟩ := List.mem_map.mp h2
    exact (List.getElem?_eq_some_iff.mp hq.symm).1
  have hR2 : isR.map (fun i => (X ++ pl)[i]?) = wr.map some := by
    rw [← hR]
    apply List.map_congr_left
    intro i hi
    exact List.getElem?_append_left (lt i hi)
  obtain ⟨h1, h2⟩ := va_joinQ (X := X ++ pl) (cx := cx ++ pl) (wr := wr) (w1 := rx ++ pl1) (pl := Y) hP hD (isC ++ (List.range pl.length).map (fun j => X.length + j)) isR (kix hC) hR2 hn (fun i hi hc => by
    rcases List.mem_append.mp hc with q | q
    · exact hdis i hi q
    · obtain ⟨j, -, hj⟩ := List.mem_map.mp q
      have := lt i hi
      omega) hk hF hP1 hD1
  rw [← List.append_assoc, List.append_assoc (wr ++ rx)] at h1 h2
  exact ⟨h1, h2⟩
def kBy (c : ByteArray) (p : Nat) (b : UInt8) : Prop := ∃ h : p < c.size, c[p]'h = b
theorem kbyte {c : ByteArray} {k j : Nat} {l : List UInt8} {b : UInt8} (h : (c.data.toList.drop k).take 64 = l) (hj : l[j]? = some b) : kBy c (k + j) b := by
  have h1 : ((c.data.toList.drop k).take 64)[j]? = some b := by rw [h]; exact hj
  rw [List.getElem?_take] at h1
  split at h1
  · rw [List.getElem?_drop] at h1
    have h3 : c.data[k + j]? = some b := by rw [← Array.getElem?_toList]; exact h1
    obtain ⟨hs, hb⟩ := Array.getElem?_eq_some_iff.mp h3
    exact ⟨hs, hb⟩
  · cases h1
theorem ku1 {c : ByteArray} {p n : Nat} {b : UInt8} (h : kBy c p b) (hn : b.toNat = n) : (Jvm.ClassFile.Reader.u1 : Jvm.ClassFile.Decoder Nat) c p = .ok (n, p + 1) := by
  obtain ⟨hs, hb⟩ := h
  subst hn
  subst hb
  show ((dite (p < c.size) (fun h => (do set (p + 1); pure c[p].toNat : Jvm.ClassFile.Decoder Nat)) (fun _ => throw (Jvm.ClassFile.HasTruncated.truncated p)) : Jvm.ClassFile.Decoder Nat) c p) = _
  rw [dif_pos hs]
  rfl
theorem kbind {α β : Type} {r : Jvm.ClassFile.Decoder α} {K : α → Jvm.ClassFile.Decoder β} {c : ByteArray} {p q : Nat} {x : α} (e : r c p = .ok (x, q)) : (bind r K : Jvm.ClassFile.Decoder β) c p = K x c q := by
  show Except.bind (r c p) _ = _
  rw [e]
  rfl
set_option maxRecDepth 100000 in
theorem kop_2a {c : ByteArray} {pc : Nat} (h : kBy c pc 42) : decode c pc = .ok (.aload_n 0, 1) := by
  have e := ku1 (n := 42) h (by decide)
  have q : (Jvm.ClassFile.Decoder.instr pc).runAt c pc = .ok (.aload_n 0, pc + 1) := by
    unfold Jvm.ClassFile.Reader.runAt
    show Jvm.ClassFile.Decoder.instr pc c pc = _
    unfold Jvm.ClassFile.Decoder.instr
    exact (kbind e).trans rfl
  unfold Jvm.ClassFile.decode
  rw [q]
  show Except.ok (_, pc + 1 - pc) = _
  rw [Nat.add_sub_cancel_left]
set_option maxRecDepth 100000 in
theorem kop_2b {c : ByteArray} {pc : Nat} (h : kBy c pc 43) : decode c pc = .ok (.aload_n 1, 1) := by
  have e := ku1 (n := 43) h (by decide)
  have q : (Jvm.ClassFile.Decoder.instr pc).runAt c pc = .ok (.aload_n 1, pc + 1) := by
    unfold Jvm.ClassFile.Reader.runAt
    show Jvm.ClassFile.Decoder.instr pc c pc = _
    unfold Jvm.ClassFile.Decoder.instr
    exact (kbind e).trans rfl
  unfold Jvm.ClassFile.decode
  rw [q]
  show Except.ok (_, pc + 1 - pc) = _
  rw [Nat.add_sub_cancel_left]
set_option maxRecDepth 100000 in
theorem kop_2c {c : ByteArray} {pc : Nat} (h : kBy c pc 44) : decode c pc = .ok (.aload_n 2, 1) := by
  have e := ku1 (n := 44) h (by decide)
  have q : (Jvm.ClassFile.Decoder.instr pc).runAt c pc = .ok (.aload_n 2, pc + 1) := by
    unfold Jvm.ClassFile.Reader.runAt
    show Jvm.ClassFile.Decoder.instr pc c pc = _
    unfold Jvm.ClassFile.Decoder.instr
    exact (kbind e).trans rfl
  unfold Jvm.ClassFile.decode
  rw [q]
  show Except.ok (_, pc + 1 - pc) = _
  rw [Nat.add_sub_cancel_left]
set_option maxRecDepth 100000 in
theorem kop_1d {c : ByteArray} {pc : Nat} (h : kBy c pc 29) : decode c pc = .ok (.iload_n 3, 1) := by
  have e := ku1 (n := 29) h (by decide)
  have q : (Jvm.ClassFile.Decoder.instr pc).runAt c pc = .ok (.iload_n 3, pc + 1) := by
    unfold Jvm.ClassFile.Reader.runAt
    show Jvm.ClassFile.Decoder.instr pc c pc = _
    unfold Jvm.ClassFile.Decoder.instr
    exact (kbind e).trans rfl
  unfold Jvm.ClassFile.decode
  rw [q]
  show Except.ok (_, pc + 1 - pc) = _
  rw [Nat.add_sub_cancel_left]
set_option maxRecDepth 100000 in
theorem kop_60 {c : ByteArray} {pc : Nat} (h : kBy c pc 96) : decode c pc = .ok (.iadd, 1) := by
  have e := ku1 (n := 96) h (by decide)
  have q : (Jvm.ClassFile.Decoder.instr pc).runAt c pc = .ok (.iadd, pc + 1) := by
    unfold Jvm.ClassFile.Reader.runAt
    show Jvm.ClassFile.Decoder.instr pc c pc = _
    unfold Jvm.ClassFile.Decoder.instr
    exact (kbind e).trans rfl
  unfold Jvm.ClassFile.decode
  rw [q]
  show Except.ok (_, pc + 1 - pc) = _
  rw [Nat.add_sub_cancel_left]
set_option maxRecDepth 100000 in
theorem kop_2e {c : ByteArray} {pc : Nat} (h : kBy c pc 46) : decode c pc = .ok (.iaload, 1) := by
  have e := ku1 (n := 46) h (by decide)
  have q : (Jvm.ClassFile.Decoder.instr pc).runAt c pc = .ok (.iaload, pc + 1) := by
    unfold Jvm.ClassFile.Reader.runAt
    show Jvm.ClassFile.Decoder.instr pc c pc = _
    unfold Jvm.ClassFile.Decoder.instr
    exact (kbind e).trans rfl
  unfold Jvm.ClassFile.decode
  rw [q]
  show Except.ok (_, pc + 1 - pc) = _
  rw [Nat.add_sub_cancel_left]
set_option maxRecDepth 100000 in
theorem kop_57 {c : ByteArray} {pc : Nat} (h : kBy c pc 87) : decode c pc = .ok (.pop, 1) := by
  have e := ku1 (n := 87) h (by decide)
  have q : (Jvm.ClassFile.Decoder.instr pc).runAt c pc = .ok (.pop, pc + 1) := by
    unfold Jvm.ClassFile.Reader.runAt
    show Jvm.ClassFile.Decoder.instr pc c pc = _
    unfold Jvm.ClassFile.Decoder.instr
    exact (kbind e).trans rfl
  unfold Jvm.ClassFile.decode
  rw [q]
  show Except.ok (_, pc + 1 - pc) = _
  rw [Nat.add_sub_cancel_left]
set_option maxRecDepth 100000 in
theorem kop_58 {c : ByteArray} {pc : Nat} (h : kBy c pc 88) : decode c pc = .ok (.pop2, 1) := by
  have e := ku1 (n := 88) h (by decide)
  have q : (Jvm.ClassFile.Decoder.instr pc).runAt c pc = .ok (.pop2, pc + 1) := by
    unfold Jvm.ClassFile.Reader.runAt
    show Jvm.ClassFile.Decoder.instr pc c pc = _
    unfold Jvm.ClassFile.Decoder.instr
    exact (kbind e).trans rfl
  unfold Jvm.ClassFile.decode
  rw [q]
  show Except.ok (_, pc + 1 - pc) = _
  rw [Nat.add_sub_cancel_left]
set_option maxRecDepth 100000 in
theorem kop_04 {c : ByteArray} {pc : Nat} (h : kBy c pc 4) : decode c pc = .ok (.iconst 1, 1) := by
  have e := ku1 (n := 4) h (by decide)
  have q : (Jvm.ClassFile.Decoder.instr pc).runAt c pc = .ok (.iconst 1, pc + 1) := by
    unfold Jvm.ClassFile.Reader.runAt
    show Jvm.ClassFile.Decoder.instr pc c pc = _
    unfold Jvm.ClassFile.Decoder.instr
    exact (kbind e).trans rfl
  unfold Jvm.ClassFile.decode
  rw [q]
  show Except.ok (_, pc + 1 - pc) = _
  rw [Nat.add_sub_cancel_left]
set_option maxRecDepth 100000 in
theorem kop_05 {c : ByteArray} {pc : Nat} (h : kBy c pc 5) : decode c pc = .ok (.iconst 2, 1) := by
  have e := ku1 (n := 5) h (by decide)
  have q : (Jvm.ClassFile.Decoder.instr pc).runAt c pc = .ok (.iconst 2, pc + 1) := by
    unfold Jvm.ClassFile.Reader.runAt
    show Jvm.ClassFile.Decoder.instr pc c pc = _
    unfold Jvm.ClassFile.Decoder.instr
    exact (kbind e).trans rfl
  unfold Jvm.ClassFile.decode
  rw [q]
  show Except.ok (_, pc + 1 - pc) = _
  rw [Nat.add_sub_cancel_left]
set_option maxRecDepth 100000 in
theorem kop_06 {c : ByteArray} {pc : Nat} (h : kBy c pc 6) : decode c pc = .ok (.iconst 3, 1) := by
  have e := ku1 (n := 6) h (by decide)
  have q : (Jvm.ClassFile.Decoder.instr pc).runAt c pc = .ok (.iconst 3, pc + 1) := by
    unfold Jvm.ClassFile.Reader.runAt
    show Jvm.ClassFile.Decoder.instr pc c pc = _
    unfold Jvm.ClassFile.Decoder.instr
    exact (kbind e).trans rfl
  unfold Jvm.ClassFile.decode
  rw [q]
  show Except.ok (_, pc + 1 - pc) = _
  rw [Nat.add_sub_cancel_left]
set_option maxRecDepth 100000 in
theorem kop_07 {c : ByteArray} {pc : Nat} (h : kBy c pc 7) : decode c pc = .ok (.iconst 4, 1) := by
  have e := ku1 (n := 7) h (by decide)
  have q : (Jvm.ClassFile.Decoder.instr pc).runAt c pc = .ok (.iconst 4, pc + 1) := by
    unfold Jvm.ClassFile.Reader.runAt
    show Jvm.ClassFile.Decoder.instr pc c pc = _
    unfold Jvm.ClassFile.Decoder.instr
    exact (kbind e).trans rfl
  unfold Jvm.ClassFile.decode
  rw [q]
  show Except.ok (_, pc + 1 - pc) = _
  rw [Nat.add_sub_cancel_left]
set_option maxRecDepth 100000 in
theorem kop_08 {c : ByteArray} {pc : Nat} (h : kBy c pc 8) : decode c pc = .ok (.iconst 5, 1) := by
  have e := ku1 (n := 8) h (by decide)
  have q : (Jvm.ClassFile.Decoder.instr pc).runAt c pc = .ok (.iconst 5, pc + 1) := by
    unfold Jvm.ClassFile.Reader.runAt
    show Jvm.ClassFile.Decoder.instr pc c pc = _
    unfold Jvm.ClassFile.Decoder.instr
    exact (kbind e).trans rfl
  unfold Jvm.ClassFile.decode
  rw [q]
  show Except.ok (_, pc + 1 - pc) = _
  rw [Nat.add_sub_cancel_left]
theorem ku2 {c : ByteArray} {p n : Nat} {hi lo : UInt8} (h1 : kBy c p hi) (h2 : kBy c (p + 1) lo) (hn : hi.toNat * 256 + lo.toNat = n) : (Jvm.ClassFile.Reader.u2 : Jvm.ClassFile.Decoder Nat) c p = .ok (n, p + 1 + 1) := by
  subst hn
  unfold Jvm.ClassFile.Reader.u2
  exact (kbind (ku1 h1 rfl)).trans ((kbind (ku1 h2 rfl)).trans rfl)
set_option maxRecDepth 100000 in
theorem kop_b6 {c : ByteArray} {pc n : Nat} {hi lo : UInt8} (h : kBy c pc 182) (h1 : kBy c (pc + 1) hi) (h2 : kBy c (pc + 1 + 1) lo) (hn : hi.toNat * 256 + lo.toNat = n) : decode c pc = .ok (.invokevirtual n, 3) := by
  have e := ku1 (n := 182) h (by decide)
  have e2 := ku2 h1 h2 hn
  have q : (Jvm.ClassFile.Decoder.instr pc).runAt c pc = .ok (.invokevirtual n, pc + 1 + 1 + 1) := by
    unfold Jvm.ClassFile.Reader.runAt
    show Jvm.ClassFile.Decoder.instr pc c pc = _
    unfold Jvm.ClassFile.Decoder.instr
    refine (kbind e).trans ?_
    show (bind Jvm.ClassFile.Reader.u2 (fun x => pure (.invokevirtual x)) : Jvm.ClassFile.Decoder Jvm.ClassFile.Instr) c (pc + 1) = _
    exact (kbind e2).trans rfl
  unfold Jvm.ClassFile.decode
  rw [q]
  show Except.ok (_, pc + 1 + 1 + 1 - pc) = _
  rw [show pc + 1 + 1 + 1 - pc = 3 by omega]
theorem kbk_0 : (cL_law.data.toList.drop 0).take 64 = ([187, 0, 7, 89, 183, 0, 9, 76, 187, 0, 10, 89, 183, 0, 12, 77, 3, 62, 29, 42, 190, 16, 6, 100, 163, 4, 90, 42, 29, 46, 16, 31, 126, 170, 0, 0, 0, 0, 4, 75, 0, 0, 0, 0, 0, 0, 0, 31, 0, 0, 0, 143, 0, 0, 0, 196, 0, 0, 0, 229, 0, 0, 1, 6] : List UInt8) := by decide +kernel
theorem kbk_64 : (cL_law.data.toList.drop 64).take 64 = ([0, 0, 1, 59, 0, 0, 1, 82, 0, 0, 1, 105, 0, 0, 1, 138, 0, 0, 1, 171, 0, 0, 1, 194, 0, 0, 1, 217, 0, 0, 1, 230, 0, 0, 1, 243, 0, 0, 2, 50, 0, 0, 2, 73, 0, 0, 2, 96, 0, 0, 2, 119, 0, 0, 2, 142, 0, 0, 2, 165, 0, 0, 2, 188] : List UInt8) := by decide +kernel
theorem kbk_128 : (cL_law.data.toList.drop 128).take 64 = ([0, 0, 2, 211, 0, 0, 2, 244, 0, 0, 3, 31, 0, 0, 3, 54, 0, 0, 3, 97, 0, 0, 3, 140, 0, 0, 3, 203, 0, 0, 3, 226, 0, 0, 3, 249, 0, 0, 4, 26, 0, 0, 4, 39, 0, 0, 4, 52, 43, 42, 29, 4, 96, 46, 42, 29, 5, 96, 46, 42, 29, 6, 96, 46] : List UInt8) := by decide +kernel
theorem kbk_192 : (cL_law.data.toList.drop 192).take 64 = ([42, 29, 7, 96, 46, 182, 0, 13, 87, 44, 42, 29, 4, 96, 46, 42, 29, 5, 96, 46, 42, 29, 6, 96, 46, 42, 29, 7, 96, 46, 182, 0, 17, 87, 167, 3, 138, 43, 42, 29, 4, 96, 46, 42, 29, 5, 96, 46, 182, 0, 18, 87, 44, 42, 29, 4, 96, 46, 42, 29, 5, 96, 46, 182] : List UInt8) := by decide +kernel
theorem kbk_256 : (cL_law.data.toList.drop 256).take 64 = ([0, 22, 87, 167, 3, 105, 43, 42, 29, 4, 96, 46, 42, 29, 5, 96, 46, 182, 0, 23, 87, 44, 42, 29, 4, 96, 46, 42, 29, 5, 96, 46, 182, 0, 26, 87, 167, 3, 72, 43, 42, 29, 4, 96, 46, 42, 29, 5, 96, 46, 42, 29, 6, 96, 46, 42, 29, 7, 96, 46, 182, 0, 27, 87] : List UInt8) := by decide +kernel
theorem kbk_320 : (cL_law.data.toList.drop 320).take 64 = ([44, 42, 29, 4, 96, 46, 42, 29, 5, 96, 46, 42, 29, 6, 96, 46, 42, 29, 7, 96, 46, 182, 0, 30, 87, 167, 3, 19, 43, 42, 29, 4, 96, 46, 182, 0, 31, 87, 44, 42, 29, 4, 96, 46, 182, 0, 35, 87, 167, 2, 252, 43, 42, 29, 4, 96, 46, 182, 0, 36, 87, 44, 42, 29] : List UInt8) := by decide +kernel
theorem kbk_384 : (cL_law.data.toList.drop 384).take 64 = ([4, 96, 46, 182, 0, 39, 87, 167, 2, 229, 43, 42, 29, 4, 96, 46, 42, 29, 5, 96, 46, 182, 0, 40, 87, 44, 42, 29, 4, 96, 46, 42, 29, 5, 96, 46, 182, 0, 43, 87, 167, 2, 196, 43, 42, 29, 4, 96, 46, 42, 29, 5, 96, 46, 182, 0, 44, 87, 44, 42, 29, 4, 96, 46] : List UInt8) := by decide +kernel
theorem kbk_448 : (cL_law.data.toList.drop 448).take 64 = ([42, 29, 5, 96, 46, 182, 0, 47, 87, 167, 2, 163, 43, 42, 29, 4, 96, 46, 182, 0, 48, 87, 44, 42, 29, 4, 96, 46, 182, 0, 51, 87, 167, 2, 140, 43, 42, 29, 4, 96, 46, 182, 0, 52, 87, 44, 42, 29, 4, 96, 46, 182, 0, 55, 87, 167, 2, 117, 43, 182, 0, 56, 87, 44] : List UInt8) := by decide +kernel
theorem kbk_512 : (cL_law.data.toList.drop 512).take 64 = ([182, 0, 60, 87, 167, 2, 104, 43, 182, 0, 61, 88, 44, 182, 0, 65, 88, 167, 2, 91, 43, 42, 29, 4, 96, 46, 42, 29, 5, 96, 46, 42, 29, 6, 96, 46, 42, 29, 7, 96, 46, 42, 29, 8, 96, 46, 182, 0, 66, 87, 44, 42, 29, 4, 96, 46, 42, 29, 5, 96, 46, 42, 29, 6] : List UInt8) := by decide +kernel
theorem kbk_576 : (cL_law.data.toList.drop 576).take 64 = ([96, 46, 42, 29, 7, 96, 46, 42, 29, 8, 96, 46, 182, 0, 70, 87, 167, 2, 28, 43, 42, 29, 4, 96, 46, 182, 0, 71, 87, 44, 42, 29, 4, 96, 46, 182, 0, 74, 87, 167, 2, 5, 43, 42, 29, 4, 96, 46, 182, 0, 75, 87, 44, 42, 29, 4, 96, 46, 182, 0, 78, 87, 167, 1] : List UInt8) := by decide +kernel
theorem kbk_640 : (cL_law.data.toList.drop 640).take 64 = ([238, 43, 42, 29, 4, 96, 46, 182, 0, 79, 87, 44, 42, 29, 4, 96, 46, 182, 0, 82, 87, 167, 1, 215, 43, 42, 29, 4, 96, 46, 182, 0, 83, 87, 44, 42, 29, 4, 96, 46, 182, 0, 86, 87, 167, 1, 192, 43, 42, 29, 4, 96, 46, 182, 0, 87, 87, 44, 42, 29, 4, 96, 46, 182] : List UInt8) := by decide +kernel
theorem kbk_704 : (cL_law.data.toList.drop 704).take 64 = ([0, 90, 87, 167, 1, 169, 43, 42, 29, 4, 96, 46, 182, 0, 91, 87, 44, 42, 29, 4, 96, 46, 182, 0, 94, 87, 167, 1, 146, 43, 42, 29, 4, 96, 46, 182, 0, 95, 87, 44, 42, 29, 4, 96, 46, 182, 0, 98, 87, 167, 1, 123, 43, 42, 29, 4, 96, 46, 42, 29, 5, 96, 46, 182] : List UInt8) := by decide +kernel
theorem kbk_768 : (cL_law.data.toList.drop 768).take 64 = ([0, 99, 88, 44, 42, 29, 4, 96, 46, 42, 29, 5, 96, 46, 182, 0, 103, 88, 167, 1, 90, 43, 42, 29, 4, 96, 46, 42, 29, 5, 96, 46, 42, 29, 6, 96, 46, 182, 0, 104, 87, 44, 42, 29, 4, 96, 46, 42, 29, 5, 96, 46, 42, 29, 6, 96, 46, 182, 0, 108, 87, 167, 1, 47] : List UInt8) := by decide +kernel
theorem kbk_832 : (cL_law.data.toList.drop 832).take 64 = ([43, 42, 29, 4, 96, 46, 182, 0, 109, 87, 44, 42, 29, 4, 96, 46, 182, 0, 112, 87, 167, 1, 24, 43, 42, 29, 4, 96, 46, 42, 29, 5, 96, 46, 42, 29, 6, 96, 46, 182, 0, 113, 87, 44, 42, 29, 4, 96, 46, 42, 29, 5, 96, 46, 42, 29, 6, 96, 46, 182, 0, 116, 87, 167] : List UInt8) := by decide +kernel
theorem kbk_896 : (cL_law.data.toList.drop 896).take 64 = ([0, 237, 43, 42, 29, 4, 96, 46, 42, 29, 5, 96, 46, 42, 29, 6, 96, 46, 182, 0, 117, 88, 44, 42, 29, 4, 96, 46, 42, 29, 5, 96, 46, 42, 29, 6, 96, 46, 182, 0, 121, 88, 167, 0, 194, 43, 42, 29, 4, 96, 46, 42, 29, 5, 96, 46, 42, 29, 6, 96, 46, 42, 29, 7] : List UInt8) := by decide +kernel
theorem kbk_960 : (cL_law.data.toList.drop 960).take 64 = ([96, 46, 42, 29, 8, 96, 46, 182, 0, 122, 44, 42, 29, 4, 96, 46, 42, 29, 5, 96, 46, 42, 29, 6, 96, 46, 42, 29, 7, 96, 46, 42, 29, 8, 96, 46, 182, 0, 125, 159, 0, 133, 3, 172, 43, 42, 29, 4, 96, 46, 182, 0, 126, 87, 44, 42, 29, 4, 96, 46, 182, 0, 129, 87] : List UInt8) := by decide +kernel
theorem kbk_1024 : (cL_law.data.toList.drop 1024).take 64 = ([167, 0, 108, 43, 42, 29, 4, 96, 46, 182, 0, 130, 87, 44, 42, 29, 4, 96, 46, 182, 0, 133, 87, 167, 0, 85, 43, 42, 29, 4, 96, 46, 42, 29, 5, 96, 46, 182, 0, 134, 87, 44, 42, 29, 4, 96, 46, 42, 29, 5, 96, 46, 182, 0, 137, 87, 167, 0, 52, 43, 182, 0, 138, 87] : List UInt8) := by decide +kernel
theorem kbk_1088 : (cL_law.data.toList.drop 1088).take 64 = ([44, 182, 0, 141, 87, 167, 0, 39, 43, 182, 0, 142, 87, 44, 182, 0, 145, 87, 167, 0, 26, 43, 42, 29, 4, 96, 46, 182, 0, 146, 87, 44, 42, 29, 4, 96, 46, 182, 0, 149, 87, 167, 0, 3, 132, 3, 6, 167, 251, 163, 4, 172] : List UInt8) := by decide +kernel
theorem goodIn_3 (ws : List Cond) (hm : ∀ w ∈ ws, w ∈ lw_tbl) (h : ws.all goodWord = true) : GoodIn lw_tbl ws := fun w hw => ⟨hm w hw, good_of_word (List.all_eq_true.mp h w hw)⟩
theorem iw_0_0 : (Cond.classLink RL 7 RX8 : Cond) ∈ lw_tbl := m_wsL_law_r1 _ (List.mem_of_getElem? (i := 0) rfl)
theorem iw_0_1 : (Cond.instantiable RX8 15 : Cond) ∈ lw_tbl := m_wsL_law_r1 _ (List.mem_of_getElem? (i := 1) rfl)
theorem iw_0_2 : (Cond.initialized RX8 : Cond) ∈ lw_tbl := m_wsL_law_r1 _ (List.mem_of_getElem? (i := 2) rfl)
theorem iw_0_3 : (Cond.classLink RL 10 RX9 : Cond) ∈ lw_tbl := m_wsL_law_r1 _ (List.mem_of_getElem? (i := 3) rfl)
theorem iw_0_4 : (Cond.instantiable RX9 31 : Cond) ∈ lw_tbl := m_wsL_law_r1 _ (List.mem_of_getElem? (i := 4) rfl)
theorem iw_0_5 : (Cond.initialized RX9 : Cond) ∈ lw_tbl := m_wsL_law_r1 _ (List.mem_of_getElem? (i := 5) rfl)
theorem iw_0_6 : (Cond.methodLink RL 9 yX8_init : Cond) ∈ lw_tbl := m_wsL_law_r1 _ (List.mem_of_getElem? (i := 6) rfl)
theorem iw_0_7 : (Cond.instanceMethod yX8_init : Cond) ∈ lw_tbl := m_wsL_law_r1 _ (List.mem_of_getElem? (i := 7) rfl)
theorem iw_0_8 : (Cond.code yX8_init cX8_init 2 none : Cond) ∈ lw_tbl := m_wsL_law_r1 _ (List.mem_of_getElem? (i := 8) rfl)
theorem iw_0_9 : (Cond.methodLink RX8 3 objectInit : Cond) ∈ lw_tbl := m_wsL_law_r1 _ (List.mem_of_getElem? (i := 9) rfl)
theorem iw_0_10 : (Cond.instanceMethod objectInit : Cond) ∈ lw_tbl := m_wsL_law_r1 _ (List.mem_of_getElem? (i := 10) rfl)
theorem iw_0_11 : (Cond.code objectInit ⟨#[0xb1]⟩ 1 none : Cond) ∈ lw_tbl := m_wsL_law_r1 _ (List.mem_of_getElem? (i := 11) rfl)
theorem iw_0_12 : (Cond.classLink RX8 11 RX5 : Cond) ∈ lw_tbl := m_wsL_law_r1 _ (List.mem_of_getElem? (i := 12) rfl)
theorem iw_0_13 : (Cond.fieldLink RX8 13 "FontRuns" "sheets" "[LFontRuns$Sheet;" : Cond) ∈ lw_tbl := m_wsL_law_r1 _ (List.mem_of_getElem? (i := 13) rfl)
theorem iw_0_14 : (Cond.instantiable RX5 4 : Cond) ∈ lw_tbl := m_wsL_law_r1 _ (List.mem_of_getElem? (i := 14) rfl)
theorem iw_0_15 : (Cond.initialized RX5 : Cond) ∈ lw_tbl := m_wsL_law_r1 _ (List.mem_of_getElem? (i := 15) rfl)
theorem iw_0_16 : (Cond.classLink RX8 18 RX6 : Cond) ∈ lw_tbl := m_wsL_law_r1 _ (List.mem_of_getElem? (i := 16) rfl)
theorem iw_0_17 : (Cond.instantiable RX6 2 : Cond) ∈ lw_tbl := m_wsL_law_r1 _ (List.mem_of_getElem? (i := 17) rfl)
theorem iw_0_18 : (Cond.initialized RX6 : Cond) ∈ lw_tbl := m_wsL_law_r1 _ (List.mem_of_getElem? (i := 18) rfl)
theorem iw_0_19 : (Cond.fieldLink RX8 21 "FontRuns" "reader" "LFontRuns$TextReader;" : Cond) ∈ lw_tbl := m_wsL_law_r1 _ (List.mem_of_getElem? (i := 19) rfl)
theorem iw_0_20 : (Cond.classLink RX8 25 RX0 : Cond) ∈ lw_tbl := m_wsL_law_r1 _ (List.mem_of_getElem? (i := 20) rfl)
theorem iw_0_21 : (Cond.instantiable RX0 4 : Cond) ∈ lw_tbl := m_wsL_law_r1 _ (List.mem_of_getElem? (i := 21) rfl)
theorem iw_0_22 : (Cond.initialized RX0 : Cond) ∈ lw_tbl := m_wsL_law_r1 _ (List.mem_of_getElem? (i := 22) rfl)
theorem iw_0_23 : (Cond.fieldLink RX8 28 "FontRuns" "fontRow" "LFontRuns$FontRow;" : Cond) ∈ lw_tbl := m_wsL_law_r1 _ (List.mem_of_getElem? (i := 23) rfl)
theorem iw_1_0 : (Cond.classLink RX8 32 RX7 : Cond) ∈ lw_tbl := m_wsL_law_r2 _ (List.mem_of_getElem? (i := 0) rfl)
theorem iw_1_1 : (Cond.instantiable RX7 2 : Cond) ∈ lw_tbl := m_wsL_law_r2 _ (List.mem_of_getElem? (i := 1) rfl)
theorem iw_1_2 : (Cond.initialized RX7 : Cond) ∈ lw_tbl := m_wsL_law_r2 _ (List.mem_of_getElem? (i := 2) rfl)
theorem iw_1_3 : (Cond.fieldLink RX8 35 "FontRuns" "writing" "LFontRuns$Writing;" : Cond) ∈ lw_tbl := m_wsL_law_r2 _ (List.mem_of_getElem? (i := 3) rfl)
theorem iw_1_4 : (Cond.classLink RX8 39 RX1 : Cond) ∈ lw_tbl := m_wsL_law_r2 _ (List.mem_of_getElem? (i := 4) rfl)
theorem iw_1_5 : (Cond.instantiable RX1 2 : Cond) ∈ lw_tbl := m_wsL_law_r2 _ (List.mem_of_getElem? (i := 5) rfl)
theorem iw_1_6 : (Cond.initialized RX1 : Cond) ∈ lw_tbl := m_wsL_law_r2 _ (List.mem_of_getElem? (i := 6) rfl)
theorem iw_1_7 : (Cond.fieldLink RX8 42 "FontRuns" "preference" "LFontRuns$Preference;" : Cond) ∈ lw_tbl := m_wsL_law_r2 _ (List.mem_of_getElem? (i := 7) rfl)
theorem iw_1_8 : (Cond.classLink RX8 46 RX3 : Cond) ∈ lw_tbl := m_wsL_law_r2 _ (List.mem_of_getElem? (i := 8) rfl)
theorem iw_1_9 : (Cond.instantiable RX3 2 : Cond) ∈ lw_tbl := m_wsL_law_r2 _ (List.mem_of_getElem? (i := 9) rfl)
theorem iw_1_10 : (Cond.initialized RX3 : Cond) ∈ lw_tbl := m_wsL_law_r2 _ (List.mem_of_getElem? (i := 10) rfl)
theorem iw_1_11 : (Cond.fieldLink RX8 49 "FontRuns" "recent" "LFontRuns$Recent;" : Cond) ∈ lw_tbl := m_wsL_law_r2 _ (List.mem_of_getElem? (i := 11) rfl)
theorem iw_1_12 : (Cond.classLink RX8 53 RX4 : Cond) ∈ lw_tbl := m_wsL_law_r2 _ (List.mem_of_getElem? (i := 12) rfl)
theorem iw_1_13 : (Cond.instantiable RX4 10 : Cond) ∈ lw_tbl := m_wsL_law_r2 _ (List.mem_of_getElem? (i := 13) rfl)
theorem iw_1_14 : (Cond.initialized RX4 : Cond) ∈ lw_tbl := m_wsL_law_r2 _ (List.mem_of_getElem? (i := 14) rfl)
theorem iw_1_15 : (Cond.fieldLink RX8 56 "FontRuns" "setting" "LFontRuns$Setting;" : Cond) ∈ lw_tbl := m_wsL_law_r2 _ (List.mem_of_getElem? (i := 15) rfl)
theorem iw_1_16 : (Cond.classLink RX8 60 RX2 : Cond) ∈ lw_tbl := m_wsL_law_r2 _ (List.mem_of_getElem? (i := 16) rfl)
theorem iw_1_17 : (Cond.instantiable RX2 3 : Cond) ∈ lw_tbl := m_wsL_law_r2 _ (List.mem_of_getElem? (i := 17) rfl)
theorem iw_1_18 : (Cond.initialized RX2 : Cond) ∈ lw_tbl := m_wsL_law_r2 _ (List.mem_of_getElem? (i := 18) rfl)
theorem iw_1_19 : (Cond.fieldLink RX8 63 "FontRuns" "readings" "LFontRuns$Readings;" : Cond) ∈ lw_tbl := m_wsL_law_r2 _ (List.mem_of_getElem? (i := 19) rfl)
theorem iw_1_20 : (Cond.fieldLink RX8 67 "FontRuns" "supposedWriting" "LFontRuns$Writing;" : Cond) ∈ lw_tbl := m_wsL_law_r2 _ (List.mem_of_getElem? (i := 20) rfl)
theorem iw_1_21 : (Cond.fieldLink RX8 70 "FontRuns" "supposedPreference" "LFontRuns$Preference;" : Cond) ∈ lw_tbl := m_wsL_law_r2 _ (List.mem_of_getElem? (i := 21) rfl)
theorem iw_1_22 : (Cond.fieldLink RX8 73 "FontRuns" "supposedSetting" "LFontRuns$Setting;" : Cond) ∈ lw_tbl := m_wsL_law_r2 _ (List.mem_of_getElem? (i := 22) rfl)
theorem iw_1_23 : (Cond.instanceMethod yX5_init : Cond) ∈ lw_tbl := m_wsL_law_r2 _ (List.mem_of_getElem? (i := 23) rfl)
theorem iw_2_0 : (Cond.code yX5_init cX5_init 1 none : Cond) ∈ lw_tbl := m_wsL_law_r3 _ (List.mem_of_getElem? (i := 0) rfl)
theorem iw_2_1 : (Cond.methodLink RX5 3 objectInit : Cond) ∈ lw_tbl := m_wsL_law_r3 _ (List.mem_of_getElem? (i := 1) rfl)
theorem iw_2_2 : (Cond.arrayClass .int : Cond) ∈ lw_tbl := m_wsL_law_r3 _ (List.mem_of_getElem? (i := 2) rfl)
theorem iw_2_3 : (Cond.fieldLink RX5 9 "FontRuns$Sheet" "cells" "[I" : Cond) ∈ lw_tbl := m_wsL_law_r3 _ (List.mem_of_getElem? (i := 3) rfl)
theorem iw_2_4 : (Cond.instanceMethod yX6_init : Cond) ∈ lw_tbl := m_wsL_law_r3 _ (List.mem_of_getElem? (i := 4) rfl)
theorem iw_2_5 : (Cond.code yX6_init cX6_init 1 none : Cond) ∈ lw_tbl := m_wsL_law_r3 _ (List.mem_of_getElem? (i := 5) rfl)
theorem iw_2_6 : (Cond.methodLink RX6 3 objectInit : Cond) ∈ lw_tbl := m_wsL_law_r3 _ (List.mem_of_getElem? (i := 6) rfl)
theorem iw_2_7 : (Cond.classLink RX6 9 RX0 : Cond) ∈ lw_tbl := m_wsL_law_r3 _ (List.mem_of_getElem? (i := 7) rfl)
theorem iw_2_8 : (Cond.fieldLink RX6 12 "FontRuns$TextReader" "told" "LFontRuns$FontRow;" : Cond) ∈ lw_tbl := m_wsL_law_r3 _ (List.mem_of_getElem? (i := 8) rfl)
theorem iw_2_9 : (Cond.instanceMethod yX0_init : Cond) ∈ lw_tbl := m_wsL_law_r3 _ (List.mem_of_getElem? (i := 9) rfl)
theorem iw_2_10 : (Cond.code yX0_init cX0_init 1 none : Cond) ∈ lw_tbl := m_wsL_law_r3 _ (List.mem_of_getElem? (i := 10) rfl)
theorem iw_2_11 : (Cond.methodLink RX0 3 objectInit : Cond) ∈ lw_tbl := m_wsL_law_r3 _ (List.mem_of_getElem? (i := 11) rfl)
theorem iw_2_12 : (Cond.fieldLink RX0 9 "FontRuns$FontRow" "kind" "[I" : Cond) ∈ lw_tbl := m_wsL_law_r3 _ (List.mem_of_getElem? (i := 12) rfl)
theorem iw_2_13 : (Cond.fieldLink RX0 15 "FontRuns$FontRow" "breadth" "[I" : Cond) ∈ lw_tbl := m_wsL_law_r3 _ (List.mem_of_getElem? (i := 13) rfl)
theorem iw_2_14 : (Cond.fieldLink RX0 18 "FontRuns$FontRow" "has" "[I" : Cond) ∈ lw_tbl := m_wsL_law_r3 _ (List.mem_of_getElem? (i := 14) rfl)
theorem iw_2_15 : (Cond.instanceMethod yX7_init : Cond) ∈ lw_tbl := m_wsL_law_r3 _ (List.mem_of_getElem? (i := 15) rfl)
theorem iw_2_16 : (Cond.code yX7_init cX7_init 1 none : Cond) ∈ lw_tbl := m_wsL_law_r3 _ (List.mem_of_getElem? (i := 16) rfl)
theorem iw_2_17 : (Cond.methodLink RX7 3 objectInit : Cond) ∈ lw_tbl := m_wsL_law_r3 _ (List.mem_of_getElem? (i := 17) rfl)
theorem iw_2_18 : (Cond.fieldLink RX7 9 "FontRuns$Writing" "row" "[I" : Cond) ∈ lw_tbl := m_wsL_law_r3 _ (List.mem_of_getElem? (i := 18) rfl)
theorem iw_2_19 : (Cond.instanceMethod yX1_init : Cond) ∈ lw_tbl := m_wsL_law_r3 _ (List.mem_of_getElem? (i := 19) rfl)
theorem iw_2_20 : (Cond.code yX1_init cX1_init 1 none : Cond) ∈ lw_tbl := m_wsL_law_r3 _ (List.mem_of_getElem? (i := 20) rfl)
theorem iw_2_21 : (Cond.methodLink RX1 3 objectInit : Cond) ∈ lw_tbl := m_wsL_law_r3 _ (List.mem_of_getElem? (i := 21) rfl)
theorem iw_2_22 : (Cond.fieldLink RX1 9 "FontRuns$Preference" "row" "[I" : Cond) ∈ lw_tbl := m_wsL_law_r3 _ (List.mem_of_getElem? (i := 22) rfl)
theorem iw_2_23 : (Cond.instanceMethod yX3_init : Cond) ∈ lw_tbl := m_wsL_law_r3 _ (List.mem_of_getElem? (i := 23) rfl)
theorem iw_3_0 : (Cond.code yX3_init cX3_init 1 none : Cond) ∈ lw_tbl := m_wsL_law_r4 _ (List.mem_of_getElem? (i := 0) rfl)
theorem iw_3_1 : (Cond.methodLink RX3 3 objectInit : Cond) ∈ lw_tbl := m_wsL_law_r4 _ (List.mem_of_getElem? (i := 1) rfl)
theorem iw_3_2 : (Cond.fieldLink RX3 9 "FontRuns$Recent" "row" "[I" : Cond) ∈ lw_tbl := m_wsL_law_r4 _ (List.mem_of_getElem? (i := 2) rfl)
theorem iw_3_3 : (Cond.instanceMethod yX4_init : Cond) ∈ lw_tbl := m_wsL_law_r4 _ (List.mem_of_getElem? (i := 3) rfl)
theorem iw_3_4 : (Cond.code yX4_init cX4_init 1 none : Cond) ∈ lw_tbl := m_wsL_law_r4 _ (List.mem_of_getElem? (i := 4) rfl)
theorem iw_3_5 : (Cond.methodLink RX4 3 objectInit : Cond) ∈ lw_tbl := m_wsL_law_r4 _ (List.mem_of_getElem? (i := 5) rfl)
theorem iw_3_6 : (Cond.fieldLink RX4 9 "FontRuns$Setting" "first" "[I" : Cond) ∈ lw_tbl := m_wsL_law_r4 _ (List.mem_of_getElem? (i := 6) rfl)
theorem iw_3_7 : (Cond.fieldLink RX4 15 "FontRuns$Setting" "length" "[I" : Cond) ∈ lw_tbl := m_wsL_law_r4 _ (List.mem_of_getElem? (i := 7) rfl)
theorem iw_3_8 : (Cond.fieldLink RX4 18 "FontRuns$Setting" "fitting" "[I" : Cond) ∈ lw_tbl := m_wsL_law_r4 _ (List.mem_of_getElem? (i := 8) rfl)
theorem iw_3_9 : (Cond.fieldLink RX4 21 "FontRuns$Setting" "chosen" "[I" : Cond) ∈ lw_tbl := m_wsL_law_r4 _ (List.mem_of_getElem? (i := 9) rfl)
theorem iw_3_10 : (Cond.fieldLink RX4 24 "FontRuns$Setting" "runOf" "[I" : Cond) ∈ lw_tbl := m_wsL_law_r4 _ (List.mem_of_getElem? (i := 10) rfl)
theorem iw_3_11 : (Cond.fieldLink RX4 27 "FontRuns$Setting" "letters" "[I" : Cond) ∈ lw_tbl := m_wsL_law_r4 _ (List.mem_of_getElem? (i := 11) rfl)
theorem iw_3_12 : (Cond.classLink RX4 30 "[[I" : Cond) ∈ lw_tbl := m_wsL_law_r4 _ (List.mem_of_getElem? (i := 12) rfl)
theorem iw_3_13 : (Cond.fieldLink RX4 32 "FontRuns$Setting" "behind" "[[I" : Cond) ∈ lw_tbl := m_wsL_law_r4 _ (List.mem_of_getElem? (i := 13) rfl)
theorem iw_3_14 : (Cond.instanceMethod yX2_init : Cond) ∈ lw_tbl := m_wsL_law_r4 _ (List.mem_of_getElem? (i := 14) rfl)
theorem iw_3_15 : (Cond.code yX2_init cX2_init 1 none : Cond) ∈ lw_tbl := m_wsL_law_r4 _ (List.mem_of_getElem? (i := 15) rfl)
theorem iw_3_16 : (Cond.methodLink RX2 3 objectInit : Cond) ∈ lw_tbl := m_wsL_law_r4 _ (List.mem_of_getElem? (i := 16) rfl)
theorem iw_3_17 : (Cond.fieldLink RX2 9 "FontRuns$Readings" "value" "[I" : Cond) ∈ lw_tbl := m_wsL_law_r4 _ (List.mem_of_getElem? (i := 17) rfl)
theorem iw_3_18 : (Cond.classLink RX2 15 "[[I" : Cond) ∈ lw_tbl := m_wsL_law_r4 _ (List.mem_of_getElem? (i := 18) rfl)
theorem iw_3_19 : (Cond.fieldLink RX2 17 "FontRuns$Readings" "clusters" "[[I" : Cond) ∈ lw_tbl := m_wsL_law_r4 _ (List.mem_of_getElem? (i := 19) rfl)
theorem iw_3_20 : (Cond.methodLink RL 12 yX9_init : Cond) ∈ lw_tbl := m_wsL_law_r4 _ (List.mem_of_getElem? (i := 20) rfl)
theorem iw_3_21 : (Cond.instanceMethod yX9_init : Cond) ∈ lw_tbl := m_wsL_law_r4 _ (List.mem_of_getElem? (i := 21) rfl)
theorem iw_3_22 : (Cond.code yX9_init cX9_init 1 none : Cond) ∈ lw_tbl := m_wsL_law_r4 _ (List.mem_of_getElem? (i := 22) rfl)
theorem iw_3_23 : (Cond.methodLink RX9 1 objectInit : Cond) ∈ lw_tbl := m_wsL_law_r4 _ (List.mem_of_getElem? (i := 23) rfl)
theorem iw_4_0 : (Cond.fieldLink RX9 9 "FontRunsModel" "sorts" "[I" : Cond) ∈ lw_tbl := m_wsL_law_r5 _ (List.mem_of_getElem? (i := 0) rfl)
theorem iw_4_1 : (Cond.fieldLink RX9 13 "FontRunsModel" "sheetLong" "[I" : Cond) ∈ lw_tbl := m_wsL_law_r5 _ (List.mem_of_getElem? (i := 1) rfl)
theorem iw_4_2 : (Cond.fieldLink RX9 16 "FontRunsModel" "cells" "[I" : Cond) ∈ lw_tbl := m_wsL_law_r5 _ (List.mem_of_getElem? (i := 2) rfl)
theorem iw_4_3 : (Cond.fieldLink RX9 19 "FontRunsModel" "kind" "[I" : Cond) ∈ lw_tbl := m_wsL_law_r5 _ (List.mem_of_getElem? (i := 3) rfl)
theorem iw_4_4 : (Cond.fieldLink RX9 22 "FontRunsModel" "width" "[I" : Cond) ∈ lw_tbl := m_wsL_law_r5 _ (List.mem_of_getElem? (i := 4) rfl)
theorem iw_4_5 : (Cond.fieldLink RX9 25 "FontRunsModel" "has" "[I" : Cond) ∈ lw_tbl := m_wsL_law_r5 _ (List.mem_of_getElem? (i := 5) rfl)
theorem iw_4_6 : (Cond.fieldLink RX9 28 "FontRunsModel" "preference" "[I" : Cond) ∈ lw_tbl := m_wsL_law_r5 _ (List.mem_of_getElem? (i := 6) rfl)
theorem iw_4_7 : (Cond.fieldLink RX9 31 "FontRunsModel" "latest" "[I" : Cond) ∈ lw_tbl := m_wsL_law_r5 _ (List.mem_of_getElem? (i := 7) rfl)
theorem iw_4_8 : (Cond.fieldLink RX9 34 "FontRunsModel" "writing" "[I" : Cond) ∈ lw_tbl := m_wsL_law_r5 _ (List.mem_of_getElem? (i := 8) rfl)
theorem iw_4_9 : (Cond.fieldLink RX9 37 "FontRunsModel" "readKind" "[I" : Cond) ∈ lw_tbl := m_wsL_law_r5 _ (List.mem_of_getElem? (i := 9) rfl)
theorem iw_4_10 : (Cond.fieldLink RX9 40 "FontRunsModel" "readWidth" "[I" : Cond) ∈ lw_tbl := m_wsL_law_r5 _ (List.mem_of_getElem? (i := 10) rfl)
theorem iw_4_11 : (Cond.fieldLink RX9 43 "FontRunsModel" "readHas" "[I" : Cond) ∈ lw_tbl := m_wsL_law_r5 _ (List.mem_of_getElem? (i := 11) rfl)
theorem iw_4_12 : (Cond.fieldLink RX9 46 "FontRunsModel" "start" "[I" : Cond) ∈ lw_tbl := m_wsL_law_r5 _ (List.mem_of_getElem? (i := 12) rfl)
theorem iw_4_13 : (Cond.fieldLink RX9 49 "FontRunsModel" "fits" "[I" : Cond) ∈ lw_tbl := m_wsL_law_r5 _ (List.mem_of_getElem? (i := 13) rfl)
theorem iw_4_14 : (Cond.fieldLink RX9 52 "FontRunsModel" "changes" "[I" : Cond) ∈ lw_tbl := m_wsL_law_r5 _ (List.mem_of_getElem? (i := 14) rfl)
theorem iw_4_15 : (Cond.fieldLink RX9 55 "FontRunsModel" "chosen" "[I" : Cond) ∈ lw_tbl := m_wsL_law_r5 _ (List.mem_of_getElem? (i := 15) rfl)
theorem iw_4_16 : (Cond.fieldLink RX9 58 "FontRunsModel" "kept" "[I" : Cond) ∈ lw_tbl := m_wsL_law_r5 _ (List.mem_of_getElem? (i := 16) rfl)
theorem iw_4_17 : (Cond.fieldLink RX9 61 "FontRunsModel" "readFar" "[I" : Cond) ∈ lw_tbl := m_wsL_law_r5 _ (List.mem_of_getElem? (i := 17) rfl)
theorem iw_4_18 : (Cond.methodLink RL 13 yX8_fonts : Cond) ∈ lw_tbl := m_wsL_law_r5 _ (List.mem_of_getElem? (i := 18) rfl)
theorem iw_4_19 : (Cond.instanceMethod yX8_fonts : Cond) ∈ lw_tbl := m_wsL_law_r5 _ (List.mem_of_getElem? (i := 19) rfl)
theorem iw_4_20 : (Cond.selects RX8 yX8_fonts yX8_fonts : Cond) ∈ lw_tbl := m_wsL_law_r5 _ (List.mem_of_getElem? (i := 20) rfl)
theorem iw_4_21 : (Cond.code yX8_fonts cX8_fonts 8 (some .int) : Cond) ∈ lw_tbl := m_wsL_law_r5 _ (List.mem_of_getElem? (i := 21) rfl)
theorem iw_4_22 : (Cond.fieldLink RX8 76 "FontRuns" "latestFault" "I" : Cond) ∈ lw_tbl := m_wsL_law_r5 _ (List.mem_of_getElem? (i := 22) rfl)
theorem iw_4_23 : (Cond.fieldLink RX8 106 "FontRuns$FontRow" "count" "I" : Cond) ∈ lw_tbl := m_wsL_law_r5 _ (List.mem_of_getElem? (i := 23) rfl)
theorem iw_5_0 : (Cond.methodLink RX8 80 yX8_isSheet : Cond) ∈ lw_tbl := m_wsL_law_r6 _ (List.mem_of_getElem? (i := 0) rfl)
theorem iw_5_1 : (Cond.static yX8_isSheet : Cond) ∈ lw_tbl := m_wsL_law_r6 _ (List.mem_of_getElem? (i := 1) rfl)
theorem iw_5_2 : (Cond.code yX8_isSheet cX8_isSheet 1 (some .boolean) : Cond) ∈ lw_tbl := m_wsL_law_r6 _ (List.mem_of_getElem? (i := 2) rfl)
theorem iw_5_3 : (Cond.methodLink RX8 128 yX8_isWithin : Cond) ∈ lw_tbl := m_wsL_law_r6 _ (List.mem_of_getElem? (i := 3) rfl)
theorem iw_5_4 : (Cond.static yX8_isWithin : Cond) ∈ lw_tbl := m_wsL_law_r6 _ (List.mem_of_getElem? (i := 4) rfl)
theorem iw_5_5 : (Cond.code yX8_isWithin cX8_isWithin 3 (some .boolean) : Cond) ∈ lw_tbl := m_wsL_law_r6 _ (List.mem_of_getElem? (i := 5) rfl)
theorem iw_5_6 : (Cond.methodLink RX8 84 yX8_isLane : Cond) ∈ lw_tbl := m_wsL_law_r6 _ (List.mem_of_getElem? (i := 6) rfl)
theorem iw_5_7 : (Cond.static yX8_isLane : Cond) ∈ lw_tbl := m_wsL_law_r6 _ (List.mem_of_getElem? (i := 7) rfl)
theorem iw_5_8 : (Cond.code yX8_isLane cX8_isLane 1 (some .boolean) : Cond) ∈ lw_tbl := m_wsL_law_r6 _ (List.mem_of_getElem? (i := 8) rfl)
theorem iw_5_9 : (Cond.methodLink RX8 87 yX8_faultOfLane : Cond) ∈ lw_tbl := m_wsL_law_r6 _ (List.mem_of_getElem? (i := 9) rfl)
theorem iw_5_10 : (Cond.static yX8_faultOfLane : Cond) ∈ lw_tbl := m_wsL_law_r6 _ (List.mem_of_getElem? (i := 10) rfl)
theorem iw_5_11 : (Cond.code yX8_faultOfLane cX8_faultOfLane 2 (some .int) : Cond) ∈ lw_tbl := m_wsL_law_r6 _ (List.mem_of_getElem? (i := 11) rfl)
theorem iw_5_12 : (Cond.fieldLink RX8 288 "FontRuns$Sheet" "isThere" "Z" : Cond) ∈ lw_tbl := m_wsL_law_r6 _ (List.mem_of_getElem? (i := 12) rfl)
theorem iw_5_13 : (Cond.fieldLink RX8 301 "FontRuns$Sheet" "lane" "I" : Cond) ∈ lw_tbl := m_wsL_law_r6 _ (List.mem_of_getElem? (i := 13) rfl)
theorem iw_5_14 : (Cond.methodLink RX8 91 yX5_hasCells : Cond) ∈ lw_tbl := m_wsL_law_r6 _ (List.mem_of_getElem? (i := 14) rfl)
theorem iw_5_15 : (Cond.instanceMethod yX5_hasCells : Cond) ∈ lw_tbl := m_wsL_law_r6 _ (List.mem_of_getElem? (i := 15) rfl)
theorem iw_5_16 : (Cond.selects RX5 yX5_hasCells yX5_hasCells : Cond) ∈ lw_tbl := m_wsL_law_r6 _ (List.mem_of_getElem? (i := 16) rfl)
theorem iw_5_17 : (Cond.code yX5_hasCells cX5_hasCells 3 (some .boolean) : Cond) ∈ lw_tbl := m_wsL_law_r6 _ (List.mem_of_getElem? (i := 17) rfl)
theorem iw_5_18 : (Cond.fieldLink RX5 15 "FontRuns$Sheet" "isThere" "Z" : Cond) ∈ lw_tbl := m_wsL_law_r6 _ (List.mem_of_getElem? (i := 18) rfl)
theorem iw_5_19 : (Cond.fieldLink RX5 23 "FontRuns$Sheet" "size" "I" : Cond) ∈ lw_tbl := m_wsL_law_r6 _ (List.mem_of_getElem? (i := 19) rfl)
theorem iw_5_20 : (Cond.methodLink RX8 95 yX8_failWith : Cond) ∈ lw_tbl := m_wsL_law_r6 _ (List.mem_of_getElem? (i := 20) rfl)
theorem iw_5_21 : (Cond.instanceMethod yX8_failWith : Cond) ∈ lw_tbl := m_wsL_law_r6 _ (List.mem_of_getElem? (i := 21) rfl)
theorem iw_5_22 : (Cond.selects RX8 yX8_failWith yX8_failWith : Cond) ∈ lw_tbl := m_wsL_law_r6 _ (List.mem_of_getElem? (i := 22) rfl)
theorem iw_5_23 : (Cond.code yX8_failWith cX8_failWith 2 (some .int) : Cond) ∈ lw_tbl := m_wsL_law_r6 _ (List.mem_of_getElem? (i := 23) rfl)
theorem iw_6_0 : (Cond.methodLink RX8 99 yX6_firstFault : Cond) ∈ lw_tbl := m_wsL_law_r7 _ (List.mem_of_getElem? (i := 0) rfl)
theorem iw_6_1 : (Cond.instanceMethod yX6_firstFault : Cond) ∈ lw_tbl := m_wsL_law_r7 _ (List.mem_of_getElem? (i := 1) rfl)
theorem iw_6_2 : (Cond.selects RX6 yX6_firstFault yX6_firstFault : Cond) ∈ lw_tbl := m_wsL_law_r7 _ (List.mem_of_getElem? (i := 2) rfl)
theorem iw_6_3 : (Cond.code yX6_firstFault cX6_firstFault 5 (some .int) : Cond) ∈ lw_tbl := m_wsL_law_r7 _ (List.mem_of_getElem? (i := 3) rfl)
theorem iw_6_4 : (Cond.fieldLink RX6 18 "FontRuns$FontRow" "count" "I" : Cond) ∈ lw_tbl := m_wsL_law_r7 _ (List.mem_of_getElem? (i := 4) rfl)
theorem iw_6_5 : (Cond.fieldLink RX6 22 "FontRuns$TextReader" "due" "I" : Cond) ∈ lw_tbl := m_wsL_law_r7 _ (List.mem_of_getElem? (i := 5) rfl)
theorem iw_6_6 : (Cond.methodLink RX6 25 yX5_at : Cond) ∈ lw_tbl := m_wsL_law_r7 _ (List.mem_of_getElem? (i := 6) rfl)
theorem iw_6_7 : (Cond.instanceMethod yX5_at : Cond) ∈ lw_tbl := m_wsL_law_r7 _ (List.mem_of_getElem? (i := 7) rfl)
theorem iw_6_8 : (Cond.selects RX5 yX5_at yX5_at : Cond) ∈ lw_tbl := m_wsL_law_r7 _ (List.mem_of_getElem? (i := 8) rfl)
theorem iw_6_9 : (Cond.code yX5_at cX5_at 2 (some .int) : Cond) ∈ lw_tbl := m_wsL_law_r7 _ (List.mem_of_getElem? (i := 9) rfl)
theorem iw_6_10 : (Cond.methodLink RX5 30 yX5_hasCell : Cond) ∈ lw_tbl := m_wsL_law_r7 _ (List.mem_of_getElem? (i := 10) rfl)
theorem iw_6_11 : (Cond.instanceMethod yX5_hasCell : Cond) ∈ lw_tbl := m_wsL_law_r7 _ (List.mem_of_getElem? (i := 11) rfl)
theorem iw_6_12 : (Cond.selects RX5 yX5_hasCell yX5_hasCell : Cond) ∈ lw_tbl := m_wsL_law_r7 _ (List.mem_of_getElem? (i := 12) rfl)
theorem iw_6_13 : (Cond.code yX5_hasCell cX5_hasCell 2 (some .boolean) : Cond) ∈ lw_tbl := m_wsL_law_r7 _ (List.mem_of_getElem? (i := 13) rfl)
theorem iw_6_14 : (Cond.methodLink RX6 31 yX6_goesOnWith : Cond) ∈ lw_tbl := m_wsL_law_r7 _ (List.mem_of_getElem? (i := 14) rfl)
theorem iw_6_15 : (Cond.instanceMethod yX6_goesOnWith : Cond) ∈ lw_tbl := m_wsL_law_r7 _ (List.mem_of_getElem? (i := 15) rfl)
theorem iw_6_16 : (Cond.selects RX6 yX6_goesOnWith yX6_goesOnWith : Cond) ∈ lw_tbl := m_wsL_law_r7 _ (List.mem_of_getElem? (i := 16) rfl)
theorem iw_6_17 : (Cond.code yX6_goesOnWith cX6_goesOnWith 2 (some .boolean) : Cond) ∈ lw_tbl := m_wsL_law_r7 _ (List.mem_of_getElem? (i := 17) rfl)
theorem iw_6_18 : (Cond.methodLink RX6 35 yX6_takesHead : Cond) ∈ lw_tbl := m_wsL_law_r7 _ (List.mem_of_getElem? (i := 18) rfl)
theorem iw_6_19 : (Cond.instanceMethod yX6_takesHead : Cond) ∈ lw_tbl := m_wsL_law_r7 _ (List.mem_of_getElem? (i := 19) rfl)
theorem iw_6_20 : (Cond.selects RX6 yX6_takesHead yX6_takesHead : Cond) ∈ lw_tbl := m_wsL_law_r7 _ (List.mem_of_getElem? (i := 20) rfl)
theorem iw_6_21 : (Cond.code yX6_takesHead cX6_takesHead 2 (some .boolean) : Cond) ∈ lw_tbl := m_wsL_law_r7 _ (List.mem_of_getElem? (i := 21) rfl)
theorem iw_6_22 : (Cond.methodLink RX6 38 yX6_takesSign : Cond) ∈ lw_tbl := m_wsL_law_r7 _ (List.mem_of_getElem? (i := 22) rfl)
theorem iw_6_23 : (Cond.instanceMethod yX6_takesSign : Cond) ∈ lw_tbl := m_wsL_law_r7 _ (List.mem_of_getElem? (i := 23) rfl)
theorem iw_7_0 : (Cond.selects RX6 yX6_takesSign yX6_takesSign : Cond) ∈ lw_tbl := m_wsL_law_r8 _ (List.mem_of_getElem? (i := 0) rfl)
theorem iw_7_1 : (Cond.code yX6_takesSign cX6_takesSign 2 (some .boolean) : Cond) ∈ lw_tbl := m_wsL_law_r8 _ (List.mem_of_getElem? (i := 1) rfl)
theorem iw_7_2 : (Cond.fieldLink RX6 51 "FontRuns$FontRow" "has" "[I" : Cond) ∈ lw_tbl := m_wsL_law_r8 _ (List.mem_of_getElem? (i := 2) rfl)
theorem iw_7_3 : (Cond.methodLink RX6 41 yX6_takesKind : Cond) ∈ lw_tbl := m_wsL_law_r8 _ (List.mem_of_getElem? (i := 3) rfl)
theorem iw_7_4 : (Cond.instanceMethod yX6_takesKind : Cond) ∈ lw_tbl := m_wsL_law_r8 _ (List.mem_of_getElem? (i := 4) rfl)
theorem iw_7_5 : (Cond.selects RX6 yX6_takesKind yX6_takesKind : Cond) ∈ lw_tbl := m_wsL_law_r8 _ (List.mem_of_getElem? (i := 5) rfl)
theorem iw_7_6 : (Cond.code yX6_takesKind cX6_takesKind 3 (some .boolean) : Cond) ∈ lw_tbl := m_wsL_law_r8 _ (List.mem_of_getElem? (i := 6) rfl)
theorem iw_7_7 : (Cond.fieldLink RX6 62 "FontRuns$FontRow" "kind" "[I" : Cond) ∈ lw_tbl := m_wsL_law_r8 _ (List.mem_of_getElem? (i := 7) rfl)
theorem iw_7_8 : (Cond.methodLink RX6 55 yX0_isFont : Cond) ∈ lw_tbl := m_wsL_law_r8 _ (List.mem_of_getElem? (i := 8) rfl)
theorem iw_7_9 : (Cond.instanceMethod yX0_isFont : Cond) ∈ lw_tbl := m_wsL_law_r8 _ (List.mem_of_getElem? (i := 9) rfl)
theorem iw_7_10 : (Cond.selects RX0 yX0_isFont yX0_isFont : Cond) ∈ lw_tbl := m_wsL_law_r8 _ (List.mem_of_getElem? (i := 10) rfl)
theorem iw_7_11 : (Cond.code yX0_isFont cX0_isFont 2 (some .boolean) : Cond) ∈ lw_tbl := m_wsL_law_r8 _ (List.mem_of_getElem? (i := 11) rfl)
theorem iw_7_12 : (Cond.fieldLink RX0 21 "FontRuns$FontRow" "count" "I" : Cond) ∈ lw_tbl := m_wsL_law_r8 _ (List.mem_of_getElem? (i := 12) rfl)
theorem iw_7_13 : (Cond.methodLink RX6 45 yX6_takesBreadth : Cond) ∈ lw_tbl := m_wsL_law_r8 _ (List.mem_of_getElem? (i := 13) rfl)
theorem iw_7_14 : (Cond.instanceMethod yX6_takesBreadth : Cond) ∈ lw_tbl := m_wsL_law_r8 _ (List.mem_of_getElem? (i := 14) rfl)
theorem iw_7_15 : (Cond.selects RX6 yX6_takesBreadth yX6_takesBreadth : Cond) ∈ lw_tbl := m_wsL_law_r8 _ (List.mem_of_getElem? (i := 15) rfl)
theorem iw_7_16 : (Cond.code yX6_takesBreadth cX6_takesBreadth 3 (some .boolean) : Cond) ∈ lw_tbl := m_wsL_law_r8 _ (List.mem_of_getElem? (i := 16) rfl)
theorem iw_7_17 : (Cond.fieldLink RX6 65 "FontRuns$FontRow" "breadth" "[I" : Cond) ∈ lw_tbl := m_wsL_law_r8 _ (List.mem_of_getElem? (i := 17) rfl)
theorem iw_7_18 : (Cond.methodLink RX6 48 yX6_takesLetter : Cond) ∈ lw_tbl := m_wsL_law_r8 _ (List.mem_of_getElem? (i := 18) rfl)
theorem iw_7_19 : (Cond.instanceMethod yX6_takesLetter : Cond) ∈ lw_tbl := m_wsL_law_r8 _ (List.mem_of_getElem? (i := 19) rfl)
theorem iw_7_20 : (Cond.selects RX6 yX6_takesLetter yX6_takesLetter : Cond) ∈ lw_tbl := m_wsL_law_r8 _ (List.mem_of_getElem? (i := 20) rfl)
theorem iw_7_21 : (Cond.code yX6_takesLetter cX6_takesLetter 4 (some .boolean) : Cond) ∈ lw_tbl := m_wsL_law_r8 _ (List.mem_of_getElem? (i := 21) rfl)
theorem iw_7_22 : (Cond.methodLink RX6 68 yJ6_bitCount_0f7a4 : Cond) ∈ lw_tbl := m_wsL_law_r8 _ (List.mem_of_getElem? (i := 22) rfl)
theorem iw_7_23 : (Cond.static yJ6_bitCount_0f7a4 : Cond) ∈ lw_tbl := m_wsL_law_r8 _ (List.mem_of_getElem? (i := 23) rfl)
theorem iw_8_0 : (Cond.initialized RJ6 : Cond) ∈ lw_tbl := m_wsL_law_r9 _ (List.mem_of_getElem? (i := 0) rfl)
theorem iw_8_1 : (Cond.code yJ6_bitCount_0f7a4 cJ6_bitCount_0f7a4 1 (some .int) : Cond) ∈ lw_tbl := m_wsL_law_r9 _ (List.mem_of_getElem? (i := 1) rfl)
theorem iw_8_2 : (Cond.constant RJ6 265 (1431655765) : Cond) ∈ lw_tbl := m_wsL_law_r9 _ (List.mem_of_getElem? (i := 2) rfl)
theorem iw_8_3 : (Cond.constant RJ6 266 (858993459) : Cond) ∈ lw_tbl := m_wsL_law_r9 _ (List.mem_of_getElem? (i := 3) rfl)
theorem iw_8_4 : (Cond.constant RJ6 267 (252645135) : Cond) ∈ lw_tbl := m_wsL_law_r9 _ (List.mem_of_getElem? (i := 4) rfl)
theorem iw_8_5 : (Cond.methodLink RX8 103 yX8_beginWithFontsTold : Cond) ∈ lw_tbl := m_wsL_law_r9 _ (List.mem_of_getElem? (i := 5) rfl)
theorem iw_8_6 : (Cond.instanceMethod yX8_beginWithFontsTold : Cond) ∈ lw_tbl := m_wsL_law_r9 _ (List.mem_of_getElem? (i := 6) rfl)
theorem iw_8_7 : (Cond.selects RX8 yX8_beginWithFontsTold yX8_beginWithFontsTold : Cond) ∈ lw_tbl := m_wsL_law_r9 _ (List.mem_of_getElem? (i := 7) rfl)
theorem iw_8_8 : (Cond.code yX8_beginWithFontsTold cX8_beginWithFontsTold 1 none : Cond) ∈ lw_tbl := m_wsL_law_r9 _ (List.mem_of_getElem? (i := 8) rfl)
theorem iw_8_9 : (Cond.fieldLink RX8 132 "FontRuns$TextReader" "told" "LFontRuns$FontRow;" : Cond) ∈ lw_tbl := m_wsL_law_r9 _ (List.mem_of_getElem? (i := 9) rfl)
theorem iw_8_10 : (Cond.fieldLink RX8 139 "FontRuns$Writing" "count" "I" : Cond) ∈ lw_tbl := m_wsL_law_r9 _ (List.mem_of_getElem? (i := 10) rfl)
theorem iw_8_11 : (Cond.fieldLink RX8 144 "FontRuns$Recent" "count" "I" : Cond) ∈ lw_tbl := m_wsL_law_r9 _ (List.mem_of_getElem? (i := 11) rfl)
theorem iw_8_12 : (Cond.fieldLink RX8 145 "FontRuns$Readings" "count" "I" : Cond) ∈ lw_tbl := m_wsL_law_r9 _ (List.mem_of_getElem? (i := 12) rfl)
theorem iw_8_13 : (Cond.methodLink RX8 135 yX0_takeFrom : Cond) ∈ lw_tbl := m_wsL_law_r9 _ (List.mem_of_getElem? (i := 13) rfl)
theorem iw_8_14 : (Cond.instanceMethod yX0_takeFrom : Cond) ∈ lw_tbl := m_wsL_law_r9 _ (List.mem_of_getElem? (i := 14) rfl)
theorem iw_8_15 : (Cond.selects RX0 yX0_takeFrom yX0_takeFrom : Cond) ∈ lw_tbl := m_wsL_law_r9 _ (List.mem_of_getElem? (i := 15) rfl)
theorem iw_8_16 : (Cond.code yX0_takeFrom cX0_takeFrom 3 none : Cond) ∈ lw_tbl := m_wsL_law_r9 _ (List.mem_of_getElem? (i := 16) rfl)
theorem iw_8_17 : (Cond.methodLink RX8 140 yX1_begin : Cond) ∈ lw_tbl := m_wsL_law_r9 _ (List.mem_of_getElem? (i := 17) rfl)
theorem iw_8_18 : (Cond.instanceMethod yX1_begin : Cond) ∈ lw_tbl := m_wsL_law_r9 _ (List.mem_of_getElem? (i := 18) rfl)
theorem iw_8_19 : (Cond.selects RX1 yX1_begin yX1_begin : Cond) ∈ lw_tbl := m_wsL_law_r9 _ (List.mem_of_getElem? (i := 19) rfl)
theorem iw_8_20 : (Cond.code yX1_begin cX1_begin 3 none : Cond) ∈ lw_tbl := m_wsL_law_r9 _ (List.mem_of_getElem? (i := 20) rfl)
theorem iw_8_21 : (Cond.methodLink RX1 15 Lib.Math.min.name : Cond) ∈ lw_tbl := m_wsL_law_r9 _ (List.mem_of_getElem? (i := 21) rfl)
theorem iw_8_22 : (Cond.static Lib.Math.min.name : Cond) ∈ lw_tbl := m_wsL_law_r9 _ (List.mem_of_getElem? (i := 22) rfl)
theorem iw_8_23 : (Cond.initialized "java/lang/Math" : Cond) ∈ lw_tbl := m_wsL_law_r9 _ (List.mem_of_getElem? (i := 23) rfl)
theorem iw_9_0 : (Cond.code Lib.Math.min.name Lib.Math.min.code 2 (some .int) : Cond) ∈ lw_tbl := m_wsL_law_r10 _ (List.mem_of_getElem? (i := 0) rfl)
theorem iw_9_1 : (Cond.fieldLink RX1 21 "FontRuns$Preference" "count" "I" : Cond) ∈ lw_tbl := m_wsL_law_r10 _ (List.mem_of_getElem? (i := 1) rfl)
theorem iw_9_2 : (Cond.methodLink RX8 146 yX8_settle : Cond) ∈ lw_tbl := m_wsL_law_r10 _ (List.mem_of_getElem? (i := 2) rfl)
theorem iw_9_3 : (Cond.instanceMethod yX8_settle : Cond) ∈ lw_tbl := m_wsL_law_r10 _ (List.mem_of_getElem? (i := 3) rfl)
theorem iw_9_4 : (Cond.selects RX8 yX8_settle yX8_settle : Cond) ∈ lw_tbl := m_wsL_law_r10 _ (List.mem_of_getElem? (i := 4) rfl)
theorem iw_9_5 : (Cond.code yX8_settle cX8_settle 1 none : Cond) ∈ lw_tbl := m_wsL_law_r10 _ (List.mem_of_getElem? (i := 5) rfl)
theorem iw_9_6 : (Cond.methodLink RX8 227 yX0_all : Cond) ∈ lw_tbl := m_wsL_law_r10 _ (List.mem_of_getElem? (i := 6) rfl)
theorem iw_9_7 : (Cond.instanceMethod yX0_all : Cond) ∈ lw_tbl := m_wsL_law_r10 _ (List.mem_of_getElem? (i := 7) rfl)
theorem iw_9_8 : (Cond.selects RX0 yX0_all yX0_all : Cond) ∈ lw_tbl := m_wsL_law_r10 _ (List.mem_of_getElem? (i := 8) rfl)
theorem iw_9_9 : (Cond.code yX0_all cX0_all 1 (some .int) : Cond) ∈ lw_tbl := m_wsL_law_r10 _ (List.mem_of_getElem? (i := 9) rfl)
theorem iw_9_10 : (Cond.methodLink RX8 231 yX4_make : Cond) ∈ lw_tbl := m_wsL_law_r10 _ (List.mem_of_getElem? (i := 10) rfl)
theorem iw_9_11 : (Cond.instanceMethod yX4_make : Cond) ∈ lw_tbl := m_wsL_law_r10 _ (List.mem_of_getElem? (i := 11) rfl)
theorem iw_9_12 : (Cond.selects RX4 yX4_make yX4_make : Cond) ∈ lw_tbl := m_wsL_law_r10 _ (List.mem_of_getElem? (i := 12) rfl)
theorem iw_9_13 : (Cond.code yX4_make cX4_make 5 none : Cond) ∈ lw_tbl := m_wsL_law_r10 _ (List.mem_of_getElem? (i := 13) rfl)
theorem iw_9_14 : (Cond.methodLink RX4 35 yX4_cut : Cond) ∈ lw_tbl := m_wsL_law_r10 _ (List.mem_of_getElem? (i := 14) rfl)
theorem iw_9_15 : (Cond.instanceMethod yX4_cut : Cond) ∈ lw_tbl := m_wsL_law_r10 _ (List.mem_of_getElem? (i := 15) rfl)
theorem iw_9_16 : (Cond.selects RX4 yX4_cut yX4_cut : Cond) ∈ lw_tbl := m_wsL_law_r10 _ (List.mem_of_getElem? (i := 16) rfl)
theorem iw_9_17 : (Cond.code yX4_cut cX4_cut 4 none : Cond) ∈ lw_tbl := m_wsL_law_r10 _ (List.mem_of_getElem? (i := 17) rfl)
theorem iw_9_18 : (Cond.fieldLink RX4 51 "FontRuns$Setting" "count" "I" : Cond) ∈ lw_tbl := m_wsL_law_r10 _ (List.mem_of_getElem? (i := 18) rfl)
theorem iw_9_19 : (Cond.fieldLink RX4 74 "FontRuns$Writing" "count" "I" : Cond) ∈ lw_tbl := m_wsL_law_r10 _ (List.mem_of_getElem? (i := 19) rfl)
theorem iw_9_20 : (Cond.fieldLink RX4 77 "FontRuns$Writing" "row" "[I" : Cond) ∈ lw_tbl := m_wsL_law_r10 _ (List.mem_of_getElem? (i := 20) rfl)
theorem iw_9_21 : (Cond.methodLink RX4 39 yX4_findFitting : Cond) ∈ lw_tbl := m_wsL_law_r10 _ (List.mem_of_getElem? (i := 21) rfl)
theorem iw_9_22 : (Cond.instanceMethod yX4_findFitting : Cond) ∈ lw_tbl := m_wsL_law_r10 _ (List.mem_of_getElem? (i := 22) rfl)
theorem iw_9_23 : (Cond.selects RX4 yX4_findFitting yX4_findFitting : Cond) ∈ lw_tbl := m_wsL_law_r10 _ (List.mem_of_getElem? (i := 23) rfl)
theorem iw_10_0 : (Cond.code yX4_findFitting cX4_findFitting 4 none : Cond) ∈ lw_tbl := m_wsL_law_r11 _ (List.mem_of_getElem? (i := 0) rfl)
theorem iw_10_1 : (Cond.fieldLink RX4 80 "FontRuns$Setting" "boxes" "I" : Cond) ∈ lw_tbl := m_wsL_law_r11 _ (List.mem_of_getElem? (i := 1) rfl)
theorem iw_10_2 : (Cond.methodLink RX4 83 yX0_fitting : Cond) ∈ lw_tbl := m_wsL_law_r11 _ (List.mem_of_getElem? (i := 2) rfl)
theorem iw_10_3 : (Cond.instanceMethod yX0_fitting : Cond) ∈ lw_tbl := m_wsL_law_r11 _ (List.mem_of_getElem? (i := 3) rfl)
theorem iw_10_4 : (Cond.selects RX0 yX0_fitting yX0_fitting : Cond) ∈ lw_tbl := m_wsL_law_r11 _ (List.mem_of_getElem? (i := 4) rfl)
theorem iw_10_5 : (Cond.code yX0_fitting cX0_fitting 4 (some .int) : Cond) ∈ lw_tbl := m_wsL_law_r11 _ (List.mem_of_getElem? (i := 5) rfl)
theorem iw_10_6 : (Cond.methodLink RX4 43 yX4_findBehind : Cond) ∈ lw_tbl := m_wsL_law_r11 _ (List.mem_of_getElem? (i := 6) rfl)
theorem iw_10_7 : (Cond.instanceMethod yX4_findBehind : Cond) ∈ lw_tbl := m_wsL_law_r11 _ (List.mem_of_getElem? (i := 7) rfl)
theorem iw_10_8 : (Cond.selects RX4 yX4_findBehind yX4_findBehind : Cond) ∈ lw_tbl := m_wsL_law_r11 _ (List.mem_of_getElem? (i := 8) rfl)
theorem iw_10_9 : (Cond.code yX4_findBehind cX4_findBehind 8 none : Cond) ∈ lw_tbl := m_wsL_law_r11 _ (List.mem_of_getElem? (i := 9) rfl)
theorem iw_10_10 : (Cond.methodLink RX4 85 Lib.Math.min.name : Cond) ∈ lw_tbl := m_wsL_law_r11 _ (List.mem_of_getElem? (i := 10) rfl)
theorem iw_10_11 : (Cond.methodLink RX4 47 yX4_choose : Cond) ∈ lw_tbl := m_wsL_law_r11 _ (List.mem_of_getElem? (i := 11) rfl)
theorem iw_10_12 : (Cond.instanceMethod yX4_choose : Cond) ∈ lw_tbl := m_wsL_law_r11 _ (List.mem_of_getElem? (i := 12) rfl)
theorem iw_10_13 : (Cond.selects RX4 yX4_choose yX4_choose : Cond) ∈ lw_tbl := m_wsL_law_r11 _ (List.mem_of_getElem? (i := 13) rfl)
theorem iw_10_14 : (Cond.code yX4_choose cX4_choose 4 none : Cond) ∈ lw_tbl := m_wsL_law_r11 _ (List.mem_of_getElem? (i := 14) rfl)
theorem iw_10_15 : (Cond.fieldLink RX4 59 "FontRuns$Setting" "runs" "I" : Cond) ∈ lw_tbl := m_wsL_law_r11 _ (List.mem_of_getElem? (i := 15) rfl)
theorem iw_10_16 : (Cond.methodLink RX4 88 yX4_firstOfBest : Cond) ∈ lw_tbl := m_wsL_law_r11 _ (List.mem_of_getElem? (i := 16) rfl)
theorem iw_10_17 : (Cond.instanceMethod yX4_firstOfBest : Cond) ∈ lw_tbl := m_wsL_law_r11 _ (List.mem_of_getElem? (i := 17) rfl)
theorem iw_10_18 : (Cond.selects RX4 yX4_firstOfBest yX4_firstOfBest : Cond) ∈ lw_tbl := m_wsL_law_r11 _ (List.mem_of_getElem? (i := 18) rfl)
theorem iw_10_19 : (Cond.code yX4_firstOfBest cX4_firstOfBest 9 (some .int) : Cond) ∈ lw_tbl := m_wsL_law_r11 _ (List.mem_of_getElem? (i := 19) rfl)
theorem iw_10_20 : (Cond.fieldLink RX4 92 "FontRuns$Preference" "count" "I" : Cond) ∈ lw_tbl := m_wsL_law_r11 _ (List.mem_of_getElem? (i := 20) rfl)
theorem iw_10_21 : (Cond.fieldLink RX4 95 "FontRuns$Preference" "row" "[I" : Cond) ∈ lw_tbl := m_wsL_law_r11 _ (List.mem_of_getElem? (i := 21) rfl)
theorem iw_10_22 : (Cond.methodLink RL 17 yX9_fonts : Cond) ∈ lw_tbl := m_wsL_law_r11 _ (List.mem_of_getElem? (i := 22) rfl)
theorem iw_10_23 : (Cond.instanceMethod yX9_fonts : Cond) ∈ lw_tbl := m_wsL_law_r11 _ (List.mem_of_getElem? (i := 23) rfl)
theorem iw_11_0 : (Cond.selects RX9 yX9_fonts yX9_fonts : Cond) ∈ lw_tbl := m_wsL_law_r12 _ (List.mem_of_getElem? (i := 0) rfl)
theorem iw_11_1 : (Cond.code yX9_fonts cX9_fonts 8 (some .int) : Cond) ∈ lw_tbl := m_wsL_law_r12 _ (List.mem_of_getElem? (i := 1) rfl)
theorem iw_11_2 : (Cond.fieldLink RX9 64 "FontRunsModel" "fault" "I" : Cond) ∈ lw_tbl := m_wsL_law_r12 _ (List.mem_of_getElem? (i := 2) rfl)
theorem iw_11_3 : (Cond.fieldLink RX9 77 "FontRunsModel" "at" "I" : Cond) ∈ lw_tbl := m_wsL_law_r12 _ (List.mem_of_getElem? (i := 3) rfl)
theorem iw_11_4 : (Cond.fieldLink RX9 98 "FontRunsModel" "readFonts" "I" : Cond) ∈ lw_tbl := m_wsL_law_r12 _ (List.mem_of_getElem? (i := 4) rfl)
theorem iw_11_5 : (Cond.fieldLink RX9 74 "FontRunsModel" "fonts" "I" : Cond) ∈ lw_tbl := m_wsL_law_r12 _ (List.mem_of_getElem? (i := 5) rfl)
theorem iw_11_6 : (Cond.fieldLink RX9 101 "FontRunsModel" "many" "I" : Cond) ∈ lw_tbl := m_wsL_law_r12 _ (List.mem_of_getElem? (i := 6) rfl)
theorem iw_11_7 : (Cond.fieldLink RX9 104 "FontRunsModel" "readings" "I" : Cond) ∈ lw_tbl := m_wsL_law_r12 _ (List.mem_of_getElem? (i := 7) rfl)
theorem iw_11_8 : (Cond.methodLink RX9 80 yX9_isSheet : Cond) ∈ lw_tbl := m_wsL_law_r12 _ (List.mem_of_getElem? (i := 8) rfl)
theorem iw_11_9 : (Cond.static yX9_isSheet : Cond) ∈ lw_tbl := m_wsL_law_r12 _ (List.mem_of_getElem? (i := 9) rfl)
theorem iw_11_10 : (Cond.code yX9_isSheet cX9_isSheet 1 (some .boolean) : Cond) ∈ lw_tbl := m_wsL_law_r12 _ (List.mem_of_getElem? (i := 10) rfl)
theorem iw_11_11 : (Cond.methodLink RX9 70 yX9_within : Cond) ∈ lw_tbl := m_wsL_law_r12 _ (List.mem_of_getElem? (i := 11) rfl)
theorem iw_11_12 : (Cond.static yX9_within : Cond) ∈ lw_tbl := m_wsL_law_r12 _ (List.mem_of_getElem? (i := 12) rfl)
theorem iw_11_13 : (Cond.code yX9_within cX9_within 3 (some .boolean) : Cond) ∈ lw_tbl := m_wsL_law_r12 _ (List.mem_of_getElem? (i := 13) rfl)
theorem iw_11_14 : (Cond.methodLink RX9 84 yX9_isSort : Cond) ∈ lw_tbl := m_wsL_law_r12 _ (List.mem_of_getElem? (i := 14) rfl)
theorem iw_11_15 : (Cond.static yX9_isSort : Cond) ∈ lw_tbl := m_wsL_law_r12 _ (List.mem_of_getElem? (i := 15) rfl)
theorem iw_11_16 : (Cond.code yX9_isSort cX9_isSort 1 (some .boolean) : Cond) ∈ lw_tbl := m_wsL_law_r12 _ (List.mem_of_getElem? (i := 16) rfl)
theorem iw_11_17 : (Cond.methodLink RX9 87 yX9_against : Cond) ∈ lw_tbl := m_wsL_law_r12 _ (List.mem_of_getElem? (i := 17) rfl)
theorem iw_11_18 : (Cond.instanceMethod yX9_against : Cond) ∈ lw_tbl := m_wsL_law_r12 _ (List.mem_of_getElem? (i := 18) rfl)
theorem iw_11_19 : (Cond.selects RX9 yX9_against yX9_against : Cond) ∈ lw_tbl := m_wsL_law_r12 _ (List.mem_of_getElem? (i := 19) rfl)
theorem iw_11_20 : (Cond.code yX9_against cX9_against 5 (some .int) : Cond) ∈ lw_tbl := m_wsL_law_r12 _ (List.mem_of_getElem? (i := 20) rfl)
theorem iw_11_21 : (Cond.methodLink RX9 91 yX9_fails : Cond) ∈ lw_tbl := m_wsL_law_r12 _ (List.mem_of_getElem? (i := 21) rfl)
theorem iw_11_22 : (Cond.instanceMethod yX9_fails : Cond) ∈ lw_tbl := m_wsL_law_r12 _ (List.mem_of_getElem? (i := 22) rfl)
theorem iw_11_23 : (Cond.selects RX9 yX9_fails yX9_fails : Cond) ∈ lw_tbl := m_wsL_law_r12 _ (List.mem_of_getElem? (i := 23) rfl)
theorem iw_12_0 : (Cond.code yX9_fails cX9_fails 2 (some .int) : Cond) ∈ lw_tbl := m_wsL_law_r13 _ (List.mem_of_getElem? (i := 0) rfl)
theorem iw_12_1 : (Cond.methodLink RX9 95 yX9_readAll : Cond) ∈ lw_tbl := m_wsL_law_r13 _ (List.mem_of_getElem? (i := 1) rfl)
theorem iw_12_2 : (Cond.instanceMethod yX9_readAll : Cond) ∈ lw_tbl := m_wsL_law_r13 _ (List.mem_of_getElem? (i := 2) rfl)
theorem iw_12_3 : (Cond.selects RX9 yX9_readAll yX9_readAll : Cond) ∈ lw_tbl := m_wsL_law_r13 _ (List.mem_of_getElem? (i := 3) rfl)
theorem iw_12_4 : (Cond.code yX9_readAll cX9_readAll 2 (some .boolean) : Cond) ∈ lw_tbl := m_wsL_law_r13 _ (List.mem_of_getElem? (i := 4) rfl)
theorem iw_12_5 : (Cond.methodLink RX9 107 yX9_isSign : Cond) ∈ lw_tbl := m_wsL_law_r13 _ (List.mem_of_getElem? (i := 5) rfl)
theorem iw_12_6 : (Cond.instanceMethod yX9_isSign : Cond) ∈ lw_tbl := m_wsL_law_r13 _ (List.mem_of_getElem? (i := 6) rfl)
theorem iw_12_7 : (Cond.selects RX9 yX9_isSign yX9_isSign : Cond) ∈ lw_tbl := m_wsL_law_r13 _ (List.mem_of_getElem? (i := 7) rfl)
theorem iw_12_8 : (Cond.code yX9_isSign cX9_isSign 3 (some .boolean) : Cond) ∈ lw_tbl := m_wsL_law_r13 _ (List.mem_of_getElem? (i := 8) rfl)
theorem iw_12_9 : (Cond.methodLink RX9 111 yX9_readFont : Cond) ∈ lw_tbl := m_wsL_law_r13 _ (List.mem_of_getElem? (i := 9) rfl)
theorem iw_12_10 : (Cond.instanceMethod yX9_readFont : Cond) ∈ lw_tbl := m_wsL_law_r13 _ (List.mem_of_getElem? (i := 10) rfl)
theorem iw_12_11 : (Cond.selects RX9 yX9_readFont yX9_readFont : Cond) ∈ lw_tbl := m_wsL_law_r13 _ (List.mem_of_getElem? (i := 11) rfl)
theorem iw_12_12 : (Cond.code yX9_readFont cX9_readFont 5 (some .boolean) : Cond) ∈ lw_tbl := m_wsL_law_r13 _ (List.mem_of_getElem? (i := 12) rfl)
theorem iw_12_13 : (Cond.methodLink RX9 114 yX9_size : Cond) ∈ lw_tbl := m_wsL_law_r13 _ (List.mem_of_getElem? (i := 13) rfl)
theorem iw_12_14 : (Cond.static yX9_size : Cond) ∈ lw_tbl := m_wsL_law_r13 _ (List.mem_of_getElem? (i := 14) rfl)
theorem iw_12_15 : (Cond.code yX9_size cX9_size 3 (some .int) : Cond) ∈ lw_tbl := m_wsL_law_r13 _ (List.mem_of_getElem? (i := 15) rfl)
theorem iw_12_16 : (Cond.methodLink RX9 117 yX9_isOf : Cond) ∈ lw_tbl := m_wsL_law_r13 _ (List.mem_of_getElem? (i := 16) rfl)
theorem iw_12_17 : (Cond.static yX9_isOf : Cond) ∈ lw_tbl := m_wsL_law_r13 _ (List.mem_of_getElem? (i := 17) rfl)
theorem iw_12_18 : (Cond.code yX9_isOf cX9_isOf 2 (some .boolean) : Cond) ∈ lw_tbl := m_wsL_law_r13 _ (List.mem_of_getElem? (i := 18) rfl)
theorem iw_12_19 : (Cond.methodLink RL 18 yX8_ofFont : Cond) ∈ lw_tbl := m_wsL_law_r13 _ (List.mem_of_getElem? (i := 19) rfl)
theorem iw_12_20 : (Cond.instanceMethod yX8_ofFont : Cond) ∈ lw_tbl := m_wsL_law_r13 _ (List.mem_of_getElem? (i := 20) rfl)
theorem iw_12_21 : (Cond.selects RX8 yX8_ofFont yX8_ofFont : Cond) ∈ lw_tbl := m_wsL_law_r13 _ (List.mem_of_getElem? (i := 21) rfl)
theorem iw_12_22 : (Cond.code yX8_ofFont cX8_ofFont 3 (some .int) : Cond) ∈ lw_tbl := m_wsL_law_r13 _ (List.mem_of_getElem? (i := 22) rfl)
theorem iw_12_23 : (Cond.fieldLink RX8 112 "FontRuns$FontRow" "kind" "[I" : Cond) ∈ lw_tbl := m_wsL_law_r13 _ (List.mem_of_getElem? (i := 23) rfl)
theorem iw_13_0 : (Cond.fieldLink RX8 116 "FontRuns$FontRow" "breadth" "[I" : Cond) ∈ lw_tbl := m_wsL_law_r14 _ (List.mem_of_getElem? (i := 0) rfl)
theorem iw_13_1 : (Cond.fieldLink RX8 122 "FontRuns$FontRow" "has" "[I" : Cond) ∈ lw_tbl := m_wsL_law_r14 _ (List.mem_of_getElem? (i := 1) rfl)
theorem iw_13_2 : (Cond.methodLink RX8 109 yX0_isFont : Cond) ∈ lw_tbl := m_wsL_law_r14 _ (List.mem_of_getElem? (i := 2) rfl)
theorem iw_13_3 : (Cond.methodLink RX8 119 yX0_step : Cond) ∈ lw_tbl := m_wsL_law_r14 _ (List.mem_of_getElem? (i := 3) rfl)
theorem iw_13_4 : (Cond.instanceMethod yX0_step : Cond) ∈ lw_tbl := m_wsL_law_r14 _ (List.mem_of_getElem? (i := 4) rfl)
theorem iw_13_5 : (Cond.selects RX0 yX0_step yX0_step : Cond) ∈ lw_tbl := m_wsL_law_r14 _ (List.mem_of_getElem? (i := 5) rfl)
theorem iw_13_6 : (Cond.code yX0_step cX0_step 2 (some .int) : Cond) ∈ lw_tbl := m_wsL_law_r14 _ (List.mem_of_getElem? (i := 6) rfl)
theorem iw_13_7 : (Cond.methodLink RX0 29 yX0_isFont : Cond) ∈ lw_tbl := m_wsL_law_r14 _ (List.mem_of_getElem? (i := 7) rfl)
theorem iw_13_8 : (Cond.static yX8_stepOf : Cond) ∈ lw_tbl := m_wsL_law_r14 _ (List.mem_of_getElem? (i := 8) rfl)
theorem iw_13_9 : (Cond.code yX8_stepOf cX8_stepOf 2 (some .int) : Cond) ∈ lw_tbl := m_wsL_law_r14 _ (List.mem_of_getElem? (i := 9) rfl)
theorem iw_13_10 : (Cond.methodLink RX8 125 yX1_placeOf : Cond) ∈ lw_tbl := m_wsL_law_r14 _ (List.mem_of_getElem? (i := 10) rfl)
theorem iw_13_11 : (Cond.instanceMethod yX1_placeOf : Cond) ∈ lw_tbl := m_wsL_law_r14 _ (List.mem_of_getElem? (i := 11) rfl)
theorem iw_13_12 : (Cond.selects RX1 yX1_placeOf yX1_placeOf : Cond) ∈ lw_tbl := m_wsL_law_r14 _ (List.mem_of_getElem? (i := 12) rfl)
theorem iw_13_13 : (Cond.code yX1_placeOf cX1_placeOf 3 (some .int) : Cond) ∈ lw_tbl := m_wsL_law_r14 _ (List.mem_of_getElem? (i := 13) rfl)
theorem iw_13_14 : (Cond.methodLink RL 22 yX9_ofFont : Cond) ∈ lw_tbl := m_wsL_law_r14 _ (List.mem_of_getElem? (i := 14) rfl)
theorem iw_13_15 : (Cond.instanceMethod yX9_ofFont : Cond) ∈ lw_tbl := m_wsL_law_r14 _ (List.mem_of_getElem? (i := 15) rfl)
theorem iw_13_16 : (Cond.selects RX9 yX9_ofFont yX9_ofFont : Cond) ∈ lw_tbl := m_wsL_law_r14 _ (List.mem_of_getElem? (i := 16) rfl)
theorem iw_13_17 : (Cond.code yX9_ofFont cX9_ofFont 3 (some .int) : Cond) ∈ lw_tbl := m_wsL_law_r14 _ (List.mem_of_getElem? (i := 17) rfl)
theorem iw_13_18 : (Cond.methodLink RX9 120 yX9_isFont : Cond) ∈ lw_tbl := m_wsL_law_r14 _ (List.mem_of_getElem? (i := 18) rfl)
theorem iw_13_19 : (Cond.instanceMethod yX9_isFont : Cond) ∈ lw_tbl := m_wsL_law_r14 _ (List.mem_of_getElem? (i := 19) rfl)
theorem iw_13_20 : (Cond.selects RX9 yX9_isFont yX9_isFont : Cond) ∈ lw_tbl := m_wsL_law_r14 _ (List.mem_of_getElem? (i := 20) rfl)
theorem iw_13_21 : (Cond.code yX9_isFont cX9_isFont 2 (some .boolean) : Cond) ∈ lw_tbl := m_wsL_law_r14 _ (List.mem_of_getElem? (i := 21) rfl)
theorem iw_13_22 : (Cond.methodLink RX9 123 yX9_stepOf : Cond) ∈ lw_tbl := m_wsL_law_r14 _ (List.mem_of_getElem? (i := 22) rfl)
theorem iw_13_23 : (Cond.instanceMethod yX9_stepOf : Cond) ∈ lw_tbl := m_wsL_law_r14 _ (List.mem_of_getElem? (i := 23) rfl)
theorem iw_14_0 : (Cond.selects RX9 yX9_stepOf yX9_stepOf : Cond) ∈ lw_tbl := m_wsL_law_r15 _ (List.mem_of_getElem? (i := 0) rfl)
theorem iw_14_1 : (Cond.code yX9_stepOf cX9_stepOf 2 (some .int) : Cond) ∈ lw_tbl := m_wsL_law_r15 _ (List.mem_of_getElem? (i := 1) rfl)
theorem iw_14_2 : (Cond.methodLink RX9 126 yX9_placeOf : Cond) ∈ lw_tbl := m_wsL_law_r15 _ (List.mem_of_getElem? (i := 2) rfl)
theorem iw_14_3 : (Cond.instanceMethod yX9_placeOf : Cond) ∈ lw_tbl := m_wsL_law_r15 _ (List.mem_of_getElem? (i := 3) rfl)
theorem iw_14_4 : (Cond.selects RX9 yX9_placeOf yX9_placeOf : Cond) ∈ lw_tbl := m_wsL_law_r15 _ (List.mem_of_getElem? (i := 4) rfl)
theorem iw_14_5 : (Cond.code yX9_placeOf cX9_placeOf 3 (some .int) : Cond) ∈ lw_tbl := m_wsL_law_r15 _ (List.mem_of_getElem? (i := 5) rfl)
theorem iw_14_6 : (Cond.methodLink RL 23 yX8_width : Cond) ∈ lw_tbl := m_wsL_law_r15 _ (List.mem_of_getElem? (i := 6) rfl)
theorem iw_14_7 : (Cond.instanceMethod yX8_width : Cond) ∈ lw_tbl := m_wsL_law_r15 _ (List.mem_of_getElem? (i := 7) rfl)
theorem iw_14_8 : (Cond.selects RX8 yX8_width yX8_width : Cond) ∈ lw_tbl := m_wsL_law_r15 _ (List.mem_of_getElem? (i := 8) rfl)
theorem iw_14_9 : (Cond.code yX8_width cX8_width 4 (some .int) : Cond) ∈ lw_tbl := m_wsL_law_r15 _ (List.mem_of_getElem? (i := 9) rfl)
theorem iw_14_10 : (Cond.methodLink RL 26 yX9_width : Cond) ∈ lw_tbl := m_wsL_law_r15 _ (List.mem_of_getElem? (i := 10) rfl)
theorem iw_14_11 : (Cond.instanceMethod yX9_width : Cond) ∈ lw_tbl := m_wsL_law_r15 _ (List.mem_of_getElem? (i := 11) rfl)
theorem iw_14_12 : (Cond.selects RX9 yX9_width yX9_width : Cond) ∈ lw_tbl := m_wsL_law_r15 _ (List.mem_of_getElem? (i := 12) rfl)
theorem iw_14_13 : (Cond.code yX9_width cX9_width 4 (some .int) : Cond) ∈ lw_tbl := m_wsL_law_r15 _ (List.mem_of_getElem? (i := 13) rfl)
theorem iw_14_14 : (Cond.methodLink RL 27 yX8_write : Cond) ∈ lw_tbl := m_wsL_law_r15 _ (List.mem_of_getElem? (i := 14) rfl)
theorem iw_14_15 : (Cond.instanceMethod yX8_write : Cond) ∈ lw_tbl := m_wsL_law_r15 _ (List.mem_of_getElem? (i := 15) rfl)
theorem iw_14_16 : (Cond.selects RX8 yX8_write yX8_write : Cond) ∈ lw_tbl := m_wsL_law_r15 _ (List.mem_of_getElem? (i := 16) rfl)
theorem iw_14_17 : (Cond.code yX8_write cX8_write 8 (some .int) : Cond) ∈ lw_tbl := m_wsL_law_r15 _ (List.mem_of_getElem? (i := 17) rfl)
theorem iw_14_18 : (Cond.methodLink RX8 149 yX8_faultOfCells : Cond) ∈ lw_tbl := m_wsL_law_r15 _ (List.mem_of_getElem? (i := 18) rfl)
theorem iw_14_19 : (Cond.static yX8_faultOfCells : Cond) ∈ lw_tbl := m_wsL_law_r15 _ (List.mem_of_getElem? (i := 19) rfl)
theorem iw_14_20 : (Cond.code yX8_faultOfCells cX8_faultOfCells 5 (some .int) : Cond) ∈ lw_tbl := m_wsL_law_r15 _ (List.mem_of_getElem? (i := 20) rfl)
theorem iw_14_21 : (Cond.methodLink RX8 153 yX8_areLetters : Cond) ∈ lw_tbl := m_wsL_law_r15 _ (List.mem_of_getElem? (i := 21) rfl)
theorem iw_14_22 : (Cond.static yX8_areLetters : Cond) ∈ lw_tbl := m_wsL_law_r15 _ (List.mem_of_getElem? (i := 22) rfl)
theorem iw_14_23 : (Cond.code yX8_areLetters cX8_areLetters 4 (some .boolean) : Cond) ∈ lw_tbl := m_wsL_law_r15 _ (List.mem_of_getElem? (i := 23) rfl)
theorem iw_15_0 : (Cond.methodLink RX8 157 yX5_at : Cond) ∈ lw_tbl := m_wsL_law_r16 _ (List.mem_of_getElem? (i := 0) rfl)
theorem iw_15_1 : (Cond.methodLink RX8 160 yX8_writeOne : Cond) ∈ lw_tbl := m_wsL_law_r16 _ (List.mem_of_getElem? (i := 1) rfl)
theorem iw_15_2 : (Cond.instanceMethod yX8_writeOne : Cond) ∈ lw_tbl := m_wsL_law_r16 _ (List.mem_of_getElem? (i := 2) rfl)
theorem iw_15_3 : (Cond.selects RX8 yX8_writeOne yX8_writeOne : Cond) ∈ lw_tbl := m_wsL_law_r16 _ (List.mem_of_getElem? (i := 3) rfl)
theorem iw_15_4 : (Cond.code yX8_writeOne cX8_writeOne 2 none : Cond) ∈ lw_tbl := m_wsL_law_r16 _ (List.mem_of_getElem? (i := 4) rfl)
theorem iw_15_5 : (Cond.fieldLink RX8 203 "FontRuns" "everWritten" "I" : Cond) ∈ lw_tbl := m_wsL_law_r16 _ (List.mem_of_getElem? (i := 5) rfl)
theorem iw_15_6 : (Cond.constantLong RX8 225 (31) : Cond) ∈ lw_tbl := m_wsL_law_r16 _ (List.mem_of_getElem? (i := 6) rfl)
theorem iw_15_7 : (Cond.fieldLink RX8 206 "FontRuns" "writtenCheck" "J" : Cond) ∈ lw_tbl := m_wsL_law_r16 _ (List.mem_of_getElem? (i := 7) rfl)
theorem iw_15_8 : (Cond.methodLink RX8 222 yX7_add : Cond) ∈ lw_tbl := m_wsL_law_r16 _ (List.mem_of_getElem? (i := 8) rfl)
theorem iw_15_9 : (Cond.instanceMethod yX7_add : Cond) ∈ lw_tbl := m_wsL_law_r16 _ (List.mem_of_getElem? (i := 9) rfl)
theorem iw_15_10 : (Cond.selects RX7 yX7_add yX7_add : Cond) ∈ lw_tbl := m_wsL_law_r16 _ (List.mem_of_getElem? (i := 10) rfl)
theorem iw_15_11 : (Cond.code yX7_add cX7_add 2 (some .boolean) : Cond) ∈ lw_tbl := m_wsL_law_r16 _ (List.mem_of_getElem? (i := 11) rfl)
theorem iw_15_12 : (Cond.fieldLink RX7 15 "FontRuns$Writing" "count" "I" : Cond) ∈ lw_tbl := m_wsL_law_r16 _ (List.mem_of_getElem? (i := 12) rfl)
theorem iw_15_13 : (Cond.methodLink RL 30 yX9_write : Cond) ∈ lw_tbl := m_wsL_law_r16 _ (List.mem_of_getElem? (i := 13) rfl)
theorem iw_15_14 : (Cond.instanceMethod yX9_write : Cond) ∈ lw_tbl := m_wsL_law_r16 _ (List.mem_of_getElem? (i := 14) rfl)
theorem iw_15_15 : (Cond.selects RX9 yX9_write yX9_write : Cond) ∈ lw_tbl := m_wsL_law_r16 _ (List.mem_of_getElem? (i := 15) rfl)
theorem iw_15_16 : (Cond.code yX9_write cX9_write 8 (some .int) : Cond) ∈ lw_tbl := m_wsL_law_r16 _ (List.mem_of_getElem? (i := 16) rfl)
theorem iw_15_17 : (Cond.fieldLink RX9 129 "FontRunsModel" "tally" "I" : Cond) ∈ lw_tbl := m_wsL_law_r16 _ (List.mem_of_getElem? (i := 17) rfl)
theorem iw_15_18 : (Cond.constantLong RX9 132 (31) : Cond) ∈ lw_tbl := m_wsL_law_r16 _ (List.mem_of_getElem? (i := 18) rfl)
theorem iw_15_19 : (Cond.fieldLink RX9 134 "FontRunsModel" "check" "J" : Cond) ∈ lw_tbl := m_wsL_law_r16 _ (List.mem_of_getElem? (i := 19) rfl)
theorem iw_15_20 : (Cond.methodLink RL 31 yX8_erase : Cond) ∈ lw_tbl := m_wsL_law_r16 _ (List.mem_of_getElem? (i := 20) rfl)
theorem iw_15_21 : (Cond.instanceMethod yX8_erase : Cond) ∈ lw_tbl := m_wsL_law_r16 _ (List.mem_of_getElem? (i := 21) rfl)
theorem iw_15_22 : (Cond.selects RX8 yX8_erase yX8_erase : Cond) ∈ lw_tbl := m_wsL_law_r16 _ (List.mem_of_getElem? (i := 22) rfl)
theorem iw_15_23 : (Cond.code yX8_erase cX8_erase 2 (some .int) : Cond) ∈ lw_tbl := m_wsL_law_r16 _ (List.mem_of_getElem? (i := 23) rfl)
theorem iw_16_0 : (Cond.methodLink RX8 163 yX7_drop : Cond) ∈ lw_tbl := m_wsL_law_r17 _ (List.mem_of_getElem? (i := 0) rfl)
theorem iw_16_1 : (Cond.instanceMethod yX7_drop : Cond) ∈ lw_tbl := m_wsL_law_r17 _ (List.mem_of_getElem? (i := 1) rfl)
theorem iw_16_2 : (Cond.selects RX7 yX7_drop yX7_drop : Cond) ∈ lw_tbl := m_wsL_law_r17 _ (List.mem_of_getElem? (i := 2) rfl)
theorem iw_16_3 : (Cond.code yX7_drop cX7_drop 2 (some .boolean) : Cond) ∈ lw_tbl := m_wsL_law_r17 _ (List.mem_of_getElem? (i := 3) rfl)
theorem iw_16_4 : (Cond.methodLink RL 35 yX9_erase : Cond) ∈ lw_tbl := m_wsL_law_r17 _ (List.mem_of_getElem? (i := 4) rfl)
theorem iw_16_5 : (Cond.instanceMethod yX9_erase : Cond) ∈ lw_tbl := m_wsL_law_r17 _ (List.mem_of_getElem? (i := 5) rfl)
theorem iw_16_6 : (Cond.selects RX9 yX9_erase yX9_erase : Cond) ∈ lw_tbl := m_wsL_law_r17 _ (List.mem_of_getElem? (i := 6) rfl)
theorem iw_16_7 : (Cond.code yX9_erase cX9_erase 2 (some .int) : Cond) ∈ lw_tbl := m_wsL_law_r17 _ (List.mem_of_getElem? (i := 7) rfl)
theorem iw_16_8 : (Cond.methodLink RL 36 yX8_letter : Cond) ∈ lw_tbl := m_wsL_law_r17 _ (List.mem_of_getElem? (i := 8) rfl)
theorem iw_16_9 : (Cond.instanceMethod yX8_letter : Cond) ∈ lw_tbl := m_wsL_law_r17 _ (List.mem_of_getElem? (i := 9) rfl)
theorem iw_16_10 : (Cond.selects RX8 yX8_letter yX8_letter : Cond) ∈ lw_tbl := m_wsL_law_r17 _ (List.mem_of_getElem? (i := 10) rfl)
theorem iw_16_11 : (Cond.code yX8_letter cX8_letter 2 (some .int) : Cond) ∈ lw_tbl := m_wsL_law_r17 _ (List.mem_of_getElem? (i := 11) rfl)
theorem iw_16_12 : (Cond.fieldLink RX8 166 "FontRuns$Writing" "row" "[I" : Cond) ∈ lw_tbl := m_wsL_law_r17 _ (List.mem_of_getElem? (i := 12) rfl)
theorem iw_16_13 : (Cond.methodLink RL 39 yX9_letter : Cond) ∈ lw_tbl := m_wsL_law_r17 _ (List.mem_of_getElem? (i := 13) rfl)
theorem iw_16_14 : (Cond.instanceMethod yX9_letter : Cond) ∈ lw_tbl := m_wsL_law_r17 _ (List.mem_of_getElem? (i := 14) rfl)
theorem iw_16_15 : (Cond.selects RX9 yX9_letter yX9_letter : Cond) ∈ lw_tbl := m_wsL_law_r17 _ (List.mem_of_getElem? (i := 15) rfl)
theorem iw_16_16 : (Cond.code yX9_letter cX9_letter 2 (some .int) : Cond) ∈ lw_tbl := m_wsL_law_r17 _ (List.mem_of_getElem? (i := 16) rfl)
theorem iw_16_17 : (Cond.methodLink RL 40 yX8_ofCluster : Cond) ∈ lw_tbl := m_wsL_law_r17 _ (List.mem_of_getElem? (i := 17) rfl)
theorem iw_16_18 : (Cond.instanceMethod yX8_ofCluster : Cond) ∈ lw_tbl := m_wsL_law_r17 _ (List.mem_of_getElem? (i := 18) rfl)
theorem iw_16_19 : (Cond.selects RX8 yX8_ofCluster yX8_ofCluster : Cond) ∈ lw_tbl := m_wsL_law_r17 _ (List.mem_of_getElem? (i := 19) rfl)
theorem iw_16_20 : (Cond.code yX8_ofCluster cX8_ofCluster 3 (some .int) : Cond) ∈ lw_tbl := m_wsL_law_r17 _ (List.mem_of_getElem? (i := 20) rfl)
theorem iw_16_21 : (Cond.fieldLink RX8 172 "FontRuns$Setting" "first" "[I" : Cond) ∈ lw_tbl := m_wsL_law_r17 _ (List.mem_of_getElem? (i := 21) rfl)
theorem iw_16_22 : (Cond.fieldLink RX8 175 "FontRuns$Setting" "length" "[I" : Cond) ∈ lw_tbl := m_wsL_law_r17 _ (List.mem_of_getElem? (i := 22) rfl)
theorem iw_16_23 : (Cond.fieldLink RX8 178 "FontRuns$Setting" "fitting" "[I" : Cond) ∈ lw_tbl := m_wsL_law_r17 _ (List.mem_of_getElem? (i := 23) rfl)
theorem iw_17_0 : (Cond.fieldLink RX8 181 "FontRuns$Setting" "chosen" "[I" : Cond) ∈ lw_tbl := m_wsL_law_r18 _ (List.mem_of_getElem? (i := 0) rfl)
theorem iw_17_1 : (Cond.fieldLink RX8 184 "FontRuns$Setting" "runOf" "[I" : Cond) ∈ lw_tbl := m_wsL_law_r18 _ (List.mem_of_getElem? (i := 1) rfl)
theorem iw_17_2 : (Cond.methodLink RX8 169 yX4_isCluster : Cond) ∈ lw_tbl := m_wsL_law_r18 _ (List.mem_of_getElem? (i := 2) rfl)
theorem iw_17_3 : (Cond.instanceMethod yX4_isCluster : Cond) ∈ lw_tbl := m_wsL_law_r18 _ (List.mem_of_getElem? (i := 3) rfl)
theorem iw_17_4 : (Cond.selects RX4 yX4_isCluster yX4_isCluster : Cond) ∈ lw_tbl := m_wsL_law_r18 _ (List.mem_of_getElem? (i := 4) rfl)
theorem iw_17_5 : (Cond.code yX4_isCluster cX4_isCluster 2 (some .boolean) : Cond) ∈ lw_tbl := m_wsL_law_r18 _ (List.mem_of_getElem? (i := 5) rfl)
theorem iw_17_6 : (Cond.methodLink RL 43 yX9_ofCluster : Cond) ∈ lw_tbl := m_wsL_law_r18 _ (List.mem_of_getElem? (i := 6) rfl)
theorem iw_17_7 : (Cond.instanceMethod yX9_ofCluster : Cond) ∈ lw_tbl := m_wsL_law_r18 _ (List.mem_of_getElem? (i := 7) rfl)
theorem iw_17_8 : (Cond.selects RX9 yX9_ofCluster yX9_ofCluster : Cond) ∈ lw_tbl := m_wsL_law_r18 _ (List.mem_of_getElem? (i := 8) rfl)
theorem iw_17_9 : (Cond.code yX9_ofCluster cX9_ofCluster 3 (some .int) : Cond) ∈ lw_tbl := m_wsL_law_r18 _ (List.mem_of_getElem? (i := 9) rfl)
theorem iw_17_10 : (Cond.fieldLink RX9 138 "FontRunsModel" "clusters" "I" : Cond) ∈ lw_tbl := m_wsL_law_r18 _ (List.mem_of_getElem? (i := 10) rfl)
theorem iw_17_11 : (Cond.methodLink RX9 167 yX9_findBest : Cond) ∈ lw_tbl := m_wsL_law_r18 _ (List.mem_of_getElem? (i := 11) rfl)
theorem iw_17_12 : (Cond.instanceMethod yX9_findBest : Cond) ∈ lw_tbl := m_wsL_law_r18 _ (List.mem_of_getElem? (i := 12) rfl)
theorem iw_17_13 : (Cond.selects RX9 yX9_findBest yX9_findBest : Cond) ∈ lw_tbl := m_wsL_law_r18 _ (List.mem_of_getElem? (i := 13) rfl)
theorem iw_17_14 : (Cond.code yX9_findBest cX9_findBest 6 (some .int) : Cond) ∈ lw_tbl := m_wsL_law_r18 _ (List.mem_of_getElem? (i := 14) rfl)
theorem iw_17_15 : (Cond.fieldLink RX9 158 "FontRunsModel" "advance" "I" : Cond) ∈ lw_tbl := m_wsL_law_r18 _ (List.mem_of_getElem? (i := 15) rfl)
theorem iw_17_16 : (Cond.fieldLink RX9 161 "FontRunsModel" "runs" "I" : Cond) ∈ lw_tbl := m_wsL_law_r18 _ (List.mem_of_getElem? (i := 16) rfl)
theorem iw_17_17 : (Cond.methodLink RX9 155 yX9_findChanges : Cond) ∈ lw_tbl := m_wsL_law_r18 _ (List.mem_of_getElem? (i := 17) rfl)
theorem iw_17_18 : (Cond.instanceMethod yX9_findChanges : Cond) ∈ lw_tbl := m_wsL_law_r18 _ (List.mem_of_getElem? (i := 18) rfl)
theorem iw_17_19 : (Cond.selects RX9 yX9_findChanges yX9_findChanges : Cond) ∈ lw_tbl := m_wsL_law_r18 _ (List.mem_of_getElem? (i := 19) rfl)
theorem iw_17_20 : (Cond.code yX9_findChanges cX9_findChanges 4 (some .int) : Cond) ∈ lw_tbl := m_wsL_law_r18 _ (List.mem_of_getElem? (i := 20) rfl)
theorem iw_17_21 : (Cond.methodLink RX9 147 yX9_findClusters : Cond) ∈ lw_tbl := m_wsL_law_r18 _ (List.mem_of_getElem? (i := 21) rfl)
theorem iw_17_22 : (Cond.instanceMethod yX9_findClusters : Cond) ∈ lw_tbl := m_wsL_law_r18 _ (List.mem_of_getElem? (i := 22) rfl)
theorem iw_17_23 : (Cond.selects RX9 yX9_findClusters yX9_findClusters : Cond) ∈ lw_tbl := m_wsL_law_r18 _ (List.mem_of_getElem? (i := 23) rfl)
theorem iw_18_0 : (Cond.code yX9_findClusters cX9_findClusters 5 none : Cond) ∈ lw_tbl := m_wsL_law_r19 _ (List.mem_of_getElem? (i := 0) rfl)
theorem iw_18_1 : (Cond.fieldLink RX9 141 "FontRunsModel" "boxes" "I" : Cond) ∈ lw_tbl := m_wsL_law_r19 _ (List.mem_of_getElem? (i := 1) rfl)
theorem iw_18_2 : (Cond.methodLink RX9 151 yX9_fewestBehind : Cond) ∈ lw_tbl := m_wsL_law_r19 _ (List.mem_of_getElem? (i := 2) rfl)
theorem iw_18_3 : (Cond.instanceMethod yX9_fewestBehind : Cond) ∈ lw_tbl := m_wsL_law_r19 _ (List.mem_of_getElem? (i := 3) rfl)
theorem iw_18_4 : (Cond.selects RX9 yX9_fewestBehind yX9_fewestBehind : Cond) ∈ lw_tbl := m_wsL_law_r19 _ (List.mem_of_getElem? (i := 4) rfl)
theorem iw_18_5 : (Cond.code yX9_fewestBehind cX9_fewestBehind 7 (some .int) : Cond) ∈ lw_tbl := m_wsL_law_r19 _ (List.mem_of_getElem? (i := 5) rfl)
theorem iw_18_6 : (Cond.methodLink RX9 144 yX9_canSet : Cond) ∈ lw_tbl := m_wsL_law_r19 _ (List.mem_of_getElem? (i := 6) rfl)
theorem iw_18_7 : (Cond.instanceMethod yX9_canSet : Cond) ∈ lw_tbl := m_wsL_law_r19 _ (List.mem_of_getElem? (i := 7) rfl)
theorem iw_18_8 : (Cond.selects RX9 yX9_canSet yX9_canSet : Cond) ∈ lw_tbl := m_wsL_law_r19 _ (List.mem_of_getElem? (i := 8) rfl)
theorem iw_18_9 : (Cond.code yX9_canSet cX9_canSet 4 (some .boolean) : Cond) ∈ lw_tbl := m_wsL_law_r19 _ (List.mem_of_getElem? (i := 9) rfl)
theorem iw_18_10 : (Cond.methodLink RX9 164 yX9_isBestFor : Cond) ∈ lw_tbl := m_wsL_law_r19 _ (List.mem_of_getElem? (i := 10) rfl)
theorem iw_18_11 : (Cond.instanceMethod yX9_isBestFor : Cond) ∈ lw_tbl := m_wsL_law_r19 _ (List.mem_of_getElem? (i := 11) rfl)
theorem iw_18_12 : (Cond.selects RX9 yX9_isBestFor yX9_isBestFor : Cond) ∈ lw_tbl := m_wsL_law_r19 _ (List.mem_of_getElem? (i := 12) rfl)
theorem iw_18_13 : (Cond.code yX9_isBestFor cX9_isBestFor 5 (some .boolean) : Cond) ∈ lw_tbl := m_wsL_law_r19 _ (List.mem_of_getElem? (i := 13) rfl)
theorem iw_18_14 : (Cond.methodLink RX9 171 yX9_runOf : Cond) ∈ lw_tbl := m_wsL_law_r19 _ (List.mem_of_getElem? (i := 14) rfl)
theorem iw_18_15 : (Cond.instanceMethod yX9_runOf : Cond) ∈ lw_tbl := m_wsL_law_r19 _ (List.mem_of_getElem? (i := 15) rfl)
theorem iw_18_16 : (Cond.selects RX9 yX9_runOf yX9_runOf : Cond) ∈ lw_tbl := m_wsL_law_r19 _ (List.mem_of_getElem? (i := 16) rfl)
theorem iw_18_17 : (Cond.code yX9_runOf cX9_runOf 4 (some .int) : Cond) ∈ lw_tbl := m_wsL_law_r19 _ (List.mem_of_getElem? (i := 17) rfl)
theorem iw_18_18 : (Cond.methodLink RL 44 yX8_ofRun : Cond) ∈ lw_tbl := m_wsL_law_r19 _ (List.mem_of_getElem? (i := 18) rfl)
theorem iw_18_19 : (Cond.instanceMethod yX8_ofRun : Cond) ∈ lw_tbl := m_wsL_law_r19 _ (List.mem_of_getElem? (i := 19) rfl)
theorem iw_18_20 : (Cond.selects RX8 yX8_ofRun yX8_ofRun : Cond) ∈ lw_tbl := m_wsL_law_r19 _ (List.mem_of_getElem? (i := 20) rfl)
theorem iw_18_21 : (Cond.code yX8_ofRun cX8_ofRun 5 (some .int) : Cond) ∈ lw_tbl := m_wsL_law_r19 _ (List.mem_of_getElem? (i := 21) rfl)
theorem iw_18_22 : (Cond.fieldLink RX8 187 "FontRuns$Setting" "runs" "I" : Cond) ∈ lw_tbl := m_wsL_law_r19 _ (List.mem_of_getElem? (i := 22) rfl)
theorem iw_18_23 : (Cond.methodLink RX8 190 yX4_firstOfRun : Cond) ∈ lw_tbl := m_wsL_law_r19 _ (List.mem_of_getElem? (i := 23) rfl)
theorem iw_19_0 : (Cond.instanceMethod yX4_firstOfRun : Cond) ∈ lw_tbl := m_wsL_law_r20 _ (List.mem_of_getElem? (i := 0) rfl)
theorem iw_19_1 : (Cond.selects RX4 yX4_firstOfRun yX4_firstOfRun : Cond) ∈ lw_tbl := m_wsL_law_r20 _ (List.mem_of_getElem? (i := 1) rfl)
theorem iw_19_2 : (Cond.code yX4_firstOfRun cX4_firstOfRun 3 (some .int) : Cond) ∈ lw_tbl := m_wsL_law_r20 _ (List.mem_of_getElem? (i := 2) rfl)
theorem iw_19_3 : (Cond.methodLink RX8 193 yX4_clustersOfRun : Cond) ∈ lw_tbl := m_wsL_law_r20 _ (List.mem_of_getElem? (i := 3) rfl)
theorem iw_19_4 : (Cond.instanceMethod yX4_clustersOfRun : Cond) ∈ lw_tbl := m_wsL_law_r20 _ (List.mem_of_getElem? (i := 4) rfl)
theorem iw_19_5 : (Cond.selects RX4 yX4_clustersOfRun yX4_clustersOfRun : Cond) ∈ lw_tbl := m_wsL_law_r20 _ (List.mem_of_getElem? (i := 5) rfl)
theorem iw_19_6 : (Cond.code yX4_clustersOfRun cX4_clustersOfRun 4 (some .int) : Cond) ∈ lw_tbl := m_wsL_law_r20 _ (List.mem_of_getElem? (i := 6) rfl)
theorem iw_19_7 : (Cond.methodLink RL 47 yX9_ofRun : Cond) ∈ lw_tbl := m_wsL_law_r20 _ (List.mem_of_getElem? (i := 7) rfl)
theorem iw_19_8 : (Cond.instanceMethod yX9_ofRun : Cond) ∈ lw_tbl := m_wsL_law_r20 _ (List.mem_of_getElem? (i := 8) rfl)
theorem iw_19_9 : (Cond.selects RX9 yX9_ofRun yX9_ofRun : Cond) ∈ lw_tbl := m_wsL_law_r20 _ (List.mem_of_getElem? (i := 9) rfl)
theorem iw_19_10 : (Cond.code yX9_ofRun cX9_ofRun 7 (some .int) : Cond) ∈ lw_tbl := m_wsL_law_r20 _ (List.mem_of_getElem? (i := 10) rfl)
theorem iw_19_11 : (Cond.methodLink RL 48 yX8_prefer : Cond) ∈ lw_tbl := m_wsL_law_r20 _ (List.mem_of_getElem? (i := 11) rfl)
theorem iw_19_12 : (Cond.instanceMethod yX8_prefer : Cond) ∈ lw_tbl := m_wsL_law_r20 _ (List.mem_of_getElem? (i := 12) rfl)
theorem iw_19_13 : (Cond.selects RX8 yX8_prefer yX8_prefer : Cond) ∈ lw_tbl := m_wsL_law_r20 _ (List.mem_of_getElem? (i := 13) rfl)
theorem iw_19_14 : (Cond.code yX8_prefer cX8_prefer 3 (some .int) : Cond) ∈ lw_tbl := m_wsL_law_r20 _ (List.mem_of_getElem? (i := 14) rfl)
theorem iw_19_15 : (Cond.methodLink RX8 196 yX1_lead : Cond) ∈ lw_tbl := m_wsL_law_r20 _ (List.mem_of_getElem? (i := 15) rfl)
theorem iw_19_16 : (Cond.instanceMethod yX1_lead : Cond) ∈ lw_tbl := m_wsL_law_r20 _ (List.mem_of_getElem? (i := 16) rfl)
theorem iw_19_17 : (Cond.selects RX1 yX1_lead yX1_lead : Cond) ∈ lw_tbl := m_wsL_law_r20 _ (List.mem_of_getElem? (i := 17) rfl)
theorem iw_19_18 : (Cond.code yX1_lead cX1_lead 4 (some .boolean) : Cond) ∈ lw_tbl := m_wsL_law_r20 _ (List.mem_of_getElem? (i := 18) rfl)
theorem iw_19_19 : (Cond.methodLink RX1 25 yX1_placeOf : Cond) ∈ lw_tbl := m_wsL_law_r20 _ (List.mem_of_getElem? (i := 19) rfl)
theorem iw_19_20 : (Cond.methodLink RX8 199 yX3_keep : Cond) ∈ lw_tbl := m_wsL_law_r20 _ (List.mem_of_getElem? (i := 20) rfl)
theorem iw_19_21 : (Cond.instanceMethod yX3_keep : Cond) ∈ lw_tbl := m_wsL_law_r20 _ (List.mem_of_getElem? (i := 21) rfl)
theorem iw_19_22 : (Cond.selects RX3 yX3_keep yX3_keep : Cond) ∈ lw_tbl := m_wsL_law_r20 _ (List.mem_of_getElem? (i := 22) rfl)
theorem iw_19_23 : (Cond.code yX3_keep cX3_keep 3 none : Cond) ∈ lw_tbl := m_wsL_law_r20 _ (List.mem_of_getElem? (i := 23) rfl)
theorem iw_20_0 : (Cond.fieldLink RX3 15 "FontRuns$Recent" "count" "I" : Cond) ∈ lw_tbl := m_wsL_law_r21 _ (List.mem_of_getElem? (i := 0) rfl)
theorem iw_20_1 : (Cond.methodLink RX3 19 Lib.Math.min.name : Cond) ∈ lw_tbl := m_wsL_law_r21 _ (List.mem_of_getElem? (i := 1) rfl)
theorem iw_20_2 : (Cond.methodLink RL 51 yX9_prefer : Cond) ∈ lw_tbl := m_wsL_law_r21 _ (List.mem_of_getElem? (i := 2) rfl)
theorem iw_20_3 : (Cond.instanceMethod yX9_prefer : Cond) ∈ lw_tbl := m_wsL_law_r21 _ (List.mem_of_getElem? (i := 3) rfl)
theorem iw_20_4 : (Cond.selects RX9 yX9_prefer yX9_prefer : Cond) ∈ lw_tbl := m_wsL_law_r21 _ (List.mem_of_getElem? (i := 4) rfl)
theorem iw_20_5 : (Cond.code yX9_prefer cX9_prefer 3 (some .int) : Cond) ∈ lw_tbl := m_wsL_law_r21 _ (List.mem_of_getElem? (i := 5) rfl)
theorem iw_20_6 : (Cond.methodLink RX9 174 yX9_comesFirst : Cond) ∈ lw_tbl := m_wsL_law_r21 _ (List.mem_of_getElem? (i := 6) rfl)
theorem iw_20_7 : (Cond.instanceMethod yX9_comesFirst : Cond) ∈ lw_tbl := m_wsL_law_r21 _ (List.mem_of_getElem? (i := 7) rfl)
theorem iw_20_8 : (Cond.selects RX9 yX9_comesFirst yX9_comesFirst : Cond) ∈ lw_tbl := m_wsL_law_r21 _ (List.mem_of_getElem? (i := 8) rfl)
theorem iw_20_9 : (Cond.code yX9_comesFirst cX9_comesFirst 4 (some .int) : Cond) ∈ lw_tbl := m_wsL_law_r21 _ (List.mem_of_getElem? (i := 9) rfl)
theorem iw_20_10 : (Cond.methodLink RL 52 yX8_latest : Cond) ∈ lw_tbl := m_wsL_law_r21 _ (List.mem_of_getElem? (i := 10) rfl)
theorem iw_20_11 : (Cond.instanceMethod yX8_latest : Cond) ∈ lw_tbl := m_wsL_law_r21 _ (List.mem_of_getElem? (i := 11) rfl)
theorem iw_20_12 : (Cond.selects RX8 yX8_latest yX8_latest : Cond) ∈ lw_tbl := m_wsL_law_r21 _ (List.mem_of_getElem? (i := 12) rfl)
theorem iw_20_13 : (Cond.code yX8_latest cX8_latest 2 (some .int) : Cond) ∈ lw_tbl := m_wsL_law_r21 _ (List.mem_of_getElem? (i := 13) rfl)
theorem iw_20_14 : (Cond.fieldLink RX8 202 "FontRuns$Recent" "row" "[I" : Cond) ∈ lw_tbl := m_wsL_law_r21 _ (List.mem_of_getElem? (i := 14) rfl)
theorem iw_20_15 : (Cond.methodLink RL 55 yX9_latest : Cond) ∈ lw_tbl := m_wsL_law_r21 _ (List.mem_of_getElem? (i := 15) rfl)
theorem iw_20_16 : (Cond.instanceMethod yX9_latest : Cond) ∈ lw_tbl := m_wsL_law_r21 _ (List.mem_of_getElem? (i := 16) rfl)
theorem iw_20_17 : (Cond.selects RX9 yX9_latest yX9_latest : Cond) ∈ lw_tbl := m_wsL_law_r21 _ (List.mem_of_getElem? (i := 17) rfl)
theorem iw_20_18 : (Cond.code yX9_latest cX9_latest 2 (some .int) : Cond) ∈ lw_tbl := m_wsL_law_r21 _ (List.mem_of_getElem? (i := 18) rfl)
theorem iw_20_19 : (Cond.methodLink RL 56 yX8_tally : Cond) ∈ lw_tbl := m_wsL_law_r21 _ (List.mem_of_getElem? (i := 19) rfl)
theorem iw_20_20 : (Cond.instanceMethod yX8_tally : Cond) ∈ lw_tbl := m_wsL_law_r21 _ (List.mem_of_getElem? (i := 20) rfl)
theorem iw_20_21 : (Cond.selects RX8 yX8_tally yX8_tally : Cond) ∈ lw_tbl := m_wsL_law_r21 _ (List.mem_of_getElem? (i := 21) rfl)
theorem iw_20_22 : (Cond.code yX8_tally cX8_tally 1 (some .int) : Cond) ∈ lw_tbl := m_wsL_law_r21 _ (List.mem_of_getElem? (i := 22) rfl)
theorem iw_20_23 : (Cond.methodLink RL 60 yX9_tally : Cond) ∈ lw_tbl := m_wsL_law_r21 _ (List.mem_of_getElem? (i := 23) rfl)
theorem iw_21_0 : (Cond.instanceMethod yX9_tally : Cond) ∈ lw_tbl := m_wsL_law_r22 _ (List.mem_of_getElem? (i := 0) rfl)
theorem iw_21_1 : (Cond.selects RX9 yX9_tally yX9_tally : Cond) ∈ lw_tbl := m_wsL_law_r22 _ (List.mem_of_getElem? (i := 1) rfl)
theorem iw_21_2 : (Cond.code yX9_tally cX9_tally 1 (some .int) : Cond) ∈ lw_tbl := m_wsL_law_r22 _ (List.mem_of_getElem? (i := 2) rfl)
theorem iw_21_3 : (Cond.methodLink RL 61 yX8_check : Cond) ∈ lw_tbl := m_wsL_law_r22 _ (List.mem_of_getElem? (i := 3) rfl)
theorem iw_21_4 : (Cond.instanceMethod yX8_check : Cond) ∈ lw_tbl := m_wsL_law_r22 _ (List.mem_of_getElem? (i := 4) rfl)
theorem iw_21_5 : (Cond.selects RX8 yX8_check yX8_check : Cond) ∈ lw_tbl := m_wsL_law_r22 _ (List.mem_of_getElem? (i := 5) rfl)
theorem iw_21_6 : (Cond.code yX8_check cX8_check 1 (some .long) : Cond) ∈ lw_tbl := m_wsL_law_r22 _ (List.mem_of_getElem? (i := 6) rfl)
theorem iw_21_7 : (Cond.methodLink RL 65 yX9_check : Cond) ∈ lw_tbl := m_wsL_law_r22 _ (List.mem_of_getElem? (i := 7) rfl)
theorem iw_21_8 : (Cond.instanceMethod yX9_check : Cond) ∈ lw_tbl := m_wsL_law_r22 _ (List.mem_of_getElem? (i := 8) rfl)
theorem iw_21_9 : (Cond.selects RX9 yX9_check yX9_check : Cond) ∈ lw_tbl := m_wsL_law_r22 _ (List.mem_of_getElem? (i := 9) rfl)
theorem iw_21_10 : (Cond.code yX9_check cX9_check 1 (some .long) : Cond) ∈ lw_tbl := m_wsL_law_r22 _ (List.mem_of_getElem? (i := 10) rfl)
theorem iw_21_11 : (Cond.methodLink RL 66 yX8_day : Cond) ∈ lw_tbl := m_wsL_law_r22 _ (List.mem_of_getElem? (i := 11) rfl)
theorem iw_21_12 : (Cond.instanceMethod yX8_day : Cond) ∈ lw_tbl := m_wsL_law_r22 _ (List.mem_of_getElem? (i := 12) rfl)
theorem iw_21_13 : (Cond.selects RX8 yX8_day yX8_day : Cond) ∈ lw_tbl := m_wsL_law_r22 _ (List.mem_of_getElem? (i := 13) rfl)
theorem iw_21_14 : (Cond.code yX8_day cX8_day 9 (some .int) : Cond) ∈ lw_tbl := m_wsL_law_r22 _ (List.mem_of_getElem? (i := 14) rfl)
theorem iw_21_15 : (Cond.methodLink RX8 210 yX8_isOfDay : Cond) ∈ lw_tbl := m_wsL_law_r22 _ (List.mem_of_getElem? (i := 15) rfl)
theorem iw_21_16 : (Cond.static yX8_isOfDay : Cond) ∈ lw_tbl := m_wsL_law_r22 _ (List.mem_of_getElem? (i := 16) rfl)
theorem iw_21_17 : (Cond.code yX8_isOfDay cX8_isOfDay 1 (some .boolean) : Cond) ∈ lw_tbl := m_wsL_law_r22 _ (List.mem_of_getElem? (i := 17) rfl)
theorem iw_21_18 : (Cond.methodLink RX8 213 yX8_areActs : Cond) ∈ lw_tbl := m_wsL_law_r22 _ (List.mem_of_getElem? (i := 18) rfl)
theorem iw_21_19 : (Cond.static yX8_areActs : Cond) ∈ lw_tbl := m_wsL_law_r22 _ (List.mem_of_getElem? (i := 19) rfl)
theorem iw_21_20 : (Cond.code yX8_areActs cX8_areActs 4 (some .boolean) : Cond) ∈ lw_tbl := m_wsL_law_r22 _ (List.mem_of_getElem? (i := 20) rfl)
theorem iw_21_21 : (Cond.methodLink RX8 235 yX8_isAct : Cond) ∈ lw_tbl := m_wsL_law_r22 _ (List.mem_of_getElem? (i := 21) rfl)
theorem iw_21_22 : (Cond.static yX8_isAct : Cond) ∈ lw_tbl := m_wsL_law_r22 _ (List.mem_of_getElem? (i := 22) rfl)
theorem iw_21_23 : (Cond.code yX8_isAct cX8_isAct 2 (some .boolean) : Cond) ∈ lw_tbl := m_wsL_law_r22 _ (List.mem_of_getElem? (i := 23) rfl)
theorem iw_22_0 : (Cond.methodLink RX8 216 yX8_supposeActs : Cond) ∈ lw_tbl := m_wsL_law_r23 _ (List.mem_of_getElem? (i := 0) rfl)
theorem iw_22_1 : (Cond.instanceMethod yX8_supposeActs : Cond) ∈ lw_tbl := m_wsL_law_r23 _ (List.mem_of_getElem? (i := 1) rfl)
theorem iw_22_2 : (Cond.selects RX8 yX8_supposeActs yX8_supposeActs : Cond) ∈ lw_tbl := m_wsL_law_r23 _ (List.mem_of_getElem? (i := 2) rfl)
theorem iw_22_3 : (Cond.code yX8_supposeActs cX8_supposeActs 5 (some .int) : Cond) ∈ lw_tbl := m_wsL_law_r23 _ (List.mem_of_getElem? (i := 3) rfl)
theorem iw_22_4 : (Cond.methodLink RX8 238 yX7_takeFrom : Cond) ∈ lw_tbl := m_wsL_law_r23 _ (List.mem_of_getElem? (i := 4) rfl)
theorem iw_22_5 : (Cond.instanceMethod yX7_takeFrom : Cond) ∈ lw_tbl := m_wsL_law_r23 _ (List.mem_of_getElem? (i := 5) rfl)
theorem iw_22_6 : (Cond.selects RX7 yX7_takeFrom yX7_takeFrom : Cond) ∈ lw_tbl := m_wsL_law_r23 _ (List.mem_of_getElem? (i := 6) rfl)
theorem iw_22_7 : (Cond.code yX7_takeFrom cX7_takeFrom 3 none : Cond) ∈ lw_tbl := m_wsL_law_r23 _ (List.mem_of_getElem? (i := 7) rfl)
theorem iw_22_8 : (Cond.methodLink RX8 241 yX1_takeFrom : Cond) ∈ lw_tbl := m_wsL_law_r23 _ (List.mem_of_getElem? (i := 8) rfl)
theorem iw_22_9 : (Cond.instanceMethod yX1_takeFrom : Cond) ∈ lw_tbl := m_wsL_law_r23 _ (List.mem_of_getElem? (i := 9) rfl)
theorem iw_22_10 : (Cond.selects RX1 yX1_takeFrom yX1_takeFrom : Cond) ∈ lw_tbl := m_wsL_law_r23 _ (List.mem_of_getElem? (i := 10) rfl)
theorem iw_22_11 : (Cond.code yX1_takeFrom cX1_takeFrom 3 none : Cond) ∈ lw_tbl := m_wsL_law_r23 _ (List.mem_of_getElem? (i := 11) rfl)
theorem iw_22_12 : (Cond.methodLink RX8 244 yX8_supposeAct : Cond) ∈ lw_tbl := m_wsL_law_r23 _ (List.mem_of_getElem? (i := 12) rfl)
theorem iw_22_13 : (Cond.instanceMethod yX8_supposeAct : Cond) ∈ lw_tbl := m_wsL_law_r23 _ (List.mem_of_getElem? (i := 13) rfl)
theorem iw_22_14 : (Cond.selects RX8 yX8_supposeAct yX8_supposeAct : Cond) ∈ lw_tbl := m_wsL_law_r23 _ (List.mem_of_getElem? (i := 14) rfl)
theorem iw_22_15 : (Cond.code yX8_supposeAct cX8_supposeAct 3 (some .boolean) : Cond) ∈ lw_tbl := m_wsL_law_r23 _ (List.mem_of_getElem? (i := 15) rfl)
theorem iw_22_16 : (Cond.methodLink RX8 219 yX8_ofSupposedDay : Cond) ∈ lw_tbl := m_wsL_law_r23 _ (List.mem_of_getElem? (i := 16) rfl)
theorem iw_22_17 : (Cond.instanceMethod yX8_ofSupposedDay : Cond) ∈ lw_tbl := m_wsL_law_r23 _ (List.mem_of_getElem? (i := 17) rfl)
theorem iw_22_18 : (Cond.selects RX8 yX8_ofSupposedDay yX8_ofSupposedDay : Cond) ∈ lw_tbl := m_wsL_law_r23 _ (List.mem_of_getElem? (i := 18) rfl)
theorem iw_22_19 : (Cond.code yX8_ofSupposedDay cX8_ofSupposedDay 2 (some .int) : Cond) ∈ lw_tbl := m_wsL_law_r23 _ (List.mem_of_getElem? (i := 19) rfl)
theorem iw_22_20 : (Cond.fieldLink RX8 250 "FontRuns$Setting" "count" "I" : Cond) ∈ lw_tbl := m_wsL_law_r23 _ (List.mem_of_getElem? (i := 20) rfl)
theorem iw_22_21 : (Cond.fieldLink RX8 251 "FontRuns$Setting" "boxes" "I" : Cond) ∈ lw_tbl := m_wsL_law_r23 _ (List.mem_of_getElem? (i := 21) rfl)
theorem iw_22_22 : (Cond.methodLink RX8 247 yX4_changes : Cond) ∈ lw_tbl := m_wsL_law_r23 _ (List.mem_of_getElem? (i := 22) rfl)
theorem iw_22_23 : (Cond.instanceMethod yX4_changes : Cond) ∈ lw_tbl := m_wsL_law_r23 _ (List.mem_of_getElem? (i := 23) rfl)
theorem iw_23_0 : (Cond.selects RX4 yX4_changes yX4_changes : Cond) ∈ lw_tbl := m_wsL_law_r24 _ (List.mem_of_getElem? (i := 0) rfl)
theorem iw_23_1 : (Cond.code yX4_changes cX4_changes 1 (some .int) : Cond) ∈ lw_tbl := m_wsL_law_r24 _ (List.mem_of_getElem? (i := 1) rfl)
theorem iw_23_2 : (Cond.methodLink RX4 62 Lib.Math.max.name : Cond) ∈ lw_tbl := m_wsL_law_r24 _ (List.mem_of_getElem? (i := 2) rfl)
theorem iw_23_3 : (Cond.static Lib.Math.max.name : Cond) ∈ lw_tbl := m_wsL_law_r24 _ (List.mem_of_getElem? (i := 3) rfl)
theorem iw_23_4 : (Cond.code Lib.Math.max.name Lib.Math.max.code 2 (some .int) : Cond) ∈ lw_tbl := m_wsL_law_r24 _ (List.mem_of_getElem? (i := 4) rfl)
theorem iw_23_5 : (Cond.methodLink RX8 254 yX4_advance : Cond) ∈ lw_tbl := m_wsL_law_r24 _ (List.mem_of_getElem? (i := 5) rfl)
theorem iw_23_6 : (Cond.instanceMethod yX4_advance : Cond) ∈ lw_tbl := m_wsL_law_r24 _ (List.mem_of_getElem? (i := 6) rfl)
theorem iw_23_7 : (Cond.selects RX4 yX4_advance yX4_advance : Cond) ∈ lw_tbl := m_wsL_law_r24 _ (List.mem_of_getElem? (i := 7) rfl)
theorem iw_23_8 : (Cond.code yX4_advance cX4_advance 4 (some .int) : Cond) ∈ lw_tbl := m_wsL_law_r24 _ (List.mem_of_getElem? (i := 8) rfl)
theorem iw_23_9 : (Cond.methodLink RX4 68 yX0_step : Cond) ∈ lw_tbl := m_wsL_law_r24 _ (List.mem_of_getElem? (i := 9) rfl)
theorem iw_23_10 : (Cond.methodLink RL 70 yX9_day : Cond) ∈ lw_tbl := m_wsL_law_r24 _ (List.mem_of_getElem? (i := 10) rfl)
theorem iw_23_11 : (Cond.instanceMethod yX9_day : Cond) ∈ lw_tbl := m_wsL_law_r24 _ (List.mem_of_getElem? (i := 11) rfl)
theorem iw_23_12 : (Cond.selects RX9 yX9_day yX9_day : Cond) ∈ lw_tbl := m_wsL_law_r24 _ (List.mem_of_getElem? (i := 12) rfl)
theorem iw_23_13 : (Cond.code yX9_day cX9_day 10 (some .int) : Cond) ∈ lw_tbl := m_wsL_law_r24 _ (List.mem_of_getElem? (i := 13) rfl)
theorem iw_23_14 : (Cond.methodLink RX9 180 yX9_isPair : Cond) ∈ lw_tbl := m_wsL_law_r24 _ (List.mem_of_getElem? (i := 14) rfl)
theorem iw_23_15 : (Cond.static yX9_isPair : Cond) ∈ lw_tbl := m_wsL_law_r24 _ (List.mem_of_getElem? (i := 15) rfl)
theorem iw_23_16 : (Cond.code yX9_isPair cX9_isPair 2 (some .boolean) : Cond) ∈ lw_tbl := m_wsL_law_r24 _ (List.mem_of_getElem? (i := 16) rfl)
theorem iw_23_17 : (Cond.methodLink RX9 183 yX9_keep : Cond) ∈ lw_tbl := m_wsL_law_r24 _ (List.mem_of_getElem? (i := 17) rfl)
theorem iw_23_18 : (Cond.instanceMethod yX9_keep : Cond) ∈ lw_tbl := m_wsL_law_r24 _ (List.mem_of_getElem? (i := 18) rfl)
theorem iw_23_19 : (Cond.selects RX9 yX9_keep yX9_keep : Cond) ∈ lw_tbl := m_wsL_law_r24 _ (List.mem_of_getElem? (i := 19) rfl)
theorem iw_23_20 : (Cond.code yX9_keep cX9_keep 2 none : Cond) ∈ lw_tbl := m_wsL_law_r24 _ (List.mem_of_getElem? (i := 20) rfl)
theorem iw_23_21 : (Cond.methodLink RX9 186 yX9_goDay : Cond) ∈ lw_tbl := m_wsL_law_r24 _ (List.mem_of_getElem? (i := 21) rfl)
theorem iw_23_22 : (Cond.instanceMethod yX9_goDay : Cond) ∈ lw_tbl := m_wsL_law_r24 _ (List.mem_of_getElem? (i := 22) rfl)
theorem iw_23_23 : (Cond.selects RX9 yX9_goDay yX9_goDay : Cond) ∈ lw_tbl := m_wsL_law_r24 _ (List.mem_of_getElem? (i := 23) rfl)
theorem iw_24_0 : (Cond.code yX9_goDay cX9_goDay 4 (some .int) : Cond) ∈ lw_tbl := m_wsL_law_r25 _ (List.mem_of_getElem? (i := 0) rfl)
theorem iw_24_1 : (Cond.methodLink RX9 177 yX9_does : Cond) ∈ lw_tbl := m_wsL_law_r25 _ (List.mem_of_getElem? (i := 1) rfl)
theorem iw_24_2 : (Cond.instanceMethod yX9_does : Cond) ∈ lw_tbl := m_wsL_law_r25 _ (List.mem_of_getElem? (i := 2) rfl)
theorem iw_24_3 : (Cond.selects RX9 yX9_does yX9_does : Cond) ∈ lw_tbl := m_wsL_law_r25 _ (List.mem_of_getElem? (i := 3) rfl)
theorem iw_24_4 : (Cond.code yX9_does cX9_does 3 (some .boolean) : Cond) ∈ lw_tbl := m_wsL_law_r25 _ (List.mem_of_getElem? (i := 4) rfl)
theorem iw_24_5 : (Cond.methodLink RX9 190 yX9_tellDay : Cond) ∈ lw_tbl := m_wsL_law_r25 _ (List.mem_of_getElem? (i := 5) rfl)
theorem iw_24_6 : (Cond.instanceMethod yX9_tellDay : Cond) ∈ lw_tbl := m_wsL_law_r25 _ (List.mem_of_getElem? (i := 6) rfl)
theorem iw_24_7 : (Cond.selects RX9 yX9_tellDay yX9_tellDay : Cond) ∈ lw_tbl := m_wsL_law_r25 _ (List.mem_of_getElem? (i := 7) rfl)
theorem iw_24_8 : (Cond.code yX9_tellDay cX9_tellDay 3 (some .int) : Cond) ∈ lw_tbl := m_wsL_law_r25 _ (List.mem_of_getElem? (i := 8) rfl)
theorem iw_24_9 : (Cond.methodLink RX9 193 yX9_putBack : Cond) ∈ lw_tbl := m_wsL_law_r25 _ (List.mem_of_getElem? (i := 9) rfl)
theorem iw_24_10 : (Cond.instanceMethod yX9_putBack : Cond) ∈ lw_tbl := m_wsL_law_r25 _ (List.mem_of_getElem? (i := 10) rfl)
theorem iw_24_11 : (Cond.selects RX9 yX9_putBack yX9_putBack : Cond) ∈ lw_tbl := m_wsL_law_r25 _ (List.mem_of_getElem? (i := 11) rfl)
theorem iw_24_12 : (Cond.code yX9_putBack cX9_putBack 2 none : Cond) ∈ lw_tbl := m_wsL_law_r25 _ (List.mem_of_getElem? (i := 12) rfl)
theorem iw_24_13 : (Cond.methodLink RL 71 yX8_best : Cond) ∈ lw_tbl := m_wsL_law_r25 _ (List.mem_of_getElem? (i := 13) rfl)
theorem iw_24_14 : (Cond.instanceMethod yX8_best : Cond) ∈ lw_tbl := m_wsL_law_r25 _ (List.mem_of_getElem? (i := 14) rfl)
theorem iw_24_15 : (Cond.selects RX8 yX8_best yX8_best : Cond) ∈ lw_tbl := m_wsL_law_r25 _ (List.mem_of_getElem? (i := 15) rfl)
theorem iw_24_16 : (Cond.code yX8_best cX8_best 2 (some .int) : Cond) ∈ lw_tbl := m_wsL_law_r25 _ (List.mem_of_getElem? (i := 16) rfl)
theorem iw_24_17 : (Cond.methodLink RL 74 yX9_best : Cond) ∈ lw_tbl := m_wsL_law_r25 _ (List.mem_of_getElem? (i := 17) rfl)
theorem iw_24_18 : (Cond.instanceMethod yX9_best : Cond) ∈ lw_tbl := m_wsL_law_r25 _ (List.mem_of_getElem? (i := 18) rfl)
theorem iw_24_19 : (Cond.selects RX9 yX9_best yX9_best : Cond) ∈ lw_tbl := m_wsL_law_r25 _ (List.mem_of_getElem? (i := 19) rfl)
theorem iw_24_20 : (Cond.code yX9_best cX9_best 3 (some .int) : Cond) ∈ lw_tbl := m_wsL_law_r25 _ (List.mem_of_getElem? (i := 20) rfl)
theorem iw_24_21 : (Cond.methodLink RL 75 yX8_without : Cond) ∈ lw_tbl := m_wsL_law_r25 _ (List.mem_of_getElem? (i := 21) rfl)
theorem iw_24_22 : (Cond.instanceMethod yX8_without : Cond) ∈ lw_tbl := m_wsL_law_r25 _ (List.mem_of_getElem? (i := 22) rfl)
theorem iw_24_23 : (Cond.selects RX8 yX8_without yX8_without : Cond) ∈ lw_tbl := m_wsL_law_r25 _ (List.mem_of_getElem? (i := 23) rfl)
theorem iw_25_0 : (Cond.code yX8_without cX8_without 2 (some .int) : Cond) ∈ lw_tbl := m_wsL_law_r26 _ (List.mem_of_getElem? (i := 0) rfl)
theorem iw_25_1 : (Cond.methodLink RL 78 yX9_without : Cond) ∈ lw_tbl := m_wsL_law_r26 _ (List.mem_of_getElem? (i := 1) rfl)
theorem iw_25_2 : (Cond.instanceMethod yX9_without : Cond) ∈ lw_tbl := m_wsL_law_r26 _ (List.mem_of_getElem? (i := 2) rfl)
theorem iw_25_3 : (Cond.selects RX9 yX9_without yX9_without : Cond) ∈ lw_tbl := m_wsL_law_r26 _ (List.mem_of_getElem? (i := 3) rfl)
theorem iw_25_4 : (Cond.code yX9_without cX9_without 2 (some .int) : Cond) ∈ lw_tbl := m_wsL_law_r26 _ (List.mem_of_getElem? (i := 4) rfl)
theorem iw_25_5 : (Cond.methodLink RL 79 yX8_enough : Cond) ∈ lw_tbl := m_wsL_law_r26 _ (List.mem_of_getElem? (i := 5) rfl)
theorem iw_25_6 : (Cond.instanceMethod yX8_enough : Cond) ∈ lw_tbl := m_wsL_law_r26 _ (List.mem_of_getElem? (i := 6) rfl)
theorem iw_25_7 : (Cond.selects RX8 yX8_enough yX8_enough : Cond) ∈ lw_tbl := m_wsL_law_r26 _ (List.mem_of_getElem? (i := 7) rfl)
theorem iw_25_8 : (Cond.code yX8_enough cX8_enough 3 (some .int) : Cond) ∈ lw_tbl := m_wsL_law_r26 _ (List.mem_of_getElem? (i := 8) rfl)
theorem iw_25_9 : (Cond.methodLink RX8 258 yX8_leastEnough : Cond) ∈ lw_tbl := m_wsL_law_r26 _ (List.mem_of_getElem? (i := 9) rfl)
theorem iw_25_10 : (Cond.instanceMethod yX8_leastEnough : Cond) ∈ lw_tbl := m_wsL_law_r26 _ (List.mem_of_getElem? (i := 10) rfl)
theorem iw_25_11 : (Cond.selects RX8 yX8_leastEnough yX8_leastEnough : Cond) ∈ lw_tbl := m_wsL_law_r26 _ (List.mem_of_getElem? (i := 11) rfl)
theorem iw_25_12 : (Cond.code yX8_leastEnough cX8_leastEnough 3 (some .int) : Cond) ∈ lw_tbl := m_wsL_law_r26 _ (List.mem_of_getElem? (i := 12) rfl)
theorem iw_25_13 : (Cond.methodLink RX8 266 yX4_isServedBy : Cond) ∈ lw_tbl := m_wsL_law_r26 _ (List.mem_of_getElem? (i := 13) rfl)
theorem iw_25_14 : (Cond.instanceMethod yX4_isServedBy : Cond) ∈ lw_tbl := m_wsL_law_r26 _ (List.mem_of_getElem? (i := 14) rfl)
theorem iw_25_15 : (Cond.selects RX4 yX4_isServedBy yX4_isServedBy : Cond) ∈ lw_tbl := m_wsL_law_r26 _ (List.mem_of_getElem? (i := 15) rfl)
theorem iw_25_16 : (Cond.code yX4_isServedBy cX4_isServedBy 3 (some .boolean) : Cond) ∈ lw_tbl := m_wsL_law_r26 _ (List.mem_of_getElem? (i := 16) rfl)
theorem iw_25_17 : (Cond.methodLink RX8 261 yJ6_bitCount_0f7a4 : Cond) ∈ lw_tbl := m_wsL_law_r26 _ (List.mem_of_getElem? (i := 17) rfl)
theorem iw_25_18 : (Cond.methodLink RL 82 yX9_enough : Cond) ∈ lw_tbl := m_wsL_law_r26 _ (List.mem_of_getElem? (i := 18) rfl)
theorem iw_25_19 : (Cond.instanceMethod yX9_enough : Cond) ∈ lw_tbl := m_wsL_law_r26 _ (List.mem_of_getElem? (i := 19) rfl)
theorem iw_25_20 : (Cond.selects RX9 yX9_enough yX9_enough : Cond) ∈ lw_tbl := m_wsL_law_r26 _ (List.mem_of_getElem? (i := 20) rfl)
theorem iw_25_21 : (Cond.code yX9_enough cX9_enough 6 (some .int) : Cond) ∈ lw_tbl := m_wsL_law_r26 _ (List.mem_of_getElem? (i := 21) rfl)
theorem iw_25_22 : (Cond.methodLink RL 83 yX8_reading : Cond) ∈ lw_tbl := m_wsL_law_r26 _ (List.mem_of_getElem? (i := 22) rfl)
theorem iw_25_23 : (Cond.instanceMethod yX8_reading : Cond) ∈ lw_tbl := m_wsL_law_r26 _ (List.mem_of_getElem? (i := 23) rfl)
theorem iw_26_0 : (Cond.selects RX8 yX8_reading yX8_reading : Cond) ∈ lw_tbl := m_wsL_law_r27 _ (List.mem_of_getElem? (i := 0) rfl)
theorem iw_26_1 : (Cond.code yX8_reading cX8_reading 3 (some .int) : Cond) ∈ lw_tbl := m_wsL_law_r27 _ (List.mem_of_getElem? (i := 1) rfl)
theorem iw_26_2 : (Cond.methodLink RX8 269 yX2_add : Cond) ∈ lw_tbl := m_wsL_law_r27 _ (List.mem_of_getElem? (i := 2) rfl)
theorem iw_26_3 : (Cond.instanceMethod yX2_add : Cond) ∈ lw_tbl := m_wsL_law_r27 _ (List.mem_of_getElem? (i := 3) rfl)
theorem iw_26_4 : (Cond.selects RX2 yX2_add yX2_add : Cond) ∈ lw_tbl := m_wsL_law_r27 _ (List.mem_of_getElem? (i := 4) rfl)
theorem iw_26_5 : (Cond.code yX2_add cX2_add 4 (some .boolean) : Cond) ∈ lw_tbl := m_wsL_law_r27 _ (List.mem_of_getElem? (i := 5) rfl)
theorem iw_26_6 : (Cond.fieldLink RX2 20 "FontRuns$Readings" "count" "I" : Cond) ∈ lw_tbl := m_wsL_law_r27 _ (List.mem_of_getElem? (i := 6) rfl)
theorem iw_26_7 : (Cond.methodLink RX2 28 yX4_clustersIn : Cond) ∈ lw_tbl := m_wsL_law_r27 _ (List.mem_of_getElem? (i := 7) rfl)
theorem iw_26_8 : (Cond.instanceMethod yX4_clustersIn : Cond) ∈ lw_tbl := m_wsL_law_r27 _ (List.mem_of_getElem? (i := 8) rfl)
theorem iw_26_9 : (Cond.selects RX4 yX4_clustersIn yX4_clustersIn : Cond) ∈ lw_tbl := m_wsL_law_r27 _ (List.mem_of_getElem? (i := 9) rfl)
theorem iw_26_10 : (Cond.code yX4_clustersIn cX4_clustersIn 4 (some .int) : Cond) ∈ lw_tbl := m_wsL_law_r27 _ (List.mem_of_getElem? (i := 10) rfl)
theorem iw_26_11 : (Cond.methodLink RL 86 yX9_reading : Cond) ∈ lw_tbl := m_wsL_law_r27 _ (List.mem_of_getElem? (i := 11) rfl)
theorem iw_26_12 : (Cond.instanceMethod yX9_reading : Cond) ∈ lw_tbl := m_wsL_law_r27 _ (List.mem_of_getElem? (i := 12) rfl)
theorem iw_26_13 : (Cond.selects RX9 yX9_reading yX9_reading : Cond) ∈ lw_tbl := m_wsL_law_r27 _ (List.mem_of_getElem? (i := 13) rfl)
theorem iw_26_14 : (Cond.code yX9_reading cX9_reading 2 (some .int) : Cond) ∈ lw_tbl := m_wsL_law_r27 _ (List.mem_of_getElem? (i := 14) rfl)
theorem iw_26_15 : (Cond.methodLink RL 87 yX8_back : Cond) ∈ lw_tbl := m_wsL_law_r27 _ (List.mem_of_getElem? (i := 15) rfl)
theorem iw_26_16 : (Cond.instanceMethod yX8_back : Cond) ∈ lw_tbl := m_wsL_law_r27 _ (List.mem_of_getElem? (i := 16) rfl)
theorem iw_26_17 : (Cond.selects RX8 yX8_back yX8_back : Cond) ∈ lw_tbl := m_wsL_law_r27 _ (List.mem_of_getElem? (i := 17) rfl)
theorem iw_26_18 : (Cond.code yX8_back cX8_back 2 (some .int) : Cond) ∈ lw_tbl := m_wsL_law_r27 _ (List.mem_of_getElem? (i := 18) rfl)
theorem iw_26_19 : (Cond.methodLink RL 90 yX9_back : Cond) ∈ lw_tbl := m_wsL_law_r27 _ (List.mem_of_getElem? (i := 19) rfl)
theorem iw_26_20 : (Cond.instanceMethod yX9_back : Cond) ∈ lw_tbl := m_wsL_law_r27 _ (List.mem_of_getElem? (i := 20) rfl)
theorem iw_26_21 : (Cond.selects RX9 yX9_back yX9_back : Cond) ∈ lw_tbl := m_wsL_law_r27 _ (List.mem_of_getElem? (i := 21) rfl)
theorem iw_26_22 : (Cond.code yX9_back cX9_back 2 (some .int) : Cond) ∈ lw_tbl := m_wsL_law_r27 _ (List.mem_of_getElem? (i := 22) rfl)
theorem iw_26_23 : (Cond.methodLink RL 91 yX8_kinds : Cond) ∈ lw_tbl := m_wsL_law_r27 _ (List.mem_of_getElem? (i := 23) rfl)
theorem iw_27_0 : (Cond.instanceMethod yX8_kinds : Cond) ∈ lw_tbl := m_wsL_law_r28 _ (List.mem_of_getElem? (i := 0) rfl)
theorem iw_27_1 : (Cond.selects RX8 yX8_kinds yX8_kinds : Cond) ∈ lw_tbl := m_wsL_law_r28 _ (List.mem_of_getElem? (i := 1) rfl)
theorem iw_27_2 : (Cond.code yX8_kinds cX8_kinds 4 (some .int) : Cond) ∈ lw_tbl := m_wsL_law_r28 _ (List.mem_of_getElem? (i := 2) rfl)
theorem iw_27_3 : (Cond.methodLink RX8 272 yX8_stepOf : Cond) ∈ lw_tbl := m_wsL_law_r28 _ (List.mem_of_getElem? (i := 3) rfl)
theorem iw_27_4 : (Cond.methodLink RX8 276 yX2_areSo : Cond) ∈ lw_tbl := m_wsL_law_r28 _ (List.mem_of_getElem? (i := 4) rfl)
theorem iw_27_5 : (Cond.instanceMethod yX2_areSo : Cond) ∈ lw_tbl := m_wsL_law_r28 _ (List.mem_of_getElem? (i := 5) rfl)
theorem iw_27_6 : (Cond.selects RX2 yX2_areSo yX2_areSo : Cond) ∈ lw_tbl := m_wsL_law_r28 _ (List.mem_of_getElem? (i := 6) rfl)
theorem iw_27_7 : (Cond.code yX2_areSo cX2_areSo 7 (some .boolean) : Cond) ∈ lw_tbl := m_wsL_law_r28 _ (List.mem_of_getElem? (i := 7) rfl)
theorem iw_27_8 : (Cond.fieldLink RX2 34 "FontRuns$FontRow" "count" "I" : Cond) ∈ lw_tbl := m_wsL_law_r28 _ (List.mem_of_getElem? (i := 8) rfl)
theorem iw_27_9 : (Cond.methodLink RX2 37 yX0_step : Cond) ∈ lw_tbl := m_wsL_law_r28 _ (List.mem_of_getElem? (i := 9) rfl)
theorem iw_27_10 : (Cond.methodLink RL 94 yX9_kinds : Cond) ∈ lw_tbl := m_wsL_law_r28 _ (List.mem_of_getElem? (i := 10) rfl)
theorem iw_27_11 : (Cond.instanceMethod yX9_kinds : Cond) ∈ lw_tbl := m_wsL_law_r28 _ (List.mem_of_getElem? (i := 11) rfl)
theorem iw_27_12 : (Cond.selects RX9 yX9_kinds yX9_kinds : Cond) ∈ lw_tbl := m_wsL_law_r28 _ (List.mem_of_getElem? (i := 12) rfl)
theorem iw_27_13 : (Cond.code yX9_kinds cX9_kinds 5 (some .int) : Cond) ∈ lw_tbl := m_wsL_law_r28 _ (List.mem_of_getElem? (i := 13) rfl)
theorem iw_27_14 : (Cond.methodLink RX9 196 yX9_areSo : Cond) ∈ lw_tbl := m_wsL_law_r28 _ (List.mem_of_getElem? (i := 14) rfl)
theorem iw_27_15 : (Cond.instanceMethod yX9_areSo : Cond) ∈ lw_tbl := m_wsL_law_r28 _ (List.mem_of_getElem? (i := 15) rfl)
theorem iw_27_16 : (Cond.selects RX9 yX9_areSo yX9_areSo : Cond) ∈ lw_tbl := m_wsL_law_r28 _ (List.mem_of_getElem? (i := 16) rfl)
theorem iw_27_17 : (Cond.code yX9_areSo cX9_areSo 3 (some .boolean) : Cond) ∈ lw_tbl := m_wsL_law_r28 _ (List.mem_of_getElem? (i := 17) rfl)
theorem iw_27_18 : (Cond.methodLink RL 95 yX8_widths : Cond) ∈ lw_tbl := m_wsL_law_r28 _ (List.mem_of_getElem? (i := 18) rfl)
theorem iw_27_19 : (Cond.instanceMethod yX8_widths : Cond) ∈ lw_tbl := m_wsL_law_r28 _ (List.mem_of_getElem? (i := 19) rfl)
theorem iw_27_20 : (Cond.selects RX8 yX8_widths yX8_widths : Cond) ∈ lw_tbl := m_wsL_law_r28 _ (List.mem_of_getElem? (i := 20) rfl)
theorem iw_27_21 : (Cond.code yX8_widths cX8_widths 4 (some .int) : Cond) ∈ lw_tbl := m_wsL_law_r28 _ (List.mem_of_getElem? (i := 21) rfl)
theorem iw_27_22 : (Cond.methodLink RL 98 yX9_widths : Cond) ∈ lw_tbl := m_wsL_law_r28 _ (List.mem_of_getElem? (i := 22) rfl)
theorem iw_27_23 : (Cond.instanceMethod yX9_widths : Cond) ∈ lw_tbl := m_wsL_law_r28 _ (List.mem_of_getElem? (i := 23) rfl)
theorem iw_28_0 : (Cond.selects RX9 yX9_widths yX9_widths : Cond) ∈ lw_tbl := m_wsL_law_r29 _ (List.mem_of_getElem? (i := 0) rfl)
theorem iw_28_1 : (Cond.code yX9_widths cX9_widths 5 (some .int) : Cond) ∈ lw_tbl := m_wsL_law_r29 _ (List.mem_of_getElem? (i := 1) rfl)
theorem iw_28_2 : (Cond.methodLink RL 99 yX8_odds : Cond) ∈ lw_tbl := m_wsL_law_r29 _ (List.mem_of_getElem? (i := 2) rfl)
theorem iw_28_3 : (Cond.instanceMethod yX8_odds : Cond) ∈ lw_tbl := m_wsL_law_r29 _ (List.mem_of_getElem? (i := 3) rfl)
theorem iw_28_4 : (Cond.selects RX8 yX8_odds yX8_odds : Cond) ∈ lw_tbl := m_wsL_law_r29 _ (List.mem_of_getElem? (i := 4) rfl)
theorem iw_28_5 : (Cond.code yX8_odds cX8_odds 5 (some .long) : Cond) ∈ lw_tbl := m_wsL_law_r29 _ (List.mem_of_getElem? (i := 5) rfl)
theorem iw_28_6 : (Cond.constantLong RX8 280 (-9223372036854775808) : Cond) ∈ lw_tbl := m_wsL_law_r29 _ (List.mem_of_getElem? (i := 6) rfl)
theorem iw_28_7 : (Cond.methodLink RX8 282 yX8_lettersWithChanges : Cond) ∈ lw_tbl := m_wsL_law_r29 _ (List.mem_of_getElem? (i := 7) rfl)
theorem iw_28_8 : (Cond.instanceMethod yX8_lettersWithChanges : Cond) ∈ lw_tbl := m_wsL_law_r29 _ (List.mem_of_getElem? (i := 8) rfl)
theorem iw_28_9 : (Cond.selects RX8 yX8_lettersWithChanges yX8_lettersWithChanges : Cond) ∈ lw_tbl := m_wsL_law_r29 _ (List.mem_of_getElem? (i := 9) rfl)
theorem iw_28_10 : (Cond.code yX8_lettersWithChanges cX8_lettersWithChanges 4 (some .int) : Cond) ∈ lw_tbl := m_wsL_law_r29 _ (List.mem_of_getElem? (i := 10) rfl)
theorem iw_28_11 : (Cond.methodLink RL 103 yX9_odds : Cond) ∈ lw_tbl := m_wsL_law_r29 _ (List.mem_of_getElem? (i := 11) rfl)
theorem iw_28_12 : (Cond.instanceMethod yX9_odds : Cond) ∈ lw_tbl := m_wsL_law_r29 _ (List.mem_of_getElem? (i := 12) rfl)
theorem iw_28_13 : (Cond.selects RX9 yX9_odds yX9_odds : Cond) ∈ lw_tbl := m_wsL_law_r29 _ (List.mem_of_getElem? (i := 13) rfl)
theorem iw_28_14 : (Cond.code yX9_odds cX9_odds 5 (some .long) : Cond) ∈ lw_tbl := m_wsL_law_r29 _ (List.mem_of_getElem? (i := 14) rfl)
theorem iw_28_15 : (Cond.constantLong RX9 68 (-9223372036854775808) : Cond) ∈ lw_tbl := m_wsL_law_r29 _ (List.mem_of_getElem? (i := 15) rfl)
theorem iw_28_16 : (Cond.constantLong RX9 200 (16) : Cond) ∈ lw_tbl := m_wsL_law_r29 _ (List.mem_of_getElem? (i := 16) rfl)
theorem iw_28_17 : (Cond.methodLink RX9 202 yX9_inLeastTerms : Cond) ∈ lw_tbl := m_wsL_law_r29 _ (List.mem_of_getElem? (i := 17) rfl)
theorem iw_28_18 : (Cond.static yX9_inLeastTerms : Cond) ∈ lw_tbl := m_wsL_law_r29 _ (List.mem_of_getElem? (i := 18) rfl)
theorem iw_28_19 : (Cond.code yX9_inLeastTerms cX9_inLeastTerms 11 (some .long) : Cond) ∈ lw_tbl := m_wsL_law_r29 _ (List.mem_of_getElem? (i := 19) rfl)
theorem iw_28_20 : (Cond.methodLink RL 104 yX8_sheet : Cond) ∈ lw_tbl := m_wsL_law_r29 _ (List.mem_of_getElem? (i := 20) rfl)
theorem iw_28_21 : (Cond.instanceMethod yX8_sheet : Cond) ∈ lw_tbl := m_wsL_law_r29 _ (List.mem_of_getElem? (i := 21) rfl)
theorem iw_28_22 : (Cond.selects RX8 yX8_sheet yX8_sheet : Cond) ∈ lw_tbl := m_wsL_law_r29 _ (List.mem_of_getElem? (i := 22) rfl)
theorem iw_28_23 : (Cond.code yX8_sheet cX8_sheet 4 (some .int) : Cond) ∈ lw_tbl := m_wsL_law_r29 _ (List.mem_of_getElem? (i := 23) rfl)
theorem iw_29_0 : (Cond.methodLink RX8 285 yX5_begin : Cond) ∈ lw_tbl := m_wsL_law_r30 _ (List.mem_of_getElem? (i := 0) rfl)
theorem iw_29_1 : (Cond.instanceMethod yX5_begin : Cond) ∈ lw_tbl := m_wsL_law_r30 _ (List.mem_of_getElem? (i := 1) rfl)
theorem iw_29_2 : (Cond.selects RX5 yX5_begin yX5_begin : Cond) ∈ lw_tbl := m_wsL_law_r30 _ (List.mem_of_getElem? (i := 2) rfl)
theorem iw_29_3 : (Cond.code yX5_begin cX5_begin 4 none : Cond) ∈ lw_tbl := m_wsL_law_r30 _ (List.mem_of_getElem? (i := 3) rfl)
theorem iw_29_4 : (Cond.fieldLink RX5 19 "FontRuns$Sheet" "lane" "I" : Cond) ∈ lw_tbl := m_wsL_law_r30 _ (List.mem_of_getElem? (i := 4) rfl)
theorem iw_29_5 : (Cond.methodLink RL 108 yX9_sheet : Cond) ∈ lw_tbl := m_wsL_law_r30 _ (List.mem_of_getElem? (i := 5) rfl)
theorem iw_29_6 : (Cond.instanceMethod yX9_sheet : Cond) ∈ lw_tbl := m_wsL_law_r30 _ (List.mem_of_getElem? (i := 6) rfl)
theorem iw_29_7 : (Cond.selects RX9 yX9_sheet yX9_sheet : Cond) ∈ lw_tbl := m_wsL_law_r30 _ (List.mem_of_getElem? (i := 7) rfl)
theorem iw_29_8 : (Cond.code yX9_sheet cX9_sheet 5 (some .int) : Cond) ∈ lw_tbl := m_wsL_law_r30 _ (List.mem_of_getElem? (i := 8) rfl)
theorem iw_29_9 : (Cond.methodLink RL 109 yX8_lose : Cond) ∈ lw_tbl := m_wsL_law_r30 _ (List.mem_of_getElem? (i := 9) rfl)
theorem iw_29_10 : (Cond.instanceMethod yX8_lose : Cond) ∈ lw_tbl := m_wsL_law_r30 _ (List.mem_of_getElem? (i := 10) rfl)
theorem iw_29_11 : (Cond.selects RX8 yX8_lose yX8_lose : Cond) ∈ lw_tbl := m_wsL_law_r30 _ (List.mem_of_getElem? (i := 11) rfl)
theorem iw_29_12 : (Cond.code yX8_lose cX8_lose 3 (some .int) : Cond) ∈ lw_tbl := m_wsL_law_r30 _ (List.mem_of_getElem? (i := 12) rfl)
theorem iw_29_13 : (Cond.methodLink RL 112 yX9_lose : Cond) ∈ lw_tbl := m_wsL_law_r30 _ (List.mem_of_getElem? (i := 13) rfl)
theorem iw_29_14 : (Cond.instanceMethod yX9_lose : Cond) ∈ lw_tbl := m_wsL_law_r30 _ (List.mem_of_getElem? (i := 14) rfl)
theorem iw_29_15 : (Cond.selects RX9 yX9_lose yX9_lose : Cond) ∈ lw_tbl := m_wsL_law_r30 _ (List.mem_of_getElem? (i := 15) rfl)
theorem iw_29_16 : (Cond.code yX9_lose cX9_lose 3 (some .int) : Cond) ∈ lw_tbl := m_wsL_law_r30 _ (List.mem_of_getElem? (i := 16) rfl)
theorem iw_29_17 : (Cond.methodLink RL 113 yX8_put : Cond) ∈ lw_tbl := m_wsL_law_r30 _ (List.mem_of_getElem? (i := 17) rfl)
theorem iw_29_18 : (Cond.instanceMethod yX8_put : Cond) ∈ lw_tbl := m_wsL_law_r30 _ (List.mem_of_getElem? (i := 18) rfl)
theorem iw_29_19 : (Cond.selects RX8 yX8_put yX8_put : Cond) ∈ lw_tbl := m_wsL_law_r30 _ (List.mem_of_getElem? (i := 19) rfl)
theorem iw_29_20 : (Cond.code yX8_put cX8_put 5 (some .int) : Cond) ∈ lw_tbl := m_wsL_law_r30 _ (List.mem_of_getElem? (i := 20) rfl)
theorem iw_29_21 : (Cond.fieldLink RX8 295 "FontRuns$Sheet" "cells" "[I" : Cond) ∈ lw_tbl := m_wsL_law_r30 _ (List.mem_of_getElem? (i := 21) rfl)
theorem iw_29_22 : (Cond.methodLink RX8 292 yX5_hasCell : Cond) ∈ lw_tbl := m_wsL_law_r30 _ (List.mem_of_getElem? (i := 22) rfl)
theorem iw_29_23 : (Cond.methodLink RX8 298 yX5_cut : Cond) ∈ lw_tbl := m_wsL_law_r30 _ (List.mem_of_getElem? (i := 23) rfl)
theorem iw_30_0 : (Cond.instanceMethod yX5_cut : Cond) ∈ lw_tbl := m_wsL_law_r31 _ (List.mem_of_getElem? (i := 0) rfl)
theorem iw_30_1 : (Cond.selects RX5 yX5_cut yX5_cut : Cond) ∈ lw_tbl := m_wsL_law_r31 _ (List.mem_of_getElem? (i := 1) rfl)
theorem iw_30_2 : (Cond.code yX5_cut cX5_cut 2 (some .int) : Cond) ∈ lw_tbl := m_wsL_law_r31 _ (List.mem_of_getElem? (i := 2) rfl)
theorem iw_30_3 : (Cond.methodLink RL 116 yX9_put : Cond) ∈ lw_tbl := m_wsL_law_r31 _ (List.mem_of_getElem? (i := 3) rfl)
theorem iw_30_4 : (Cond.instanceMethod yX9_put : Cond) ∈ lw_tbl := m_wsL_law_r31 _ (List.mem_of_getElem? (i := 4) rfl)
theorem iw_30_5 : (Cond.selects RX9 yX9_put yX9_put : Cond) ∈ lw_tbl := m_wsL_law_r31 _ (List.mem_of_getElem? (i := 5) rfl)
theorem iw_30_6 : (Cond.code yX9_put cX9_put 4 (some .int) : Cond) ∈ lw_tbl := m_wsL_law_r31 _ (List.mem_of_getElem? (i := 6) rfl)
theorem iw_30_7 : (Cond.methodLink RL 117 yX8_cell : Cond) ∈ lw_tbl := m_wsL_law_r31 _ (List.mem_of_getElem? (i := 7) rfl)
theorem iw_30_8 : (Cond.instanceMethod yX8_cell : Cond) ∈ lw_tbl := m_wsL_law_r31 _ (List.mem_of_getElem? (i := 8) rfl)
theorem iw_30_9 : (Cond.selects RX8 yX8_cell yX8_cell : Cond) ∈ lw_tbl := m_wsL_law_r31 _ (List.mem_of_getElem? (i := 9) rfl)
theorem iw_30_10 : (Cond.code yX8_cell cX8_cell 6 (some .long) : Cond) ∈ lw_tbl := m_wsL_law_r31 _ (List.mem_of_getElem? (i := 10) rfl)
theorem iw_30_11 : (Cond.methodLink RL 121 yX9_cell : Cond) ∈ lw_tbl := m_wsL_law_r31 _ (List.mem_of_getElem? (i := 11) rfl)
theorem iw_30_12 : (Cond.instanceMethod yX9_cell : Cond) ∈ lw_tbl := m_wsL_law_r31 _ (List.mem_of_getElem? (i := 12) rfl)
theorem iw_30_13 : (Cond.selects RX9 yX9_cell yX9_cell : Cond) ∈ lw_tbl := m_wsL_law_r31 _ (List.mem_of_getElem? (i := 13) rfl)
theorem iw_30_14 : (Cond.code yX9_cell cX9_cell 4 (some .long) : Cond) ∈ lw_tbl := m_wsL_law_r31 _ (List.mem_of_getElem? (i := 14) rfl)
theorem iw_30_15 : (Cond.methodLink RX9 206 yX9_lost : Cond) ∈ lw_tbl := m_wsL_law_r31 _ (List.mem_of_getElem? (i := 15) rfl)
theorem iw_30_16 : (Cond.instanceMethod yX9_lost : Cond) ∈ lw_tbl := m_wsL_law_r31 _ (List.mem_of_getElem? (i := 16) rfl)
theorem iw_30_17 : (Cond.selects RX9 yX9_lost yX9_lost : Cond) ∈ lw_tbl := m_wsL_law_r31 _ (List.mem_of_getElem? (i := 17) rfl)
theorem iw_30_18 : (Cond.code yX9_lost cX9_lost 2 (some .long) : Cond) ∈ lw_tbl := m_wsL_law_r31 _ (List.mem_of_getElem? (i := 18) rfl)
theorem iw_30_19 : (Cond.methodLink RL 122 yX8_copy : Cond) ∈ lw_tbl := m_wsL_law_r31 _ (List.mem_of_getElem? (i := 19) rfl)
theorem iw_30_20 : (Cond.instanceMethod yX8_copy : Cond) ∈ lw_tbl := m_wsL_law_r31 _ (List.mem_of_getElem? (i := 20) rfl)
theorem iw_30_21 : (Cond.selects RX8 yX8_copy yX8_copy : Cond) ∈ lw_tbl := m_wsL_law_r31 _ (List.mem_of_getElem? (i := 21) rfl)
theorem iw_30_22 : (Cond.code yX8_copy cX8_copy 8 (some .int) : Cond) ∈ lw_tbl := m_wsL_law_r31 _ (List.mem_of_getElem? (i := 22) rfl)
theorem iw_30_23 : (Cond.methodLink RX8 304 arraycopyName : Cond) ∈ lw_tbl := m_wsL_law_r31 _ (List.mem_of_getElem? (i := 23) rfl)
theorem iw_31_0 : (Cond.native arraycopyName : Cond) ∈ lw_tbl := m_wsL_law_r32 _ (List.mem_of_getElem? (i := 0) rfl)
theorem iw_31_1 : (Cond.static arraycopyName : Cond) ∈ lw_tbl := m_wsL_law_r32 _ (List.mem_of_getElem? (i := 1) rfl)
theorem iw_31_2 : (Cond.initialized "java/lang/System" : Cond) ∈ lw_tbl := m_wsL_law_r32 _ (List.mem_of_getElem? (i := 2) rfl)
theorem iw_31_3 : (Cond.methodLink RL 125 yX9_copy : Cond) ∈ lw_tbl := m_wsL_law_r32 _ (List.mem_of_getElem? (i := 3) rfl)
theorem iw_31_4 : (Cond.instanceMethod yX9_copy : Cond) ∈ lw_tbl := m_wsL_law_r32 _ (List.mem_of_getElem? (i := 4) rfl)
theorem iw_31_5 : (Cond.selects RX9 yX9_copy yX9_copy : Cond) ∈ lw_tbl := m_wsL_law_r32 _ (List.mem_of_getElem? (i := 5) rfl)
theorem iw_31_6 : (Cond.code yX9_copy cX9_copy 10 (some .int) : Cond) ∈ lw_tbl := m_wsL_law_r32 _ (List.mem_of_getElem? (i := 6) rfl)
theorem iw_31_7 : (Cond.methodLink RL 126 yX8_tell : Cond) ∈ lw_tbl := m_wsL_law_r32 _ (List.mem_of_getElem? (i := 7) rfl)
theorem iw_31_8 : (Cond.instanceMethod yX8_tell : Cond) ∈ lw_tbl := m_wsL_law_r32 _ (List.mem_of_getElem? (i := 8) rfl)
theorem iw_31_9 : (Cond.selects RX8 yX8_tell yX8_tell : Cond) ∈ lw_tbl := m_wsL_law_r32 _ (List.mem_of_getElem? (i := 9) rfl)
theorem iw_31_10 : (Cond.code yX8_tell cX8_tell 3 (some .int) : Cond) ∈ lw_tbl := m_wsL_law_r32 _ (List.mem_of_getElem? (i := 10) rfl)
theorem iw_31_11 : (Cond.methodLink RX8 310 yX8_doubleTold : Cond) ∈ lw_tbl := m_wsL_law_r32 _ (List.mem_of_getElem? (i := 11) rfl)
theorem iw_31_12 : (Cond.instanceMethod yX8_doubleTold : Cond) ∈ lw_tbl := m_wsL_law_r32 _ (List.mem_of_getElem? (i := 12) rfl)
theorem iw_31_13 : (Cond.selects RX8 yX8_doubleTold yX8_doubleTold : Cond) ∈ lw_tbl := m_wsL_law_r32 _ (List.mem_of_getElem? (i := 13) rfl)
theorem iw_31_14 : (Cond.code yX8_doubleTold cX8_doubleTold 3 (some .int) : Cond) ∈ lw_tbl := m_wsL_law_r32 _ (List.mem_of_getElem? (i := 14) rfl)
theorem iw_31_15 : (Cond.methodLink RX8 319 yX8_leave : Cond) ∈ lw_tbl := m_wsL_law_r32 _ (List.mem_of_getElem? (i := 15) rfl)
theorem iw_31_16 : (Cond.instanceMethod yX8_leave : Cond) ∈ lw_tbl := m_wsL_law_r32 _ (List.mem_of_getElem? (i := 16) rfl)
theorem iw_31_17 : (Cond.selects RX8 yX8_leave yX8_leave : Cond) ∈ lw_tbl := m_wsL_law_r32 _ (List.mem_of_getElem? (i := 17) rfl)
theorem iw_31_18 : (Cond.code yX8_leave cX8_leave 2 none : Cond) ∈ lw_tbl := m_wsL_law_r32 _ (List.mem_of_getElem? (i := 18) rfl)
theorem iw_31_19 : (Cond.fieldLink RX8 322 "FontRuns" "trail" "I" : Cond) ∈ lw_tbl := m_wsL_law_r32 _ (List.mem_of_getElem? (i := 19) rfl)
theorem iw_31_20 : (Cond.methodLink RX8 313 yX8_broadTold : Cond) ∈ lw_tbl := m_wsL_law_r32 _ (List.mem_of_getElem? (i := 20) rfl)
theorem iw_31_21 : (Cond.instanceMethod yX8_broadTold : Cond) ∈ lw_tbl := m_wsL_law_r32 _ (List.mem_of_getElem? (i := 21) rfl)
theorem iw_31_22 : (Cond.selects RX8 yX8_broadTold yX8_broadTold : Cond) ∈ lw_tbl := m_wsL_law_r32 _ (List.mem_of_getElem? (i := 22) rfl)
theorem iw_31_23 : (Cond.code yX8_broadTold cX8_broadTold 2 (some .int) : Cond) ∈ lw_tbl := m_wsL_law_r32 _ (List.mem_of_getElem? (i := 23) rfl)
theorem iw_32_0 : (Cond.methodLink RX8 316 yX8_plainTold : Cond) ∈ lw_tbl := m_wsL_law_r33 _ (List.mem_of_getElem? (i := 0) rfl)
theorem iw_32_1 : (Cond.instanceMethod yX8_plainTold : Cond) ∈ lw_tbl := m_wsL_law_r33 _ (List.mem_of_getElem? (i := 1) rfl)
theorem iw_32_2 : (Cond.selects RX8 yX8_plainTold yX8_plainTold : Cond) ∈ lw_tbl := m_wsL_law_r33 _ (List.mem_of_getElem? (i := 2) rfl)
theorem iw_32_3 : (Cond.code yX8_plainTold cX8_plainTold 2 (some .int) : Cond) ∈ lw_tbl := m_wsL_law_r33 _ (List.mem_of_getElem? (i := 3) rfl)
theorem iw_32_4 : (Cond.methodLink RL 129 yX9_tell : Cond) ∈ lw_tbl := m_wsL_law_r33 _ (List.mem_of_getElem? (i := 4) rfl)
theorem iw_32_5 : (Cond.instanceMethod yX9_tell : Cond) ∈ lw_tbl := m_wsL_law_r33 _ (List.mem_of_getElem? (i := 5) rfl)
theorem iw_32_6 : (Cond.selects RX9 yX9_tell yX9_tell : Cond) ∈ lw_tbl := m_wsL_law_r33 _ (List.mem_of_getElem? (i := 6) rfl)
theorem iw_32_7 : (Cond.code yX9_tell cX9_tell 3 (some .int) : Cond) ∈ lw_tbl := m_wsL_law_r33 _ (List.mem_of_getElem? (i := 7) rfl)
theorem iw_32_8 : (Cond.methodLink RX9 213 yX9_begins : Cond) ∈ lw_tbl := m_wsL_law_r33 _ (List.mem_of_getElem? (i := 8) rfl)
theorem iw_32_9 : (Cond.instanceMethod yX9_begins : Cond) ∈ lw_tbl := m_wsL_law_r33 _ (List.mem_of_getElem? (i := 9) rfl)
theorem iw_32_10 : (Cond.selects RX9 yX9_begins yX9_begins : Cond) ∈ lw_tbl := m_wsL_law_r33 _ (List.mem_of_getElem? (i := 10) rfl)
theorem iw_32_11 : (Cond.code yX9_begins cX9_begins 2 none : Cond) ∈ lw_tbl := m_wsL_law_r33 _ (List.mem_of_getElem? (i := 11) rfl)
theorem iw_32_12 : (Cond.fieldLink RX9 210 "FontRunsModel" "trace" "I" : Cond) ∈ lw_tbl := m_wsL_law_r33 _ (List.mem_of_getElem? (i := 12) rfl)
theorem iw_32_13 : (Cond.methodLink RL 130 yX8_sample : Cond) ∈ lw_tbl := m_wsL_law_r33 _ (List.mem_of_getElem? (i := 13) rfl)
theorem iw_32_14 : (Cond.instanceMethod yX8_sample : Cond) ∈ lw_tbl := m_wsL_law_r33 _ (List.mem_of_getElem? (i := 14) rfl)
theorem iw_32_15 : (Cond.selects RX8 yX8_sample yX8_sample : Cond) ∈ lw_tbl := m_wsL_law_r33 _ (List.mem_of_getElem? (i := 15) rfl)
theorem iw_32_16 : (Cond.code yX8_sample cX8_sample 2 (some .int) : Cond) ∈ lw_tbl := m_wsL_law_r33 _ (List.mem_of_getElem? (i := 16) rfl)
theorem iw_32_17 : (Cond.methodLink RL 133 yX9_sample : Cond) ∈ lw_tbl := m_wsL_law_r33 _ (List.mem_of_getElem? (i := 17) rfl)
theorem iw_32_18 : (Cond.instanceMethod yX9_sample : Cond) ∈ lw_tbl := m_wsL_law_r33 _ (List.mem_of_getElem? (i := 18) rfl)
theorem iw_32_19 : (Cond.selects RX9 yX9_sample yX9_sample : Cond) ∈ lw_tbl := m_wsL_law_r33 _ (List.mem_of_getElem? (i := 19) rfl)
theorem iw_32_20 : (Cond.code yX9_sample cX9_sample 2 (some .int) : Cond) ∈ lw_tbl := m_wsL_law_r33 _ (List.mem_of_getElem? (i := 20) rfl)
theorem iw_32_21 : (Cond.methodLink RL 134 yX8_as : Cond) ∈ lw_tbl := m_wsL_law_r33 _ (List.mem_of_getElem? (i := 21) rfl)
theorem iw_32_22 : (Cond.instanceMethod yX8_as : Cond) ∈ lw_tbl := m_wsL_law_r33 _ (List.mem_of_getElem? (i := 22) rfl)
theorem iw_32_23 : (Cond.selects RX8 yX8_as yX8_as : Cond) ∈ lw_tbl := m_wsL_law_r33 _ (List.mem_of_getElem? (i := 23) rfl)
theorem iw_33_0 : (Cond.code yX8_as cX8_as 3 (some .int) : Cond) ∈ lw_tbl := m_wsL_law_r34 _ (List.mem_of_getElem? (i := 0) rfl)
theorem iw_33_1 : (Cond.methodLink RL 137 yX9_as : Cond) ∈ lw_tbl := m_wsL_law_r34 _ (List.mem_of_getElem? (i := 1) rfl)
theorem iw_33_2 : (Cond.instanceMethod yX9_as : Cond) ∈ lw_tbl := m_wsL_law_r34 _ (List.mem_of_getElem? (i := 2) rfl)
theorem iw_33_3 : (Cond.selects RX9 yX9_as yX9_as : Cond) ∈ lw_tbl := m_wsL_law_r34 _ (List.mem_of_getElem? (i := 3) rfl)
theorem iw_33_4 : (Cond.code yX9_as cX9_as 3 (some .int) : Cond) ∈ lw_tbl := m_wsL_law_r34 _ (List.mem_of_getElem? (i := 4) rfl)
theorem iw_33_5 : (Cond.methodLink RL 138 yX8_trace : Cond) ∈ lw_tbl := m_wsL_law_r34 _ (List.mem_of_getElem? (i := 5) rfl)
theorem iw_33_6 : (Cond.instanceMethod yX8_trace : Cond) ∈ lw_tbl := m_wsL_law_r34 _ (List.mem_of_getElem? (i := 6) rfl)
theorem iw_33_7 : (Cond.selects RX8 yX8_trace yX8_trace : Cond) ∈ lw_tbl := m_wsL_law_r34 _ (List.mem_of_getElem? (i := 7) rfl)
theorem iw_33_8 : (Cond.code yX8_trace cX8_trace 1 (some .int) : Cond) ∈ lw_tbl := m_wsL_law_r34 _ (List.mem_of_getElem? (i := 8) rfl)
theorem iw_33_9 : (Cond.methodLink RL 141 yX9_trace : Cond) ∈ lw_tbl := m_wsL_law_r34 _ (List.mem_of_getElem? (i := 9) rfl)
theorem iw_33_10 : (Cond.instanceMethod yX9_trace : Cond) ∈ lw_tbl := m_wsL_law_r34 _ (List.mem_of_getElem? (i := 10) rfl)
theorem iw_33_11 : (Cond.selects RX9 yX9_trace yX9_trace : Cond) ∈ lw_tbl := m_wsL_law_r34 _ (List.mem_of_getElem? (i := 11) rfl)
theorem iw_33_12 : (Cond.code yX9_trace cX9_trace 1 (some .int) : Cond) ∈ lw_tbl := m_wsL_law_r34 _ (List.mem_of_getElem? (i := 12) rfl)
theorem iw_33_13 : (Cond.methodLink RL 142 yX8_fault : Cond) ∈ lw_tbl := m_wsL_law_r34 _ (List.mem_of_getElem? (i := 13) rfl)
theorem iw_33_14 : (Cond.instanceMethod yX8_fault : Cond) ∈ lw_tbl := m_wsL_law_r34 _ (List.mem_of_getElem? (i := 14) rfl)
theorem iw_33_15 : (Cond.selects RX8 yX8_fault yX8_fault : Cond) ∈ lw_tbl := m_wsL_law_r34 _ (List.mem_of_getElem? (i := 15) rfl)
theorem iw_33_16 : (Cond.code yX8_fault cX8_fault 1 (some .int) : Cond) ∈ lw_tbl := m_wsL_law_r34 _ (List.mem_of_getElem? (i := 16) rfl)
theorem iw_33_17 : (Cond.methodLink RL 145 yX9_fault : Cond) ∈ lw_tbl := m_wsL_law_r34 _ (List.mem_of_getElem? (i := 17) rfl)
theorem iw_33_18 : (Cond.instanceMethod yX9_fault : Cond) ∈ lw_tbl := m_wsL_law_r34 _ (List.mem_of_getElem? (i := 18) rfl)
theorem iw_33_19 : (Cond.selects RX9 yX9_fault yX9_fault : Cond) ∈ lw_tbl := m_wsL_law_r34 _ (List.mem_of_getElem? (i := 19) rfl)
theorem iw_33_20 : (Cond.code yX9_fault cX9_fault 1 (some .int) : Cond) ∈ lw_tbl := m_wsL_law_r34 _ (List.mem_of_getElem? (i := 20) rfl)
theorem iw_33_21 : (Cond.methodLink RL 146 yX8_many : Cond) ∈ lw_tbl := m_wsL_law_r34 _ (List.mem_of_getElem? (i := 21) rfl)
theorem iw_33_22 : (Cond.instanceMethod yX8_many : Cond) ∈ lw_tbl := m_wsL_law_r34 _ (List.mem_of_getElem? (i := 22) rfl)
theorem iw_33_23 : (Cond.selects RX8 yX8_many yX8_many : Cond) ∈ lw_tbl := m_wsL_law_r34 _ (List.mem_of_getElem? (i := 23) rfl)
theorem iw_34_0 : (Cond.code yX8_many cX8_many 2 (some .int) : Cond) ∈ lw_tbl := m_wsL_law_r35 _ (List.mem_of_getElem? (i := 0) rfl)
theorem iw_34_1 : (Cond.methodLink RL 149 yX9_many : Cond) ∈ lw_tbl := m_wsL_law_r35 _ (List.mem_of_getElem? (i := 1) rfl)
theorem iw_34_2 : (Cond.instanceMethod yX9_many : Cond) ∈ lw_tbl := m_wsL_law_r35 _ (List.mem_of_getElem? (i := 2) rfl)
theorem iw_34_3 : (Cond.selects RX9 yX9_many yX9_many : Cond) ∈ lw_tbl := m_wsL_law_r35 _ (List.mem_of_getElem? (i := 3) rfl)
theorem iw_34_4 : (Cond.code yX9_many cX9_many 2 (some .int) : Cond) ∈ lw_tbl := m_wsL_law_r35 _ (List.mem_of_getElem? (i := 4) rfl)
theorem dL_law_176 : decode cL_law 176 = .ok (.aload_n 1, 1) := kop_2b (show kBy cL_law 176 43 from kbyte (k := 128) (j := 48) kbk_128 rfl)
theorem dL_law_177 : decode cL_law 177 = .ok (.aload_n 0, 1) := kop_2a (show kBy cL_law 177 42 from kbyte (k := 128) (j := 49) kbk_128 rfl)
theorem dL_law_178 : decode cL_law 178 = .ok (.iload_n 3, 1) := kop_1d (show kBy cL_law 178 29 from kbyte (k := 128) (j := 50) kbk_128 rfl)
theorem dL_law_179 : decode cL_law 179 = .ok (.iconst 1, 1) := kop_04 (show kBy cL_law 179 4 from kbyte (k := 128) (j := 51) kbk_128 rfl)
theorem dL_law_180 : decode cL_law 180 = .ok (.iadd, 1) := kop_60 (show kBy cL_law 180 96 from kbyte (k := 128) (j := 52) kbk_128 rfl)
theorem dL_law_181 : decode cL_law 181 = .ok (.iaload, 1) := kop_2e (show kBy cL_law 181 46 from kbyte (k := 128) (j := 53) kbk_128 rfl)
theorem dL_law_182 : decode cL_law 182 = .ok (.aload_n 0, 1) := kop_2a (show kBy cL_law 182 42 from kbyte (k := 128) (j := 54) kbk_128 rfl)
theorem dL_law_183 : decode cL_law 183 = .ok (.iload_n 3, 1) := kop_1d (show kBy cL_law 183 29 from kbyte (k := 128) (j := 55) kbk_128 rfl)
theorem dL_law_184 : decode cL_law 184 = .ok (.iconst 2, 1) := kop_05 (show kBy cL_law 184 5 from kbyte (k := 128) (j := 56) kbk_128 rfl)
theorem dL_law_185 : decode cL_law 185 = .ok (.iadd, 1) := kop_60 (show kBy cL_law 185 96 from kbyte (k := 128) (j := 57) kbk_128 rfl)
theorem dL_law_186 : decode cL_law 186 = .ok (.iaload, 1) := kop_2e (show kBy cL_law 186 46 from kbyte (k := 128) (j := 58) kbk_128 rfl)
theorem dL_law_187 : decode cL_law 187 = .ok (.aload_n 0, 1) := kop_2a (show kBy cL_law 187 42 from kbyte (k := 128) (j := 59) kbk_128 rfl)
theorem dL_law_188 : decode cL_law 188 = .ok (.iload_n 3, 1) := kop_1d (show kBy cL_law 188 29 from kbyte (k := 128) (j := 60) kbk_128 rfl)
theorem dL_law_189 : decode cL_law 189 = .ok (.iconst 3, 1) := kop_06 (show kBy cL_law 189 6 from kbyte (k := 128) (j := 61) kbk_128 rfl)
theorem dL_law_190 : decode cL_law 190 = .ok (.iadd, 1) := kop_60 (show kBy cL_law 190 96 from kbyte (k := 128) (j := 62) kbk_128 rfl)
theorem dL_law_191 : decode cL_law 191 = .ok (.iaload, 1) := kop_2e (show kBy cL_law 191 46 from kbyte (k := 128) (j := 63) kbk_128 rfl)
theorem dL_law_192 : decode cL_law 192 = .ok (.aload_n 0, 1) := kop_2a (show kBy cL_law 192 42 from kbyte (k := 192) (j := 0) kbk_192 rfl)
theorem dL_law_193 : decode cL_law 193 = .ok (.iload_n 3, 1) := kop_1d (show kBy cL_law 193 29 from kbyte (k := 192) (j := 1) kbk_192 rfl)
theorem dL_law_194 : decode cL_law 194 = .ok (.iconst 4, 1) := kop_07 (show kBy cL_law 194 7 from kbyte (k := 192) (j := 2) kbk_192 rfl)
theorem dL_law_195 : decode cL_law 195 = .ok (.iadd, 1) := kop_60 (show kBy cL_law 195 96 from kbyte (k := 192) (j := 3) kbk_192 rfl)
theorem dL_law_196 : decode cL_law 196 = .ok (.iaload, 1) := kop_2e (show kBy cL_law 196 46 from kbyte (k := 192) (j := 4) kbk_192 rfl)
theorem dL_law_197 : decode cL_law 197 = .ok (.invokevirtual 13, 3) := kop_b6 (show kBy cL_law 197 182 from kbyte (k := 192) (j := 5) kbk_192 rfl) (show kBy cL_law 198 0 from kbyte (k := 192) (j := 6) kbk_192 rfl) (show kBy cL_law 199 13 from kbyte (k := 192) (j := 7) kbk_192 rfl) (by decide)
theorem dL_law_200 : decode cL_law 200 = .ok (.pop, 1) := kop_57 (show kBy cL_law 200 87 from kbyte (k := 192) (j := 8) kbk_192 rfl)
theorem dL_law_201 : decode cL_law 201 = .ok (.aload_n 2, 1) := kop_2c (show kBy cL_law 201 44 from kbyte (k := 192) (j := 9) kbk_192 rfl)
theorem dL_law_202 : decode cL_law 202 = .ok (.aload_n 0, 1) := kop_2a (show kBy cL_law 202 42 from kbyte (k := 192) (j := 10) kbk_192 rfl)
theorem dL_law_203 : decode cL_law 203 = .ok (.iload_n 3, 1) := kop_1d (show kBy cL_law 203 29 from kbyte (k := 192) (j := 11) kbk_192 rfl)
theorem dL_law_204 : decode cL_law 204 = .ok (.iconst 1, 1) := kop_04 (show kBy cL_law 204 4 from kbyte (k := 192) (j := 12) kbk_192 rfl)
theorem dL_law_205 : decode cL_law 205 = .ok (.iadd, 1) := kop_60 (show kBy cL_law 205 96 from kbyte (k := 192) (j := 13) kbk_192 rfl)
theorem dL_law_206 : decode cL_law 206 = .ok (.iaload, 1) := kop_2e (show kBy cL_law 206 46 from kbyte (k := 192) (j := 14) kbk_192 rfl)
theorem dL_law_207 : decode cL_law 207 = .ok (.aload_n 0, 1) := kop_2a (show kBy cL_law 207 42 from kbyte (k := 192) (j := 15) kbk_192 rfl)
theorem dL_law_208 : decode cL_law 208 = .ok (.iload_n 3, 1) := kop_1d (show kBy cL_law 208 29 from kbyte (k := 192) (j := 16) kbk_192 rfl)
theorem dL_law_209 : decode cL_law 209 = .ok (.iconst 2, 1) := kop_05 (show kBy cL_law 209 5 from kbyte (k := 192) (j := 17) kbk_192 rfl)
theorem dL_law_210 : decode cL_law 210 = .ok (.iadd, 1) := kop_60 (show kBy cL_law 210 96 from kbyte (k := 192) (j := 18) kbk_192 rfl)
theorem dL_law_211 : decode cL_law 211 = .ok (.iaload, 1) := kop_2e (show kBy cL_law 211 46 from kbyte (k := 192) (j := 19) kbk_192 rfl)
theorem dL_law_212 : decode cL_law 212 = .ok (.aload_n 0, 1) := kop_2a (show kBy cL_law 212 42 from kbyte (k := 192) (j := 20) kbk_192 rfl)
theorem dL_law_213 : decode cL_law 213 = .ok (.iload_n 3, 1) := kop_1d (show kBy cL_law 213 29 from kbyte (k := 192) (j := 21) kbk_192 rfl)
theorem dL_law_214 : decode cL_law 214 = .ok (.iconst 3, 1) := kop_06 (show kBy cL_law 214 6 from kbyte (k := 192) (j := 22) kbk_192 rfl)
theorem dL_law_215 : decode cL_law 215 = .ok (.iadd, 1) := kop_60 (show kBy cL_law 215 96 from kbyte (k := 192) (j := 23) kbk_192 rfl)
theorem dL_law_216 : decode cL_law 216 = .ok (.iaload, 1) := kop_2e (show kBy cL_law 216 46 from kbyte (k := 192) (j := 24) kbk_192 rfl)
theorem dL_law_217 : decode cL_law 217 = .ok (.aload_n 0, 1) := kop_2a (show kBy cL_law 217 42 from kbyte (k := 192) (j := 25) kbk_192 rfl)
theorem dL_law_218 : decode cL_law 218 = .ok (.iload_n 3, 1) := kop_1d (show kBy cL_law 218 29 from kbyte (k := 192) (j := 26) kbk_192 rfl)
theorem dL_law_219 : decode cL_law 219 = .ok (.iconst 4, 1) := kop_07 (show kBy cL_law 219 7 from kbyte (k := 192) (j := 27) kbk_192 rfl)
theorem dL_law_220 : decode cL_law 220 = .ok (.iadd, 1) := kop_60 (show kBy cL_law 220 96 from kbyte (k := 192) (j := 28) kbk_192 rfl)
theorem dL_law_221 : decode cL_law 221 = .ok (.iaload, 1) := kop_2e (show kBy cL_law 221 46 from kbyte (k := 192) (j := 29) kbk_192 rfl)
theorem dL_law_222 : decode cL_law 222 = .ok (.invokevirtual 17, 3) := kop_b6 (show kBy cL_law 222 182 from kbyte (k := 192) (j := 30) kbk_192 rfl) (show kBy cL_law 223 0 from kbyte (k := 192) (j := 31) kbk_192 rfl) (show kBy cL_law 224 17 from kbyte (k := 192) (j := 32) kbk_192 rfl) (by decide)
theorem dL_law_225 : decode cL_law 225 = .ok (.pop, 1) := kop_57 (show kBy cL_law 225 87 from kbyte (k := 192) (j := 33) kbk_192 rfl)
theorem dL_law_226 : decode cL_law 226 = .ok (.goto 906, 3) := by decide +kernel
set_option maxRecDepth 20000 in
theorem mr_wsX8_fonts_r1 : ∀ w ∈ wsX8_fonts_r1, w ∈ lw_tbl := List.forall_mem_cons.mpr ⟨iw_4_22, List.forall_mem_cons.mpr ⟨iw_0_13, List.forall_mem_cons.mpr ⟨iw_0_19, List.forall_mem_cons.mpr ⟨iw_0_23, List.forall_mem_cons.mpr ⟨iw_4_23, List.forall_mem_cons.mpr ⟨iw_5_0, List.forall_mem_cons.mpr ⟨iw_5_1, List.forall_mem_cons.mpr ⟨iw_0_2, List.forall_mem_cons.mpr ⟨iw_5_2, List.forall_mem_cons.mpr ⟨iw_5_3, List.forall_mem_cons.mpr ⟨iw_5_4, List.forall_mem_cons.mpr ⟨iw_5_5, List.forall_mem_cons.mpr ⟨iw_5_6, List.forall_mem_cons.mpr ⟨iw_5_7, List.forall_mem_cons.mpr ⟨iw_5_8, List.forall_mem_cons.mpr ⟨iw_5_9, List.forall_mem_cons.mpr ⟨iw_5_10, List.forall_mem_cons.mpr ⟨iw_5_11, List.forall_mem_cons.mpr ⟨iw_5_12, List.forall_mem_cons.mpr ⟨iw_5_13, List.forall_mem_cons.mpr ⟨iw_5_14, List.forall_mem_cons.mpr ⟨iw_5_15, List.forall_mem_cons.mpr ⟨iw_5_16, List.forall_mem_cons.mpr ⟨iw_0_15, fun _ h9 => absurd h9 List.not_mem_nil⟩⟩⟩⟩⟩⟩⟩⟩⟩⟩⟩⟩⟩⟩⟩⟩⟩⟩⟩⟩⟩⟩⟩⟩
set_option maxRecDepth 20000 in
theorem mr_wsX8_fonts_r2 : ∀ w ∈ wsX8_fonts_r2, w ∈ lw_tbl := List.forall_mem_cons.mpr ⟨iw_5_17, List.forall_mem_cons.mpr ⟨iw_5_18, List.forall_mem_cons.mpr ⟨iw_5_19, List.forall_mem_cons.mpr ⟨iw_5_20, List.forall_mem_cons.mpr ⟨iw_5_21, List.forall_mem_cons.mpr ⟨iw_5_22, List.forall_mem_cons.mpr ⟨iw_5_23, List.forall_mem_cons.mpr ⟨iw_6_0, List.forall_mem_cons.mpr ⟨iw_6_1, List.forall_mem_cons.mpr ⟨iw_6_2, List.forall_mem_cons.mpr ⟨iw_0_18, List.forall_mem_cons.mpr ⟨iw_6_3, List.forall_mem_cons.mpr ⟨iw_2_8, List.forall_mem_cons.mpr ⟨iw_6_4, List.forall_mem_cons.mpr ⟨iw_6_5, List.forall_mem_cons.mpr ⟨iw_6_6, List.forall_mem_cons.mpr ⟨iw_6_7, List.forall_mem_cons.mpr ⟨iw_6_8, List.forall_mem_cons.mpr ⟨iw_6_9, List.forall_mem_cons.mpr ⟨iw_2_3, List.forall_mem_cons.mpr ⟨iw_6_10, List.forall_mem_cons.mpr ⟨iw_6_11, List.forall_mem_cons.mpr ⟨iw_6_12, List.forall_mem_cons.mpr ⟨iw_6_13, fun _ h9 => absurd h9 List.not_mem_nil⟩⟩⟩⟩⟩⟩⟩⟩⟩⟩⟩⟩⟩⟩⟩⟩⟩⟩⟩⟩⟩⟩⟩⟩
set_option maxRecDepth 20000 in
theorem mr_wsX8_fonts_r3 : ∀ w ∈ wsX8_fonts_r3, w ∈ lw_tbl := List.forall_mem_cons.mpr ⟨iw_6_14, List.forall_mem_cons.mpr ⟨iw_6_15, List.forall_mem_cons.mpr ⟨iw_6_16, List.forall_mem_cons.mpr ⟨iw_6_17, List.forall_mem_cons.mpr ⟨iw_6_18, List.forall_mem_cons.mpr ⟨iw_6_19, List.forall_mem_cons.mpr ⟨iw_6_20, List.forall_mem_cons.mpr ⟨iw_6_21, List.forall_mem_cons.mpr ⟨iw_6_22, List.forall_mem_cons.mpr ⟨iw_6_23, List.forall_mem_cons.mpr ⟨iw_7_0, List.forall_mem_cons.mpr ⟨iw_7_1, List.forall_mem_cons.mpr ⟨iw_7_2, List.forall_mem_cons.mpr ⟨iw_7_3, List.forall_mem_cons.mpr ⟨iw_7_4, List.forall_mem_cons.mpr ⟨iw_7_5, List.forall_mem_cons.mpr ⟨iw_7_6, List.forall_mem_cons.mpr ⟨iw_7_7, List.forall_mem_cons.mpr ⟨iw_7_8, List.forall_mem_cons.mpr ⟨iw_7_9, List.forall_mem_cons.mpr ⟨iw_7_10, List.forall_mem_cons.mpr ⟨iw_0_22, List.forall_mem_cons.mpr ⟨iw_7_11, List.forall_mem_cons.mpr ⟨iw_7_12, fun _ h9 => absurd h9 List.not_mem_nil⟩⟩⟩⟩⟩⟩⟩⟩⟩⟩⟩⟩⟩⟩⟩⟩⟩⟩⟩⟩⟩⟩⟩⟩
set_option maxRecDepth 20000 in
theorem mr_wsX8_fonts_r4 : ∀ w ∈ wsX8_fonts_r4, w ∈ lw_tbl := List.forall_mem_cons.mpr ⟨iw_7_13, List.forall_mem_cons.mpr ⟨iw_7_14, List.forall_mem_cons.mpr ⟨iw_7_15, List.forall_mem_cons.mpr ⟨iw_7_16, List.forall_mem_cons.mpr ⟨iw_7_17, List.forall_mem_cons.mpr ⟨iw_7_18, List.forall_mem_cons.mpr ⟨iw_7_19, List.forall_mem_cons.mpr ⟨iw_7_20, List.forall_mem_cons.mpr ⟨iw_7_21, List.forall_mem_cons.mpr ⟨iw_7_22, List.forall_mem_cons.mpr ⟨iw_7_23, List.forall_mem_cons.mpr ⟨iw_8_0, List.forall_mem_cons.mpr ⟨iw_8_1, List.forall_mem_cons.mpr ⟨iw_8_2, List.forall_mem_cons.mpr ⟨iw_8_3, List.forall_mem_cons.mpr ⟨iw_8_4, List.forall_mem_cons.mpr ⟨iw_8_5, List.forall_mem_cons.mpr ⟨iw_8_6, List.forall_mem_cons.mpr ⟨iw_8_7, List.forall_mem_cons.mpr ⟨iw_8_8, List.forall_mem_cons.mpr ⟨iw_8_9, List.forall_mem_cons.mpr ⟨iw_1_3, List.forall_mem_cons.mpr ⟨iw_8_10, List.forall_mem_cons.mpr ⟨iw_1_7, fun _ h9 => absurd h9 List.not_mem_nil⟩⟩⟩⟩⟩⟩⟩⟩⟩⟩⟩⟩⟩⟩⟩⟩⟩⟩⟩⟩⟩⟩⟩⟩
set_option maxRecDepth 20000 in
theorem mr_wsX8_fonts_r5 : ∀ w ∈ wsX8_fonts_r5, w ∈ lw_tbl := List.forall_mem_cons.mpr ⟨iw_1_11, List.forall_mem_cons.mpr ⟨iw_8_11, List.forall_mem_cons.mpr ⟨iw_1_19, List.forall_mem_cons.mpr ⟨iw_8_12, List.forall_mem_cons.mpr ⟨iw_8_13, List.forall_mem_cons.mpr ⟨iw_8_14, List.forall_mem_cons.mpr ⟨iw_8_15, List.forall_mem_cons.mpr ⟨iw_8_16, List.forall_mem_cons.mpr ⟨iw_2_12, List.forall_mem_cons.mpr ⟨iw_2_13, List.forall_mem_cons.mpr ⟨iw_2_14, List.forall_mem_cons.mpr ⟨iw_8_17, List.forall_mem_cons.mpr ⟨iw_8_18, List.forall_mem_cons.mpr ⟨iw_8_19, List.forall_mem_cons.mpr ⟨iw_1_6, List.forall_mem_cons.mpr ⟨iw_8_20, List.forall_mem_cons.mpr ⟨iw_8_21, List.forall_mem_cons.mpr ⟨iw_8_22, List.forall_mem_cons.mpr ⟨iw_8_23, List.forall_mem_cons.mpr ⟨iw_9_0, List.forall_mem_cons.mpr ⟨iw_9_1, List.forall_mem_cons.mpr ⟨iw_2_22, List.forall_mem_cons.mpr ⟨iw_9_2, List.forall_mem_cons.mpr ⟨iw_9_3, fun _ h9 => absurd h9 List.not_mem_nil⟩⟩⟩⟩⟩⟩⟩⟩⟩⟩⟩⟩⟩⟩⟩⟩⟩⟩⟩⟩⟩⟩⟩⟩
set_option maxRecDepth 20000 in
theorem mr_wsX8_fonts_r6 : ∀ w ∈ wsX8_fonts_r6, w ∈ lw_tbl := List.forall_mem_cons.mpr ⟨iw_9_4, List.forall_mem_cons.mpr ⟨iw_9_5, List.forall_mem_cons.mpr ⟨iw_1_15, List.forall_mem_cons.mpr ⟨iw_9_6, List.forall_mem_cons.mpr ⟨iw_9_7, List.forall_mem_cons.mpr ⟨iw_9_8, List.forall_mem_cons.mpr ⟨iw_9_9, List.forall_mem_cons.mpr ⟨iw_9_10, List.forall_mem_cons.mpr ⟨iw_9_11, List.forall_mem_cons.mpr ⟨iw_9_12, List.forall_mem_cons.mpr ⟨iw_1_14, List.forall_mem_cons.mpr ⟨iw_9_13, List.forall_mem_cons.mpr ⟨iw_9_14, List.forall_mem_cons.mpr ⟨iw_9_15, List.forall_mem_cons.mpr ⟨iw_9_16, List.forall_mem_cons.mpr ⟨iw_9_17, List.forall_mem_cons.mpr ⟨iw_9_18, List.forall_mem_cons.mpr ⟨iw_9_19, List.forall_mem_cons.mpr ⟨iw_9_20, List.forall_mem_cons.mpr ⟨iw_3_6, List.forall_mem_cons.mpr ⟨iw_3_7, List.forall_mem_cons.mpr ⟨iw_3_11, List.forall_mem_cons.mpr ⟨iw_9_21, List.forall_mem_cons.mpr ⟨iw_9_22, fun _ h9 => absurd h9 List.not_mem_nil⟩⟩⟩⟩⟩⟩⟩⟩⟩⟩⟩⟩⟩⟩⟩⟩⟩⟩⟩⟩⟩⟩⟩⟩
set_option maxRecDepth 20000 in
theorem mr_wsX8_fonts_r7 : ∀ w ∈ wsX8_fonts_r7, w ∈ lw_tbl := List.forall_mem_cons.mpr ⟨iw_9_23, List.forall_mem_cons.mpr ⟨iw_10_0, List.forall_mem_cons.mpr ⟨iw_10_1, List.forall_mem_cons.mpr ⟨iw_3_8, List.forall_mem_cons.mpr ⟨iw_10_2, List.forall_mem_cons.mpr ⟨iw_10_3, List.forall_mem_cons.mpr ⟨iw_10_4, List.forall_mem_cons.mpr ⟨iw_10_5, List.forall_mem_cons.mpr ⟨iw_10_6, List.forall_mem_cons.mpr ⟨iw_10_7, List.forall_mem_cons.mpr ⟨iw_10_8, List.forall_mem_cons.mpr ⟨iw_10_9, List.forall_mem_cons.mpr ⟨iw_3_13, List.forall_mem_cons.mpr ⟨iw_10_10, List.forall_mem_cons.mpr ⟨iw_10_11, List.forall_mem_cons.mpr ⟨iw_10_12, List.forall_mem_cons.mpr ⟨iw_10_13, List.forall_mem_cons.mpr ⟨iw_10_14, List.forall_mem_cons.mpr ⟨iw_10_15, List.forall_mem_cons.mpr ⟨iw_3_9, List.forall_mem_cons.mpr ⟨iw_3_10, List.forall_mem_cons.mpr ⟨iw_10_16, List.forall_mem_cons.mpr ⟨iw_10_17, List.forall_mem_cons.mpr ⟨iw_10_18, fun _ h9 => absurd h9 List.not_mem_nil⟩⟩⟩⟩⟩⟩⟩⟩⟩⟩⟩⟩⟩⟩⟩⟩⟩⟩⟩⟩⟩⟩⟩⟩
set_option maxRecDepth 20000 in
theorem mr_wsX8_fonts_r8 : ∀ w ∈ wsX8_fonts_r8, w ∈ lw_tbl := List.forall_mem_cons.mpr ⟨iw_10_19, List.forall_mem_cons.mpr ⟨iw_10_20, List.forall_mem_cons.mpr ⟨iw_10_21, fun _ h9 => absurd h9 List.not_mem_nil⟩⟩⟩
set_option maxRecDepth 20000 in
theorem mr_wsX9_fonts_r1 : ∀ w ∈ wsX9_fonts_r1, w ∈ lw_tbl := List.forall_mem_cons.mpr ⟨iw_11_2, List.forall_mem_cons.mpr ⟨iw_11_3, List.forall_mem_cons.mpr ⟨iw_11_4, List.forall_mem_cons.mpr ⟨iw_11_5, List.forall_mem_cons.mpr ⟨iw_4_3, List.forall_mem_cons.mpr ⟨iw_4_9, List.forall_mem_cons.mpr ⟨iw_4_4, List.forall_mem_cons.mpr ⟨iw_4_10, List.forall_mem_cons.mpr ⟨iw_4_5, List.forall_mem_cons.mpr ⟨iw_4_11, List.forall_mem_cons.mpr ⟨iw_4_6, List.forall_mem_cons.mpr ⟨iw_4_7, List.forall_mem_cons.mpr ⟨iw_11_6, List.forall_mem_cons.mpr ⟨iw_11_7, List.forall_mem_cons.mpr ⟨iw_11_8, List.forall_mem_cons.mpr ⟨iw_11_9, List.forall_mem_cons.mpr ⟨iw_0_5, List.forall_mem_cons.mpr ⟨iw_11_10, List.forall_mem_cons.mpr ⟨iw_11_11, List.forall_mem_cons.mpr ⟨iw_11_12, List.forall_mem_cons.mpr ⟨iw_11_13, List.forall_mem_cons.mpr ⟨iw_11_14, List.forall_mem_cons.mpr ⟨iw_11_15, List.forall_mem_cons.mpr ⟨iw_11_16, fun _ h9 => absurd h9 List.not_mem_nil⟩⟩⟩⟩⟩⟩⟩⟩⟩⟩⟩⟩⟩⟩⟩⟩⟩⟩⟩⟩⟩⟩⟩⟩
set_option maxRecDepth 20000 in
theorem mr_wsX9_fonts_r2 : ∀ w ∈ wsX9_fonts_r2, w ∈ lw_tbl := List.forall_mem_cons.mpr ⟨iw_11_17, List.forall_mem_cons.mpr ⟨iw_11_18, List.forall_mem_cons.mpr ⟨iw_11_19, List.forall_mem_cons.mpr ⟨iw_11_20, List.forall_mem_cons.mpr ⟨iw_4_0, List.forall_mem_cons.mpr ⟨iw_4_1, List.forall_mem_cons.mpr ⟨iw_11_21, List.forall_mem_cons.mpr ⟨iw_11_22, List.forall_mem_cons.mpr ⟨iw_11_23, List.forall_mem_cons.mpr ⟨iw_12_0, List.forall_mem_cons.mpr ⟨iw_12_1, List.forall_mem_cons.mpr ⟨iw_12_2, List.forall_mem_cons.mpr ⟨iw_12_3, List.forall_mem_cons.mpr ⟨iw_12_4, List.forall_mem_cons.mpr ⟨iw_12_5, List.forall_mem_cons.mpr ⟨iw_12_6, List.forall_mem_cons.mpr ⟨iw_12_7, List.forall_mem_cons.mpr ⟨iw_12_8, List.forall_mem_cons.mpr ⟨iw_4_2, List.forall_mem_cons.mpr ⟨iw_12_9, List.forall_mem_cons.mpr ⟨iw_12_10, List.forall_mem_cons.mpr ⟨iw_12_11, List.forall_mem_cons.mpr ⟨iw_12_12, List.forall_mem_cons.mpr ⟨iw_12_13, fun _ h9 => absurd h9 List.not_mem_nil⟩⟩⟩⟩⟩⟩⟩⟩⟩⟩⟩⟩⟩⟩⟩⟩⟩⟩⟩⟩⟩⟩⟩⟩
set_option maxRecDepth 20000 in
theorem mr_wsX9_fonts_r3 : ∀ w ∈ wsX9_fonts_r3, w ∈ lw_tbl := List.forall_mem_cons.mpr ⟨iw_12_14, List.forall_mem_cons.mpr ⟨iw_12_15, List.forall_mem_cons.mpr ⟨iw_12_16, List.forall_mem_cons.mpr ⟨iw_12_17, List.forall_mem_cons.mpr ⟨iw_12_18, fun _ h9 => absurd h9 List.not_mem_nil⟩⟩⟩⟩⟩
set_option maxRecDepth 20000 in
theorem ggL_law_X8_fonts : GoodIn lw_tbl wsX8_fonts := goodIn_3 _ (List.forall_mem_cons.mpr ⟨iw_4_21, List.forall_mem_append.mpr ⟨List.forall_mem_append.mpr ⟨List.forall_mem_append.mpr ⟨List.forall_mem_append.mpr ⟨List.forall_mem_append.mpr ⟨List.forall_mem_append.mpr ⟨List.forall_mem_append.mpr ⟨List.forall_mem_append.mpr ⟨List.forall_mem_append.mpr ⟨List.forall_mem_append.mpr ⟨mr_wsX8_fonts_r1, List.forall_mem_append.mpr ⟨mr_wsX8_fonts_r2, List.forall_mem_append.mpr ⟨mr_wsX8_fonts_r3, List.forall_mem_append.mpr ⟨mr_wsX8_fonts_r4, List.forall_mem_append.mpr ⟨mr_wsX8_fonts_r5, List.forall_mem_append.mpr ⟨mr_wsX8_fonts_r6, List.forall_mem_append.mpr ⟨mr_wsX8_fonts_r7, mr_wsX8_fonts_r8⟩⟩⟩⟩⟩⟩⟩, inX8⟩, inX0⟩, inX5⟩, inX6⟩, inX7⟩, inX3⟩, inX2⟩, inX1⟩, inX4⟩⟩) (by decide +kernel)
theorem gL_law_X8_fonts : GoodIn lw_tbl (wsV RL 13 RX8 yX8_fonts wsX8_fonts) := goodIn_app (goodIn_3 _ (List.forall_mem_cons.mpr ⟨iw_4_18, List.forall_mem_cons.mpr ⟨iw_4_19, List.forall_mem_cons.mpr ⟨iw_4_20, List.forall_mem_cons.mpr ⟨iw_0_2, fun _ h9 => absurd h9 List.not_mem_nil⟩⟩⟩⟩) (by decide +kernel)) ggL_law_X8_fonts
set_option maxRecDepth 20000 in
theorem ggL_law_X9_fonts : GoodIn lw_tbl wsX9_fonts := goodIn_3 _ (List.forall_mem_cons.mpr ⟨iw_11_1, List.forall_mem_append.mpr ⟨List.forall_mem_append.mpr ⟨mr_wsX9_fonts_r1, List.forall_mem_append.mpr ⟨mr_wsX9_fonts_r2, mr_wsX9_fonts_r3⟩⟩, inX9⟩⟩) (by decide +kernel)
theorem gL_law_X9_fonts : GoodIn lw_tbl (wsV RL 17 RX9 yX9_fonts wsX9_fonts) := goodIn_app (goodIn_3 _ (List.forall_mem_cons.mpr ⟨iw_10_22, List.forall_mem_cons.mpr ⟨iw_10_23, List.forall_mem_cons.mpr ⟨iw_11_0, List.forall_mem_cons.mpr ⟨iw_0_5, fun _ h9 => absurd h9 List.not_mem_nil⟩⟩⟩⟩) (by decide +kernel)) ggL_law_X9_fonts
theorem dL_law_229 : decode cL_law 229 = .ok (.aload_n 1, 1) := kop_2b (show kBy cL_law 229 43 from kbyte (k := 192) (j := 37) kbk_192 rfl)
theorem dL_law_230 : decode cL_law 230 = .ok (.aload_n 0, 1) := kop_2a (show kBy cL_law 230 42 from kbyte (k := 192) (j := 38) kbk_192 rfl)
theorem dL_law_231 : decode cL_law 231 = .ok (.iload_n 3, 1) := kop_1d (show kBy cL_law 231 29 from kbyte (k := 192) (j := 39) kbk_192 rfl)
theorem dL_law_232 : decode cL_law 232 = .ok (.iconst 1, 1) := kop_04 (show kBy cL_law 232 4 from kbyte (k := 192) (j := 40) kbk_192 rfl)
theorem dL_law_233 : decode cL_law 233 = .ok (.iadd, 1) := kop_60 (show kBy cL_law 233 96 from kbyte (k := 192) (j := 41) kbk_192 rfl)
theorem dL_law_234 : decode cL_law 234 = .ok (.iaload, 1) := kop_2e (show kBy cL_law 234 46 from kbyte (k := 192) (j := 42) kbk_192 rfl)
theorem dL_law_235 : decode cL_law 235 = .ok (.aload_n 0, 1) := kop_2a (show kBy cL_law 235 42 from kbyte (k := 192) (j := 43) kbk_192 rfl)
theorem dL_law_236 : decode cL_law 236 = .ok (.iload_n 3, 1) := kop_1d (show kBy cL_law 236 29 from kbyte (k := 192) (j := 44) kbk_192 rfl)
theorem dL_law_237 : decode cL_law 237 = .ok (.iconst 2, 1) := kop_05 (show kBy cL_law 237 5 from kbyte (k := 192) (j := 45) kbk_192 rfl)
theorem dL_law_238 : decode cL_law 238 = .ok (.iadd, 1) := kop_60 (show kBy cL_law 238 96 from kbyte (k := 192) (j := 46) kbk_192 rfl)
theorem dL_law_239 : decode cL_law 239 = .ok (.iaload, 1) := kop_2e (show kBy cL_law 239 46 from kbyte (k := 192) (j := 47) kbk_192 rfl)
theorem dL_law_240 : decode cL_law 240 = .ok (.invokevirtual 18, 3) := kop_b6 (show kBy cL_law 240 182 from kbyte (k := 192) (j := 48) kbk_192 rfl) (show kBy cL_law 241 0 from kbyte (k := 192) (j := 49) kbk_192 rfl) (show kBy cL_law 242 18 from kbyte (k := 192) (j := 50) kbk_192 rfl) (by decide)
theorem dL_law_243 : decode cL_law 243 = .ok (.pop, 1) := kop_57 (show kBy cL_law 243 87 from kbyte (k := 192) (j := 51) kbk_192 rfl)
theorem dL_law_244 : decode cL_law 244 = .ok (.aload_n 2, 1) := kop_2c (show kBy cL_law 244 44 from kbyte (k := 192) (j := 52) kbk_192 rfl)
theorem dL_law_245 : decode cL_law 245 = .ok (.aload_n 0, 1) := kop_2a (show kBy cL_law 245 42 from kbyte (k := 192) (j := 53) kbk_192 rfl)
theorem dL_law_246 : decode cL_law 246 = .ok (.iload_n 3, 1) := kop_1d (show kBy cL_law 246 29 from kbyte (k := 192) (j := 54) kbk_192 rfl)
theorem dL_law_247 : decode cL_law 247 = .ok (.iconst 1, 1) := kop_04 (show kBy cL_law 247 4 from kbyte (k := 192) (j := 55) kbk_192 rfl)
theorem dL_law_248 : decode cL_law 248 = .ok (.iadd, 1) := kop_60 (show kBy cL_law 248 96 from kbyte (k := 192) (j := 56) kbk_192 rfl)
theorem dL_law_249 : decode cL_law 249 = .ok (.iaload, 1) := kop_2e (show kBy cL_law 249 46 from kbyte (k := 192) (j := 57) kbk_192 rfl)
theorem dL_law_250 : decode cL_law 250 = .ok (.aload_n 0, 1) := kop_2a (show kBy cL_law 250 42 from kbyte (k := 192) (j := 58) kbk_192 rfl)
theorem dL_law_251 : decode cL_law 251 = .ok (.iload_n 3, 1) := kop_1d (show kBy cL_law 251 29 from kbyte (k := 192) (j := 59) kbk_192 rfl)
theorem dL_law_252 : decode cL_law 252 = .ok (.iconst 2, 1) := kop_05 (show kBy cL_law 252 5 from kbyte (k := 192) (j := 60) kbk_192 rfl)
theorem dL_law_253 : decode cL_law 253 = .ok (.iadd, 1) := kop_60 (show kBy cL_law 253 96 from kbyte (k := 192) (j := 61) kbk_192 rfl)
theorem dL_law_254 : decode cL_law 254 = .ok (.iaload, 1) := kop_2e (show kBy cL_law 254 46 from kbyte (k := 192) (j := 62) kbk_192 rfl)
theorem dL_law_255 : decode cL_law 255 = .ok (.invokevirtual 22, 3) := kop_b6 (show kBy cL_law 255 182 from kbyte (k := 192) (j := 63) kbk_192 rfl) (show kBy cL_law 256 0 from kbyte (k := 256) (j := 0) kbk_256 rfl) (show kBy cL_law 257 22 from kbyte (k := 256) (j := 1) kbk_256 rfl) (by decide)
theorem dL_law_258 : decode cL_law 258 = .ok (.pop, 1) := kop_57 (show kBy cL_law 258 87 from kbyte (k := 256) (j := 2) kbk_256 rfl)
theorem dL_law_259 : decode cL_law 259 = .ok (.goto 873, 3) := by decide +kernel
set_option maxRecDepth 20000 in
theorem mr_wsX8_ofFont_r1 : ∀ w ∈ wsX8_ofFont_r1, w ∈ lw_tbl := List.forall_mem_cons.mpr ⟨iw_0_23, List.forall_mem_cons.mpr ⟨iw_12_23, List.forall_mem_cons.mpr ⟨iw_13_0, List.forall_mem_cons.mpr ⟨iw_13_1, List.forall_mem_cons.mpr ⟨iw_1_7, List.forall_mem_cons.mpr ⟨iw_13_2, List.forall_mem_cons.mpr ⟨iw_7_9, List.forall_mem_cons.mpr ⟨iw_7_10, List.forall_mem_cons.mpr ⟨iw_0_22, List.forall_mem_cons.mpr ⟨iw_7_11, List.forall_mem_cons.mpr ⟨iw_7_12, List.forall_mem_cons.mpr ⟨iw_5_4, List.forall_mem_cons.mpr ⟨iw_0_2, List.forall_mem_cons.mpr ⟨iw_5_5, List.forall_mem_cons.mpr ⟨iw_13_3, List.forall_mem_cons.mpr ⟨iw_13_4, List.forall_mem_cons.mpr ⟨iw_13_5, List.forall_mem_cons.mpr ⟨iw_13_6, List.forall_mem_cons.mpr ⟨iw_2_12, List.forall_mem_cons.mpr ⟨iw_2_13, List.forall_mem_cons.mpr ⟨iw_13_7, List.forall_mem_cons.mpr ⟨iw_13_8, List.forall_mem_cons.mpr ⟨iw_13_9, List.forall_mem_cons.mpr ⟨iw_13_10, fun _ h9 => absurd h9 List.not_mem_nil⟩⟩⟩⟩⟩⟩⟩⟩⟩⟩⟩⟩⟩⟩⟩⟩⟩⟩⟩⟩⟩⟩⟩⟩
set_option maxRecDepth 20000 in
theorem mr_wsX8_ofFont_r2 : ∀ w ∈ wsX8_ofFont_r2, w ∈ lw_tbl := List.forall_mem_cons.mpr ⟨iw_13_11, List.forall_mem_cons.mpr ⟨iw_13_12, List.forall_mem_cons.mpr ⟨iw_1_6, List.forall_mem_cons.mpr ⟨iw_13_13, List.forall_mem_cons.mpr ⟨iw_9_1, List.forall_mem_cons.mpr ⟨iw_2_22, fun _ h9 => absurd h9 List.not_mem_nil⟩⟩⟩⟩⟩⟩
set_option maxRecDepth 20000 in
theorem ggL_law_X8_ofFont : GoodIn lw_tbl wsX8_ofFont := goodIn_3 _ (List.forall_mem_cons.mpr ⟨iw_12_22, List.forall_mem_append.mpr ⟨List.forall_mem_append.mpr ⟨List.forall_mem_append.mpr ⟨List.forall_mem_append.mpr ⟨mr_wsX8_ofFont_r1, mr_wsX8_ofFont_r2⟩, inX8⟩, inX0⟩, inX1⟩⟩) (by decide +kernel)
theorem gL_law_X8_ofFont : GoodIn lw_tbl (wsV RL 18 RX8 yX8_ofFont wsX8_ofFont) := goodIn_app (goodIn_3 _ (List.forall_mem_cons.mpr ⟨iw_12_19, List.forall_mem_cons.mpr ⟨iw_12_20, List.forall_mem_cons.mpr ⟨iw_12_21, List.forall_mem_cons.mpr ⟨iw_0_2, fun _ h9 => absurd h9 List.not_mem_nil⟩⟩⟩⟩) (by decide +kernel)) ggL_law_X8_ofFont
set_option maxRecDepth 20000 in
theorem ggL_law_X9_ofFont : GoodIn lw_tbl wsX9_ofFont := goodIn_3 _ (List.forall_mem_cons.mpr ⟨iw_13_17, List.forall_mem_append.mpr ⟨List.forall_mem_cons.mpr ⟨iw_4_3, List.forall_mem_cons.mpr ⟨iw_4_4, List.forall_mem_cons.mpr ⟨iw_4_5, List.forall_mem_cons.mpr ⟨iw_13_18, List.forall_mem_cons.mpr ⟨iw_13_19, List.forall_mem_cons.mpr ⟨iw_13_20, List.forall_mem_cons.mpr ⟨iw_0_5, List.forall_mem_cons.mpr ⟨iw_13_21, List.forall_mem_cons.mpr ⟨iw_11_5, List.forall_mem_cons.mpr ⟨iw_13_22, List.forall_mem_cons.mpr ⟨iw_13_23, List.forall_mem_cons.mpr ⟨iw_14_0, List.forall_mem_cons.mpr ⟨iw_14_1, List.forall_mem_cons.mpr ⟨iw_14_2, List.forall_mem_cons.mpr ⟨iw_14_3, List.forall_mem_cons.mpr ⟨iw_14_4, List.forall_mem_cons.mpr ⟨iw_14_5, List.forall_mem_cons.mpr ⟨iw_4_6, fun _ h9 => absurd h9 List.not_mem_nil⟩⟩⟩⟩⟩⟩⟩⟩⟩⟩⟩⟩⟩⟩⟩⟩⟩⟩, inX9⟩⟩) (by decide +kernel)
theorem gL_law_X9_ofFont : GoodIn lw_tbl (wsV RL 22 RX9 yX9_ofFont wsX9_ofFont) := goodIn_app (goodIn_3 _ (List.forall_mem_cons.mpr ⟨iw_13_14, List.forall_mem_cons.mpr ⟨iw_13_15, List.forall_mem_cons.mpr ⟨iw_13_16, List.forall_mem_cons.mpr ⟨iw_0_5, fun _ h9 => absurd h9 List.not_mem_nil⟩⟩⟩⟩) (by decide +kernel)) ggL_law_X9_ofFont
theorem dL_law_262 : decode cL_law 262 = .ok (.aload_n 1, 1) := kop_2b (show kBy cL_law 262 43 from kbyte (k := 256) (j := 6) kbk_256 rfl)
theorem dL_law_263 : decode cL_law 263 = .ok (.aload_n 0, 1) := kop_2a (show kBy cL_law 263 42 from kbyte (k := 256) (j := 7) kbk_256 rfl)
theorem dL_law_264 : decode cL_law 264 = .ok (.iload_n 3, 1) := kop_1d (show kBy cL_law 264 29 from kbyte (k := 256) (j := 8) kbk_256 rfl)
theorem dL_law_265 : decode cL_law 265 = .ok (.iconst 1, 1) := kop_04 (show kBy cL_law 265 4 from kbyte (k := 256) (j := 9) kbk_256 rfl)
theorem dL_law_266 : decode cL_law 266 = .ok (.iadd, 1) := kop_60 (show kBy cL_law 266 96 from kbyte (k := 256) (j := 10) kbk_256 rfl)
theorem dL_law_267 : decode cL_law 267 = .ok (.iaload, 1) := kop_2e (show kBy cL_law 267 46 from kbyte (k := 256) (j := 11) kbk_256 rfl)
theorem dL_law_268 : decode cL_law 268 = .ok (.aload_n 0, 1) := kop_2a (show kBy cL_law 268 42 from kbyte (k := 256) (j := 12) kbk_256 rfl)
theorem dL_law_269 : decode cL_law 269 = .ok (.iload_n 3, 1) := kop_1d (show kBy cL_law 269 29 from kbyte (k := 256) (j := 13) kbk_256 rfl)
theorem dL_law_270 : decode cL_law 270 = .ok (.iconst 2, 1) := kop_05 (show kBy cL_law 270 5 from kbyte (k := 256) (j := 14) kbk_256 rfl)
theorem dL_law_271 : decode cL_law 271 = .ok (.iadd, 1) := kop_60 (show kBy cL_law 271 96 from kbyte (k := 256) (j := 15) kbk_256 rfl)
theorem dL_law_272 : decode cL_law 272 = .ok (.iaload, 1) := kop_2e (show kBy cL_law 272 46 from kbyte (k := 256) (j := 16) kbk_256 rfl)
theorem dL_law_273 : decode cL_law 273 = .ok (.invokevirtual 23, 3) := kop_b6 (show kBy cL_law 273 182 from kbyte (k := 256) (j := 17) kbk_256 rfl) (show kBy cL_law 274 0 from kbyte (k := 256) (j := 18) kbk_256 rfl) (show kBy cL_law 275 23 from kbyte (k := 256) (j := 19) kbk_256 rfl) (by decide)
theorem dL_law_276 : decode cL_law 276 = .ok (.pop, 1) := kop_57 (show kBy cL_law 276 87 from kbyte (k := 256) (j := 20) kbk_256 rfl)
theorem dL_law_277 : decode cL_law 277 = .ok (.aload_n 2, 1) := kop_2c (show kBy cL_law 277 44 from kbyte (k := 256) (j := 21) kbk_256 rfl)
theorem dL_law_278 : decode cL_law 278 = .ok (.aload_n 0, 1) := kop_2a (show kBy cL_law 278 42 from kbyte (k := 256) (j := 22) kbk_256 rfl)
theorem dL_law_279 : decode cL_law 279 = .ok (.iload_n 3, 1) := kop_1d (show kBy cL_law 279 29 from kbyte (k := 256) (j := 23) kbk_256 rfl)
theorem dL_law_280 : decode cL_law 280 = .ok (.iconst 1, 1) := kop_04 (show kBy cL_law 280 4 from kbyte (k := 256) (j := 24) kbk_256 rfl)
theorem dL_law_281 : decode cL_law 281 = .ok (.iadd, 1) := kop_60 (show kBy cL_law 281 96 from kbyte (k := 256) (j := 25) kbk_256 rfl)
theorem dL_law_282 : decode cL_law 282 = .ok (.iaload, 1) := kop_2e (show kBy cL_law 282 46 from kbyte (k := 256) (j := 26) kbk_256 rfl)
theorem dL_law_283 : decode cL_law 283 = .ok (.aload_n 0, 1) := kop_2a (show kBy cL_law 283 42 from kbyte (k := 256) (j := 27) kbk_256 rfl)
theorem dL_law_284 : decode cL_law 284 = .ok (.iload_n 3, 1) := kop_1d (show kBy cL_law 284 29 from kbyte (k := 256) (j := 28) kbk_256 rfl)
theorem dL_law_285 : decode cL_law 285 = .ok (.iconst 2, 1) := kop_05 (show kBy cL_law 285 5 from kbyte (k := 256) (j := 29) kbk_256 rfl)
theorem dL_law_286 : decode cL_law 286 = .ok (.iadd, 1) := kop_60 (show kBy cL_law 286 96 from kbyte (k := 256) (j := 30) kbk_256 rfl)
theorem dL_law_287 : decode cL_law 287 = .ok (.iaload, 1) := kop_2e (show kBy cL_law 287 46 from kbyte (k := 256) (j := 31) kbk_256 rfl)
theorem dL_law_288 : decode cL_law 288 = .ok (.invokevirtual 26, 3) := kop_b6 (show kBy cL_law 288 182 from kbyte (k := 256) (j := 32) kbk_256 rfl) (show kBy cL_law 289 0 from kbyte (k := 256) (j := 33) kbk_256 rfl) (show kBy cL_law 290 26 from kbyte (k := 256) (j := 34) kbk_256 rfl) (by decide)
theorem dL_law_291 : decode cL_law 291 = .ok (.pop, 1) := kop_57 (show kBy cL_law 291 87 from kbyte (k := 256) (j := 35) kbk_256 rfl)
theorem dL_law_292 : decode cL_law 292 = .ok (.goto 840, 3) := by decide +kernel
set_option maxRecDepth 20000 in
theorem ggL_law_X8_width : GoodIn lw_tbl wsX8_width := goodIn_3 _ (List.forall_mem_cons.mpr ⟨iw_14_9, List.forall_mem_append.mpr ⟨List.forall_mem_append.mpr ⟨List.forall_mem_cons.mpr ⟨iw_0_23, List.forall_mem_cons.mpr ⟨iw_13_0, List.forall_mem_cons.mpr ⟨iw_13_2, List.forall_mem_cons.mpr ⟨iw_7_9, List.forall_mem_cons.mpr ⟨iw_7_10, List.forall_mem_cons.mpr ⟨iw_0_22, List.forall_mem_cons.mpr ⟨iw_7_11, List.forall_mem_cons.mpr ⟨iw_7_12, List.forall_mem_cons.mpr ⟨iw_5_4, List.forall_mem_cons.mpr ⟨iw_0_2, List.forall_mem_cons.mpr ⟨iw_5_5, List.forall_mem_cons.mpr ⟨iw_5_3, fun _ h9 => absurd h9 List.not_mem_nil⟩⟩⟩⟩⟩⟩⟩⟩⟩⟩⟩⟩, inX8⟩, inX0⟩⟩) (by decide +kernel)
theorem gL_law_X8_width : GoodIn lw_tbl (wsV RL 23 RX8 yX8_width wsX8_width) := goodIn_app (goodIn_3 _ (List.forall_mem_cons.mpr ⟨iw_14_6, List.forall_mem_cons.mpr ⟨iw_14_7, List.forall_mem_cons.mpr ⟨iw_14_8, List.forall_mem_cons.mpr ⟨iw_0_2, fun _ h9 => absurd h9 List.not_mem_nil⟩⟩⟩⟩) (by decide +kernel)) ggL_law_X8_width
set_option maxRecDepth 20000 in
theorem ggL_law_X9_width : GoodIn lw_tbl wsX9_width := goodIn_3 _ (List.forall_mem_cons.mpr ⟨iw_14_13, List.forall_mem_append.mpr ⟨List.forall_mem_cons.mpr ⟨iw_4_4, List.forall_mem_cons.mpr ⟨iw_13_18, List.forall_mem_cons.mpr ⟨iw_13_19, List.forall_mem_cons.mpr ⟨iw_13_20, List.forall_mem_cons.mpr ⟨iw_0_5, List.forall_mem_cons.mpr ⟨iw_13_21, List.forall_mem_cons.mpr ⟨iw_11_5, List.forall_mem_cons.mpr ⟨iw_11_11, List.forall_mem_cons.mpr ⟨iw_11_12, List.forall_mem_cons.mpr ⟨iw_11_13, fun _ h9 => absurd h9 List.not_mem_nil⟩⟩⟩⟩⟩⟩⟩⟩⟩⟩, inX9⟩⟩) (by decide +kernel)
theorem gL_law_X9_width : GoodIn lw_tbl (wsV RL 26 RX9 yX9_width wsX9_width) := goodIn_app (goodIn_3 _ (List.forall_mem_cons.mpr ⟨iw_14_10, List.forall_mem_cons.mpr ⟨iw_14_11, List.forall_mem_cons.mpr ⟨iw_14_12, List.forall_mem_cons.mpr ⟨iw_0_5, fun _ h9 => absurd h9 List.not_mem_nil⟩⟩⟩⟩) (by decide +kernel)) ggL_law_X9_width
theorem dL_law_295 : decode cL_law 295 = .ok (.aload_n 1, 1) := kop_2b (show kBy cL_law 295 43 from kbyte (k := 256) (j := 39) kbk_256 rfl)
theorem dL_law_296 : decode cL_law 296 = .ok (.aload_n 0, 1) := kop_2a (show kBy cL_law 296 42 from kbyte (k := 256) (j := 40) kbk_256 rfl)
theorem dL_law_297 : decode cL_law 297 = .ok (.iload_n 3, 1) := kop_1d (show kBy cL_law 297 29 from kbyte (k := 256) (j := 41) kbk_256 rfl)
theorem dL_law_298 : decode cL_law 298 = .ok (.iconst 1, 1) := kop_04 (show kBy cL_law 298 4 from kbyte (k := 256) (j := 42) kbk_256 rfl)
theorem dL_law_299 : decode cL_law 299 = .ok (.iadd, 1) := kop_60 (show kBy cL_law 299 96 from kbyte (k := 256) (j := 43) kbk_256 rfl)
theorem dL_law_300 : decode cL_law 300 = .ok (.iaload, 1) := kop_2e (show kBy cL_law 300 46 from kbyte (k := 256) (j := 44) kbk_256 rfl)
theorem dL_law_301 : decode cL_law 301 = .ok (.aload_n 0, 1) := kop_2a (show kBy cL_law 301 42 from kbyte (k := 256) (j := 45) kbk_256 rfl)
theorem dL_law_302 : decode cL_law 302 = .ok (.iload_n 3, 1) := kop_1d (show kBy cL_law 302 29 from kbyte (k := 256) (j := 46) kbk_256 rfl)
theorem dL_law_303 : decode cL_law 303 = .ok (.iconst 2, 1) := kop_05 (show kBy cL_law 303 5 from kbyte (k := 256) (j := 47) kbk_256 rfl)
theorem dL_law_304 : decode cL_law 304 = .ok (.iadd, 1) := kop_60 (show kBy cL_law 304 96 from kbyte (k := 256) (j := 48) kbk_256 rfl)
theorem dL_law_305 : decode cL_law 305 = .ok (.iaload, 1) := kop_2e (show kBy cL_law 305 46 from kbyte (k := 256) (j := 49) kbk_256 rfl)
theorem dL_law_306 : decode cL_law 306 = .ok (.aload_n 0, 1) := kop_2a (show kBy cL_law 306 42 from kbyte (k := 256) (j := 50) kbk_256 rfl)
theorem dL_law_307 : decode cL_law 307 = .ok (.iload_n 3, 1) := kop_1d (show kBy cL_law 307 29 from kbyte (k := 256) (j := 51) kbk_256 rfl)
theorem dL_law_308 : decode cL_law 308 = .ok (.iconst 3, 1) := kop_06 (show kBy cL_law 308 6 from kbyte (k := 256) (j := 52) kbk_256 rfl)
theorem dL_law_309 : decode cL_law 309 = .ok (.iadd, 1) := kop_60 (show kBy cL_law 309 96 from kbyte (k := 256) (j := 53) kbk_256 rfl)
theorem dL_law_310 : decode cL_law 310 = .ok (.iaload, 1) := kop_2e (show kBy cL_law 310 46 from kbyte (k := 256) (j := 54) kbk_256 rfl)
theorem dL_law_311 : decode cL_law 311 = .ok (.aload_n 0, 1) := kop_2a (show kBy cL_law 311 42 from kbyte (k := 256) (j := 55) kbk_256 rfl)
theorem dL_law_312 : decode cL_law 312 = .ok (.iload_n 3, 1) := kop_1d (show kBy cL_law 312 29 from kbyte (k := 256) (j := 56) kbk_256 rfl)
theorem dL_law_313 : decode cL_law 313 = .ok (.iconst 4, 1) := kop_07 (show kBy cL_law 313 7 from kbyte (k := 256) (j := 57) kbk_256 rfl)
theorem dL_law_314 : decode cL_law 314 = .ok (.iadd, 1) := kop_60 (show kBy cL_law 314 96 from kbyte (k := 256) (j := 58) kbk_256 rfl)
theorem dL_law_315 : decode cL_law 315 = .ok (.iaload, 1) := kop_2e (show kBy cL_law 315 46 from kbyte (k := 256) (j := 59) kbk_256 rfl)
theorem dL_law_316 : decode cL_law 316 = .ok (.invokevirtual 27, 3) := kop_b6 (show kBy cL_law 316 182 from kbyte (k := 256) (j := 60) kbk_256 rfl) (show kBy cL_law 317 0 from kbyte (k := 256) (j := 61) kbk_256 rfl) (show kBy cL_law 318 27 from kbyte (k := 256) (j := 62) kbk_256 rfl) (by decide)
theorem dL_law_319 : decode cL_law 319 = .ok (.pop, 1) := kop_57 (show kBy cL_law 319 87 from kbyte (k := 256) (j := 63) kbk_256 rfl)
theorem dL_law_320 : decode cL_law 320 = .ok (.aload_n 2, 1) := kop_2c (show kBy cL_law 320 44 from kbyte (k := 320) (j := 0) kbk_320 rfl)
theorem dL_law_321 : decode cL_law 321 = .ok (.aload_n 0, 1) := kop_2a (show kBy cL_law 321 42 from kbyte (k := 320) (j := 1) kbk_320 rfl)
theorem dL_law_322 : decode cL_law 322 = .ok (.iload_n 3, 1) := kop_1d (show kBy cL_law 322 29 from kbyte (k := 320) (j := 2) kbk_320 rfl)
theorem dL_law_323 : decode cL_law 323 = .ok (.iconst 1, 1) := kop_04 (show kBy cL_law 323 4 from kbyte (k := 320) (j := 3) kbk_320 rfl)
theorem dL_law_324 : decode cL_law 324 = .ok (.iadd, 1) := kop_60 (show kBy cL_law 324 96 from kbyte (k := 320) (j := 4) kbk_320 rfl)
theorem dL_law_325 : decode cL_law 325 = .ok (.iaload, 1) := kop_2e (show kBy cL_law 325 46 from kbyte (k := 320) (j := 5) kbk_320 rfl)
theorem dL_law_326 : decode cL_law 326 = .ok (.aload_n 0, 1) := kop_2a (show kBy cL_law 326 42 from kbyte (k := 320) (j := 6) kbk_320 rfl)
theorem dL_law_327 : decode cL_law 327 = .ok (.iload_n 3, 1) := kop_1d (show kBy cL_law 327 29 from kbyte (k := 320) (j := 7) kbk_320 rfl)
theorem dL_law_328 : decode cL_law 328 = .ok (.iconst 2, 1) := kop_05 (show kBy cL_law 328 5 from kbyte (k := 320) (j := 8) kbk_320 rfl)
theorem dL_law_329 : decode cL_law 329 = .ok (.iadd, 1) := kop_60 (show kBy cL_law 329 96 from kbyte (k := 320) (j := 9) kbk_320 rfl)
theorem dL_law_330 : decode cL_law 330 = .ok (.iaload, 1) := kop_2e (show kBy cL_law 330 46 from kbyte (k := 320) (j := 10) kbk_320 rfl)
theorem dL_law_331 : decode cL_law 331 = .ok (.aload_n 0, 1) := kop_2a (show kBy cL_law 331 42 from kbyte (k := 320) (j := 11) kbk_320 rfl)
theorem dL_law_332 : decode cL_law 332 = .ok (.iload_n 3, 1) := kop_1d (show kBy cL_law 332 29 from kbyte (k := 320) (j := 12) kbk_320 rfl)
theorem dL_law_333 : decode cL_law 333 = .ok (.iconst 3, 1) := kop_06 (show kBy cL_law 333 6 from kbyte (k := 320) (j := 13) kbk_320 rfl)
theorem dL_law_334 : decode cL_law 334 = .ok (.iadd, 1) := kop_60 (show kBy cL_law 334 96 from kbyte (k := 320) (j := 14) kbk_320 rfl)
theorem dL_law_335 : decode cL_law 335 = .ok (.iaload, 1) := kop_2e (show kBy cL_law 335 46 from kbyte (k := 320) (j := 15) kbk_320 rfl)
theorem dL_law_336 : decode cL_law 336 = .ok (.aload_n 0, 1) := kop_2a (show kBy cL_law 336 42 from kbyte (k := 320) (j := 16) kbk_320 rfl)
theorem dL_law_337 : decode cL_law 337 = .ok (.iload_n 3, 1) := kop_1d (show kBy cL_law 337 29 from kbyte (k := 320) (j := 17) kbk_320 rfl)
theorem dL_law_338 : decode cL_law 338 = .ok (.iconst 4, 1) := kop_07 (show kBy cL_law 338 7 from kbyte (k := 320) (j := 18) kbk_320 rfl)
theorem dL_law_339 : decode cL_law 339 = .ok (.iadd, 1) := kop_60 (show kBy cL_law 339 96 from kbyte (k := 320) (j := 19) kbk_320 rfl)
theorem dL_law_340 : decode cL_law 340 = .ok (.iaload, 1) := kop_2e (show kBy cL_law 340 46 from kbyte (k := 320) (j := 20) kbk_320 rfl)
theorem dL_law_341 : decode cL_law 341 = .ok (.invokevirtual 30, 3) := kop_b6 (show kBy cL_law 341 182 from kbyte (k := 320) (j := 21) kbk_320 rfl) (show kBy cL_law 342 0 from kbyte (k := 320) (j := 22) kbk_320 rfl) (show kBy cL_law 343 30 from kbyte (k := 320) (j := 23) kbk_320 rfl) (by decide)
theorem dL_law_344 : decode cL_law 344 = .ok (.pop, 1) := kop_57 (show kBy cL_law 344 87 from kbyte (k := 320) (j := 24) kbk_320 rfl)
theorem dL_law_345 : decode cL_law 345 = .ok (.goto 787, 3) := by decide +kernel
set_option maxRecDepth 20000 in
theorem mr_wsX8_write_r1 : ∀ w ∈ wsX8_write_r1, w ∈ lw_tbl := List.forall_mem_cons.mpr ⟨iw_4_22, List.forall_mem_cons.mpr ⟨iw_0_13, List.forall_mem_cons.mpr ⟨iw_0_23, List.forall_mem_cons.mpr ⟨iw_4_23, List.forall_mem_cons.mpr ⟨iw_1_3, List.forall_mem_cons.mpr ⟨iw_8_10, List.forall_mem_cons.mpr ⟨iw_5_0, List.forall_mem_cons.mpr ⟨iw_5_1, List.forall_mem_cons.mpr ⟨iw_0_2, List.forall_mem_cons.mpr ⟨iw_5_2, List.forall_mem_cons.mpr ⟨iw_5_3, List.forall_mem_cons.mpr ⟨iw_5_4, List.forall_mem_cons.mpr ⟨iw_5_5, List.forall_mem_cons.mpr ⟨iw_5_6, List.forall_mem_cons.mpr ⟨iw_5_7, List.forall_mem_cons.mpr ⟨iw_5_8, List.forall_mem_cons.mpr ⟨iw_14_18, List.forall_mem_cons.mpr ⟨iw_14_19, List.forall_mem_cons.mpr ⟨iw_14_20, List.forall_mem_cons.mpr ⟨iw_5_9, List.forall_mem_cons.mpr ⟨iw_5_10, List.forall_mem_cons.mpr ⟨iw_5_11, List.forall_mem_cons.mpr ⟨iw_5_12, List.forall_mem_cons.mpr ⟨iw_5_13, fun _ h9 => absurd h9 List.not_mem_nil⟩⟩⟩⟩⟩⟩⟩⟩⟩⟩⟩⟩⟩⟩⟩⟩⟩⟩⟩⟩⟩⟩⟩⟩
set_option maxRecDepth 20000 in
theorem mr_wsX8_write_r2 : ∀ w ∈ wsX8_write_r2, w ∈ lw_tbl := List.forall_mem_cons.mpr ⟨iw_5_14, List.forall_mem_cons.mpr ⟨iw_5_15, List.forall_mem_cons.mpr ⟨iw_5_16, List.forall_mem_cons.mpr ⟨iw_0_15, List.forall_mem_cons.mpr ⟨iw_5_17, List.forall_mem_cons.mpr ⟨iw_5_18, List.forall_mem_cons.mpr ⟨iw_5_19, List.forall_mem_cons.mpr ⟨iw_5_20, List.forall_mem_cons.mpr ⟨iw_5_21, List.forall_mem_cons.mpr ⟨iw_5_22, List.forall_mem_cons.mpr ⟨iw_5_23, List.forall_mem_cons.mpr ⟨iw_14_21, List.forall_mem_cons.mpr ⟨iw_14_22, List.forall_mem_cons.mpr ⟨iw_14_23, List.forall_mem_cons.mpr ⟨iw_15_0, List.forall_mem_cons.mpr ⟨iw_6_7, List.forall_mem_cons.mpr ⟨iw_6_8, List.forall_mem_cons.mpr ⟨iw_6_9, List.forall_mem_cons.mpr ⟨iw_2_3, List.forall_mem_cons.mpr ⟨iw_6_10, List.forall_mem_cons.mpr ⟨iw_6_11, List.forall_mem_cons.mpr ⟨iw_6_12, List.forall_mem_cons.mpr ⟨iw_6_13, List.forall_mem_cons.mpr ⟨iw_15_1, fun _ h9 => absurd h9 List.not_mem_nil⟩⟩⟩⟩⟩⟩⟩⟩⟩⟩⟩⟩⟩⟩⟩⟩⟩⟩⟩⟩⟩⟩⟩⟩
set_option maxRecDepth 20000 in
theorem mr_wsX8_write_r3 : ∀ w ∈ wsX8_write_r3, w ∈ lw_tbl := List.forall_mem_cons.mpr ⟨iw_15_2, List.forall_mem_cons.mpr ⟨iw_15_3, List.forall_mem_cons.mpr ⟨iw_15_4, List.forall_mem_cons.mpr ⟨iw_15_5, List.forall_mem_cons.mpr ⟨iw_15_6, List.forall_mem_cons.mpr ⟨iw_15_7, List.forall_mem_cons.mpr ⟨iw_15_8, List.forall_mem_cons.mpr ⟨iw_15_9, List.forall_mem_cons.mpr ⟨iw_15_10, List.forall_mem_cons.mpr ⟨iw_1_2, List.forall_mem_cons.mpr ⟨iw_15_11, List.forall_mem_cons.mpr ⟨iw_15_12, List.forall_mem_cons.mpr ⟨iw_2_18, List.forall_mem_cons.mpr ⟨iw_9_2, List.forall_mem_cons.mpr ⟨iw_9_3, List.forall_mem_cons.mpr ⟨iw_9_4, List.forall_mem_cons.mpr ⟨iw_9_5, List.forall_mem_cons.mpr ⟨iw_1_15, List.forall_mem_cons.mpr ⟨iw_1_7, List.forall_mem_cons.mpr ⟨iw_9_6, List.forall_mem_cons.mpr ⟨iw_9_7, List.forall_mem_cons.mpr ⟨iw_9_8, List.forall_mem_cons.mpr ⟨iw_0_22, List.forall_mem_cons.mpr ⟨iw_9_9, fun _ h9 => absurd h9 List.not_mem_nil⟩⟩⟩⟩⟩⟩⟩⟩⟩⟩⟩⟩⟩⟩⟩⟩⟩⟩⟩⟩⟩⟩⟩⟩
set_option maxRecDepth 20000 in
theorem mr_wsX8_write_r4 : ∀ w ∈ wsX8_write_r4, w ∈ lw_tbl := List.forall_mem_cons.mpr ⟨iw_7_12, List.forall_mem_cons.mpr ⟨iw_9_10, List.forall_mem_cons.mpr ⟨iw_9_11, List.forall_mem_cons.mpr ⟨iw_9_12, List.forall_mem_cons.mpr ⟨iw_1_14, List.forall_mem_cons.mpr ⟨iw_9_13, List.forall_mem_cons.mpr ⟨iw_9_14, List.forall_mem_cons.mpr ⟨iw_9_15, List.forall_mem_cons.mpr ⟨iw_9_16, List.forall_mem_cons.mpr ⟨iw_9_17, List.forall_mem_cons.mpr ⟨iw_9_18, List.forall_mem_cons.mpr ⟨iw_9_19, List.forall_mem_cons.mpr ⟨iw_9_20, List.forall_mem_cons.mpr ⟨iw_3_6, List.forall_mem_cons.mpr ⟨iw_3_7, List.forall_mem_cons.mpr ⟨iw_3_11, List.forall_mem_cons.mpr ⟨iw_9_21, List.forall_mem_cons.mpr ⟨iw_9_22, List.forall_mem_cons.mpr ⟨iw_9_23, List.forall_mem_cons.mpr ⟨iw_10_0, List.forall_mem_cons.mpr ⟨iw_10_1, List.forall_mem_cons.mpr ⟨iw_3_8, List.forall_mem_cons.mpr ⟨iw_10_2, List.forall_mem_cons.mpr ⟨iw_10_3, fun _ h9 => absurd h9 List.not_mem_nil⟩⟩⟩⟩⟩⟩⟩⟩⟩⟩⟩⟩⟩⟩⟩⟩⟩⟩⟩⟩⟩⟩⟩⟩
set_option maxRecDepth 20000 in
theorem mr_wsX8_write_r5 : ∀ w ∈ wsX8_write_r5, w ∈ lw_tbl := List.forall_mem_cons.mpr ⟨iw_10_4, List.forall_mem_cons.mpr ⟨iw_10_5, List.forall_mem_cons.mpr ⟨iw_2_14, List.forall_mem_cons.mpr ⟨iw_10_6, List.forall_mem_cons.mpr ⟨iw_10_7, List.forall_mem_cons.mpr ⟨iw_10_8, List.forall_mem_cons.mpr ⟨iw_10_9, List.forall_mem_cons.mpr ⟨iw_3_13, List.forall_mem_cons.mpr ⟨iw_10_10, List.forall_mem_cons.mpr ⟨iw_8_22, List.forall_mem_cons.mpr ⟨iw_8_23, List.forall_mem_cons.mpr ⟨iw_9_0, List.forall_mem_cons.mpr ⟨iw_10_11, List.forall_mem_cons.mpr ⟨iw_10_12, List.forall_mem_cons.mpr ⟨iw_10_13, List.forall_mem_cons.mpr ⟨iw_10_14, List.forall_mem_cons.mpr ⟨iw_10_15, List.forall_mem_cons.mpr ⟨iw_3_9, List.forall_mem_cons.mpr ⟨iw_3_10, List.forall_mem_cons.mpr ⟨iw_10_16, List.forall_mem_cons.mpr ⟨iw_10_17, List.forall_mem_cons.mpr ⟨iw_10_18, List.forall_mem_cons.mpr ⟨iw_10_19, List.forall_mem_cons.mpr ⟨iw_10_20, fun _ h9 => absurd h9 List.not_mem_nil⟩⟩⟩⟩⟩⟩⟩⟩⟩⟩⟩⟩⟩⟩⟩⟩⟩⟩⟩⟩⟩⟩⟩⟩
set_option maxRecDepth 20000 in
theorem mr_wsX8_write_r6 : ∀ w ∈ wsX8_write_r6, w ∈ lw_tbl := List.forall_mem_cons.mpr ⟨iw_10_21, fun _ h9 => absurd h9 List.not_mem_nil⟩
set_option maxRecDepth 20000 in
theorem mr_wsX9_write_r1 : ∀ w ∈ wsX9_write_r1, w ∈ lw_tbl := List.forall_mem_cons.mpr ⟨iw_11_2, List.forall_mem_cons.mpr ⟨iw_11_5, List.forall_mem_cons.mpr ⟨iw_4_2, List.forall_mem_cons.mpr ⟨iw_11_6, List.forall_mem_cons.mpr ⟨iw_4_8, List.forall_mem_cons.mpr ⟨iw_15_17, List.forall_mem_cons.mpr ⟨iw_15_18, List.forall_mem_cons.mpr ⟨iw_15_19, List.forall_mem_cons.mpr ⟨iw_11_8, List.forall_mem_cons.mpr ⟨iw_11_9, List.forall_mem_cons.mpr ⟨iw_0_5, List.forall_mem_cons.mpr ⟨iw_11_10, List.forall_mem_cons.mpr ⟨iw_11_11, List.forall_mem_cons.mpr ⟨iw_11_12, List.forall_mem_cons.mpr ⟨iw_11_13, List.forall_mem_cons.mpr ⟨iw_11_14, List.forall_mem_cons.mpr ⟨iw_11_15, List.forall_mem_cons.mpr ⟨iw_11_16, List.forall_mem_cons.mpr ⟨iw_11_17, List.forall_mem_cons.mpr ⟨iw_11_18, List.forall_mem_cons.mpr ⟨iw_11_19, List.forall_mem_cons.mpr ⟨iw_11_20, List.forall_mem_cons.mpr ⟨iw_4_0, List.forall_mem_cons.mpr ⟨iw_4_1, fun _ h9 => absurd h9 List.not_mem_nil⟩⟩⟩⟩⟩⟩⟩⟩⟩⟩⟩⟩⟩⟩⟩⟩⟩⟩⟩⟩⟩⟩⟩⟩
set_option maxRecDepth 20000 in
theorem mr_wsX9_write_r2 : ∀ w ∈ wsX9_write_r2, w ∈ lw_tbl := List.forall_mem_cons.mpr ⟨iw_11_21, List.forall_mem_cons.mpr ⟨iw_11_22, List.forall_mem_cons.mpr ⟨iw_11_23, List.forall_mem_cons.mpr ⟨iw_12_0, fun _ h9 => absurd h9 List.not_mem_nil⟩⟩⟩⟩
set_option maxRecDepth 20000 in
theorem ggL_law_X8_write : GoodIn lw_tbl wsX8_write := goodIn_3 _ (List.forall_mem_cons.mpr ⟨iw_14_17, List.forall_mem_append.mpr ⟨List.forall_mem_append.mpr ⟨List.forall_mem_append.mpr ⟨List.forall_mem_append.mpr ⟨List.forall_mem_append.mpr ⟨List.forall_mem_append.mpr ⟨List.forall_mem_append.mpr ⟨mr_wsX8_write_r1, List.forall_mem_append.mpr ⟨mr_wsX8_write_r2, List.forall_mem_append.mpr ⟨mr_wsX8_write_r3, List.forall_mem_append.mpr ⟨mr_wsX8_write_r4, List.forall_mem_append.mpr ⟨mr_wsX8_write_r5, mr_wsX8_write_r6⟩⟩⟩⟩⟩, inX8⟩, inX0⟩, inX7⟩, inX5⟩, inX4⟩, inX1⟩⟩) (by decide +kernel)
theorem gL_law_X8_write : GoodIn lw_tbl (wsV RL 27 RX8 yX8_write wsX8_write) := goodIn_app (goodIn_3 _ (List.forall_mem_cons.mpr ⟨iw_14_14, List.forall_mem_cons.mpr ⟨iw_14_15, List.forall_mem_cons.mpr ⟨iw_14_16, List.forall_mem_cons.mpr ⟨iw_0_2, fun _ h9 => absurd h9 List.not_mem_nil⟩⟩⟩⟩) (by decide +kernel)) ggL_law_X8_write
set_option maxRecDepth 20000 in
theorem ggL_law_X9_write : GoodIn lw_tbl wsX9_write := goodIn_3 _ (List.forall_mem_cons.mpr ⟨iw_15_16, List.forall_mem_append.mpr ⟨List.forall_mem_append.mpr ⟨mr_wsX9_write_r1, mr_wsX9_write_r2⟩, inX9⟩⟩) (by decide +kernel)
theorem gL_law_X9_write : GoodIn lw_tbl (wsV RL 30 RX9 yX9_write wsX9_write) := goodIn_app (goodIn_3 _ (List.forall_mem_cons.mpr ⟨iw_15_13, List.forall_mem_cons.mpr ⟨iw_15_14, List.forall_mem_cons.mpr ⟨iw_15_15, List.forall_mem_cons.mpr ⟨iw_0_5, fun _ h9 => absurd h9 List.not_mem_nil⟩⟩⟩⟩) (by decide +kernel)) ggL_law_X9_write
theorem dL_law_348 : decode cL_law 348 = .ok (.aload_n 1, 1) := kop_2b (show kBy cL_law 348 43 from kbyte (k := 320) (j := 28) kbk_320 rfl)
theorem dL_law_349 : decode cL_law 349 = .ok (.aload_n 0, 1) := kop_2a (show kBy cL_law 349 42 from kbyte (k := 320) (j := 29) kbk_320 rfl)
theorem dL_law_350 : decode cL_law 350 = .ok (.iload_n 3, 1) := kop_1d (show kBy cL_law 350 29 from kbyte (k := 320) (j := 30) kbk_320 rfl)
theorem dL_law_351 : decode cL_law 351 = .ok (.iconst 1, 1) := kop_04 (show kBy cL_law 351 4 from kbyte (k := 320) (j := 31) kbk_320 rfl)
theorem dL_law_352 : decode cL_law 352 = .ok (.iadd, 1) := kop_60 (show kBy cL_law 352 96 from kbyte (k := 320) (j := 32) kbk_320 rfl)
theorem dL_law_353 : decode cL_law 353 = .ok (.iaload, 1) := kop_2e (show kBy cL_law 353 46 from kbyte (k := 320) (j := 33) kbk_320 rfl)
theorem dL_law_354 : decode cL_law 354 = .ok (.invokevirtual 31, 3) := kop_b6 (show kBy cL_law 354 182 from kbyte (k := 320) (j := 34) kbk_320 rfl) (show kBy cL_law 355 0 from kbyte (k := 320) (j := 35) kbk_320 rfl) (show kBy cL_law 356 31 from kbyte (k := 320) (j := 36) kbk_320 rfl) (by decide)
theorem dL_law_357 : decode cL_law 357 = .ok (.pop, 1) := kop_57 (show kBy cL_law 357 87 from kbyte (k := 320) (j := 37) kbk_320 rfl)
theorem dL_law_358 : decode cL_law 358 = .ok (.aload_n 2, 1) := kop_2c (show kBy cL_law 358 44 from kbyte (k := 320) (j := 38) kbk_320 rfl)
theorem dL_law_359 : decode cL_law 359 = .ok (.aload_n 0, 1) := kop_2a (show kBy cL_law 359 42 from kbyte (k := 320) (j := 39) kbk_320 rfl)
theorem dL_law_360 : decode cL_law 360 = .ok (.iload_n 3, 1) := kop_1d (show kBy cL_law 360 29 from kbyte (k := 320) (j := 40) kbk_320 rfl)
theorem dL_law_361 : decode cL_law 361 = .ok (.iconst 1, 1) := kop_04 (show kBy cL_law 361 4 from kbyte (k := 320) (j := 41) kbk_320 rfl)
theorem dL_law_362 : decode cL_law 362 = .ok (.iadd, 1) := kop_60 (show kBy cL_law 362 96 from kbyte (k := 320) (j := 42) kbk_320 rfl)
theorem dL_law_363 : decode cL_law 363 = .ok (.iaload, 1) := kop_2e (show kBy cL_law 363 46 from kbyte (k := 320) (j := 43) kbk_320 rfl)
theorem dL_law_364 : decode cL_law 364 = .ok (.invokevirtual 35, 3) := kop_b6 (show kBy cL_law 364 182 from kbyte (k := 320) (j := 44) kbk_320 rfl) (show kBy cL_law 365 0 from kbyte (k := 320) (j := 45) kbk_320 rfl) (show kBy cL_law 366 35 from kbyte (k := 320) (j := 46) kbk_320 rfl) (by decide)
theorem dL_law_367 : decode cL_law 367 = .ok (.pop, 1) := kop_57 (show kBy cL_law 367 87 from kbyte (k := 320) (j := 47) kbk_320 rfl)
theorem dL_law_368 : decode cL_law 368 = .ok (.goto 764, 3) := by decide +kernel
set_option maxRecDepth 20000 in
theorem mr_wsX8_erase_r1 : ∀ w ∈ wsX8_erase_r1, w ∈ lw_tbl := List.forall_mem_cons.mpr ⟨iw_1_3, List.forall_mem_cons.mpr ⟨iw_8_10, List.forall_mem_cons.mpr ⟨iw_5_3, List.forall_mem_cons.mpr ⟨iw_5_4, List.forall_mem_cons.mpr ⟨iw_0_2, List.forall_mem_cons.mpr ⟨iw_5_5, List.forall_mem_cons.mpr ⟨iw_16_0, List.forall_mem_cons.mpr ⟨iw_16_1, List.forall_mem_cons.mpr ⟨iw_16_2, List.forall_mem_cons.mpr ⟨iw_1_2, List.forall_mem_cons.mpr ⟨iw_16_3, List.forall_mem_cons.mpr ⟨iw_15_12, List.forall_mem_cons.mpr ⟨iw_9_2, List.forall_mem_cons.mpr ⟨iw_9_3, List.forall_mem_cons.mpr ⟨iw_9_4, List.forall_mem_cons.mpr ⟨iw_9_5, List.forall_mem_cons.mpr ⟨iw_1_15, List.forall_mem_cons.mpr ⟨iw_0_23, List.forall_mem_cons.mpr ⟨iw_1_7, List.forall_mem_cons.mpr ⟨iw_9_6, List.forall_mem_cons.mpr ⟨iw_9_7, List.forall_mem_cons.mpr ⟨iw_9_8, List.forall_mem_cons.mpr ⟨iw_0_22, List.forall_mem_cons.mpr ⟨iw_9_9, fun _ h9 => absurd h9 List.not_mem_nil⟩⟩⟩⟩⟩⟩⟩⟩⟩⟩⟩⟩⟩⟩⟩⟩⟩⟩⟩⟩⟩⟩⟩⟩
set_option maxRecDepth 20000 in
theorem mr_wsX8_erase_r2 : ∀ w ∈ wsX8_erase_r2, w ∈ lw_tbl := List.forall_mem_cons.mpr ⟨iw_7_12, List.forall_mem_cons.mpr ⟨iw_9_10, List.forall_mem_cons.mpr ⟨iw_9_11, List.forall_mem_cons.mpr ⟨iw_9_12, List.forall_mem_cons.mpr ⟨iw_1_14, List.forall_mem_cons.mpr ⟨iw_9_13, List.forall_mem_cons.mpr ⟨iw_9_14, List.forall_mem_cons.mpr ⟨iw_9_15, List.forall_mem_cons.mpr ⟨iw_9_16, List.forall_mem_cons.mpr ⟨iw_9_17, List.forall_mem_cons.mpr ⟨iw_9_18, List.forall_mem_cons.mpr ⟨iw_9_19, List.forall_mem_cons.mpr ⟨iw_9_20, List.forall_mem_cons.mpr ⟨iw_3_6, List.forall_mem_cons.mpr ⟨iw_3_7, List.forall_mem_cons.mpr ⟨iw_3_11, List.forall_mem_cons.mpr ⟨iw_9_21, List.forall_mem_cons.mpr ⟨iw_9_22, List.forall_mem_cons.mpr ⟨iw_9_23, List.forall_mem_cons.mpr ⟨iw_10_0, List.forall_mem_cons.mpr ⟨iw_10_1, List.forall_mem_cons.mpr ⟨iw_3_8, List.forall_mem_cons.mpr ⟨iw_10_2, List.forall_mem_cons.mpr ⟨iw_10_3, fun _ h9 => absurd h9 List.not_mem_nil⟩⟩⟩⟩⟩⟩⟩⟩⟩⟩⟩⟩⟩⟩⟩⟩⟩⟩⟩⟩⟩⟩⟩⟩
set_option maxRecDepth 20000 in
theorem mr_wsX8_erase_r3 : ∀ w ∈ wsX8_erase_r3, w ∈ lw_tbl := List.forall_mem_cons.mpr ⟨iw_10_4, List.forall_mem_cons.mpr ⟨iw_10_5, List.forall_mem_cons.mpr ⟨iw_2_14, List.forall_mem_cons.mpr ⟨iw_10_6, List.forall_mem_cons.mpr ⟨iw_10_7, List.forall_mem_cons.mpr ⟨iw_10_8, List.forall_mem_cons.mpr ⟨iw_10_9, List.forall_mem_cons.mpr ⟨iw_3_13, List.forall_mem_cons.mpr ⟨iw_10_10, List.forall_mem_cons.mpr ⟨iw_8_22, List.forall_mem_cons.mpr ⟨iw_8_23, List.forall_mem_cons.mpr ⟨iw_9_0, List.forall_mem_cons.mpr ⟨iw_10_11, List.forall_mem_cons.mpr ⟨iw_10_12, List.forall_mem_cons.mpr ⟨iw_10_13, List.forall_mem_cons.mpr ⟨iw_10_14, List.forall_mem_cons.mpr ⟨iw_10_15, List.forall_mem_cons.mpr ⟨iw_3_9, List.forall_mem_cons.mpr ⟨iw_3_10, List.forall_mem_cons.mpr ⟨iw_10_16, List.forall_mem_cons.mpr ⟨iw_10_17, List.forall_mem_cons.mpr ⟨iw_10_18, List.forall_mem_cons.mpr ⟨iw_10_19, List.forall_mem_cons.mpr ⟨iw_10_20, fun _ h9 => absurd h9 List.not_mem_nil⟩⟩⟩⟩⟩⟩⟩⟩⟩⟩⟩⟩⟩⟩⟩⟩⟩⟩⟩⟩⟩⟩⟩⟩
set_option maxRecDepth 20000 in
theorem mr_wsX8_erase_r4 : ∀ w ∈ wsX8_erase_r4, w ∈ lw_tbl := List.forall_mem_cons.mpr ⟨iw_10_21, fun _ h9 => absurd h9 List.not_mem_nil⟩
set_option maxRecDepth 20000 in
theorem ggL_law_X8_erase : GoodIn lw_tbl wsX8_erase := goodIn_3 _ (List.forall_mem_cons.mpr ⟨iw_15_23, List.forall_mem_append.mpr ⟨List.forall_mem_append.mpr ⟨List.forall_mem_append.mpr ⟨List.forall_mem_append.mpr ⟨List.forall_mem_append.mpr ⟨List.forall_mem_append.mpr ⟨mr_wsX8_erase_r1, List.forall_mem_append.mpr ⟨mr_wsX8_erase_r2, List.forall_mem_append.mpr ⟨mr_wsX8_erase_r3, mr_wsX8_erase_r4⟩⟩⟩, inX8⟩, inX7⟩, inX0⟩, inX4⟩, inX1⟩⟩) (by decide +kernel)
theorem gL_law_X8_erase : GoodIn lw_tbl (wsV RL 31 RX8 yX8_erase wsX8_erase) := goodIn_app (goodIn_3 _ (List.forall_mem_cons.mpr ⟨iw_15_20, List.forall_mem_cons.mpr ⟨iw_15_21, List.forall_mem_cons.mpr ⟨iw_15_22, List.forall_mem_cons.mpr ⟨iw_0_2, fun _ h9 => absurd h9 List.not_mem_nil⟩⟩⟩⟩) (by decide +kernel)) ggL_law_X8_erase
set_option maxRecDepth 20000 in
theorem ggL_law_X9_erase : GoodIn lw_tbl wsX9_erase := goodIn_3 _ (List.forall_mem_cons.mpr ⟨iw_16_7, List.forall_mem_append.mpr ⟨List.forall_mem_cons.mpr ⟨iw_11_6, List.forall_mem_cons.mpr ⟨iw_11_11, List.forall_mem_cons.mpr ⟨iw_11_12, List.forall_mem_cons.mpr ⟨iw_0_5, List.forall_mem_cons.mpr ⟨iw_11_13, fun _ h9 => absurd h9 List.not_mem_nil⟩⟩⟩⟩⟩, inX9⟩⟩) (by decide +kernel)
theorem gL_law_X9_erase : GoodIn lw_tbl (wsV RL 35 RX9 yX9_erase wsX9_erase) := goodIn_app (goodIn_3 _ (List.forall_mem_cons.mpr ⟨iw_16_4, List.forall_mem_cons.mpr ⟨iw_16_5, List.forall_mem_cons.mpr ⟨iw_16_6, List.forall_mem_cons.mpr ⟨iw_0_5, fun _ h9 => absurd h9 List.not_mem_nil⟩⟩⟩⟩) (by decide +kernel)) ggL_law_X9_erase
theorem dL_law_371 : decode cL_law 371 = .ok (.aload_n 1, 1) := kop_2b (show kBy cL_law 371 43 from kbyte (k := 320) (j := 51) kbk_320 rfl)
theorem dL_law_372 : decode cL_law 372 = .ok (.aload_n 0, 1) := kop_2a (show kBy cL_law 372 42 from kbyte (k := 320) (j := 52) kbk_320 rfl)
theorem dL_law_373 : decode cL_law 373 = .ok (.iload_n 3, 1) := kop_1d (show kBy cL_law 373 29 from kbyte (k := 320) (j := 53) kbk_320 rfl)
theorem dL_law_374 : decode cL_law 374 = .ok (.iconst 1, 1) := kop_04 (show kBy cL_law 374 4 from kbyte (k := 320) (j := 54) kbk_320 rfl)
theorem dL_law_375 : decode cL_law 375 = .ok (.iadd, 1) := kop_60 (show kBy cL_law 375 96 from kbyte (k := 320) (j := 55) kbk_320 rfl)
theorem dL_law_376 : decode cL_law 376 = .ok (.iaload, 1) := kop_2e (show kBy cL_law 376 46 from kbyte (k := 320) (j := 56) kbk_320 rfl)
theorem dL_law_377 : decode cL_law 377 = .ok (.invokevirtual 36, 3) := kop_b6 (show kBy cL_law 377 182 from kbyte (k := 320) (j := 57) kbk_320 rfl) (show kBy cL_law 378 0 from kbyte (k := 320) (j := 58) kbk_320 rfl) (show kBy cL_law 379 36 from kbyte (k := 320) (j := 59) kbk_320 rfl) (by decide)
theorem dL_law_380 : decode cL_law 380 = .ok (.pop, 1) := kop_57 (show kBy cL_law 380 87 from kbyte (k := 320) (j := 60) kbk_320 rfl)
theorem dL_law_381 : decode cL_law 381 = .ok (.aload_n 2, 1) := kop_2c (show kBy cL_law 381 44 from kbyte (k := 320) (j := 61) kbk_320 rfl)
theorem dL_law_382 : decode cL_law 382 = .ok (.aload_n 0, 1) := kop_2a (show kBy cL_law 382 42 from kbyte (k := 320) (j := 62) kbk_320 rfl)
theorem dL_law_383 : decode cL_law 383 = .ok (.iload_n 3, 1) := kop_1d (show kBy cL_law 383 29 from kbyte (k := 320) (j := 63) kbk_320 rfl)
theorem dL_law_384 : decode cL_law 384 = .ok (.iconst 1, 1) := kop_04 (show kBy cL_law 384 4 from kbyte (k := 384) (j := 0) kbk_384 rfl)
theorem dL_law_385 : decode cL_law 385 = .ok (.iadd, 1) := kop_60 (show kBy cL_law 385 96 from kbyte (k := 384) (j := 1) kbk_384 rfl)
theorem dL_law_386 : decode cL_law 386 = .ok (.iaload, 1) := kop_2e (show kBy cL_law 386 46 from kbyte (k := 384) (j := 2) kbk_384 rfl)
theorem dL_law_387 : decode cL_law 387 = .ok (.invokevirtual 39, 3) := kop_b6 (show kBy cL_law 387 182 from kbyte (k := 384) (j := 3) kbk_384 rfl) (show kBy cL_law 388 0 from kbyte (k := 384) (j := 4) kbk_384 rfl) (show kBy cL_law 389 39 from kbyte (k := 384) (j := 5) kbk_384 rfl) (by decide)
theorem dL_law_390 : decode cL_law 390 = .ok (.pop, 1) := kop_57 (show kBy cL_law 390 87 from kbyte (k := 384) (j := 6) kbk_384 rfl)
theorem dL_law_391 : decode cL_law 391 = .ok (.goto 741, 3) := by decide +kernel
set_option maxRecDepth 20000 in
theorem ggL_law_X8_letter : GoodIn lw_tbl wsX8_letter := goodIn_3 _ (List.forall_mem_cons.mpr ⟨iw_16_11, List.forall_mem_append.mpr ⟨List.forall_mem_append.mpr ⟨List.forall_mem_cons.mpr ⟨iw_1_3, List.forall_mem_cons.mpr ⟨iw_8_10, List.forall_mem_cons.mpr ⟨iw_16_12, List.forall_mem_cons.mpr ⟨iw_5_3, List.forall_mem_cons.mpr ⟨iw_5_4, List.forall_mem_cons.mpr ⟨iw_0_2, List.forall_mem_cons.mpr ⟨iw_5_5, fun _ h9 => absurd h9 List.not_mem_nil⟩⟩⟩⟩⟩⟩⟩, inX8⟩, inX7⟩⟩) (by decide +kernel)
theorem gL_law_X8_letter : GoodIn lw_tbl (wsV RL 36 RX8 yX8_letter wsX8_letter) := goodIn_app (goodIn_3 _ (List.forall_mem_cons.mpr ⟨iw_16_8, List.forall_mem_cons.mpr ⟨iw_16_9, List.forall_mem_cons.mpr ⟨iw_16_10, List.forall_mem_cons.mpr ⟨iw_0_2, fun _ h9 => absurd h9 List.not_mem_nil⟩⟩⟩⟩) (by decide +kernel)) ggL_law_X8_letter
set_option maxRecDepth 20000 in
theorem ggL_law_X9_letter : GoodIn lw_tbl wsX9_letter := goodIn_3 _ (List.forall_mem_cons.mpr ⟨iw_16_16, List.forall_mem_append.mpr ⟨List.forall_mem_cons.mpr ⟨iw_11_6, List.forall_mem_cons.mpr ⟨iw_4_8, List.forall_mem_cons.mpr ⟨iw_11_11, List.forall_mem_cons.mpr ⟨iw_11_12, List.forall_mem_cons.mpr ⟨iw_0_5, List.forall_mem_cons.mpr ⟨iw_11_13, fun _ h9 => absurd h9 List.not_mem_nil⟩⟩⟩⟩⟩⟩, inX9⟩⟩) (by decide +kernel)
theorem gL_law_X9_letter : GoodIn lw_tbl (wsV RL 39 RX9 yX9_letter wsX9_letter) := goodIn_app (goodIn_3 _ (List.forall_mem_cons.mpr ⟨iw_16_13, List.forall_mem_cons.mpr ⟨iw_16_14, List.forall_mem_cons.mpr ⟨iw_16_15, List.forall_mem_cons.mpr ⟨iw_0_5, fun _ h9 => absurd h9 List.not_mem_nil⟩⟩⟩⟩) (by decide +kernel)) ggL_law_X9_letter
theorem dL_law_394 : decode cL_law 394 = .ok (.aload_n 1, 1) := kop_2b (show kBy cL_law 394 43 from kbyte (k := 384) (j := 10) kbk_384 rfl)
theorem dL_law_395 : decode cL_law 395 = .ok (.aload_n 0, 1) := kop_2a (show kBy cL_law 395 42 from kbyte (k := 384) (j := 11) kbk_384 rfl)
theorem dL_law_396 : decode cL_law 396 = .ok (.iload_n 3, 1) := kop_1d (show kBy cL_law 396 29 from kbyte (k := 384) (j := 12) kbk_384 rfl)
theorem dL_law_397 : decode cL_law 397 = .ok (.iconst 1, 1) := kop_04 (show kBy cL_law 397 4 from kbyte (k := 384) (j := 13) kbk_384 rfl)
theorem dL_law_398 : decode cL_law 398 = .ok (.iadd, 1) := kop_60 (show kBy cL_law 398 96 from kbyte (k := 384) (j := 14) kbk_384 rfl)
theorem dL_law_399 : decode cL_law 399 = .ok (.iaload, 1) := kop_2e (show kBy cL_law 399 46 from kbyte (k := 384) (j := 15) kbk_384 rfl)
theorem dL_law_400 : decode cL_law 400 = .ok (.aload_n 0, 1) := kop_2a (show kBy cL_law 400 42 from kbyte (k := 384) (j := 16) kbk_384 rfl)
theorem dL_law_401 : decode cL_law 401 = .ok (.iload_n 3, 1) := kop_1d (show kBy cL_law 401 29 from kbyte (k := 384) (j := 17) kbk_384 rfl)
theorem dL_law_402 : decode cL_law 402 = .ok (.iconst 2, 1) := kop_05 (show kBy cL_law 402 5 from kbyte (k := 384) (j := 18) kbk_384 rfl)
theorem dL_law_403 : decode cL_law 403 = .ok (.iadd, 1) := kop_60 (show kBy cL_law 403 96 from kbyte (k := 384) (j := 19) kbk_384 rfl)
theorem dL_law_404 : decode cL_law 404 = .ok (.iaload, 1) := kop_2e (show kBy cL_law 404 46 from kbyte (k := 384) (j := 20) kbk_384 rfl)
theorem dL_law_405 : decode cL_law 405 = .ok (.invokevirtual 40, 3) := kop_b6 (show kBy cL_law 405 182 from kbyte (k := 384) (j := 21) kbk_384 rfl) (show kBy cL_law 406 0 from kbyte (k := 384) (j := 22) kbk_384 rfl) (show kBy cL_law 407 40 from kbyte (k := 384) (j := 23) kbk_384 rfl) (by decide)
theorem dL_law_408 : decode cL_law 408 = .ok (.pop, 1) := kop_57 (show kBy cL_law 408 87 from kbyte (k := 384) (j := 24) kbk_384 rfl)
theorem dL_law_409 : decode cL_law 409 = .ok (.aload_n 2, 1) := kop_2c (show kBy cL_law 409 44 from kbyte (k := 384) (j := 25) kbk_384 rfl)
theorem dL_law_410 : decode cL_law 410 = .ok (.aload_n 0, 1) := kop_2a (show kBy cL_law 410 42 from kbyte (k := 384) (j := 26) kbk_384 rfl)
theorem dL_law_411 : decode cL_law 411 = .ok (.iload_n 3, 1) := kop_1d (show kBy cL_law 411 29 from kbyte (k := 384) (j := 27) kbk_384 rfl)
theorem dL_law_412 : decode cL_law 412 = .ok (.iconst 1, 1) := kop_04 (show kBy cL_law 412 4 from kbyte (k := 384) (j := 28) kbk_384 rfl)
theorem dL_law_413 : decode cL_law 413 = .ok (.iadd, 1) := kop_60 (show kBy cL_law 413 96 from kbyte (k := 384) (j := 29) kbk_384 rfl)
theorem dL_law_414 : decode cL_law 414 = .ok (.iaload, 1) := kop_2e (show kBy cL_law 414 46 from kbyte (k := 384) (j := 30) kbk_384 rfl)
theorem dL_law_415 : decode cL_law 415 = .ok (.aload_n 0, 1) := kop_2a (show kBy cL_law 415 42 from kbyte (k := 384) (j := 31) kbk_384 rfl)
theorem dL_law_416 : decode cL_law 416 = .ok (.iload_n 3, 1) := kop_1d (show kBy cL_law 416 29 from kbyte (k := 384) (j := 32) kbk_384 rfl)
theorem dL_law_417 : decode cL_law 417 = .ok (.iconst 2, 1) := kop_05 (show kBy cL_law 417 5 from kbyte (k := 384) (j := 33) kbk_384 rfl)
theorem dL_law_418 : decode cL_law 418 = .ok (.iadd, 1) := kop_60 (show kBy cL_law 418 96 from kbyte (k := 384) (j := 34) kbk_384 rfl)
theorem dL_law_419 : decode cL_law 419 = .ok (.iaload, 1) := kop_2e (show kBy cL_law 419 46 from kbyte (k := 384) (j := 35) kbk_384 rfl)
theorem dL_law_420 : decode cL_law 420 = .ok (.invokevirtual 43, 3) := kop_b6 (show kBy cL_law 420 182 from kbyte (k := 384) (j := 36) kbk_384 rfl) (show kBy cL_law 421 0 from kbyte (k := 384) (j := 37) kbk_384 rfl) (show kBy cL_law 422 43 from kbyte (k := 384) (j := 38) kbk_384 rfl) (by decide)
theorem dL_law_423 : decode cL_law 423 = .ok (.pop, 1) := kop_57 (show kBy cL_law 423 87 from kbyte (k := 384) (j := 39) kbk_384 rfl)
theorem dL_law_424 : decode cL_law 424 = .ok (.goto 708, 3) := by decide +kernel
set_option maxRecDepth 20000 in
theorem mr_wsX9_ofCluster_r1 : ∀ w ∈ wsX9_ofCluster_r1, w ∈ lw_tbl := List.forall_mem_cons.mpr ⟨iw_17_10, List.forall_mem_cons.mpr ⟨iw_4_12, List.forall_mem_cons.mpr ⟨iw_4_13, List.forall_mem_cons.mpr ⟨iw_4_15, List.forall_mem_cons.mpr ⟨iw_17_11, List.forall_mem_cons.mpr ⟨iw_17_12, List.forall_mem_cons.mpr ⟨iw_17_13, List.forall_mem_cons.mpr ⟨iw_0_5, List.forall_mem_cons.mpr ⟨iw_17_14, List.forall_mem_cons.mpr ⟨iw_17_15, List.forall_mem_cons.mpr ⟨iw_17_16, List.forall_mem_cons.mpr ⟨iw_4_6, List.forall_mem_cons.mpr ⟨iw_17_17, List.forall_mem_cons.mpr ⟨iw_17_18, List.forall_mem_cons.mpr ⟨iw_17_19, List.forall_mem_cons.mpr ⟨iw_17_20, List.forall_mem_cons.mpr ⟨iw_11_5, List.forall_mem_cons.mpr ⟨iw_4_14, List.forall_mem_cons.mpr ⟨iw_17_21, List.forall_mem_cons.mpr ⟨iw_17_22, List.forall_mem_cons.mpr ⟨iw_17_23, List.forall_mem_cons.mpr ⟨iw_18_0, List.forall_mem_cons.mpr ⟨iw_18_1, List.forall_mem_cons.mpr ⟨iw_11_6, fun _ h9 => absurd h9 List.not_mem_nil⟩⟩⟩⟩⟩⟩⟩⟩⟩⟩⟩⟩⟩⟩⟩⟩⟩⟩⟩⟩⟩⟩⟩⟩
set_option maxRecDepth 20000 in
theorem mr_wsX9_ofCluster_r2 : ∀ w ∈ wsX9_ofCluster_r2, w ∈ lw_tbl := List.forall_mem_cons.mpr ⟨iw_4_8, List.forall_mem_cons.mpr ⟨iw_4_5, List.forall_mem_cons.mpr ⟨iw_18_2, List.forall_mem_cons.mpr ⟨iw_18_3, List.forall_mem_cons.mpr ⟨iw_18_4, List.forall_mem_cons.mpr ⟨iw_18_5, List.forall_mem_cons.mpr ⟨iw_18_6, List.forall_mem_cons.mpr ⟨iw_18_7, List.forall_mem_cons.mpr ⟨iw_18_8, List.forall_mem_cons.mpr ⟨iw_18_9, List.forall_mem_cons.mpr ⟨iw_12_16, List.forall_mem_cons.mpr ⟨iw_12_17, List.forall_mem_cons.mpr ⟨iw_12_18, List.forall_mem_cons.mpr ⟨iw_18_10, List.forall_mem_cons.mpr ⟨iw_18_11, List.forall_mem_cons.mpr ⟨iw_18_12, List.forall_mem_cons.mpr ⟨iw_18_13, List.forall_mem_cons.mpr ⟨iw_13_22, List.forall_mem_cons.mpr ⟨iw_13_23, List.forall_mem_cons.mpr ⟨iw_14_0, List.forall_mem_cons.mpr ⟨iw_14_1, List.forall_mem_cons.mpr ⟨iw_4_3, List.forall_mem_cons.mpr ⟨iw_4_4, List.forall_mem_cons.mpr ⟨iw_11_11, fun _ h9 => absurd h9 List.not_mem_nil⟩⟩⟩⟩⟩⟩⟩⟩⟩⟩⟩⟩⟩⟩⟩⟩⟩⟩⟩⟩⟩⟩⟩⟩
set_option maxRecDepth 20000 in
theorem mr_wsX9_ofCluster_r3 : ∀ w ∈ wsX9_ofCluster_r3, w ∈ lw_tbl := List.forall_mem_cons.mpr ⟨iw_11_12, List.forall_mem_cons.mpr ⟨iw_11_13, List.forall_mem_cons.mpr ⟨iw_18_14, List.forall_mem_cons.mpr ⟨iw_18_15, List.forall_mem_cons.mpr ⟨iw_18_16, List.forall_mem_cons.mpr ⟨iw_18_17, fun _ h9 => absurd h9 List.not_mem_nil⟩⟩⟩⟩⟩⟩
set_option maxRecDepth 20000 in
theorem ggL_law_X8_ofCluster : GoodIn lw_tbl wsX8_ofCluster := goodIn_3 _ (List.forall_mem_cons.mpr ⟨iw_16_20, List.forall_mem_append.mpr ⟨List.forall_mem_append.mpr ⟨List.forall_mem_cons.mpr ⟨iw_1_15, List.forall_mem_cons.mpr ⟨iw_16_21, List.forall_mem_cons.mpr ⟨iw_16_22, List.forall_mem_cons.mpr ⟨iw_16_23, List.forall_mem_cons.mpr ⟨iw_17_0, List.forall_mem_cons.mpr ⟨iw_17_1, List.forall_mem_cons.mpr ⟨iw_17_2, List.forall_mem_cons.mpr ⟨iw_17_3, List.forall_mem_cons.mpr ⟨iw_17_4, List.forall_mem_cons.mpr ⟨iw_1_14, List.forall_mem_cons.mpr ⟨iw_17_5, List.forall_mem_cons.mpr ⟨iw_9_18, List.forall_mem_cons.mpr ⟨iw_5_4, List.forall_mem_cons.mpr ⟨iw_0_2, List.forall_mem_cons.mpr ⟨iw_5_5, fun _ h9 => absurd h9 List.not_mem_nil⟩⟩⟩⟩⟩⟩⟩⟩⟩⟩⟩⟩⟩⟩⟩, inX8⟩, inX4⟩⟩) (by decide +kernel)
theorem gL_law_X8_ofCluster : GoodIn lw_tbl (wsV RL 40 RX8 yX8_ofCluster wsX8_ofCluster) := goodIn_app (goodIn_3 _ (List.forall_mem_cons.mpr ⟨iw_16_17, List.forall_mem_cons.mpr ⟨iw_16_18, List.forall_mem_cons.mpr ⟨iw_16_19, List.forall_mem_cons.mpr ⟨iw_0_2, fun _ h9 => absurd h9 List.not_mem_nil⟩⟩⟩⟩) (by decide +kernel)) ggL_law_X8_ofCluster
set_option maxRecDepth 20000 in
theorem ggL_law_X9_ofCluster : GoodIn lw_tbl wsX9_ofCluster := goodIn_3 _ (List.forall_mem_cons.mpr ⟨iw_17_9, List.forall_mem_append.mpr ⟨List.forall_mem_append.mpr ⟨mr_wsX9_ofCluster_r1, List.forall_mem_append.mpr ⟨mr_wsX9_ofCluster_r2, mr_wsX9_ofCluster_r3⟩⟩, inX9⟩⟩) (by decide +kernel)
theorem gL_law_X9_ofCluster : GoodIn lw_tbl (wsV RL 43 RX9 yX9_ofCluster wsX9_ofCluster) := goodIn_app (goodIn_3 _ (List.forall_mem_cons.mpr ⟨iw_17_6, List.forall_mem_cons.mpr ⟨iw_17_7, List.forall_mem_cons.mpr ⟨iw_17_8, List.forall_mem_cons.mpr ⟨iw_0_5, fun _ h9 => absurd h9 List.not_mem_nil⟩⟩⟩⟩) (by decide +kernel)) ggL_law_X9_ofCluster
theorem dL_law_427 : decode cL_law 427 = .ok (.aload_n 1, 1) := kop_2b (show kBy cL_law 427 43 from kbyte (k := 384) (j := 43) kbk_384 rfl)
theorem dL_law_428 : decode cL_law 428 = .ok (.aload_n 0, 1) := kop_2a (show kBy cL_law 428 42 from kbyte (k := 384) (j := 44) kbk_384 rfl)
theorem dL_law_429 : decode cL_law 429 = .ok (.iload_n 3, 1) := kop_1d (show kBy cL_law 429 29 from kbyte (k := 384) (j := 45) kbk_384 rfl)
theorem dL_law_430 : decode cL_law 430 = .ok (.iconst 1, 1) := kop_04 (show kBy cL_law 430 4 from kbyte (k := 384) (j := 46) kbk_384 rfl)
theorem dL_law_431 : decode cL_law 431 = .ok (.iadd, 1) := kop_60 (show kBy cL_law 431 96 from kbyte (k := 384) (j := 47) kbk_384 rfl)
theorem dL_law_432 : decode cL_law 432 = .ok (.iaload, 1) := kop_2e (show kBy cL_law 432 46 from kbyte (k := 384) (j := 48) kbk_384 rfl)
theorem dL_law_433 : decode cL_law 433 = .ok (.aload_n 0, 1) := kop_2a (show kBy cL_law 433 42 from kbyte (k := 384) (j := 49) kbk_384 rfl)
theorem dL_law_434 : decode cL_law 434 = .ok (.iload_n 3, 1) := kop_1d (show kBy cL_law 434 29 from kbyte (k := 384) (j := 50) kbk_384 rfl)
theorem dL_law_435 : decode cL_law 435 = .ok (.iconst 2, 1) := kop_05 (show kBy cL_law 435 5 from kbyte (k := 384) (j := 51) kbk_384 rfl)
theorem dL_law_436 : decode cL_law 436 = .ok (.iadd, 1) := kop_60 (show kBy cL_law 436 96 from kbyte (k := 384) (j := 52) kbk_384 rfl)
theorem dL_law_437 : decode cL_law 437 = .ok (.iaload, 1) := kop_2e (show kBy cL_law 437 46 from kbyte (k := 384) (j := 53) kbk_384 rfl)
theorem dL_law_438 : decode cL_law 438 = .ok (.invokevirtual 44, 3) := kop_b6 (show kBy cL_law 438 182 from kbyte (k := 384) (j := 54) kbk_384 rfl) (show kBy cL_law 439 0 from kbyte (k := 384) (j := 55) kbk_384 rfl) (show kBy cL_law 440 44 from kbyte (k := 384) (j := 56) kbk_384 rfl) (by decide)
theorem dL_law_441 : decode cL_law 441 = .ok (.pop, 1) := kop_57 (show kBy cL_law 441 87 from kbyte (k := 384) (j := 57) kbk_384 rfl)
theorem dL_law_442 : decode cL_law 442 = .ok (.aload_n 2, 1) := kop_2c (show kBy cL_law 442 44 from kbyte (k := 384) (j := 58) kbk_384 rfl)
theorem dL_law_443 : decode cL_law 443 = .ok (.aload_n 0, 1) := kop_2a (show kBy cL_law 443 42 from kbyte (k := 384) (j := 59) kbk_384 rfl)
theorem dL_law_444 : decode cL_law 444 = .ok (.iload_n 3, 1) := kop_1d (show kBy cL_law 444 29 from kbyte (k := 384) (j := 60) kbk_384 rfl)
theorem dL_law_445 : decode cL_law 445 = .ok (.iconst 1, 1) := kop_04 (show kBy cL_law 445 4 from kbyte (k := 384) (j := 61) kbk_384 rfl)
theorem dL_law_446 : decode cL_law 446 = .ok (.iadd, 1) := kop_60 (show kBy cL_law 446 96 from kbyte (k := 384) (j := 62) kbk_384 rfl)
theorem dL_law_447 : decode cL_law 447 = .ok (.iaload, 1) := kop_2e (show kBy cL_law 447 46 from kbyte (k := 384) (j := 63) kbk_384 rfl)
theorem dL_law_448 : decode cL_law 448 = .ok (.aload_n 0, 1) := kop_2a (show kBy cL_law 448 42 from kbyte (k := 448) (j := 0) kbk_448 rfl)
theorem dL_law_449 : decode cL_law 449 = .ok (.iload_n 3, 1) := kop_1d (show kBy cL_law 449 29 from kbyte (k := 448) (j := 1) kbk_448 rfl)
theorem dL_law_450 : decode cL_law 450 = .ok (.iconst 2, 1) := kop_05 (show kBy cL_law 450 5 from kbyte (k := 448) (j := 2) kbk_448 rfl)
theorem dL_law_451 : decode cL_law 451 = .ok (.iadd, 1) := kop_60 (show kBy cL_law 451 96 from kbyte (k := 448) (j := 3) kbk_448 rfl)
theorem dL_law_452 : decode cL_law 452 = .ok (.iaload, 1) := kop_2e (show kBy cL_law 452 46 from kbyte (k := 448) (j := 4) kbk_448 rfl)
theorem dL_law_453 : decode cL_law 453 = .ok (.invokevirtual 47, 3) := kop_b6 (show kBy cL_law 453 182 from kbyte (k := 448) (j := 5) kbk_448 rfl) (show kBy cL_law 454 0 from kbyte (k := 448) (j := 6) kbk_448 rfl) (show kBy cL_law 455 47 from kbyte (k := 448) (j := 7) kbk_448 rfl) (by decide)
theorem dL_law_456 : decode cL_law 456 = .ok (.pop, 1) := kop_57 (show kBy cL_law 456 87 from kbyte (k := 448) (j := 8) kbk_448 rfl)
theorem dL_law_457 : decode cL_law 457 = .ok (.goto 675, 3) := by decide +kernel
set_option maxRecDepth 20000 in
theorem mr_wsX8_ofRun_r1 : ∀ w ∈ wsX8_ofRun_r1, w ∈ lw_tbl := List.forall_mem_cons.mpr ⟨iw_1_15, List.forall_mem_cons.mpr ⟨iw_18_22, List.forall_mem_cons.mpr ⟨iw_17_0, List.forall_mem_cons.mpr ⟨iw_0_23, List.forall_mem_cons.mpr ⟨iw_5_3, List.forall_mem_cons.mpr ⟨iw_5_4, List.forall_mem_cons.mpr ⟨iw_0_2, List.forall_mem_cons.mpr ⟨iw_5_5, List.forall_mem_cons.mpr ⟨iw_18_23, List.forall_mem_cons.mpr ⟨iw_19_0, List.forall_mem_cons.mpr ⟨iw_19_1, List.forall_mem_cons.mpr ⟨iw_1_14, List.forall_mem_cons.mpr ⟨iw_19_2, List.forall_mem_cons.mpr ⟨iw_9_18, List.forall_mem_cons.mpr ⟨iw_3_10, List.forall_mem_cons.mpr ⟨iw_19_3, List.forall_mem_cons.mpr ⟨iw_19_4, List.forall_mem_cons.mpr ⟨iw_19_5, List.forall_mem_cons.mpr ⟨iw_19_6, List.forall_mem_cons.mpr ⟨iw_13_3, List.forall_mem_cons.mpr ⟨iw_13_4, List.forall_mem_cons.mpr ⟨iw_13_5, List.forall_mem_cons.mpr ⟨iw_0_22, List.forall_mem_cons.mpr ⟨iw_13_6, fun _ h9 => absurd h9 List.not_mem_nil⟩⟩⟩⟩⟩⟩⟩⟩⟩⟩⟩⟩⟩⟩⟩⟩⟩⟩⟩⟩⟩⟩⟩⟩
set_option maxRecDepth 20000 in
theorem mr_wsX8_ofRun_r2 : ∀ w ∈ wsX8_ofRun_r2, w ∈ lw_tbl := List.forall_mem_cons.mpr ⟨iw_2_12, List.forall_mem_cons.mpr ⟨iw_2_13, List.forall_mem_cons.mpr ⟨iw_13_7, List.forall_mem_cons.mpr ⟨iw_7_9, List.forall_mem_cons.mpr ⟨iw_7_10, List.forall_mem_cons.mpr ⟨iw_7_11, List.forall_mem_cons.mpr ⟨iw_7_12, List.forall_mem_cons.mpr ⟨iw_13_8, List.forall_mem_cons.mpr ⟨iw_13_9, fun _ h9 => absurd h9 List.not_mem_nil⟩⟩⟩⟩⟩⟩⟩⟩⟩
set_option maxRecDepth 20000 in
theorem mr_wsX9_ofRun_r1 : ∀ w ∈ wsX9_ofRun_r1, w ∈ lw_tbl := List.forall_mem_cons.mpr ⟨iw_17_16, List.forall_mem_cons.mpr ⟨iw_17_10, List.forall_mem_cons.mpr ⟨iw_4_15, List.forall_mem_cons.mpr ⟨iw_17_11, List.forall_mem_cons.mpr ⟨iw_17_12, List.forall_mem_cons.mpr ⟨iw_17_13, List.forall_mem_cons.mpr ⟨iw_0_5, List.forall_mem_cons.mpr ⟨iw_17_14, List.forall_mem_cons.mpr ⟨iw_17_15, List.forall_mem_cons.mpr ⟨iw_4_6, List.forall_mem_cons.mpr ⟨iw_17_17, List.forall_mem_cons.mpr ⟨iw_17_18, List.forall_mem_cons.mpr ⟨iw_17_19, List.forall_mem_cons.mpr ⟨iw_17_20, List.forall_mem_cons.mpr ⟨iw_11_5, List.forall_mem_cons.mpr ⟨iw_4_14, List.forall_mem_cons.mpr ⟨iw_17_21, List.forall_mem_cons.mpr ⟨iw_17_22, List.forall_mem_cons.mpr ⟨iw_17_23, List.forall_mem_cons.mpr ⟨iw_18_0, List.forall_mem_cons.mpr ⟨iw_18_1, List.forall_mem_cons.mpr ⟨iw_11_6, List.forall_mem_cons.mpr ⟨iw_4_8, List.forall_mem_cons.mpr ⟨iw_4_12, fun _ h9 => absurd h9 List.not_mem_nil⟩⟩⟩⟩⟩⟩⟩⟩⟩⟩⟩⟩⟩⟩⟩⟩⟩⟩⟩⟩⟩⟩⟩⟩
set_option maxRecDepth 20000 in
theorem mr_wsX9_ofRun_r2 : ∀ w ∈ wsX9_ofRun_r2, w ∈ lw_tbl := List.forall_mem_cons.mpr ⟨iw_4_13, List.forall_mem_cons.mpr ⟨iw_4_5, List.forall_mem_cons.mpr ⟨iw_18_2, List.forall_mem_cons.mpr ⟨iw_18_3, List.forall_mem_cons.mpr ⟨iw_18_4, List.forall_mem_cons.mpr ⟨iw_18_5, List.forall_mem_cons.mpr ⟨iw_18_6, List.forall_mem_cons.mpr ⟨iw_18_7, List.forall_mem_cons.mpr ⟨iw_18_8, List.forall_mem_cons.mpr ⟨iw_18_9, List.forall_mem_cons.mpr ⟨iw_12_16, List.forall_mem_cons.mpr ⟨iw_12_17, List.forall_mem_cons.mpr ⟨iw_12_18, List.forall_mem_cons.mpr ⟨iw_18_10, List.forall_mem_cons.mpr ⟨iw_18_11, List.forall_mem_cons.mpr ⟨iw_18_12, List.forall_mem_cons.mpr ⟨iw_18_13, List.forall_mem_cons.mpr ⟨iw_13_22, List.forall_mem_cons.mpr ⟨iw_13_23, List.forall_mem_cons.mpr ⟨iw_14_0, List.forall_mem_cons.mpr ⟨iw_14_1, List.forall_mem_cons.mpr ⟨iw_4_3, List.forall_mem_cons.mpr ⟨iw_4_4, List.forall_mem_cons.mpr ⟨iw_11_11, fun _ h9 => absurd h9 List.not_mem_nil⟩⟩⟩⟩⟩⟩⟩⟩⟩⟩⟩⟩⟩⟩⟩⟩⟩⟩⟩⟩⟩⟩⟩⟩
set_option maxRecDepth 20000 in
theorem mr_wsX9_ofRun_r3 : ∀ w ∈ wsX9_ofRun_r3, w ∈ lw_tbl := List.forall_mem_cons.mpr ⟨iw_11_12, List.forall_mem_cons.mpr ⟨iw_11_13, List.forall_mem_cons.mpr ⟨iw_18_14, List.forall_mem_cons.mpr ⟨iw_18_15, List.forall_mem_cons.mpr ⟨iw_18_16, List.forall_mem_cons.mpr ⟨iw_18_17, fun _ h9 => absurd h9 List.not_mem_nil⟩⟩⟩⟩⟩⟩
set_option maxRecDepth 20000 in
theorem ggL_law_X8_ofRun : GoodIn lw_tbl wsX8_ofRun := goodIn_3 _ (List.forall_mem_cons.mpr ⟨iw_18_21, List.forall_mem_append.mpr ⟨List.forall_mem_append.mpr ⟨List.forall_mem_append.mpr ⟨List.forall_mem_append.mpr ⟨mr_wsX8_ofRun_r1, mr_wsX8_ofRun_r2⟩, inX8⟩, inX4⟩, inX0⟩⟩) (by decide +kernel)
theorem gL_law_X8_ofRun : GoodIn lw_tbl (wsV RL 44 RX8 yX8_ofRun wsX8_ofRun) := goodIn_app (goodIn_3 _ (List.forall_mem_cons.mpr ⟨iw_18_18, List.forall_mem_cons.mpr ⟨iw_18_19, List.forall_mem_cons.mpr ⟨iw_18_20, List.forall_mem_cons.mpr ⟨iw_0_2, fun _ h9 => absurd h9 List.not_mem_nil⟩⟩⟩⟩) (by decide +kernel)) ggL_law_X8_ofRun
set_option maxRecDepth 20000 in
theorem ggL_law_X9_ofRun : GoodIn lw_tbl wsX9_ofRun := goodIn_3 _ (List.forall_mem_cons.mpr ⟨iw_19_10, List.forall_mem_append.mpr ⟨List.forall_mem_append.mpr ⟨mr_wsX9_ofRun_r1, List.forall_mem_append.mpr ⟨mr_wsX9_ofRun_r2, mr_wsX9_ofRun_r3⟩⟩, inX9⟩⟩) (by decide +kernel)
theorem gL_law_X9_ofRun : GoodIn lw_tbl (wsV RL 47 RX9 yX9_ofRun wsX9_ofRun) := goodIn_app (goodIn_3 _ (List.forall_mem_cons.mpr ⟨iw_19_7, List.forall_mem_cons.mpr ⟨iw_19_8, List.forall_mem_cons.mpr ⟨iw_19_9, List.forall_mem_cons.mpr ⟨iw_0_5, fun _ h9 => absurd h9 List.not_mem_nil⟩⟩⟩⟩) (by decide +kernel)) ggL_law_X9_ofRun
theorem dL_law_460 : decode cL_law 460 = .ok (.aload_n 1, 1) := kop_2b (show kBy cL_law 460 43 from kbyte (k := 448) (j := 12) kbk_448 rfl)
theorem dL_law_461 : decode cL_law 461 = .ok (.aload_n 0, 1) := kop_2a (show kBy cL_law 461 42 from kbyte (k := 448) (j := 13) kbk_448 rfl)
theorem dL_law_462 : decode cL_law 462 = .ok (.iload_n 3, 1) := kop_1d (show kBy cL_law 462 29 from kbyte (k := 448) (j := 14) kbk_448 rfl)
theorem dL_law_463 : decode cL_law 463 = .ok (.iconst 1, 1) := kop_04 (show kBy cL_law 463 4 from kbyte (k := 448) (j := 15) kbk_448 rfl)
theorem dL_law_464 : decode cL_law 464 = .ok (.iadd, 1) := kop_60 (show kBy cL_law 464 96 from kbyte (k := 448) (j := 16) kbk_448 rfl)
theorem dL_law_465 : decode cL_law 465 = .ok (.iaload, 1) := kop_2e (show kBy cL_law 465 46 from kbyte (k := 448) (j := 17) kbk_448 rfl)
theorem dL_law_466 : decode cL_law 466 = .ok (.invokevirtual 48, 3) := kop_b6 (show kBy cL_law 466 182 from kbyte (k := 448) (j := 18) kbk_448 rfl) (show kBy cL_law 467 0 from kbyte (k := 448) (j := 19) kbk_448 rfl) (show kBy cL_law 468 48 from kbyte (k := 448) (j := 20) kbk_448 rfl) (by decide)
theorem dL_law_469 : decode cL_law 469 = .ok (.pop, 1) := kop_57 (show kBy cL_law 469 87 from kbyte (k := 448) (j := 21) kbk_448 rfl)
theorem dL_law_470 : decode cL_law 470 = .ok (.aload_n 2, 1) := kop_2c (show kBy cL_law 470 44 from kbyte (k := 448) (j := 22) kbk_448 rfl)
theorem dL_law_471 : decode cL_law 471 = .ok (.aload_n 0, 1) := kop_2a (show kBy cL_law 471 42 from kbyte (k := 448) (j := 23) kbk_448 rfl)
theorem dL_law_472 : decode cL_law 472 = .ok (.iload_n 3, 1) := kop_1d (show kBy cL_law 472 29 from kbyte (k := 448) (j := 24) kbk_448 rfl)
theorem dL_law_473 : decode cL_law 473 = .ok (.iconst 1, 1) := kop_04 (show kBy cL_law 473 4 from kbyte (k := 448) (j := 25) kbk_448 rfl)
theorem dL_law_474 : decode cL_law 474 = .ok (.iadd, 1) := kop_60 (show kBy cL_law 474 96 from kbyte (k := 448) (j := 26) kbk_448 rfl)
theorem dL_law_475 : decode cL_law 475 = .ok (.iaload, 1) := kop_2e (show kBy cL_law 475 46 from kbyte (k := 448) (j := 27) kbk_448 rfl)
theorem dL_law_476 : decode cL_law 476 = .ok (.invokevirtual 51, 3) := kop_b6 (show kBy cL_law 476 182 from kbyte (k := 448) (j := 28) kbk_448 rfl) (show kBy cL_law 477 0 from kbyte (k := 448) (j := 29) kbk_448 rfl) (show kBy cL_law 478 51 from kbyte (k := 448) (j := 30) kbk_448 rfl) (by decide)
theorem dL_law_479 : decode cL_law 479 = .ok (.pop, 1) := kop_57 (show kBy cL_law 479 87 from kbyte (k := 448) (j := 31) kbk_448 rfl)
theorem dL_law_480 : decode cL_law 480 = .ok (.goto 652, 3) := by decide +kernel
set_option maxRecDepth 20000 in
theorem mr_wsX8_prefer_r1 : ∀ w ∈ wsX8_prefer_r1, w ∈ lw_tbl := List.forall_mem_cons.mpr ⟨iw_0_23, List.forall_mem_cons.mpr ⟨iw_1_7, List.forall_mem_cons.mpr ⟨iw_1_11, List.forall_mem_cons.mpr ⟨iw_13_2, List.forall_mem_cons.mpr ⟨iw_7_9, List.forall_mem_cons.mpr ⟨iw_7_10, List.forall_mem_cons.mpr ⟨iw_0_22, List.forall_mem_cons.mpr ⟨iw_7_11, List.forall_mem_cons.mpr ⟨iw_7_12, List.forall_mem_cons.mpr ⟨iw_5_4, List.forall_mem_cons.mpr ⟨iw_0_2, List.forall_mem_cons.mpr ⟨iw_5_5, List.forall_mem_cons.mpr ⟨iw_13_10, List.forall_mem_cons.mpr ⟨iw_13_11, List.forall_mem_cons.mpr ⟨iw_13_12, List.forall_mem_cons.mpr ⟨iw_1_6, List.forall_mem_cons.mpr ⟨iw_13_13, List.forall_mem_cons.mpr ⟨iw_9_1, List.forall_mem_cons.mpr ⟨iw_2_22, List.forall_mem_cons.mpr ⟨iw_19_15, List.forall_mem_cons.mpr ⟨iw_19_16, List.forall_mem_cons.mpr ⟨iw_19_17, List.forall_mem_cons.mpr ⟨iw_19_18, List.forall_mem_cons.mpr ⟨iw_19_19, fun _ h9 => absurd h9 List.not_mem_nil⟩⟩⟩⟩⟩⟩⟩⟩⟩⟩⟩⟩⟩⟩⟩⟩⟩⟩⟩⟩⟩⟩⟩⟩
set_option maxRecDepth 20000 in
theorem mr_wsX8_prefer_r2 : ∀ w ∈ wsX8_prefer_r2, w ∈ lw_tbl := List.forall_mem_cons.mpr ⟨iw_19_20, List.forall_mem_cons.mpr ⟨iw_19_21, List.forall_mem_cons.mpr ⟨iw_19_22, List.forall_mem_cons.mpr ⟨iw_1_10, List.forall_mem_cons.mpr ⟨iw_19_23, List.forall_mem_cons.mpr ⟨iw_3_2, List.forall_mem_cons.mpr ⟨iw_20_0, List.forall_mem_cons.mpr ⟨iw_20_1, List.forall_mem_cons.mpr ⟨iw_8_22, List.forall_mem_cons.mpr ⟨iw_8_23, List.forall_mem_cons.mpr ⟨iw_9_0, List.forall_mem_cons.mpr ⟨iw_9_2, List.forall_mem_cons.mpr ⟨iw_9_3, List.forall_mem_cons.mpr ⟨iw_9_4, List.forall_mem_cons.mpr ⟨iw_9_5, List.forall_mem_cons.mpr ⟨iw_1_15, List.forall_mem_cons.mpr ⟨iw_1_3, List.forall_mem_cons.mpr ⟨iw_9_6, List.forall_mem_cons.mpr ⟨iw_9_7, List.forall_mem_cons.mpr ⟨iw_9_8, List.forall_mem_cons.mpr ⟨iw_9_9, List.forall_mem_cons.mpr ⟨iw_9_10, List.forall_mem_cons.mpr ⟨iw_9_11, List.forall_mem_cons.mpr ⟨iw_9_12, fun _ h9 => absurd h9 List.not_mem_nil⟩⟩⟩⟩⟩⟩⟩⟩⟩⟩⟩⟩⟩⟩⟩⟩⟩⟩⟩⟩⟩⟩⟩⟩
set_option maxRecDepth 20000 in
theorem mr_wsX8_prefer_r3 : ∀ w ∈ wsX8_prefer_r3, w ∈ lw_tbl := List.forall_mem_cons.mpr ⟨iw_1_14, List.forall_mem_cons.mpr ⟨iw_9_13, List.forall_mem_cons.mpr ⟨iw_9_14, List.forall_mem_cons.mpr ⟨iw_9_15, List.forall_mem_cons.mpr ⟨iw_9_16, List.forall_mem_cons.mpr ⟨iw_9_17, List.forall_mem_cons.mpr ⟨iw_9_18, List.forall_mem_cons.mpr ⟨iw_9_19, List.forall_mem_cons.mpr ⟨iw_9_20, List.forall_mem_cons.mpr ⟨iw_3_6, List.forall_mem_cons.mpr ⟨iw_3_7, List.forall_mem_cons.mpr ⟨iw_3_11, List.forall_mem_cons.mpr ⟨iw_9_21, List.forall_mem_cons.mpr ⟨iw_9_22, List.forall_mem_cons.mpr ⟨iw_9_23, List.forall_mem_cons.mpr ⟨iw_10_0, List.forall_mem_cons.mpr ⟨iw_10_1, List.forall_mem_cons.mpr ⟨iw_3_8, List.forall_mem_cons.mpr ⟨iw_10_2, List.forall_mem_cons.mpr ⟨iw_10_3, List.forall_mem_cons.mpr ⟨iw_10_4, List.forall_mem_cons.mpr ⟨iw_10_5, List.forall_mem_cons.mpr ⟨iw_2_14, List.forall_mem_cons.mpr ⟨iw_10_6, fun _ h9 => absurd h9 List.not_mem_nil⟩⟩⟩⟩⟩⟩⟩⟩⟩⟩⟩⟩⟩⟩⟩⟩⟩⟩⟩⟩⟩⟩⟩⟩
set_option maxRecDepth 20000 in
theorem mr_wsX8_prefer_r4 : ∀ w ∈ wsX8_prefer_r4, w ∈ lw_tbl := List.forall_mem_cons.mpr ⟨iw_10_7, List.forall_mem_cons.mpr ⟨iw_10_8, List.forall_mem_cons.mpr ⟨iw_10_9, List.forall_mem_cons.mpr ⟨iw_3_13, List.forall_mem_cons.mpr ⟨iw_10_10, List.forall_mem_cons.mpr ⟨iw_10_11, List.forall_mem_cons.mpr ⟨iw_10_12, List.forall_mem_cons.mpr ⟨iw_10_13, List.forall_mem_cons.mpr ⟨iw_10_14, List.forall_mem_cons.mpr ⟨iw_10_15, List.forall_mem_cons.mpr ⟨iw_3_9, List.forall_mem_cons.mpr ⟨iw_3_10, List.forall_mem_cons.mpr ⟨iw_10_16, List.forall_mem_cons.mpr ⟨iw_10_17, List.forall_mem_cons.mpr ⟨iw_10_18, List.forall_mem_cons.mpr ⟨iw_10_19, List.forall_mem_cons.mpr ⟨iw_10_20, List.forall_mem_cons.mpr ⟨iw_10_21, fun _ h9 => absurd h9 List.not_mem_nil⟩⟩⟩⟩⟩⟩⟩⟩⟩⟩⟩⟩⟩⟩⟩⟩⟩⟩
set_option maxRecDepth 20000 in
theorem ggL_law_X8_prefer : GoodIn lw_tbl wsX8_prefer := goodIn_3 _ (List.forall_mem_cons.mpr ⟨iw_19_14, List.forall_mem_append.mpr ⟨List.forall_mem_append.mpr ⟨List.forall_mem_append.mpr ⟨List.forall_mem_append.mpr ⟨List.forall_mem_append.mpr ⟨List.forall_mem_append.mpr ⟨List.forall_mem_append.mpr ⟨mr_wsX8_prefer_r1, List.forall_mem_append.mpr ⟨mr_wsX8_prefer_r2, List.forall_mem_append.mpr ⟨mr_wsX8_prefer_r3, mr_wsX8_prefer_r4⟩⟩⟩, inX8⟩, inX0⟩, inX1⟩, inX3⟩, inX4⟩, inX7⟩⟩) (by decide +kernel)
theorem gL_law_X8_prefer : GoodIn lw_tbl (wsV RL 48 RX8 yX8_prefer wsX8_prefer) := goodIn_app (goodIn_3 _ (List.forall_mem_cons.mpr ⟨iw_19_11, List.forall_mem_cons.mpr ⟨iw_19_12, List.forall_mem_cons.mpr ⟨iw_19_13, List.forall_mem_cons.mpr ⟨iw_0_2, fun _ h9 => absurd h9 List.not_mem_nil⟩⟩⟩⟩) (by decide +kernel)) ggL_law_X8_prefer
set_option maxRecDepth 20000 in
theorem ggL_law_X9_prefer : GoodIn lw_tbl wsX9_prefer := goodIn_3 _ (List.forall_mem_cons.mpr ⟨iw_20_5, List.forall_mem_append.mpr ⟨List.forall_mem_cons.mpr ⟨iw_4_7, List.forall_mem_cons.mpr ⟨iw_13_18, List.forall_mem_cons.mpr ⟨iw_13_19, List.forall_mem_cons.mpr ⟨iw_13_20, List.forall_mem_cons.mpr ⟨iw_0_5, List.forall_mem_cons.mpr ⟨iw_13_21, List.forall_mem_cons.mpr ⟨iw_11_5, List.forall_mem_cons.mpr ⟨iw_20_6, List.forall_mem_cons.mpr ⟨iw_20_7, List.forall_mem_cons.mpr ⟨iw_20_8, List.forall_mem_cons.mpr ⟨iw_20_9, List.forall_mem_cons.mpr ⟨iw_4_6, List.forall_mem_cons.mpr ⟨iw_14_2, List.forall_mem_cons.mpr ⟨iw_14_3, List.forall_mem_cons.mpr ⟨iw_14_4, List.forall_mem_cons.mpr ⟨iw_14_5, fun _ h9 => absurd h9 List.not_mem_nil⟩⟩⟩⟩⟩⟩⟩⟩⟩⟩⟩⟩⟩⟩⟩⟩, inX9⟩⟩) (by decide +kernel)
theorem gL_law_X9_prefer : GoodIn lw_tbl (wsV RL 51 RX9 yX9_prefer wsX9_prefer) := goodIn_app (goodIn_3 _ (List.forall_mem_cons.mpr ⟨iw_20_2, List.forall_mem_cons.mpr ⟨iw_20_3, List.forall_mem_cons.mpr ⟨iw_20_4, List.forall_mem_cons.mpr ⟨iw_0_5, fun _ h9 => absurd h9 List.not_mem_nil⟩⟩⟩⟩) (by decide +kernel)) ggL_law_X9_prefer
theorem dL_law_483 : decode cL_law 483 = .ok (.aload_n 1, 1) := kop_2b (show kBy cL_law 483 43 from kbyte (k := 448) (j := 35) kbk_448 rfl)
theorem dL_law_484 : decode cL_law 484 = .ok (.aload_n 0, 1) := kop_2a (show kBy cL_law 484 42 from kbyte (k := 448) (j := 36) kbk_448 rfl)
theorem dL_law_485 : decode cL_law 485 = .ok (.iload_n 3, 1) := kop_1d (show kBy cL_law 485 29 from kbyte (k := 448) (j := 37) kbk_448 rfl)
theorem dL_law_486 : decode cL_law 486 = .ok (.iconst 1, 1) := kop_04 (show kBy cL_law 486 4 from kbyte (k := 448) (j := 38) kbk_448 rfl)
theorem dL_law_487 : decode cL_law 487 = .ok (.iadd, 1) := kop_60 (show kBy cL_law 487 96 from kbyte (k := 448) (j := 39) kbk_448 rfl)
theorem dL_law_488 : decode cL_law 488 = .ok (.iaload, 1) := kop_2e (show kBy cL_law 488 46 from kbyte (k := 448) (j := 40) kbk_448 rfl)
theorem dL_law_489 : decode cL_law 489 = .ok (.invokevirtual 52, 3) := kop_b6 (show kBy cL_law 489 182 from kbyte (k := 448) (j := 41) kbk_448 rfl) (show kBy cL_law 490 0 from kbyte (k := 448) (j := 42) kbk_448 rfl) (show kBy cL_law 491 52 from kbyte (k := 448) (j := 43) kbk_448 rfl) (by decide)
theorem dL_law_492 : decode cL_law 492 = .ok (.pop, 1) := kop_57 (show kBy cL_law 492 87 from kbyte (k := 448) (j := 44) kbk_448 rfl)
theorem dL_law_493 : decode cL_law 493 = .ok (.aload_n 2, 1) := kop_2c (show kBy cL_law 493 44 from kbyte (k := 448) (j := 45) kbk_448 rfl)
theorem dL_law_494 : decode cL_law 494 = .ok (.aload_n 0, 1) := kop_2a (show kBy cL_law 494 42 from kbyte (k := 448) (j := 46) kbk_448 rfl)
theorem dL_law_495 : decode cL_law 495 = .ok (.iload_n 3, 1) := kop_1d (show kBy cL_law 495 29 from kbyte (k := 448) (j := 47) kbk_448 rfl)
theorem dL_law_496 : decode cL_law 496 = .ok (.iconst 1, 1) := kop_04 (show kBy cL_law 496 4 from kbyte (k := 448) (j := 48) kbk_448 rfl)
theorem dL_law_497 : decode cL_law 497 = .ok (.iadd, 1) := kop_60 (show kBy cL_law 497 96 from kbyte (k := 448) (j := 49) kbk_448 rfl)
theorem dL_law_498 : decode cL_law 498 = .ok (.iaload, 1) := kop_2e (show kBy cL_law 498 46 from kbyte (k := 448) (j := 50) kbk_448 rfl)
theorem dL_law_499 : decode cL_law 499 = .ok (.invokevirtual 55, 3) := kop_b6 (show kBy cL_law 499 182 from kbyte (k := 448) (j := 51) kbk_448 rfl) (show kBy cL_law 500 0 from kbyte (k := 448) (j := 52) kbk_448 rfl) (show kBy cL_law 501 55 from kbyte (k := 448) (j := 53) kbk_448 rfl) (by decide)
theorem dL_law_502 : decode cL_law 502 = .ok (.pop, 1) := kop_57 (show kBy cL_law 502 87 from kbyte (k := 448) (j := 54) kbk_448 rfl)
theorem dL_law_503 : decode cL_law 503 = .ok (.goto 629, 3) := by decide +kernel
set_option maxRecDepth 20000 in
theorem ggL_law_X8_latest : GoodIn lw_tbl wsX8_latest := goodIn_3 _ (List.forall_mem_cons.mpr ⟨iw_20_13, List.forall_mem_append.mpr ⟨List.forall_mem_append.mpr ⟨List.forall_mem_cons.mpr ⟨iw_1_11, List.forall_mem_cons.mpr ⟨iw_8_11, List.forall_mem_cons.mpr ⟨iw_20_14, List.forall_mem_cons.mpr ⟨iw_5_3, List.forall_mem_cons.mpr ⟨iw_5_4, List.forall_mem_cons.mpr ⟨iw_0_2, List.forall_mem_cons.mpr ⟨iw_5_5, fun _ h9 => absurd h9 List.not_mem_nil⟩⟩⟩⟩⟩⟩⟩, inX8⟩, inX3⟩⟩) (by decide +kernel)
theorem gL_law_X8_latest : GoodIn lw_tbl (wsV RL 52 RX8 yX8_latest wsX8_latest) := goodIn_app (goodIn_3 _ (List.forall_mem_cons.mpr ⟨iw_20_10, List.forall_mem_cons.mpr ⟨iw_20_11, List.forall_mem_cons.mpr ⟨iw_20_12, List.forall_mem_cons.mpr ⟨iw_0_2, fun _ h9 => absurd h9 List.not_mem_nil⟩⟩⟩⟩) (by decide +kernel)) ggL_law_X8_latest
set_option maxRecDepth 20000 in
theorem ggL_law_X9_latest : GoodIn lw_tbl wsX9_latest := goodIn_3 _ (List.forall_mem_cons.mpr ⟨iw_20_18, List.forall_mem_append.mpr ⟨List.forall_mem_cons.mpr ⟨iw_11_5, List.forall_mem_cons.mpr ⟨iw_4_7, List.forall_mem_cons.mpr ⟨iw_11_11, List.forall_mem_cons.mpr ⟨iw_11_12, List.forall_mem_cons.mpr ⟨iw_0_5, List.forall_mem_cons.mpr ⟨iw_11_13, fun _ h9 => absurd h9 List.not_mem_nil⟩⟩⟩⟩⟩⟩, inX9⟩⟩) (by decide +kernel)
theorem gL_law_X9_latest : GoodIn lw_tbl (wsV RL 55 RX9 yX9_latest wsX9_latest) := goodIn_app (goodIn_3 _ (List.forall_mem_cons.mpr ⟨iw_20_15, List.forall_mem_cons.mpr ⟨iw_20_16, List.forall_mem_cons.mpr ⟨iw_20_17, List.forall_mem_cons.mpr ⟨iw_0_5, fun _ h9 => absurd h9 List.not_mem_nil⟩⟩⟩⟩) (by decide +kernel)) ggL_law_X9_latest
theorem dL_law_506 : decode cL_law 506 = .ok (.aload_n 1, 1) := kop_2b (show kBy cL_law 506 43 from kbyte (k := 448) (j := 58) kbk_448 rfl)
theorem dL_law_507 : decode cL_law 507 = .ok (.invokevirtual 56, 3) := kop_b6 (show kBy cL_law 507 182 from kbyte (k := 448) (j := 59) kbk_448 rfl) (show kBy cL_law 508 0 from kbyte (k := 448) (j := 60) kbk_448 rfl) (show kBy cL_law 509 56 from kbyte (k := 448) (j := 61) kbk_448 rfl) (by decide)
theorem dL_law_510 : decode cL_law 510 = .ok (.pop, 1) := kop_57 (show kBy cL_law 510 87 from kbyte (k := 448) (j := 62) kbk_448 rfl)
theorem dL_law_511 : decode cL_law 511 = .ok (.aload_n 2, 1) := kop_2c (show kBy cL_law 511 44 from kbyte (k := 448) (j := 63) kbk_448 rfl)
theorem dL_law_512 : decode cL_law 512 = .ok (.invokevirtual 60, 3) := kop_b6 (show kBy cL_law 512 182 from kbyte (k := 512) (j := 0) kbk_512 rfl) (show kBy cL_law 513 0 from kbyte (k := 512) (j := 1) kbk_512 rfl) (show kBy cL_law 514 60 from kbyte (k := 512) (j := 2) kbk_512 rfl) (by decide)
theorem dL_law_515 : decode cL_law 515 = .ok (.pop, 1) := kop_57 (show kBy cL_law 515 87 from kbyte (k := 512) (j := 3) kbk_512 rfl)
theorem dL_law_516 : decode cL_law 516 = .ok (.goto 616, 3) := by decide +kernel
set_option maxRecDepth 20000 in
theorem ggL_law_X8_tally : GoodIn lw_tbl wsX8_tally := goodIn_3 _ (List.forall_mem_cons.mpr ⟨iw_20_22, List.forall_mem_append.mpr ⟨List.forall_mem_cons.mpr ⟨iw_15_5, fun _ h9 => absurd h9 List.not_mem_nil⟩, inX8⟩⟩) (by decide +kernel)
theorem gL_law_X8_tally : GoodIn lw_tbl (wsV RL 56 RX8 yX8_tally wsX8_tally) := goodIn_app (goodIn_3 _ (List.forall_mem_cons.mpr ⟨iw_20_19, List.forall_mem_cons.mpr ⟨iw_20_20, List.forall_mem_cons.mpr ⟨iw_20_21, List.forall_mem_cons.mpr ⟨iw_0_2, fun _ h9 => absurd h9 List.not_mem_nil⟩⟩⟩⟩) (by decide +kernel)) ggL_law_X8_tally
set_option maxRecDepth 20000 in
theorem ggL_law_X9_tally : GoodIn lw_tbl wsX9_tally := goodIn_3 _ (List.forall_mem_cons.mpr ⟨iw_21_2, List.forall_mem_append.mpr ⟨List.forall_mem_cons.mpr ⟨iw_15_17, fun _ h9 => absurd h9 List.not_mem_nil⟩, inX9⟩⟩) (by decide +kernel)
theorem gL_law_X9_tally : GoodIn lw_tbl (wsV RL 60 RX9 yX9_tally wsX9_tally) := goodIn_app (goodIn_3 _ (List.forall_mem_cons.mpr ⟨iw_20_23, List.forall_mem_cons.mpr ⟨iw_21_0, List.forall_mem_cons.mpr ⟨iw_21_1, List.forall_mem_cons.mpr ⟨iw_0_5, fun _ h9 => absurd h9 List.not_mem_nil⟩⟩⟩⟩) (by decide +kernel)) ggL_law_X9_tally
theorem dL_law_519 : decode cL_law 519 = .ok (.aload_n 1, 1) := kop_2b (show kBy cL_law 519 43 from kbyte (k := 512) (j := 7) kbk_512 rfl)
theorem dL_law_520 : decode cL_law 520 = .ok (.invokevirtual 61, 3) := kop_b6 (show kBy cL_law 520 182 from kbyte (k := 512) (j := 8) kbk_512 rfl) (show kBy cL_law 521 0 from kbyte (k := 512) (j := 9) kbk_512 rfl) (show kBy cL_law 522 61 from kbyte (k := 512) (j := 10) kbk_512 rfl) (by decide)
theorem dL_law_523 : decode cL_law 523 = .ok (.pop2, 1) := kop_58 (show kBy cL_law 523 88 from kbyte (k := 512) (j := 11) kbk_512 rfl)
theorem dL_law_524 : decode cL_law 524 = .ok (.aload_n 2, 1) := kop_2c (show kBy cL_law 524 44 from kbyte (k := 512) (j := 12) kbk_512 rfl)
theorem dL_law_525 : decode cL_law 525 = .ok (.invokevirtual 65, 3) := kop_b6 (show kBy cL_law 525 182 from kbyte (k := 512) (j := 13) kbk_512 rfl) (show kBy cL_law 526 0 from kbyte (k := 512) (j := 14) kbk_512 rfl) (show kBy cL_law 527 65 from kbyte (k := 512) (j := 15) kbk_512 rfl) (by decide)
theorem dL_law_528 : decode cL_law 528 = .ok (.pop2, 1) := kop_58 (show kBy cL_law 528 88 from kbyte (k := 512) (j := 16) kbk_512 rfl)
theorem dL_law_529 : decode cL_law 529 = .ok (.goto 603, 3) := by decide +kernel
set_option maxRecDepth 20000 in
theorem ggL_law_X8_check : GoodIn lw_tbl wsX8_check := goodIn_3 _ (List.forall_mem_cons.mpr ⟨iw_21_6, List.forall_mem_append.mpr ⟨List.forall_mem_cons.mpr ⟨iw_15_7, fun _ h9 => absurd h9 List.not_mem_nil⟩, inX8⟩⟩) (by decide +kernel)
theorem gL_law_X8_check : GoodIn lw_tbl (wsV RL 61 RX8 yX8_check wsX8_check) := goodIn_app (goodIn_3 _ (List.forall_mem_cons.mpr ⟨iw_21_3, List.forall_mem_cons.mpr ⟨iw_21_4, List.forall_mem_cons.mpr ⟨iw_21_5, List.forall_mem_cons.mpr ⟨iw_0_2, fun _ h9 => absurd h9 List.not_mem_nil⟩⟩⟩⟩) (by decide +kernel)) ggL_law_X8_check
set_option maxRecDepth 20000 in
theorem ggL_law_X9_check : GoodIn lw_tbl wsX9_check := goodIn_3 _ (List.forall_mem_cons.mpr ⟨iw_21_10, List.forall_mem_append.mpr ⟨List.forall_mem_cons.mpr ⟨iw_15_19, fun _ h9 => absurd h9 List.not_mem_nil⟩, inX9⟩⟩) (by decide +kernel)
theorem gL_law_X9_check : GoodIn lw_tbl (wsV RL 65 RX9 yX9_check wsX9_check) := goodIn_app (goodIn_3 _ (List.forall_mem_cons.mpr ⟨iw_21_7, List.forall_mem_cons.mpr ⟨iw_21_8, List.forall_mem_cons.mpr ⟨iw_21_9, List.forall_mem_cons.mpr ⟨iw_0_5, fun _ h9 => absurd h9 List.not_mem_nil⟩⟩⟩⟩) (by decide +kernel)) ggL_law_X9_check
theorem dL_law_532 : decode cL_law 532 = .ok (.aload_n 1, 1) := kop_2b (show kBy cL_law 532 43 from kbyte (k := 512) (j := 20) kbk_512 rfl)
theorem dL_law_533 : decode cL_law 533 = .ok (.aload_n 0, 1) := kop_2a (show kBy cL_law 533 42 from kbyte (k := 512) (j := 21) kbk_512 rfl)
theorem dL_law_534 : decode cL_law 534 = .ok (.iload_n 3, 1) := kop_1d (show kBy cL_law 534 29 from kbyte (k := 512) (j := 22) kbk_512 rfl)
theorem dL_law_535 : decode cL_law 535 = .ok (.iconst 1, 1) := kop_04 (show kBy cL_law 535 4 from kbyte (k := 512) (j := 23) kbk_512 rfl)
theorem dL_law_536 : decode cL_law 536 = .ok (.iadd, 1) := kop_60 (show kBy cL_law 536 96 from kbyte (k := 512) (j := 24) kbk_512 rfl)
theorem dL_law_537 : decode cL_law 537 = .ok (.iaload, 1) := kop_2e (show kBy cL_law 537 46 from kbyte (k := 512) (j := 25) kbk_512 rfl)
theorem dL_law_538 : decode cL_law 538 = .ok (.aload_n 0, 1) := kop_2a (show kBy cL_law 538 42 from kbyte (k := 512) (j := 26) kbk_512 rfl)
theorem dL_law_539 : decode cL_law 539 = .ok (.iload_n 3, 1) := kop_1d (show kBy cL_law 539 29 from kbyte (k := 512) (j := 27) kbk_512 rfl)
theorem dL_law_540 : decode cL_law 540 = .ok (.iconst 2, 1) := kop_05 (show kBy cL_law 540 5 from kbyte (k := 512) (j := 28) kbk_512 rfl)
theorem dL_law_541 : decode cL_law 541 = .ok (.iadd, 1) := kop_60 (show kBy cL_law 541 96 from kbyte (k := 512) (j := 29) kbk_512 rfl)
theorem dL_law_542 : decode cL_law 542 = .ok (.iaload, 1) := kop_2e (show kBy cL_law 542 46 from kbyte (k := 512) (j := 30) kbk_512 rfl)
theorem dL_law_543 : decode cL_law 543 = .ok (.aload_n 0, 1) := kop_2a (show kBy cL_law 543 42 from kbyte (k := 512) (j := 31) kbk_512 rfl)
theorem dL_law_544 : decode cL_law 544 = .ok (.iload_n 3, 1) := kop_1d (show kBy cL_law 544 29 from kbyte (k := 512) (j := 32) kbk_512 rfl)
theorem dL_law_545 : decode cL_law 545 = .ok (.iconst 3, 1) := kop_06 (show kBy cL_law 545 6 from kbyte (k := 512) (j := 33) kbk_512 rfl)
theorem dL_law_546 : decode cL_law 546 = .ok (.iadd, 1) := kop_60 (show kBy cL_law 546 96 from kbyte (k := 512) (j := 34) kbk_512 rfl)
theorem dL_law_547 : decode cL_law 547 = .ok (.iaload, 1) := kop_2e (show kBy cL_law 547 46 from kbyte (k := 512) (j := 35) kbk_512 rfl)
theorem dL_law_548 : decode cL_law 548 = .ok (.aload_n 0, 1) := kop_2a (show kBy cL_law 548 42 from kbyte (k := 512) (j := 36) kbk_512 rfl)
theorem dL_law_549 : decode cL_law 549 = .ok (.iload_n 3, 1) := kop_1d (show kBy cL_law 549 29 from kbyte (k := 512) (j := 37) kbk_512 rfl)
theorem dL_law_550 : decode cL_law 550 = .ok (.iconst 4, 1) := kop_07 (show kBy cL_law 550 7 from kbyte (k := 512) (j := 38) kbk_512 rfl)
theorem dL_law_551 : decode cL_law 551 = .ok (.iadd, 1) := kop_60 (show kBy cL_law 551 96 from kbyte (k := 512) (j := 39) kbk_512 rfl)
theorem dL_law_552 : decode cL_law 552 = .ok (.iaload, 1) := kop_2e (show kBy cL_law 552 46 from kbyte (k := 512) (j := 40) kbk_512 rfl)
theorem dL_law_553 : decode cL_law 553 = .ok (.aload_n 0, 1) := kop_2a (show kBy cL_law 553 42 from kbyte (k := 512) (j := 41) kbk_512 rfl)
theorem dL_law_554 : decode cL_law 554 = .ok (.iload_n 3, 1) := kop_1d (show kBy cL_law 554 29 from kbyte (k := 512) (j := 42) kbk_512 rfl)
theorem dL_law_555 : decode cL_law 555 = .ok (.iconst 5, 1) := kop_08 (show kBy cL_law 555 8 from kbyte (k := 512) (j := 43) kbk_512 rfl)
theorem dL_law_556 : decode cL_law 556 = .ok (.iadd, 1) := kop_60 (show kBy cL_law 556 96 from kbyte (k := 512) (j := 44) kbk_512 rfl)
theorem dL_law_557 : decode cL_law 557 = .ok (.iaload, 1) := kop_2e (show kBy cL_law 557 46 from kbyte (k := 512) (j := 45) kbk_512 rfl)
theorem dL_law_558 : decode cL_law 558 = .ok (.invokevirtual 66, 3) := kop_b6 (show kBy cL_law 558 182 from kbyte (k := 512) (j := 46) kbk_512 rfl) (show kBy cL_law 559 0 from kbyte (k := 512) (j := 47) kbk_512 rfl) (show kBy cL_law 560 66 from kbyte (k := 512) (j := 48) kbk_512 rfl) (by decide)
theorem dL_law_561 : decode cL_law 561 = .ok (.pop, 1) := kop_57 (show kBy cL_law 561 87 from kbyte (k := 512) (j := 49) kbk_512 rfl)
theorem dL_law_562 : decode cL_law 562 = .ok (.aload_n 2, 1) := kop_2c (show kBy cL_law 562 44 from kbyte (k := 512) (j := 50) kbk_512 rfl)
theorem dL_law_563 : decode cL_law 563 = .ok (.aload_n 0, 1) := kop_2a (show kBy cL_law 563 42 from kbyte (k := 512) (j := 51) kbk_512 rfl)
theorem dL_law_564 : decode cL_law 564 = .ok (.iload_n 3, 1) := kop_1d (show kBy cL_law 564 29 from kbyte (k := 512) (j := 52) kbk_512 rfl)
theorem dL_law_565 : decode cL_law 565 = .ok (.iconst 1, 1) := kop_04 (show kBy cL_law 565 4 from kbyte (k := 512) (j := 53) kbk_512 rfl)
theorem dL_law_566 : decode cL_law 566 = .ok (.iadd, 1) := kop_60 (show kBy cL_law 566 96 from kbyte (k := 512) (j := 54) kbk_512 rfl)
theorem dL_law_567 : decode cL_law 567 = .ok (.iaload, 1) := kop_2e (show kBy cL_law 567 46 from kbyte (k := 512) (j := 55) kbk_512 rfl)
theorem dL_law_568 : decode cL_law 568 = .ok (.aload_n 0, 1) := kop_2a (show kBy cL_law 568 42 from kbyte (k := 512) (j := 56) kbk_512 rfl)
theorem dL_law_569 : decode cL_law 569 = .ok (.iload_n 3, 1) := kop_1d (show kBy cL_law 569 29 from kbyte (k := 512) (j := 57) kbk_512 rfl)
theorem dL_law_570 : decode cL_law 570 = .ok (.iconst 2, 1) := kop_05 (show kBy cL_law 570 5 from kbyte (k := 512) (j := 58) kbk_512 rfl)
theorem dL_law_571 : decode cL_law 571 = .ok (.iadd, 1) := kop_60 (show kBy cL_law 571 96 from kbyte (k := 512) (j := 59) kbk_512 rfl)
theorem dL_law_572 : decode cL_law 572 = .ok (.iaload, 1) := kop_2e (show kBy cL_law 572 46 from kbyte (k := 512) (j := 60) kbk_512 rfl)
theorem dL_law_573 : decode cL_law 573 = .ok (.aload_n 0, 1) := kop_2a (show kBy cL_law 573 42 from kbyte (k := 512) (j := 61) kbk_512 rfl)
theorem dL_law_574 : decode cL_law 574 = .ok (.iload_n 3, 1) := kop_1d (show kBy cL_law 574 29 from kbyte (k := 512) (j := 62) kbk_512 rfl)
theorem dL_law_575 : decode cL_law 575 = .ok (.iconst 3, 1) := kop_06 (show kBy cL_law 575 6 from kbyte (k := 512) (j := 63) kbk_512 rfl)
theorem dL_law_576 : decode cL_law 576 = .ok (.iadd, 1) := kop_60 (show kBy cL_law 576 96 from kbyte (k := 576) (j := 0) kbk_576 rfl)
theorem dL_law_577 : decode cL_law 577 = .ok (.iaload, 1) := kop_2e (show kBy cL_law 577 46 from kbyte (k := 576) (j := 1) kbk_576 rfl)
theorem dL_law_578 : decode cL_law 578 = .ok (.aload_n 0, 1) := kop_2a (show kBy cL_law 578 42 from kbyte (k := 576) (j := 2) kbk_576 rfl)
theorem dL_law_579 : decode cL_law 579 = .ok (.iload_n 3, 1) := kop_1d (show kBy cL_law 579 29 from kbyte (k := 576) (j := 3) kbk_576 rfl)
theorem dL_law_580 : decode cL_law 580 = .ok (.iconst 4, 1) := kop_07 (show kBy cL_law 580 7 from kbyte (k := 576) (j := 4) kbk_576 rfl)
theorem dL_law_581 : decode cL_law 581 = .ok (.iadd, 1) := kop_60 (show kBy cL_law 581 96 from kbyte (k := 576) (j := 5) kbk_576 rfl)
theorem dL_law_582 : decode cL_law 582 = .ok (.iaload, 1) := kop_2e (show kBy cL_law 582 46 from kbyte (k := 576) (j := 6) kbk_576 rfl)
theorem dL_law_583 : decode cL_law 583 = .ok (.aload_n 0, 1) := kop_2a (show kBy cL_law 583 42 from kbyte (k := 576) (j := 7) kbk_576 rfl)
theorem dL_law_584 : decode cL_law 584 = .ok (.iload_n 3, 1) := kop_1d (show kBy cL_law 584 29 from kbyte (k := 576) (j := 8) kbk_576 rfl)
theorem dL_law_585 : decode cL_law 585 = .ok (.iconst 5, 1) := kop_08 (show kBy cL_law 585 8 from kbyte (k := 576) (j := 9) kbk_576 rfl)
theorem dL_law_586 : decode cL_law 586 = .ok (.iadd, 1) := kop_60 (show kBy cL_law 586 96 from kbyte (k := 576) (j := 10) kbk_576 rfl)
theorem dL_law_587 : decode cL_law 587 = .ok (.iaload, 1) := kop_2e (show kBy cL_law 587 46 from kbyte (k := 576) (j := 11) kbk_576 rfl)
theorem dL_law_588 : decode cL_law 588 = .ok (.invokevirtual 70, 3) := kop_b6 (show kBy cL_law 588 182 from kbyte (k := 576) (j := 12) kbk_576 rfl) (show kBy cL_law 589 0 from kbyte (k := 576) (j := 13) kbk_576 rfl) (show kBy cL_law 590 70 from kbyte (k := 576) (j := 14) kbk_576 rfl) (by decide)
theorem dL_law_591 : decode cL_law 591 = .ok (.pop, 1) := kop_57 (show kBy cL_law 591 87 from kbyte (k := 576) (j := 15) kbk_576 rfl)
theorem dL_law_592 : decode cL_law 592 = .ok (.goto 540, 3) := by decide +kernel
set_option maxRecDepth 20000 in
theorem mr_wsX8_day_r1 : ∀ w ∈ wsX8_day_r1, w ∈ lw_tbl := List.forall_mem_cons.mpr ⟨iw_4_22, List.forall_mem_cons.mpr ⟨iw_0_13, List.forall_mem_cons.mpr ⟨iw_0_23, List.forall_mem_cons.mpr ⟨iw_4_23, List.forall_mem_cons.mpr ⟨iw_5_0, List.forall_mem_cons.mpr ⟨iw_5_1, List.forall_mem_cons.mpr ⟨iw_0_2, List.forall_mem_cons.mpr ⟨iw_5_2, List.forall_mem_cons.mpr ⟨iw_5_3, List.forall_mem_cons.mpr ⟨iw_5_4, List.forall_mem_cons.mpr ⟨iw_5_5, List.forall_mem_cons.mpr ⟨iw_5_6, List.forall_mem_cons.mpr ⟨iw_5_7, List.forall_mem_cons.mpr ⟨iw_5_8, List.forall_mem_cons.mpr ⟨iw_21_15, List.forall_mem_cons.mpr ⟨iw_21_16, List.forall_mem_cons.mpr ⟨iw_21_17, List.forall_mem_cons.mpr ⟨iw_14_18, List.forall_mem_cons.mpr ⟨iw_14_19, List.forall_mem_cons.mpr ⟨iw_14_20, List.forall_mem_cons.mpr ⟨iw_5_9, List.forall_mem_cons.mpr ⟨iw_5_10, List.forall_mem_cons.mpr ⟨iw_5_11, List.forall_mem_cons.mpr ⟨iw_5_12, fun _ h9 => absurd h9 List.not_mem_nil⟩⟩⟩⟩⟩⟩⟩⟩⟩⟩⟩⟩⟩⟩⟩⟩⟩⟩⟩⟩⟩⟩⟩⟩
set_option maxRecDepth 20000 in
theorem mr_wsX8_day_r2 : ∀ w ∈ wsX8_day_r2, w ∈ lw_tbl := List.forall_mem_cons.mpr ⟨iw_5_13, List.forall_mem_cons.mpr ⟨iw_5_14, List.forall_mem_cons.mpr ⟨iw_5_15, List.forall_mem_cons.mpr ⟨iw_5_16, List.forall_mem_cons.mpr ⟨iw_0_15, List.forall_mem_cons.mpr ⟨iw_5_17, List.forall_mem_cons.mpr ⟨iw_5_18, List.forall_mem_cons.mpr ⟨iw_5_19, List.forall_mem_cons.mpr ⟨iw_5_20, List.forall_mem_cons.mpr ⟨iw_5_21, List.forall_mem_cons.mpr ⟨iw_5_22, List.forall_mem_cons.mpr ⟨iw_5_23, List.forall_mem_cons.mpr ⟨iw_21_18, List.forall_mem_cons.mpr ⟨iw_21_19, List.forall_mem_cons.mpr ⟨iw_21_20, List.forall_mem_cons.mpr ⟨iw_15_0, List.forall_mem_cons.mpr ⟨iw_6_7, List.forall_mem_cons.mpr ⟨iw_6_8, List.forall_mem_cons.mpr ⟨iw_6_9, List.forall_mem_cons.mpr ⟨iw_2_3, List.forall_mem_cons.mpr ⟨iw_6_10, List.forall_mem_cons.mpr ⟨iw_6_11, List.forall_mem_cons.mpr ⟨iw_6_12, List.forall_mem_cons.mpr ⟨iw_6_13, fun _ h9 => absurd h9 List.not_mem_nil⟩⟩⟩⟩⟩⟩⟩⟩⟩⟩⟩⟩⟩⟩⟩⟩⟩⟩⟩⟩⟩⟩⟩⟩
set_option maxRecDepth 20000 in
theorem mr_wsX8_day_r3 : ∀ w ∈ wsX8_day_r3, w ∈ lw_tbl := List.forall_mem_cons.mpr ⟨iw_21_21, List.forall_mem_cons.mpr ⟨iw_21_22, List.forall_mem_cons.mpr ⟨iw_21_23, List.forall_mem_cons.mpr ⟨iw_22_0, List.forall_mem_cons.mpr ⟨iw_22_1, List.forall_mem_cons.mpr ⟨iw_22_2, List.forall_mem_cons.mpr ⟨iw_22_3, List.forall_mem_cons.mpr ⟨iw_1_20, List.forall_mem_cons.mpr ⟨iw_1_3, List.forall_mem_cons.mpr ⟨iw_1_21, List.forall_mem_cons.mpr ⟨iw_1_7, List.forall_mem_cons.mpr ⟨iw_22_4, List.forall_mem_cons.mpr ⟨iw_22_5, List.forall_mem_cons.mpr ⟨iw_22_6, List.forall_mem_cons.mpr ⟨iw_1_2, List.forall_mem_cons.mpr ⟨iw_22_7, List.forall_mem_cons.mpr ⟨iw_15_12, List.forall_mem_cons.mpr ⟨iw_2_18, List.forall_mem_cons.mpr ⟨iw_22_8, List.forall_mem_cons.mpr ⟨iw_22_9, List.forall_mem_cons.mpr ⟨iw_22_10, List.forall_mem_cons.mpr ⟨iw_1_6, List.forall_mem_cons.mpr ⟨iw_22_11, List.forall_mem_cons.mpr ⟨iw_9_1, fun _ h9 => absurd h9 List.not_mem_nil⟩⟩⟩⟩⟩⟩⟩⟩⟩⟩⟩⟩⟩⟩⟩⟩⟩⟩⟩⟩⟩⟩⟩⟩
set_option maxRecDepth 20000 in
theorem mr_wsX8_day_r4 : ∀ w ∈ wsX8_day_r4, w ∈ lw_tbl := List.forall_mem_cons.mpr ⟨iw_2_22, List.forall_mem_cons.mpr ⟨iw_22_12, List.forall_mem_cons.mpr ⟨iw_22_13, List.forall_mem_cons.mpr ⟨iw_22_14, List.forall_mem_cons.mpr ⟨iw_22_15, List.forall_mem_cons.mpr ⟨iw_15_8, List.forall_mem_cons.mpr ⟨iw_15_9, List.forall_mem_cons.mpr ⟨iw_15_10, List.forall_mem_cons.mpr ⟨iw_15_11, List.forall_mem_cons.mpr ⟨iw_16_0, List.forall_mem_cons.mpr ⟨iw_16_1, List.forall_mem_cons.mpr ⟨iw_16_2, List.forall_mem_cons.mpr ⟨iw_16_3, List.forall_mem_cons.mpr ⟨iw_19_15, List.forall_mem_cons.mpr ⟨iw_19_16, List.forall_mem_cons.mpr ⟨iw_19_17, List.forall_mem_cons.mpr ⟨iw_19_18, List.forall_mem_cons.mpr ⟨iw_19_19, List.forall_mem_cons.mpr ⟨iw_13_11, List.forall_mem_cons.mpr ⟨iw_13_12, List.forall_mem_cons.mpr ⟨iw_13_13, List.forall_mem_cons.mpr ⟨iw_22_16, List.forall_mem_cons.mpr ⟨iw_22_17, List.forall_mem_cons.mpr ⟨iw_22_18, fun _ h9 => absurd h9 List.not_mem_nil⟩⟩⟩⟩⟩⟩⟩⟩⟩⟩⟩⟩⟩⟩⟩⟩⟩⟩⟩⟩⟩⟩⟩⟩
set_option maxRecDepth 20000 in
theorem mr_wsX8_day_r5 : ∀ w ∈ wsX8_day_r5, w ∈ lw_tbl := List.forall_mem_cons.mpr ⟨iw_22_19, List.forall_mem_cons.mpr ⟨iw_1_22, List.forall_mem_cons.mpr ⟨iw_22_20, List.forall_mem_cons.mpr ⟨iw_22_21, List.forall_mem_cons.mpr ⟨iw_13_10, List.forall_mem_cons.mpr ⟨iw_9_6, List.forall_mem_cons.mpr ⟨iw_9_7, List.forall_mem_cons.mpr ⟨iw_9_8, List.forall_mem_cons.mpr ⟨iw_0_22, List.forall_mem_cons.mpr ⟨iw_9_9, List.forall_mem_cons.mpr ⟨iw_7_12, List.forall_mem_cons.mpr ⟨iw_9_10, List.forall_mem_cons.mpr ⟨iw_9_11, List.forall_mem_cons.mpr ⟨iw_9_12, List.forall_mem_cons.mpr ⟨iw_1_14, List.forall_mem_cons.mpr ⟨iw_9_13, List.forall_mem_cons.mpr ⟨iw_9_14, List.forall_mem_cons.mpr ⟨iw_9_15, List.forall_mem_cons.mpr ⟨iw_9_16, List.forall_mem_cons.mpr ⟨iw_9_17, List.forall_mem_cons.mpr ⟨iw_9_18, List.forall_mem_cons.mpr ⟨iw_9_19, List.forall_mem_cons.mpr ⟨iw_9_20, List.forall_mem_cons.mpr ⟨iw_3_6, fun _ h9 => absurd h9 List.not_mem_nil⟩⟩⟩⟩⟩⟩⟩⟩⟩⟩⟩⟩⟩⟩⟩⟩⟩⟩⟩⟩⟩⟩⟩⟩
set_option maxRecDepth 20000 in
theorem mr_wsX8_day_r6 : ∀ w ∈ wsX8_day_r6, w ∈ lw_tbl := List.forall_mem_cons.mpr ⟨iw_3_7, List.forall_mem_cons.mpr ⟨iw_3_11, List.forall_mem_cons.mpr ⟨iw_9_21, List.forall_mem_cons.mpr ⟨iw_9_22, List.forall_mem_cons.mpr ⟨iw_9_23, List.forall_mem_cons.mpr ⟨iw_10_0, List.forall_mem_cons.mpr ⟨iw_10_1, List.forall_mem_cons.mpr ⟨iw_3_8, List.forall_mem_cons.mpr ⟨iw_10_2, List.forall_mem_cons.mpr ⟨iw_10_3, List.forall_mem_cons.mpr ⟨iw_10_4, List.forall_mem_cons.mpr ⟨iw_10_5, List.forall_mem_cons.mpr ⟨iw_2_14, List.forall_mem_cons.mpr ⟨iw_10_6, List.forall_mem_cons.mpr ⟨iw_10_7, List.forall_mem_cons.mpr ⟨iw_10_8, List.forall_mem_cons.mpr ⟨iw_10_9, List.forall_mem_cons.mpr ⟨iw_3_13, List.forall_mem_cons.mpr ⟨iw_10_10, List.forall_mem_cons.mpr ⟨iw_8_22, List.forall_mem_cons.mpr ⟨iw_8_23, List.forall_mem_cons.mpr ⟨iw_9_0, List.forall_mem_cons.mpr ⟨iw_10_11, List.forall_mem_cons.mpr ⟨iw_10_12, fun _ h9 => absurd h9 List.not_mem_nil⟩⟩⟩⟩⟩⟩⟩⟩⟩⟩⟩⟩⟩⟩⟩⟩⟩⟩⟩⟩⟩⟩⟩⟩
set_option maxRecDepth 20000 in
theorem mr_wsX8_day_r7 : ∀ w ∈ wsX8_day_r7, w ∈ lw_tbl := List.forall_mem_cons.mpr ⟨iw_10_13, List.forall_mem_cons.mpr ⟨iw_10_14, List.forall_mem_cons.mpr ⟨iw_10_15, List.forall_mem_cons.mpr ⟨iw_3_9, List.forall_mem_cons.mpr ⟨iw_3_10, List.forall_mem_cons.mpr ⟨iw_10_16, List.forall_mem_cons.mpr ⟨iw_10_17, List.forall_mem_cons.mpr ⟨iw_10_18, List.forall_mem_cons.mpr ⟨iw_10_19, List.forall_mem_cons.mpr ⟨iw_10_20, List.forall_mem_cons.mpr ⟨iw_10_21, List.forall_mem_cons.mpr ⟨iw_22_22, List.forall_mem_cons.mpr ⟨iw_22_23, List.forall_mem_cons.mpr ⟨iw_23_0, List.forall_mem_cons.mpr ⟨iw_23_1, List.forall_mem_cons.mpr ⟨iw_23_2, List.forall_mem_cons.mpr ⟨iw_23_3, List.forall_mem_cons.mpr ⟨iw_23_4, List.forall_mem_cons.mpr ⟨iw_23_5, List.forall_mem_cons.mpr ⟨iw_23_6, List.forall_mem_cons.mpr ⟨iw_23_7, List.forall_mem_cons.mpr ⟨iw_23_8, List.forall_mem_cons.mpr ⟨iw_23_9, List.forall_mem_cons.mpr ⟨iw_13_4, fun _ h9 => absurd h9 List.not_mem_nil⟩⟩⟩⟩⟩⟩⟩⟩⟩⟩⟩⟩⟩⟩⟩⟩⟩⟩⟩⟩⟩⟩⟩⟩
set_option maxRecDepth 20000 in
theorem mr_wsX8_day_r8 : ∀ w ∈ wsX8_day_r8, w ∈ lw_tbl := List.forall_mem_cons.mpr ⟨iw_13_5, List.forall_mem_cons.mpr ⟨iw_13_6, List.forall_mem_cons.mpr ⟨iw_2_12, List.forall_mem_cons.mpr ⟨iw_2_13, List.forall_mem_cons.mpr ⟨iw_13_7, List.forall_mem_cons.mpr ⟨iw_7_9, List.forall_mem_cons.mpr ⟨iw_7_10, List.forall_mem_cons.mpr ⟨iw_7_11, List.forall_mem_cons.mpr ⟨iw_13_8, List.forall_mem_cons.mpr ⟨iw_13_9, fun _ h9 => absurd h9 List.not_mem_nil⟩⟩⟩⟩⟩⟩⟩⟩⟩⟩
set_option maxRecDepth 20000 in
theorem mr_wsX9_day_r1 : ∀ w ∈ wsX9_day_r1, w ∈ lw_tbl := List.forall_mem_cons.mpr ⟨iw_11_2, List.forall_mem_cons.mpr ⟨iw_11_5, List.forall_mem_cons.mpr ⟨iw_4_2, List.forall_mem_cons.mpr ⟨iw_11_8, List.forall_mem_cons.mpr ⟨iw_11_9, List.forall_mem_cons.mpr ⟨iw_0_5, List.forall_mem_cons.mpr ⟨iw_11_10, List.forall_mem_cons.mpr ⟨iw_11_11, List.forall_mem_cons.mpr ⟨iw_11_12, List.forall_mem_cons.mpr ⟨iw_11_13, List.forall_mem_cons.mpr ⟨iw_11_14, List.forall_mem_cons.mpr ⟨iw_11_15, List.forall_mem_cons.mpr ⟨iw_11_16, List.forall_mem_cons.mpr ⟨iw_11_17, List.forall_mem_cons.mpr ⟨iw_11_18, List.forall_mem_cons.mpr ⟨iw_11_19, List.forall_mem_cons.mpr ⟨iw_11_20, List.forall_mem_cons.mpr ⟨iw_4_0, List.forall_mem_cons.mpr ⟨iw_4_1, List.forall_mem_cons.mpr ⟨iw_11_21, List.forall_mem_cons.mpr ⟨iw_11_22, List.forall_mem_cons.mpr ⟨iw_11_23, List.forall_mem_cons.mpr ⟨iw_12_0, List.forall_mem_cons.mpr ⟨iw_23_14, fun _ h9 => absurd h9 List.not_mem_nil⟩⟩⟩⟩⟩⟩⟩⟩⟩⟩⟩⟩⟩⟩⟩⟩⟩⟩⟩⟩⟩⟩⟩⟩
set_option maxRecDepth 20000 in
theorem mr_wsX9_day_r2 : ∀ w ∈ wsX9_day_r2, w ∈ lw_tbl := List.forall_mem_cons.mpr ⟨iw_23_15, List.forall_mem_cons.mpr ⟨iw_23_16, List.forall_mem_cons.mpr ⟨iw_23_17, List.forall_mem_cons.mpr ⟨iw_23_18, List.forall_mem_cons.mpr ⟨iw_23_19, List.forall_mem_cons.mpr ⟨iw_23_20, List.forall_mem_cons.mpr ⟨iw_4_16, List.forall_mem_cons.mpr ⟨iw_11_6, List.forall_mem_cons.mpr ⟨iw_4_8, List.forall_mem_cons.mpr ⟨iw_4_6, List.forall_mem_cons.mpr ⟨iw_23_21, List.forall_mem_cons.mpr ⟨iw_23_22, List.forall_mem_cons.mpr ⟨iw_23_23, List.forall_mem_cons.mpr ⟨iw_24_0, List.forall_mem_cons.mpr ⟨iw_24_1, List.forall_mem_cons.mpr ⟨iw_24_2, List.forall_mem_cons.mpr ⟨iw_24_3, List.forall_mem_cons.mpr ⟨iw_24_4, List.forall_mem_cons.mpr ⟨iw_13_18, List.forall_mem_cons.mpr ⟨iw_13_19, List.forall_mem_cons.mpr ⟨iw_13_20, List.forall_mem_cons.mpr ⟨iw_13_21, List.forall_mem_cons.mpr ⟨iw_20_6, List.forall_mem_cons.mpr ⟨iw_20_7, fun _ h9 => absurd h9 List.not_mem_nil⟩⟩⟩⟩⟩⟩⟩⟩⟩⟩⟩⟩⟩⟩⟩⟩⟩⟩⟩⟩⟩⟩⟩⟩
set_option maxRecDepth 20000 in
theorem mr_wsX9_day_r3 : ∀ w ∈ wsX9_day_r3, w ∈ lw_tbl := List.forall_mem_cons.mpr ⟨iw_20_8, List.forall_mem_cons.mpr ⟨iw_20_9, List.forall_mem_cons.mpr ⟨iw_14_2, List.forall_mem_cons.mpr ⟨iw_14_3, List.forall_mem_cons.mpr ⟨iw_14_4, List.forall_mem_cons.mpr ⟨iw_14_5, List.forall_mem_cons.mpr ⟨iw_24_5, List.forall_mem_cons.mpr ⟨iw_24_6, List.forall_mem_cons.mpr ⟨iw_24_7, List.forall_mem_cons.mpr ⟨iw_24_8, List.forall_mem_cons.mpr ⟨iw_17_10, List.forall_mem_cons.mpr ⟨iw_18_1, List.forall_mem_cons.mpr ⟨iw_17_15, List.forall_mem_cons.mpr ⟨iw_17_11, List.forall_mem_cons.mpr ⟨iw_17_12, List.forall_mem_cons.mpr ⟨iw_17_13, List.forall_mem_cons.mpr ⟨iw_17_14, List.forall_mem_cons.mpr ⟨iw_17_16, List.forall_mem_cons.mpr ⟨iw_4_15, List.forall_mem_cons.mpr ⟨iw_17_17, List.forall_mem_cons.mpr ⟨iw_17_18, List.forall_mem_cons.mpr ⟨iw_17_19, List.forall_mem_cons.mpr ⟨iw_17_20, List.forall_mem_cons.mpr ⟨iw_4_14, fun _ h9 => absurd h9 List.not_mem_nil⟩⟩⟩⟩⟩⟩⟩⟩⟩⟩⟩⟩⟩⟩⟩⟩⟩⟩⟩⟩⟩⟩⟩⟩
set_option maxRecDepth 20000 in
theorem mr_wsX9_day_r4 : ∀ w ∈ wsX9_day_r4, w ∈ lw_tbl := List.forall_mem_cons.mpr ⟨iw_17_21, List.forall_mem_cons.mpr ⟨iw_17_22, List.forall_mem_cons.mpr ⟨iw_17_23, List.forall_mem_cons.mpr ⟨iw_18_0, List.forall_mem_cons.mpr ⟨iw_4_12, List.forall_mem_cons.mpr ⟨iw_4_13, List.forall_mem_cons.mpr ⟨iw_4_5, List.forall_mem_cons.mpr ⟨iw_18_2, List.forall_mem_cons.mpr ⟨iw_18_3, List.forall_mem_cons.mpr ⟨iw_18_4, List.forall_mem_cons.mpr ⟨iw_18_5, List.forall_mem_cons.mpr ⟨iw_18_6, List.forall_mem_cons.mpr ⟨iw_18_7, List.forall_mem_cons.mpr ⟨iw_18_8, List.forall_mem_cons.mpr ⟨iw_18_9, List.forall_mem_cons.mpr ⟨iw_12_16, List.forall_mem_cons.mpr ⟨iw_12_17, List.forall_mem_cons.mpr ⟨iw_12_18, List.forall_mem_cons.mpr ⟨iw_18_10, List.forall_mem_cons.mpr ⟨iw_18_11, List.forall_mem_cons.mpr ⟨iw_18_12, List.forall_mem_cons.mpr ⟨iw_18_13, List.forall_mem_cons.mpr ⟨iw_13_22, List.forall_mem_cons.mpr ⟨iw_13_23, fun _ h9 => absurd h9 List.not_mem_nil⟩⟩⟩⟩⟩⟩⟩⟩⟩⟩⟩⟩⟩⟩⟩⟩⟩⟩⟩⟩⟩⟩⟩⟩
set_option maxRecDepth 20000 in
theorem mr_wsX9_day_r5 : ∀ w ∈ wsX9_day_r5, w ∈ lw_tbl := List.forall_mem_cons.mpr ⟨iw_14_0, List.forall_mem_cons.mpr ⟨iw_14_1, List.forall_mem_cons.mpr ⟨iw_4_3, List.forall_mem_cons.mpr ⟨iw_4_4, List.forall_mem_cons.mpr ⟨iw_24_9, List.forall_mem_cons.mpr ⟨iw_24_10, List.forall_mem_cons.mpr ⟨iw_24_11, List.forall_mem_cons.mpr ⟨iw_24_12, fun _ h9 => absurd h9 List.not_mem_nil⟩⟩⟩⟩⟩⟩⟩⟩
set_option maxRecDepth 20000 in
theorem ggL_law_X8_day : GoodIn lw_tbl wsX8_day := goodIn_3 _ (List.forall_mem_cons.mpr ⟨iw_21_14, List.forall_mem_append.mpr ⟨List.forall_mem_append.mpr ⟨List.forall_mem_append.mpr ⟨List.forall_mem_append.mpr ⟨List.forall_mem_append.mpr ⟨List.forall_mem_append.mpr ⟨List.forall_mem_append.mpr ⟨mr_wsX8_day_r1, List.forall_mem_append.mpr ⟨mr_wsX8_day_r2, List.forall_mem_append.mpr ⟨mr_wsX8_day_r3, List.forall_mem_append.mpr ⟨mr_wsX8_day_r4, List.forall_mem_append.mpr ⟨mr_wsX8_day_r5, List.forall_mem_append.mpr ⟨mr_wsX8_day_r6, List.forall_mem_append.mpr ⟨mr_wsX8_day_r7, mr_wsX8_day_r8⟩⟩⟩⟩⟩⟩⟩, inX8⟩, inX0⟩, inX5⟩, inX7⟩, inX1⟩, inX4⟩⟩) (by decide +kernel)
theorem gL_law_X8_day : GoodIn lw_tbl (wsV RL 66 RX8 yX8_day wsX8_day) := goodIn_app (goodIn_3 _ (List.forall_mem_cons.mpr ⟨iw_21_11, List.forall_mem_cons.mpr ⟨iw_21_12, List.forall_mem_cons.mpr ⟨iw_21_13, List.forall_mem_cons.mpr ⟨iw_0_2, fun _ h9 => absurd h9 List.not_mem_nil⟩⟩⟩⟩) (by decide +kernel)) ggL_law_X8_day
set_option maxRecDepth 20000 in
theorem ggL_law_X9_day : GoodIn lw_tbl wsX9_day := goodIn_3 _ (List.forall_mem_cons.mpr ⟨iw_23_13, List.forall_mem_append.mpr ⟨List.forall_mem_append.mpr ⟨mr_wsX9_day_r1, List.forall_mem_append.mpr ⟨mr_wsX9_day_r2, List.forall_mem_append.mpr ⟨mr_wsX9_day_r3, List.forall_mem_append.mpr ⟨mr_wsX9_day_r4, mr_wsX9_day_r5⟩⟩⟩⟩, inX9⟩⟩) (by decide +kernel)
theorem gL_law_X9_day : GoodIn lw_tbl (wsV RL 70 RX9 yX9_day wsX9_day) := goodIn_app (goodIn_3 _ (List.forall_mem_cons.mpr ⟨iw_23_10, List.forall_mem_cons.mpr ⟨iw_23_11, List.forall_mem_cons.mpr ⟨iw_23_12, List.forall_mem_cons.mpr ⟨iw_0_5, fun _ h9 => absurd h9 List.not_mem_nil⟩⟩⟩⟩) (by decide +kernel)) ggL_law_X9_day
theorem dL_law_595 : decode cL_law 595 = .ok (.aload_n 1, 1) := kop_2b (show kBy cL_law 595 43 from kbyte (k := 576) (j := 19) kbk_576 rfl)
theorem dL_law_596 : decode cL_law 596 = .ok (.aload_n 0, 1) := kop_2a (show kBy cL_law 596 42 from kbyte (k := 576) (j := 20) kbk_576 rfl)
theorem dL_law_597 : decode cL_law 597 = .ok (.iload_n 3, 1) := kop_1d (show kBy cL_law 597 29 from kbyte (k := 576) (j := 21) kbk_576 rfl)
theorem dL_law_598 : decode cL_law 598 = .ok (.iconst 1, 1) := kop_04 (show kBy cL_law 598 4 from kbyte (k := 576) (j := 22) kbk_576 rfl)
theorem dL_law_599 : decode cL_law 599 = .ok (.iadd, 1) := kop_60 (show kBy cL_law 599 96 from kbyte (k := 576) (j := 23) kbk_576 rfl)
theorem dL_law_600 : decode cL_law 600 = .ok (.iaload, 1) := kop_2e (show kBy cL_law 600 46 from kbyte (k := 576) (j := 24) kbk_576 rfl)
theorem dL_law_601 : decode cL_law 601 = .ok (.invokevirtual 71, 3) := kop_b6 (show kBy cL_law 601 182 from kbyte (k := 576) (j := 25) kbk_576 rfl) (show kBy cL_law 602 0 from kbyte (k := 576) (j := 26) kbk_576 rfl) (show kBy cL_law 603 71 from kbyte (k := 576) (j := 27) kbk_576 rfl) (by decide)
theorem dL_law_604 : decode cL_law 604 = .ok (.pop, 1) := kop_57 (show kBy cL_law 604 87 from kbyte (k := 576) (j := 28) kbk_576 rfl)
theorem dL_law_605 : decode cL_law 605 = .ok (.aload_n 2, 1) := kop_2c (show kBy cL_law 605 44 from kbyte (k := 576) (j := 29) kbk_576 rfl)
theorem dL_law_606 : decode cL_law 606 = .ok (.aload_n 0, 1) := kop_2a (show kBy cL_law 606 42 from kbyte (k := 576) (j := 30) kbk_576 rfl)
theorem dL_law_607 : decode cL_law 607 = .ok (.iload_n 3, 1) := kop_1d (show kBy cL_law 607 29 from kbyte (k := 576) (j := 31) kbk_576 rfl)
theorem dL_law_608 : decode cL_law 608 = .ok (.iconst 1, 1) := kop_04 (show kBy cL_law 608 4 from kbyte (k := 576) (j := 32) kbk_576 rfl)
theorem dL_law_609 : decode cL_law 609 = .ok (.iadd, 1) := kop_60 (show kBy cL_law 609 96 from kbyte (k := 576) (j := 33) kbk_576 rfl)
theorem dL_law_610 : decode cL_law 610 = .ok (.iaload, 1) := kop_2e (show kBy cL_law 610 46 from kbyte (k := 576) (j := 34) kbk_576 rfl)
theorem dL_law_611 : decode cL_law 611 = .ok (.invokevirtual 74, 3) := kop_b6 (show kBy cL_law 611 182 from kbyte (k := 576) (j := 35) kbk_576 rfl) (show kBy cL_law 612 0 from kbyte (k := 576) (j := 36) kbk_576 rfl) (show kBy cL_law 613 74 from kbyte (k := 576) (j := 37) kbk_576 rfl) (by decide)
theorem dL_law_614 : decode cL_law 614 = .ok (.pop, 1) := kop_57 (show kBy cL_law 614 87 from kbyte (k := 576) (j := 38) kbk_576 rfl)
theorem dL_law_615 : decode cL_law 615 = .ok (.goto 517, 3) := by decide +kernel
set_option maxRecDepth 20000 in
theorem mr_wsX8_best_r1 : ∀ w ∈ wsX8_best_r1, w ∈ lw_tbl := List.forall_mem_cons.mpr ⟨iw_0_23, List.forall_mem_cons.mpr ⟨iw_4_23, List.forall_mem_cons.mpr ⟨iw_1_15, List.forall_mem_cons.mpr ⟨iw_18_22, List.forall_mem_cons.mpr ⟨iw_22_21, List.forall_mem_cons.mpr ⟨iw_5_3, List.forall_mem_cons.mpr ⟨iw_5_4, List.forall_mem_cons.mpr ⟨iw_0_2, List.forall_mem_cons.mpr ⟨iw_5_5, List.forall_mem_cons.mpr ⟨iw_22_22, List.forall_mem_cons.mpr ⟨iw_22_23, List.forall_mem_cons.mpr ⟨iw_23_0, List.forall_mem_cons.mpr ⟨iw_1_14, List.forall_mem_cons.mpr ⟨iw_23_1, List.forall_mem_cons.mpr ⟨iw_10_15, List.forall_mem_cons.mpr ⟨iw_23_2, List.forall_mem_cons.mpr ⟨iw_23_3, List.forall_mem_cons.mpr ⟨iw_8_23, List.forall_mem_cons.mpr ⟨iw_23_4, List.forall_mem_cons.mpr ⟨iw_23_5, List.forall_mem_cons.mpr ⟨iw_23_6, List.forall_mem_cons.mpr ⟨iw_23_7, List.forall_mem_cons.mpr ⟨iw_23_8, List.forall_mem_cons.mpr ⟨iw_9_18, fun _ h9 => absurd h9 List.not_mem_nil⟩⟩⟩⟩⟩⟩⟩⟩⟩⟩⟩⟩⟩⟩⟩⟩⟩⟩⟩⟩⟩⟩⟩⟩
set_option maxRecDepth 20000 in
theorem mr_wsX8_best_r2 : ∀ w ∈ wsX8_best_r2, w ∈ lw_tbl := List.forall_mem_cons.mpr ⟨iw_3_9, List.forall_mem_cons.mpr ⟨iw_23_9, List.forall_mem_cons.mpr ⟨iw_13_4, List.forall_mem_cons.mpr ⟨iw_13_5, List.forall_mem_cons.mpr ⟨iw_0_22, List.forall_mem_cons.mpr ⟨iw_13_6, List.forall_mem_cons.mpr ⟨iw_2_12, List.forall_mem_cons.mpr ⟨iw_2_13, List.forall_mem_cons.mpr ⟨iw_13_7, List.forall_mem_cons.mpr ⟨iw_7_9, List.forall_mem_cons.mpr ⟨iw_7_10, List.forall_mem_cons.mpr ⟨iw_7_11, List.forall_mem_cons.mpr ⟨iw_7_12, List.forall_mem_cons.mpr ⟨iw_13_8, List.forall_mem_cons.mpr ⟨iw_13_9, fun _ h9 => absurd h9 List.not_mem_nil⟩⟩⟩⟩⟩⟩⟩⟩⟩⟩⟩⟩⟩⟩⟩
set_option maxRecDepth 20000 in
theorem mr_wsX9_best_r1 : ∀ w ∈ wsX9_best_r1, w ∈ lw_tbl := List.forall_mem_cons.mpr ⟨iw_11_5, List.forall_mem_cons.mpr ⟨iw_17_16, List.forall_mem_cons.mpr ⟨iw_18_1, List.forall_mem_cons.mpr ⟨iw_17_15, List.forall_mem_cons.mpr ⟨iw_11_11, List.forall_mem_cons.mpr ⟨iw_11_12, List.forall_mem_cons.mpr ⟨iw_0_5, List.forall_mem_cons.mpr ⟨iw_11_13, List.forall_mem_cons.mpr ⟨iw_17_11, List.forall_mem_cons.mpr ⟨iw_17_12, List.forall_mem_cons.mpr ⟨iw_17_13, List.forall_mem_cons.mpr ⟨iw_17_14, List.forall_mem_cons.mpr ⟨iw_17_10, List.forall_mem_cons.mpr ⟨iw_4_6, List.forall_mem_cons.mpr ⟨iw_4_15, List.forall_mem_cons.mpr ⟨iw_17_17, List.forall_mem_cons.mpr ⟨iw_17_18, List.forall_mem_cons.mpr ⟨iw_17_19, List.forall_mem_cons.mpr ⟨iw_17_20, List.forall_mem_cons.mpr ⟨iw_4_14, List.forall_mem_cons.mpr ⟨iw_17_21, List.forall_mem_cons.mpr ⟨iw_17_22, List.forall_mem_cons.mpr ⟨iw_17_23, List.forall_mem_cons.mpr ⟨iw_18_0, fun _ h9 => absurd h9 List.not_mem_nil⟩⟩⟩⟩⟩⟩⟩⟩⟩⟩⟩⟩⟩⟩⟩⟩⟩⟩⟩⟩⟩⟩⟩⟩
set_option maxRecDepth 20000 in
theorem mr_wsX9_best_r2 : ∀ w ∈ wsX9_best_r2, w ∈ lw_tbl := List.forall_mem_cons.mpr ⟨iw_11_6, List.forall_mem_cons.mpr ⟨iw_4_8, List.forall_mem_cons.mpr ⟨iw_4_12, List.forall_mem_cons.mpr ⟨iw_4_13, List.forall_mem_cons.mpr ⟨iw_4_5, List.forall_mem_cons.mpr ⟨iw_18_2, List.forall_mem_cons.mpr ⟨iw_18_3, List.forall_mem_cons.mpr ⟨iw_18_4, List.forall_mem_cons.mpr ⟨iw_18_5, List.forall_mem_cons.mpr ⟨iw_18_6, List.forall_mem_cons.mpr ⟨iw_18_7, List.forall_mem_cons.mpr ⟨iw_18_8, List.forall_mem_cons.mpr ⟨iw_18_9, List.forall_mem_cons.mpr ⟨iw_12_16, List.forall_mem_cons.mpr ⟨iw_12_17, List.forall_mem_cons.mpr ⟨iw_12_18, List.forall_mem_cons.mpr ⟨iw_18_10, List.forall_mem_cons.mpr ⟨iw_18_11, List.forall_mem_cons.mpr ⟨iw_18_12, List.forall_mem_cons.mpr ⟨iw_18_13, List.forall_mem_cons.mpr ⟨iw_13_22, List.forall_mem_cons.mpr ⟨iw_13_23, List.forall_mem_cons.mpr ⟨iw_14_0, List.forall_mem_cons.mpr ⟨iw_14_1, fun _ h9 => absurd h9 List.not_mem_nil⟩⟩⟩⟩⟩⟩⟩⟩⟩⟩⟩⟩⟩⟩⟩⟩⟩⟩⟩⟩⟩⟩⟩⟩
set_option maxRecDepth 20000 in
theorem mr_wsX9_best_r3 : ∀ w ∈ wsX9_best_r3, w ∈ lw_tbl := List.forall_mem_cons.mpr ⟨iw_4_3, List.forall_mem_cons.mpr ⟨iw_4_4, fun _ h9 => absurd h9 List.not_mem_nil⟩⟩
set_option maxRecDepth 20000 in
theorem ggL_law_X8_best : GoodIn lw_tbl wsX8_best := goodIn_3 _ (List.forall_mem_cons.mpr ⟨iw_24_16, List.forall_mem_append.mpr ⟨List.forall_mem_append.mpr ⟨List.forall_mem_append.mpr ⟨List.forall_mem_append.mpr ⟨mr_wsX8_best_r1, mr_wsX8_best_r2⟩, inX8⟩, inX0⟩, inX4⟩⟩) (by decide +kernel)
theorem gL_law_X8_best : GoodIn lw_tbl (wsV RL 71 RX8 yX8_best wsX8_best) := goodIn_app (goodIn_3 _ (List.forall_mem_cons.mpr ⟨iw_24_13, List.forall_mem_cons.mpr ⟨iw_24_14, List.forall_mem_cons.mpr ⟨iw_24_15, List.forall_mem_cons.mpr ⟨iw_0_2, fun _ h9 => absurd h9 List.not_mem_nil⟩⟩⟩⟩) (by decide +kernel)) ggL_law_X8_best
set_option maxRecDepth 20000 in
theorem ggL_law_X9_best : GoodIn lw_tbl wsX9_best := goodIn_3 _ (List.forall_mem_cons.mpr ⟨iw_24_20, List.forall_mem_append.mpr ⟨List.forall_mem_append.mpr ⟨mr_wsX9_best_r1, List.forall_mem_append.mpr ⟨mr_wsX9_best_r2, mr_wsX9_best_r3⟩⟩, inX9⟩⟩) (by decide +kernel)
theorem gL_law_X9_best : GoodIn lw_tbl (wsV RL 74 RX9 yX9_best wsX9_best) := goodIn_app (goodIn_3 _ (List.forall_mem_cons.mpr ⟨iw_24_17, List.forall_mem_cons.mpr ⟨iw_24_18, List.forall_mem_cons.mpr ⟨iw_24_19, List.forall_mem_cons.mpr ⟨iw_0_5, fun _ h9 => absurd h9 List.not_mem_nil⟩⟩⟩⟩) (by decide +kernel)) ggL_law_X9_best
theorem dL_law_618 : decode cL_law 618 = .ok (.aload_n 1, 1) := kop_2b (show kBy cL_law 618 43 from kbyte (k := 576) (j := 42) kbk_576 rfl)
theorem dL_law_619 : decode cL_law 619 = .ok (.aload_n 0, 1) := kop_2a (show kBy cL_law 619 42 from kbyte (k := 576) (j := 43) kbk_576 rfl)
theorem dL_law_620 : decode cL_law 620 = .ok (.iload_n 3, 1) := kop_1d (show kBy cL_law 620 29 from kbyte (k := 576) (j := 44) kbk_576 rfl)
theorem dL_law_621 : decode cL_law 621 = .ok (.iconst 1, 1) := kop_04 (show kBy cL_law 621 4 from kbyte (k := 576) (j := 45) kbk_576 rfl)
theorem dL_law_622 : decode cL_law 622 = .ok (.iadd, 1) := kop_60 (show kBy cL_law 622 96 from kbyte (k := 576) (j := 46) kbk_576 rfl)
theorem dL_law_623 : decode cL_law 623 = .ok (.iaload, 1) := kop_2e (show kBy cL_law 623 46 from kbyte (k := 576) (j := 47) kbk_576 rfl)
theorem dL_law_624 : decode cL_law 624 = .ok (.invokevirtual 75, 3) := kop_b6 (show kBy cL_law 624 182 from kbyte (k := 576) (j := 48) kbk_576 rfl) (show kBy cL_law 625 0 from kbyte (k := 576) (j := 49) kbk_576 rfl) (show kBy cL_law 626 75 from kbyte (k := 576) (j := 50) kbk_576 rfl) (by decide)
theorem dL_law_627 : decode cL_law 627 = .ok (.pop, 1) := kop_57 (show kBy cL_law 627 87 from kbyte (k := 576) (j := 51) kbk_576 rfl)
theorem dL_law_628 : decode cL_law 628 = .ok (.aload_n 2, 1) := kop_2c (show kBy cL_law 628 44 from kbyte (k := 576) (j := 52) kbk_576 rfl)
theorem dL_law_629 : decode cL_law 629 = .ok (.aload_n 0, 1) := kop_2a (show kBy cL_law 629 42 from kbyte (k := 576) (j := 53) kbk_576 rfl)
theorem dL_law_630 : decode cL_law 630 = .ok (.iload_n 3, 1) := kop_1d (show kBy cL_law 630 29 from kbyte (k := 576) (j := 54) kbk_576 rfl)
theorem dL_law_631 : decode cL_law 631 = .ok (.iconst 1, 1) := kop_04 (show kBy cL_law 631 4 from kbyte (k := 576) (j := 55) kbk_576 rfl)
theorem dL_law_632 : decode cL_law 632 = .ok (.iadd, 1) := kop_60 (show kBy cL_law 632 96 from kbyte (k := 576) (j := 56) kbk_576 rfl)
theorem dL_law_633 : decode cL_law 633 = .ok (.iaload, 1) := kop_2e (show kBy cL_law 633 46 from kbyte (k := 576) (j := 57) kbk_576 rfl)
theorem dL_law_634 : decode cL_law 634 = .ok (.invokevirtual 78, 3) := kop_b6 (show kBy cL_law 634 182 from kbyte (k := 576) (j := 58) kbk_576 rfl) (show kBy cL_law 635 0 from kbyte (k := 576) (j := 59) kbk_576 rfl) (show kBy cL_law 636 78 from kbyte (k := 576) (j := 60) kbk_576 rfl) (by decide)
theorem dL_law_637 : decode cL_law 637 = .ok (.pop, 1) := kop_57 (show kBy cL_law 637 87 from kbyte (k := 576) (j := 61) kbk_576 rfl)
theorem dL_law_638 : decode cL_law 638 = .ok (.goto 494, 3) := by decide +kernel
set_option maxRecDepth 20000 in
theorem mr_wsX8_without_r1 : ∀ w ∈ wsX8_without_r1, w ∈ lw_tbl := List.forall_mem_cons.mpr ⟨iw_0_23, List.forall_mem_cons.mpr ⟨iw_4_23, List.forall_mem_cons.mpr ⟨iw_1_22, List.forall_mem_cons.mpr ⟨iw_1_3, List.forall_mem_cons.mpr ⟨iw_1_7, List.forall_mem_cons.mpr ⟨iw_13_2, List.forall_mem_cons.mpr ⟨iw_7_9, List.forall_mem_cons.mpr ⟨iw_7_10, List.forall_mem_cons.mpr ⟨iw_0_22, List.forall_mem_cons.mpr ⟨iw_7_11, List.forall_mem_cons.mpr ⟨iw_7_12, List.forall_mem_cons.mpr ⟨iw_5_4, List.forall_mem_cons.mpr ⟨iw_0_2, List.forall_mem_cons.mpr ⟨iw_5_5, List.forall_mem_cons.mpr ⟨iw_9_6, List.forall_mem_cons.mpr ⟨iw_9_7, List.forall_mem_cons.mpr ⟨iw_9_8, List.forall_mem_cons.mpr ⟨iw_9_9, List.forall_mem_cons.mpr ⟨iw_9_10, List.forall_mem_cons.mpr ⟨iw_9_11, List.forall_mem_cons.mpr ⟨iw_9_12, List.forall_mem_cons.mpr ⟨iw_1_14, List.forall_mem_cons.mpr ⟨iw_9_13, List.forall_mem_cons.mpr ⟨iw_9_14, fun _ h9 => absurd h9 List.not_mem_nil⟩⟩⟩⟩⟩⟩⟩⟩⟩⟩⟩⟩⟩⟩⟩⟩⟩⟩⟩⟩⟩⟩⟩⟩
set_option maxRecDepth 20000 in
theorem mr_wsX8_without_r2 : ∀ w ∈ wsX8_without_r2, w ∈ lw_tbl := List.forall_mem_cons.mpr ⟨iw_9_15, List.forall_mem_cons.mpr ⟨iw_9_16, List.forall_mem_cons.mpr ⟨iw_9_17, List.forall_mem_cons.mpr ⟨iw_9_18, List.forall_mem_cons.mpr ⟨iw_9_19, List.forall_mem_cons.mpr ⟨iw_9_20, List.forall_mem_cons.mpr ⟨iw_3_6, List.forall_mem_cons.mpr ⟨iw_3_7, List.forall_mem_cons.mpr ⟨iw_3_11, List.forall_mem_cons.mpr ⟨iw_9_21, List.forall_mem_cons.mpr ⟨iw_9_22, List.forall_mem_cons.mpr ⟨iw_9_23, List.forall_mem_cons.mpr ⟨iw_10_0, List.forall_mem_cons.mpr ⟨iw_10_1, List.forall_mem_cons.mpr ⟨iw_3_8, List.forall_mem_cons.mpr ⟨iw_10_2, List.forall_mem_cons.mpr ⟨iw_10_3, List.forall_mem_cons.mpr ⟨iw_10_4, List.forall_mem_cons.mpr ⟨iw_10_5, List.forall_mem_cons.mpr ⟨iw_2_14, List.forall_mem_cons.mpr ⟨iw_10_6, List.forall_mem_cons.mpr ⟨iw_10_7, List.forall_mem_cons.mpr ⟨iw_10_8, List.forall_mem_cons.mpr ⟨iw_10_9, fun _ h9 => absurd h9 List.not_mem_nil⟩⟩⟩⟩⟩⟩⟩⟩⟩⟩⟩⟩⟩⟩⟩⟩⟩⟩⟩⟩⟩⟩⟩⟩
set_option maxRecDepth 20000 in
theorem mr_wsX8_without_r3 : ∀ w ∈ wsX8_without_r3, w ∈ lw_tbl := List.forall_mem_cons.mpr ⟨iw_3_13, List.forall_mem_cons.mpr ⟨iw_10_10, List.forall_mem_cons.mpr ⟨iw_8_22, List.forall_mem_cons.mpr ⟨iw_8_23, List.forall_mem_cons.mpr ⟨iw_9_0, List.forall_mem_cons.mpr ⟨iw_10_11, List.forall_mem_cons.mpr ⟨iw_10_12, List.forall_mem_cons.mpr ⟨iw_10_13, List.forall_mem_cons.mpr ⟨iw_10_14, List.forall_mem_cons.mpr ⟨iw_10_15, List.forall_mem_cons.mpr ⟨iw_3_9, List.forall_mem_cons.mpr ⟨iw_3_10, List.forall_mem_cons.mpr ⟨iw_10_16, List.forall_mem_cons.mpr ⟨iw_10_17, List.forall_mem_cons.mpr ⟨iw_10_18, List.forall_mem_cons.mpr ⟨iw_10_19, List.forall_mem_cons.mpr ⟨iw_10_20, List.forall_mem_cons.mpr ⟨iw_10_21, List.forall_mem_cons.mpr ⟨iw_22_22, List.forall_mem_cons.mpr ⟨iw_22_23, List.forall_mem_cons.mpr ⟨iw_23_0, List.forall_mem_cons.mpr ⟨iw_23_1, List.forall_mem_cons.mpr ⟨iw_23_2, List.forall_mem_cons.mpr ⟨iw_23_3, fun _ h9 => absurd h9 List.not_mem_nil⟩⟩⟩⟩⟩⟩⟩⟩⟩⟩⟩⟩⟩⟩⟩⟩⟩⟩⟩⟩⟩⟩⟩⟩
set_option maxRecDepth 20000 in
theorem mr_wsX8_without_r4 : ∀ w ∈ wsX8_without_r4, w ∈ lw_tbl := List.forall_mem_cons.mpr ⟨iw_23_4, fun _ h9 => absurd h9 List.not_mem_nil⟩
set_option maxRecDepth 20000 in
theorem mr_wsX9_without_r1 : ∀ w ∈ wsX9_without_r1, w ∈ lw_tbl := List.forall_mem_cons.mpr ⟨iw_11_5, List.forall_mem_cons.mpr ⟨iw_13_18, List.forall_mem_cons.mpr ⟨iw_13_19, List.forall_mem_cons.mpr ⟨iw_13_20, List.forall_mem_cons.mpr ⟨iw_0_5, List.forall_mem_cons.mpr ⟨iw_13_21, List.forall_mem_cons.mpr ⟨iw_17_17, List.forall_mem_cons.mpr ⟨iw_17_18, List.forall_mem_cons.mpr ⟨iw_17_19, List.forall_mem_cons.mpr ⟨iw_17_20, List.forall_mem_cons.mpr ⟨iw_17_10, List.forall_mem_cons.mpr ⟨iw_4_14, List.forall_mem_cons.mpr ⟨iw_17_21, List.forall_mem_cons.mpr ⟨iw_17_22, List.forall_mem_cons.mpr ⟨iw_17_23, List.forall_mem_cons.mpr ⟨iw_18_0, List.forall_mem_cons.mpr ⟨iw_18_1, List.forall_mem_cons.mpr ⟨iw_11_6, List.forall_mem_cons.mpr ⟨iw_4_8, List.forall_mem_cons.mpr ⟨iw_4_12, List.forall_mem_cons.mpr ⟨iw_4_13, List.forall_mem_cons.mpr ⟨iw_4_5, List.forall_mem_cons.mpr ⟨iw_18_2, List.forall_mem_cons.mpr ⟨iw_18_3, fun _ h9 => absurd h9 List.not_mem_nil⟩⟩⟩⟩⟩⟩⟩⟩⟩⟩⟩⟩⟩⟩⟩⟩⟩⟩⟩⟩⟩⟩⟩⟩
set_option maxRecDepth 20000 in
theorem mr_wsX9_without_r2 : ∀ w ∈ wsX9_without_r2, w ∈ lw_tbl := List.forall_mem_cons.mpr ⟨iw_18_4, List.forall_mem_cons.mpr ⟨iw_18_5, List.forall_mem_cons.mpr ⟨iw_18_6, List.forall_mem_cons.mpr ⟨iw_18_7, List.forall_mem_cons.mpr ⟨iw_18_8, List.forall_mem_cons.mpr ⟨iw_18_9, List.forall_mem_cons.mpr ⟨iw_12_16, List.forall_mem_cons.mpr ⟨iw_12_17, List.forall_mem_cons.mpr ⟨iw_12_18, fun _ h9 => absurd h9 List.not_mem_nil⟩⟩⟩⟩⟩⟩⟩⟩⟩
set_option maxRecDepth 20000 in
theorem ggL_law_X8_without : GoodIn lw_tbl wsX8_without := goodIn_3 _ (List.forall_mem_cons.mpr ⟨iw_25_0, List.forall_mem_append.mpr ⟨List.forall_mem_append.mpr ⟨List.forall_mem_append.mpr ⟨List.forall_mem_append.mpr ⟨List.forall_mem_append.mpr ⟨List.forall_mem_append.mpr ⟨mr_wsX8_without_r1, List.forall_mem_append.mpr ⟨mr_wsX8_without_r2, List.forall_mem_append.mpr ⟨mr_wsX8_without_r3, mr_wsX8_without_r4⟩⟩⟩, inX8⟩, inX0⟩, inX4⟩, inX7⟩, inX1⟩⟩) (by decide +kernel)
theorem gL_law_X8_without : GoodIn lw_tbl (wsV RL 75 RX8 yX8_without wsX8_without) := goodIn_app (goodIn_3 _ (List.forall_mem_cons.mpr ⟨iw_24_21, List.forall_mem_cons.mpr ⟨iw_24_22, List.forall_mem_cons.mpr ⟨iw_24_23, List.forall_mem_cons.mpr ⟨iw_0_2, fun _ h9 => absurd h9 List.not_mem_nil⟩⟩⟩⟩) (by decide +kernel)) ggL_law_X8_without
set_option maxRecDepth 20000 in
theorem ggL_law_X9_without : GoodIn lw_tbl wsX9_without := goodIn_3 _ (List.forall_mem_cons.mpr ⟨iw_25_4, List.forall_mem_append.mpr ⟨List.forall_mem_append.mpr ⟨mr_wsX9_without_r1, mr_wsX9_without_r2⟩, inX9⟩⟩) (by decide +kernel)
theorem gL_law_X9_without : GoodIn lw_tbl (wsV RL 78 RX9 yX9_without wsX9_without) := goodIn_app (goodIn_3 _ (List.forall_mem_cons.mpr ⟨iw_25_1, List.forall_mem_cons.mpr ⟨iw_25_2, List.forall_mem_cons.mpr ⟨iw_25_3, List.forall_mem_cons.mpr ⟨iw_0_5, fun _ h9 => absurd h9 List.not_mem_nil⟩⟩⟩⟩) (by decide +kernel)) ggL_law_X9_without
theorem dL_law_641 : decode cL_law 641 = .ok (.aload_n 1, 1) := kop_2b (show kBy cL_law 641 43 from kbyte (k := 640) (j := 1) kbk_640 rfl)
theorem dL_law_642 : decode cL_law 642 = .ok (.aload_n 0, 1) := kop_2a (show kBy cL_law 642 42 from kbyte (k := 640) (j := 2) kbk_640 rfl)
theorem dL_law_643 : decode cL_law 643 = .ok (.iload_n 3, 1) := kop_1d (show kBy cL_law 643 29 from kbyte (k := 640) (j := 3) kbk_640 rfl)
theorem dL_law_644 : decode cL_law 644 = .ok (.iconst 1, 1) := kop_04 (show kBy cL_law 644 4 from kbyte (k := 640) (j := 4) kbk_640 rfl)
theorem dL_law_645 : decode cL_law 645 = .ok (.iadd, 1) := kop_60 (show kBy cL_law 645 96 from kbyte (k := 640) (j := 5) kbk_640 rfl)
theorem dL_law_646 : decode cL_law 646 = .ok (.iaload, 1) := kop_2e (show kBy cL_law 646 46 from kbyte (k := 640) (j := 6) kbk_640 rfl)
theorem dL_law_647 : decode cL_law 647 = .ok (.invokevirtual 79, 3) := kop_b6 (show kBy cL_law 647 182 from kbyte (k := 640) (j := 7) kbk_640 rfl) (show kBy cL_law 648 0 from kbyte (k := 640) (j := 8) kbk_640 rfl) (show kBy cL_law 649 79 from kbyte (k := 640) (j := 9) kbk_640 rfl) (by decide)
theorem dL_law_650 : decode cL_law 650 = .ok (.pop, 1) := kop_57 (show kBy cL_law 650 87 from kbyte (k := 640) (j := 10) kbk_640 rfl)
theorem dL_law_651 : decode cL_law 651 = .ok (.aload_n 2, 1) := kop_2c (show kBy cL_law 651 44 from kbyte (k := 640) (j := 11) kbk_640 rfl)
theorem dL_law_652 : decode cL_law 652 = .ok (.aload_n 0, 1) := kop_2a (show kBy cL_law 652 42 from kbyte (k := 640) (j := 12) kbk_640 rfl)
theorem dL_law_653 : decode cL_law 653 = .ok (.iload_n 3, 1) := kop_1d (show kBy cL_law 653 29 from kbyte (k := 640) (j := 13) kbk_640 rfl)
theorem dL_law_654 : decode cL_law 654 = .ok (.iconst 1, 1) := kop_04 (show kBy cL_law 654 4 from kbyte (k := 640) (j := 14) kbk_640 rfl)
theorem dL_law_655 : decode cL_law 655 = .ok (.iadd, 1) := kop_60 (show kBy cL_law 655 96 from kbyte (k := 640) (j := 15) kbk_640 rfl)
theorem dL_law_656 : decode cL_law 656 = .ok (.iaload, 1) := kop_2e (show kBy cL_law 656 46 from kbyte (k := 640) (j := 16) kbk_640 rfl)
theorem dL_law_657 : decode cL_law 657 = .ok (.invokevirtual 82, 3) := kop_b6 (show kBy cL_law 657 182 from kbyte (k := 640) (j := 17) kbk_640 rfl) (show kBy cL_law 658 0 from kbyte (k := 640) (j := 18) kbk_640 rfl) (show kBy cL_law 659 82 from kbyte (k := 640) (j := 19) kbk_640 rfl) (by decide)
theorem dL_law_660 : decode cL_law 660 = .ok (.pop, 1) := kop_57 (show kBy cL_law 660 87 from kbyte (k := 640) (j := 20) kbk_640 rfl)
theorem dL_law_661 : decode cL_law 661 = .ok (.goto 471, 3) := by decide +kernel
set_option maxRecDepth 20000 in
theorem mr_wsX8_enough_r1 : ∀ w ∈ wsX8_enough_r1, w ∈ lw_tbl := List.forall_mem_cons.mpr ⟨iw_0_23, List.forall_mem_cons.mpr ⟨iw_4_23, List.forall_mem_cons.mpr ⟨iw_5_3, List.forall_mem_cons.mpr ⟨iw_5_4, List.forall_mem_cons.mpr ⟨iw_0_2, List.forall_mem_cons.mpr ⟨iw_5_5, List.forall_mem_cons.mpr ⟨iw_25_9, List.forall_mem_cons.mpr ⟨iw_25_10, List.forall_mem_cons.mpr ⟨iw_25_11, List.forall_mem_cons.mpr ⟨iw_25_12, List.forall_mem_cons.mpr ⟨iw_1_15, List.forall_mem_cons.mpr ⟨iw_9_6, List.forall_mem_cons.mpr ⟨iw_9_7, List.forall_mem_cons.mpr ⟨iw_9_8, List.forall_mem_cons.mpr ⟨iw_0_22, List.forall_mem_cons.mpr ⟨iw_9_9, List.forall_mem_cons.mpr ⟨iw_7_12, List.forall_mem_cons.mpr ⟨iw_25_13, List.forall_mem_cons.mpr ⟨iw_25_14, List.forall_mem_cons.mpr ⟨iw_25_15, List.forall_mem_cons.mpr ⟨iw_1_14, List.forall_mem_cons.mpr ⟨iw_25_16, List.forall_mem_cons.mpr ⟨iw_9_18, List.forall_mem_cons.mpr ⟨iw_3_8, fun _ h9 => absurd h9 List.not_mem_nil⟩⟩⟩⟩⟩⟩⟩⟩⟩⟩⟩⟩⟩⟩⟩⟩⟩⟩⟩⟩⟩⟩⟩⟩
set_option maxRecDepth 20000 in
theorem mr_wsX8_enough_r2 : ∀ w ∈ wsX8_enough_r2, w ∈ lw_tbl := List.forall_mem_cons.mpr ⟨iw_25_17, List.forall_mem_cons.mpr ⟨iw_7_23, List.forall_mem_cons.mpr ⟨iw_8_0, List.forall_mem_cons.mpr ⟨iw_8_1, List.forall_mem_cons.mpr ⟨iw_8_2, List.forall_mem_cons.mpr ⟨iw_8_3, List.forall_mem_cons.mpr ⟨iw_8_4, fun _ h9 => absurd h9 List.not_mem_nil⟩⟩⟩⟩⟩⟩⟩
set_option maxRecDepth 20000 in
theorem ggL_law_X8_enough : GoodIn lw_tbl wsX8_enough := goodIn_3 _ (List.forall_mem_cons.mpr ⟨iw_25_8, List.forall_mem_append.mpr ⟨List.forall_mem_append.mpr ⟨List.forall_mem_append.mpr ⟨List.forall_mem_append.mpr ⟨mr_wsX8_enough_r1, mr_wsX8_enough_r2⟩, inX8⟩, inX0⟩, inX4⟩⟩) (by decide +kernel)
theorem gL_law_X8_enough : GoodIn lw_tbl (wsV RL 79 RX8 yX8_enough wsX8_enough) := goodIn_app (goodIn_3 _ (List.forall_mem_cons.mpr ⟨iw_25_5, List.forall_mem_cons.mpr ⟨iw_25_6, List.forall_mem_cons.mpr ⟨iw_25_7, List.forall_mem_cons.mpr ⟨iw_0_2, fun _ h9 => absurd h9 List.not_mem_nil⟩⟩⟩⟩) (by decide +kernel)) ggL_law_X8_enough
set_option maxRecDepth 20000 in
theorem ggL_law_X9_enough : GoodIn lw_tbl wsX9_enough := goodIn_3 _ (List.forall_mem_cons.mpr ⟨iw_25_21, List.forall_mem_append.mpr ⟨List.forall_mem_cons.mpr ⟨iw_11_5, List.forall_mem_cons.mpr ⟨iw_17_10, List.forall_mem_cons.mpr ⟨iw_4_13, List.forall_mem_cons.mpr ⟨iw_11_11, List.forall_mem_cons.mpr ⟨iw_11_12, List.forall_mem_cons.mpr ⟨iw_0_5, List.forall_mem_cons.mpr ⟨iw_11_13, List.forall_mem_cons.mpr ⟨iw_17_21, List.forall_mem_cons.mpr ⟨iw_17_22, List.forall_mem_cons.mpr ⟨iw_17_23, List.forall_mem_cons.mpr ⟨iw_18_0, List.forall_mem_cons.mpr ⟨iw_18_1, List.forall_mem_cons.mpr ⟨iw_11_6, List.forall_mem_cons.mpr ⟨iw_4_8, List.forall_mem_cons.mpr ⟨iw_4_12, List.forall_mem_cons.mpr ⟨iw_4_5, List.forall_mem_cons.mpr ⟨iw_12_13, List.forall_mem_cons.mpr ⟨iw_12_14, List.forall_mem_cons.mpr ⟨iw_12_15, fun _ h9 => absurd h9 List.not_mem_nil⟩⟩⟩⟩⟩⟩⟩⟩⟩⟩⟩⟩⟩⟩⟩⟩⟩⟩⟩, inX9⟩⟩) (by decide +kernel)
theorem gL_law_X9_enough : GoodIn lw_tbl (wsV RL 82 RX9 yX9_enough wsX9_enough) := goodIn_app (goodIn_3 _ (List.forall_mem_cons.mpr ⟨iw_25_18, List.forall_mem_cons.mpr ⟨iw_25_19, List.forall_mem_cons.mpr ⟨iw_25_20, List.forall_mem_cons.mpr ⟨iw_0_5, fun _ h9 => absurd h9 List.not_mem_nil⟩⟩⟩⟩) (by decide +kernel)) ggL_law_X9_enough
theorem dL_law_664 : decode cL_law 664 = .ok (.aload_n 1, 1) := kop_2b (show kBy cL_law 664 43 from kbyte (k := 640) (j := 24) kbk_640 rfl)
theorem dL_law_665 : decode cL_law 665 = .ok (.aload_n 0, 1) := kop_2a (show kBy cL_law 665 42 from kbyte (k := 640) (j := 25) kbk_640 rfl)
theorem dL_law_666 : decode cL_law 666 = .ok (.iload_n 3, 1) := kop_1d (show kBy cL_law 666 29 from kbyte (k := 640) (j := 26) kbk_640 rfl)
theorem dL_law_667 : decode cL_law 667 = .ok (.iconst 1, 1) := kop_04 (show kBy cL_law 667 4 from kbyte (k := 640) (j := 27) kbk_640 rfl)
theorem dL_law_668 : decode cL_law 668 = .ok (.iadd, 1) := kop_60 (show kBy cL_law 668 96 from kbyte (k := 640) (j := 28) kbk_640 rfl)
theorem dL_law_669 : decode cL_law 669 = .ok (.iaload, 1) := kop_2e (show kBy cL_law 669 46 from kbyte (k := 640) (j := 29) kbk_640 rfl)
theorem dL_law_670 : decode cL_law 670 = .ok (.invokevirtual 83, 3) := kop_b6 (show kBy cL_law 670 182 from kbyte (k := 640) (j := 30) kbk_640 rfl) (show kBy cL_law 671 0 from kbyte (k := 640) (j := 31) kbk_640 rfl) (show kBy cL_law 672 83 from kbyte (k := 640) (j := 32) kbk_640 rfl) (by decide)
theorem dL_law_673 : decode cL_law 673 = .ok (.pop, 1) := kop_57 (show kBy cL_law 673 87 from kbyte (k := 640) (j := 33) kbk_640 rfl)
theorem dL_law_674 : decode cL_law 674 = .ok (.aload_n 2, 1) := kop_2c (show kBy cL_law 674 44 from kbyte (k := 640) (j := 34) kbk_640 rfl)
theorem dL_law_675 : decode cL_law 675 = .ok (.aload_n 0, 1) := kop_2a (show kBy cL_law 675 42 from kbyte (k := 640) (j := 35) kbk_640 rfl)
theorem dL_law_676 : decode cL_law 676 = .ok (.iload_n 3, 1) := kop_1d (show kBy cL_law 676 29 from kbyte (k := 640) (j := 36) kbk_640 rfl)
theorem dL_law_677 : decode cL_law 677 = .ok (.iconst 1, 1) := kop_04 (show kBy cL_law 677 4 from kbyte (k := 640) (j := 37) kbk_640 rfl)
theorem dL_law_678 : decode cL_law 678 = .ok (.iadd, 1) := kop_60 (show kBy cL_law 678 96 from kbyte (k := 640) (j := 38) kbk_640 rfl)
theorem dL_law_679 : decode cL_law 679 = .ok (.iaload, 1) := kop_2e (show kBy cL_law 679 46 from kbyte (k := 640) (j := 39) kbk_640 rfl)
theorem dL_law_680 : decode cL_law 680 = .ok (.invokevirtual 86, 3) := kop_b6 (show kBy cL_law 680 182 from kbyte (k := 640) (j := 40) kbk_640 rfl) (show kBy cL_law 681 0 from kbyte (k := 640) (j := 41) kbk_640 rfl) (show kBy cL_law 682 86 from kbyte (k := 640) (j := 42) kbk_640 rfl) (by decide)
theorem dL_law_683 : decode cL_law 683 = .ok (.pop, 1) := kop_57 (show kBy cL_law 683 87 from kbyte (k := 640) (j := 43) kbk_640 rfl)
theorem dL_law_684 : decode cL_law 684 = .ok (.goto 448, 3) := by decide +kernel
set_option maxRecDepth 20000 in
theorem ggL_law_X8_reading : GoodIn lw_tbl wsX8_reading := goodIn_3 _ (List.forall_mem_cons.mpr ⟨iw_26_1, List.forall_mem_append.mpr ⟨List.forall_mem_append.mpr ⟨List.forall_mem_append.mpr ⟨List.forall_mem_append.mpr ⟨List.forall_mem_cons.mpr ⟨iw_0_23, List.forall_mem_cons.mpr ⟨iw_4_23, List.forall_mem_cons.mpr ⟨iw_1_19, List.forall_mem_cons.mpr ⟨iw_8_12, List.forall_mem_cons.mpr ⟨iw_1_15, List.forall_mem_cons.mpr ⟨iw_5_3, List.forall_mem_cons.mpr ⟨iw_5_4, List.forall_mem_cons.mpr ⟨iw_0_2, List.forall_mem_cons.mpr ⟨iw_5_5, List.forall_mem_cons.mpr ⟨iw_26_2, List.forall_mem_cons.mpr ⟨iw_26_3, List.forall_mem_cons.mpr ⟨iw_26_4, List.forall_mem_cons.mpr ⟨iw_1_18, List.forall_mem_cons.mpr ⟨iw_26_5, List.forall_mem_cons.mpr ⟨iw_26_6, List.forall_mem_cons.mpr ⟨iw_3_17, List.forall_mem_cons.mpr ⟨iw_3_19, List.forall_mem_cons.mpr ⟨iw_26_7, List.forall_mem_cons.mpr ⟨iw_26_8, List.forall_mem_cons.mpr ⟨iw_26_9, List.forall_mem_cons.mpr ⟨iw_1_14, List.forall_mem_cons.mpr ⟨iw_26_10, List.forall_mem_cons.mpr ⟨iw_9_18, List.forall_mem_cons.mpr ⟨iw_3_9, fun _ h9 => absurd h9 List.not_mem_nil⟩⟩⟩⟩⟩⟩⟩⟩⟩⟩⟩⟩⟩⟩⟩⟩⟩⟩⟩⟩⟩⟩⟩⟩, inX8⟩, inX0⟩, inX2⟩, inX4⟩⟩) (by decide +kernel)
theorem gL_law_X8_reading : GoodIn lw_tbl (wsV RL 83 RX8 yX8_reading wsX8_reading) := goodIn_app (goodIn_3 _ (List.forall_mem_cons.mpr ⟨iw_25_22, List.forall_mem_cons.mpr ⟨iw_25_23, List.forall_mem_cons.mpr ⟨iw_26_0, List.forall_mem_cons.mpr ⟨iw_0_2, fun _ h9 => absurd h9 List.not_mem_nil⟩⟩⟩⟩) (by decide +kernel)) ggL_law_X8_reading
set_option maxRecDepth 20000 in
theorem ggL_law_X9_reading : GoodIn lw_tbl wsX9_reading := goodIn_3 _ (List.forall_mem_cons.mpr ⟨iw_26_14, List.forall_mem_append.mpr ⟨List.forall_mem_cons.mpr ⟨iw_11_5, List.forall_mem_cons.mpr ⟨iw_11_7, List.forall_mem_cons.mpr ⟨iw_4_17, List.forall_mem_cons.mpr ⟨iw_11_11, List.forall_mem_cons.mpr ⟨iw_11_12, List.forall_mem_cons.mpr ⟨iw_0_5, List.forall_mem_cons.mpr ⟨iw_11_13, fun _ h9 => absurd h9 List.not_mem_nil⟩⟩⟩⟩⟩⟩⟩, inX9⟩⟩) (by decide +kernel)
theorem gL_law_X9_reading : GoodIn lw_tbl (wsV RL 86 RX9 yX9_reading wsX9_reading) := goodIn_app (goodIn_3 _ (List.forall_mem_cons.mpr ⟨iw_26_11, List.forall_mem_cons.mpr ⟨iw_26_12, List.forall_mem_cons.mpr ⟨iw_26_13, List.forall_mem_cons.mpr ⟨iw_0_5, fun _ h9 => absurd h9 List.not_mem_nil⟩⟩⟩⟩) (by decide +kernel)) ggL_law_X9_reading
theorem dL_law_687 : decode cL_law 687 = .ok (.aload_n 1, 1) := kop_2b (show kBy cL_law 687 43 from kbyte (k := 640) (j := 47) kbk_640 rfl)
theorem dL_law_688 : decode cL_law 688 = .ok (.aload_n 0, 1) := kop_2a (show kBy cL_law 688 42 from kbyte (k := 640) (j := 48) kbk_640 rfl)
theorem dL_law_689 : decode cL_law 689 = .ok (.iload_n 3, 1) := kop_1d (show kBy cL_law 689 29 from kbyte (k := 640) (j := 49) kbk_640 rfl)
theorem dL_law_690 : decode cL_law 690 = .ok (.iconst 1, 1) := kop_04 (show kBy cL_law 690 4 from kbyte (k := 640) (j := 50) kbk_640 rfl)
theorem dL_law_691 : decode cL_law 691 = .ok (.iadd, 1) := kop_60 (show kBy cL_law 691 96 from kbyte (k := 640) (j := 51) kbk_640 rfl)
theorem dL_law_692 : decode cL_law 692 = .ok (.iaload, 1) := kop_2e (show kBy cL_law 692 46 from kbyte (k := 640) (j := 52) kbk_640 rfl)
theorem dL_law_693 : decode cL_law 693 = .ok (.invokevirtual 87, 3) := kop_b6 (show kBy cL_law 693 182 from kbyte (k := 640) (j := 53) kbk_640 rfl) (show kBy cL_law 694 0 from kbyte (k := 640) (j := 54) kbk_640 rfl) (show kBy cL_law 695 87 from kbyte (k := 640) (j := 55) kbk_640 rfl) (by decide)
theorem dL_law_696 : decode cL_law 696 = .ok (.pop, 1) := kop_57 (show kBy cL_law 696 87 from kbyte (k := 640) (j := 56) kbk_640 rfl)
theorem dL_law_697 : decode cL_law 697 = .ok (.aload_n 2, 1) := kop_2c (show kBy cL_law 697 44 from kbyte (k := 640) (j := 57) kbk_640 rfl)
theorem dL_law_698 : decode cL_law 698 = .ok (.aload_n 0, 1) := kop_2a (show kBy cL_law 698 42 from kbyte (k := 640) (j := 58) kbk_640 rfl)
theorem dL_law_699 : decode cL_law 699 = .ok (.iload_n 3, 1) := kop_1d (show kBy cL_law 699 29 from kbyte (k := 640) (j := 59) kbk_640 rfl)
theorem dL_law_700 : decode cL_law 700 = .ok (.iconst 1, 1) := kop_04 (show kBy cL_law 700 4 from kbyte (k := 640) (j := 60) kbk_640 rfl)
theorem dL_law_701 : decode cL_law 701 = .ok (.iadd, 1) := kop_60 (show kBy cL_law 701 96 from kbyte (k := 640) (j := 61) kbk_640 rfl)
theorem dL_law_702 : decode cL_law 702 = .ok (.iaload, 1) := kop_2e (show kBy cL_law 702 46 from kbyte (k := 640) (j := 62) kbk_640 rfl)
theorem dL_law_703 : decode cL_law 703 = .ok (.invokevirtual 90, 3) := kop_b6 (show kBy cL_law 703 182 from kbyte (k := 640) (j := 63) kbk_640 rfl) (show kBy cL_law 704 0 from kbyte (k := 704) (j := 0) kbk_704 rfl) (show kBy cL_law 705 90 from kbyte (k := 704) (j := 1) kbk_704 rfl) (by decide)
theorem dL_law_706 : decode cL_law 706 = .ok (.pop, 1) := kop_57 (show kBy cL_law 706 87 from kbyte (k := 704) (j := 2) kbk_704 rfl)
theorem dL_law_707 : decode cL_law 707 = .ok (.goto 425, 3) := by decide +kernel
set_option maxRecDepth 20000 in
theorem ggL_law_X8_back : GoodIn lw_tbl wsX8_back := goodIn_3 _ (List.forall_mem_cons.mpr ⟨iw_26_18, List.forall_mem_append.mpr ⟨List.forall_mem_append.mpr ⟨List.forall_mem_cons.mpr ⟨iw_1_19, List.forall_mem_cons.mpr ⟨iw_8_12, List.forall_mem_cons.mpr ⟨iw_5_3, List.forall_mem_cons.mpr ⟨iw_5_4, List.forall_mem_cons.mpr ⟨iw_0_2, List.forall_mem_cons.mpr ⟨iw_5_5, fun _ h9 => absurd h9 List.not_mem_nil⟩⟩⟩⟩⟩⟩, inX8⟩, inX2⟩⟩) (by decide +kernel)
theorem gL_law_X8_back : GoodIn lw_tbl (wsV RL 87 RX8 yX8_back wsX8_back) := goodIn_app (goodIn_3 _ (List.forall_mem_cons.mpr ⟨iw_26_15, List.forall_mem_cons.mpr ⟨iw_26_16, List.forall_mem_cons.mpr ⟨iw_26_17, List.forall_mem_cons.mpr ⟨iw_0_2, fun _ h9 => absurd h9 List.not_mem_nil⟩⟩⟩⟩) (by decide +kernel)) ggL_law_X8_back
set_option maxRecDepth 20000 in
theorem ggL_law_X9_back : GoodIn lw_tbl wsX9_back := goodIn_3 _ (List.forall_mem_cons.mpr ⟨iw_26_22, List.forall_mem_append.mpr ⟨List.forall_mem_cons.mpr ⟨iw_11_7, List.forall_mem_cons.mpr ⟨iw_11_11, List.forall_mem_cons.mpr ⟨iw_11_12, List.forall_mem_cons.mpr ⟨iw_0_5, List.forall_mem_cons.mpr ⟨iw_11_13, fun _ h9 => absurd h9 List.not_mem_nil⟩⟩⟩⟩⟩, inX9⟩⟩) (by decide +kernel)
theorem gL_law_X9_back : GoodIn lw_tbl (wsV RL 90 RX9 yX9_back wsX9_back) := goodIn_app (goodIn_3 _ (List.forall_mem_cons.mpr ⟨iw_26_19, List.forall_mem_cons.mpr ⟨iw_26_20, List.forall_mem_cons.mpr ⟨iw_26_21, List.forall_mem_cons.mpr ⟨iw_0_5, fun _ h9 => absurd h9 List.not_mem_nil⟩⟩⟩⟩) (by decide +kernel)) ggL_law_X9_back
theorem dL_law_710 : decode cL_law 710 = .ok (.aload_n 1, 1) := kop_2b (show kBy cL_law 710 43 from kbyte (k := 704) (j := 6) kbk_704 rfl)
theorem dL_law_711 : decode cL_law 711 = .ok (.aload_n 0, 1) := kop_2a (show kBy cL_law 711 42 from kbyte (k := 704) (j := 7) kbk_704 rfl)
theorem dL_law_712 : decode cL_law 712 = .ok (.iload_n 3, 1) := kop_1d (show kBy cL_law 712 29 from kbyte (k := 704) (j := 8) kbk_704 rfl)
theorem dL_law_713 : decode cL_law 713 = .ok (.iconst 1, 1) := kop_04 (show kBy cL_law 713 4 from kbyte (k := 704) (j := 9) kbk_704 rfl)
theorem dL_law_714 : decode cL_law 714 = .ok (.iadd, 1) := kop_60 (show kBy cL_law 714 96 from kbyte (k := 704) (j := 10) kbk_704 rfl)
theorem dL_law_715 : decode cL_law 715 = .ok (.iaload, 1) := kop_2e (show kBy cL_law 715 46 from kbyte (k := 704) (j := 11) kbk_704 rfl)
theorem dL_law_716 : decode cL_law 716 = .ok (.invokevirtual 91, 3) := kop_b6 (show kBy cL_law 716 182 from kbyte (k := 704) (j := 12) kbk_704 rfl) (show kBy cL_law 717 0 from kbyte (k := 704) (j := 13) kbk_704 rfl) (show kBy cL_law 718 91 from kbyte (k := 704) (j := 14) kbk_704 rfl) (by decide)
theorem dL_law_719 : decode cL_law 719 = .ok (.pop, 1) := kop_57 (show kBy cL_law 719 87 from kbyte (k := 704) (j := 15) kbk_704 rfl)
theorem dL_law_720 : decode cL_law 720 = .ok (.aload_n 2, 1) := kop_2c (show kBy cL_law 720 44 from kbyte (k := 704) (j := 16) kbk_704 rfl)
theorem dL_law_721 : decode cL_law 721 = .ok (.aload_n 0, 1) := kop_2a (show kBy cL_law 721 42 from kbyte (k := 704) (j := 17) kbk_704 rfl)
theorem dL_law_722 : decode cL_law 722 = .ok (.iload_n 3, 1) := kop_1d (show kBy cL_law 722 29 from kbyte (k := 704) (j := 18) kbk_704 rfl)
theorem dL_law_723 : decode cL_law 723 = .ok (.iconst 1, 1) := kop_04 (show kBy cL_law 723 4 from kbyte (k := 704) (j := 19) kbk_704 rfl)
theorem dL_law_724 : decode cL_law 724 = .ok (.iadd, 1) := kop_60 (show kBy cL_law 724 96 from kbyte (k := 704) (j := 20) kbk_704 rfl)
theorem dL_law_725 : decode cL_law 725 = .ok (.iaload, 1) := kop_2e (show kBy cL_law 725 46 from kbyte (k := 704) (j := 21) kbk_704 rfl)
theorem dL_law_726 : decode cL_law 726 = .ok (.invokevirtual 94, 3) := kop_b6 (show kBy cL_law 726 182 from kbyte (k := 704) (j := 22) kbk_704 rfl) (show kBy cL_law 727 0 from kbyte (k := 704) (j := 23) kbk_704 rfl) (show kBy cL_law 728 94 from kbyte (k := 704) (j := 24) kbk_704 rfl) (by decide)
theorem dL_law_729 : decode cL_law 729 = .ok (.pop, 1) := kop_57 (show kBy cL_law 729 87 from kbyte (k := 704) (j := 25) kbk_704 rfl)
theorem dL_law_730 : decode cL_law 730 = .ok (.goto 402, 3) := by decide +kernel
set_option maxRecDepth 20000 in
theorem mr_wsX8_kinds_r1 : ∀ w ∈ wsX8_kinds_r1, w ∈ lw_tbl := List.forall_mem_cons.mpr ⟨iw_0_23, List.forall_mem_cons.mpr ⟨iw_1_19, List.forall_mem_cons.mpr ⟨iw_13_0, List.forall_mem_cons.mpr ⟨iw_13_2, List.forall_mem_cons.mpr ⟨iw_7_9, List.forall_mem_cons.mpr ⟨iw_7_10, List.forall_mem_cons.mpr ⟨iw_0_22, List.forall_mem_cons.mpr ⟨iw_7_11, List.forall_mem_cons.mpr ⟨iw_7_12, List.forall_mem_cons.mpr ⟨iw_5_4, List.forall_mem_cons.mpr ⟨iw_0_2, List.forall_mem_cons.mpr ⟨iw_5_5, List.forall_mem_cons.mpr ⟨iw_27_3, List.forall_mem_cons.mpr ⟨iw_13_8, List.forall_mem_cons.mpr ⟨iw_13_9, List.forall_mem_cons.mpr ⟨iw_27_4, List.forall_mem_cons.mpr ⟨iw_27_5, List.forall_mem_cons.mpr ⟨iw_27_6, List.forall_mem_cons.mpr ⟨iw_1_18, List.forall_mem_cons.mpr ⟨iw_27_7, List.forall_mem_cons.mpr ⟨iw_26_6, List.forall_mem_cons.mpr ⟨iw_27_8, List.forall_mem_cons.mpr ⟨iw_3_19, List.forall_mem_cons.mpr ⟨iw_3_17, fun _ h9 => absurd h9 List.not_mem_nil⟩⟩⟩⟩⟩⟩⟩⟩⟩⟩⟩⟩⟩⟩⟩⟩⟩⟩⟩⟩⟩⟩⟩⟩
set_option maxRecDepth 20000 in
theorem mr_wsX8_kinds_r2 : ∀ w ∈ wsX8_kinds_r2, w ∈ lw_tbl := List.forall_mem_cons.mpr ⟨iw_27_9, List.forall_mem_cons.mpr ⟨iw_13_4, List.forall_mem_cons.mpr ⟨iw_13_5, List.forall_mem_cons.mpr ⟨iw_13_6, List.forall_mem_cons.mpr ⟨iw_2_12, List.forall_mem_cons.mpr ⟨iw_2_13, List.forall_mem_cons.mpr ⟨iw_13_7, fun _ h9 => absurd h9 List.not_mem_nil⟩⟩⟩⟩⟩⟩⟩
set_option maxRecDepth 20000 in
theorem mr_wsX9_kinds_r1 : ∀ w ∈ wsX9_kinds_r1, w ∈ lw_tbl := List.forall_mem_cons.mpr ⟨iw_4_3, List.forall_mem_cons.mpr ⟨iw_13_18, List.forall_mem_cons.mpr ⟨iw_13_19, List.forall_mem_cons.mpr ⟨iw_13_20, List.forall_mem_cons.mpr ⟨iw_0_5, List.forall_mem_cons.mpr ⟨iw_13_21, List.forall_mem_cons.mpr ⟨iw_11_5, List.forall_mem_cons.mpr ⟨iw_27_14, List.forall_mem_cons.mpr ⟨iw_27_15, List.forall_mem_cons.mpr ⟨iw_27_16, List.forall_mem_cons.mpr ⟨iw_27_17, List.forall_mem_cons.mpr ⟨iw_11_7, List.forall_mem_cons.mpr ⟨iw_4_17, List.forall_mem_cons.mpr ⟨iw_17_15, List.forall_mem_cons.mpr ⟨iw_17_11, List.forall_mem_cons.mpr ⟨iw_17_12, List.forall_mem_cons.mpr ⟨iw_17_13, List.forall_mem_cons.mpr ⟨iw_17_14, List.forall_mem_cons.mpr ⟨iw_17_16, List.forall_mem_cons.mpr ⟨iw_17_10, List.forall_mem_cons.mpr ⟨iw_4_6, List.forall_mem_cons.mpr ⟨iw_4_15, List.forall_mem_cons.mpr ⟨iw_17_17, List.forall_mem_cons.mpr ⟨iw_17_18, fun _ h9 => absurd h9 List.not_mem_nil⟩⟩⟩⟩⟩⟩⟩⟩⟩⟩⟩⟩⟩⟩⟩⟩⟩⟩⟩⟩⟩⟩⟩⟩
set_option maxRecDepth 20000 in
theorem mr_wsX9_kinds_r2 : ∀ w ∈ wsX9_kinds_r2, w ∈ lw_tbl := List.forall_mem_cons.mpr ⟨iw_17_19, List.forall_mem_cons.mpr ⟨iw_17_20, List.forall_mem_cons.mpr ⟨iw_4_14, List.forall_mem_cons.mpr ⟨iw_17_21, List.forall_mem_cons.mpr ⟨iw_17_22, List.forall_mem_cons.mpr ⟨iw_17_23, List.forall_mem_cons.mpr ⟨iw_18_0, List.forall_mem_cons.mpr ⟨iw_18_1, List.forall_mem_cons.mpr ⟨iw_11_6, List.forall_mem_cons.mpr ⟨iw_4_8, List.forall_mem_cons.mpr ⟨iw_4_12, List.forall_mem_cons.mpr ⟨iw_4_13, List.forall_mem_cons.mpr ⟨iw_4_5, List.forall_mem_cons.mpr ⟨iw_18_2, List.forall_mem_cons.mpr ⟨iw_18_3, List.forall_mem_cons.mpr ⟨iw_18_4, List.forall_mem_cons.mpr ⟨iw_18_5, List.forall_mem_cons.mpr ⟨iw_18_6, List.forall_mem_cons.mpr ⟨iw_18_7, List.forall_mem_cons.mpr ⟨iw_18_8, List.forall_mem_cons.mpr ⟨iw_18_9, List.forall_mem_cons.mpr ⟨iw_12_16, List.forall_mem_cons.mpr ⟨iw_12_17, List.forall_mem_cons.mpr ⟨iw_12_18, fun _ h9 => absurd h9 List.not_mem_nil⟩⟩⟩⟩⟩⟩⟩⟩⟩⟩⟩⟩⟩⟩⟩⟩⟩⟩⟩⟩⟩⟩⟩⟩
set_option maxRecDepth 20000 in
theorem mr_wsX9_kinds_r3 : ∀ w ∈ wsX9_kinds_r3, w ∈ lw_tbl := List.forall_mem_cons.mpr ⟨iw_18_10, List.forall_mem_cons.mpr ⟨iw_18_11, List.forall_mem_cons.mpr ⟨iw_18_12, List.forall_mem_cons.mpr ⟨iw_18_13, List.forall_mem_cons.mpr ⟨iw_13_22, List.forall_mem_cons.mpr ⟨iw_13_23, List.forall_mem_cons.mpr ⟨iw_14_0, List.forall_mem_cons.mpr ⟨iw_14_1, List.forall_mem_cons.mpr ⟨iw_4_4, fun _ h9 => absurd h9 List.not_mem_nil⟩⟩⟩⟩⟩⟩⟩⟩⟩
set_option maxRecDepth 20000 in
theorem ggL_law_X8_kinds : GoodIn lw_tbl wsX8_kinds := goodIn_3 _ (List.forall_mem_cons.mpr ⟨iw_27_2, List.forall_mem_append.mpr ⟨List.forall_mem_append.mpr ⟨List.forall_mem_append.mpr ⟨List.forall_mem_append.mpr ⟨mr_wsX8_kinds_r1, mr_wsX8_kinds_r2⟩, inX8⟩, inX0⟩, inX2⟩⟩) (by decide +kernel)
theorem gL_law_X8_kinds : GoodIn lw_tbl (wsV RL 91 RX8 yX8_kinds wsX8_kinds) := goodIn_app (goodIn_3 _ (List.forall_mem_cons.mpr ⟨iw_26_23, List.forall_mem_cons.mpr ⟨iw_27_0, List.forall_mem_cons.mpr ⟨iw_27_1, List.forall_mem_cons.mpr ⟨iw_0_2, fun _ h9 => absurd h9 List.not_mem_nil⟩⟩⟩⟩) (by decide +kernel)) ggL_law_X8_kinds
set_option maxRecDepth 20000 in
theorem ggL_law_X9_kinds : GoodIn lw_tbl wsX9_kinds := goodIn_3 _ (List.forall_mem_cons.mpr ⟨iw_27_13, List.forall_mem_append.mpr ⟨List.forall_mem_append.mpr ⟨mr_wsX9_kinds_r1, List.forall_mem_append.mpr ⟨mr_wsX9_kinds_r2, mr_wsX9_kinds_r3⟩⟩, inX9⟩⟩) (by decide +kernel)
theorem gL_law_X9_kinds : GoodIn lw_tbl (wsV RL 94 RX9 yX9_kinds wsX9_kinds) := goodIn_app (goodIn_3 _ (List.forall_mem_cons.mpr ⟨iw_27_10, List.forall_mem_cons.mpr ⟨iw_27_11, List.forall_mem_cons.mpr ⟨iw_27_12, List.forall_mem_cons.mpr ⟨iw_0_5, fun _ h9 => absurd h9 List.not_mem_nil⟩⟩⟩⟩) (by decide +kernel)) ggL_law_X9_kinds
theorem dL_law_733 : decode cL_law 733 = .ok (.aload_n 1, 1) := kop_2b (show kBy cL_law 733 43 from kbyte (k := 704) (j := 29) kbk_704 rfl)
theorem dL_law_734 : decode cL_law 734 = .ok (.aload_n 0, 1) := kop_2a (show kBy cL_law 734 42 from kbyte (k := 704) (j := 30) kbk_704 rfl)
theorem dL_law_735 : decode cL_law 735 = .ok (.iload_n 3, 1) := kop_1d (show kBy cL_law 735 29 from kbyte (k := 704) (j := 31) kbk_704 rfl)
theorem dL_law_736 : decode cL_law 736 = .ok (.iconst 1, 1) := kop_04 (show kBy cL_law 736 4 from kbyte (k := 704) (j := 32) kbk_704 rfl)
theorem dL_law_737 : decode cL_law 737 = .ok (.iadd, 1) := kop_60 (show kBy cL_law 737 96 from kbyte (k := 704) (j := 33) kbk_704 rfl)
theorem dL_law_738 : decode cL_law 738 = .ok (.iaload, 1) := kop_2e (show kBy cL_law 738 46 from kbyte (k := 704) (j := 34) kbk_704 rfl)
theorem dL_law_739 : decode cL_law 739 = .ok (.invokevirtual 95, 3) := kop_b6 (show kBy cL_law 739 182 from kbyte (k := 704) (j := 35) kbk_704 rfl) (show kBy cL_law 740 0 from kbyte (k := 704) (j := 36) kbk_704 rfl) (show kBy cL_law 741 95 from kbyte (k := 704) (j := 37) kbk_704 rfl) (by decide)
theorem dL_law_742 : decode cL_law 742 = .ok (.pop, 1) := kop_57 (show kBy cL_law 742 87 from kbyte (k := 704) (j := 38) kbk_704 rfl)
theorem dL_law_743 : decode cL_law 743 = .ok (.aload_n 2, 1) := kop_2c (show kBy cL_law 743 44 from kbyte (k := 704) (j := 39) kbk_704 rfl)
theorem dL_law_744 : decode cL_law 744 = .ok (.aload_n 0, 1) := kop_2a (show kBy cL_law 744 42 from kbyte (k := 704) (j := 40) kbk_704 rfl)
theorem dL_law_745 : decode cL_law 745 = .ok (.iload_n 3, 1) := kop_1d (show kBy cL_law 745 29 from kbyte (k := 704) (j := 41) kbk_704 rfl)
theorem dL_law_746 : decode cL_law 746 = .ok (.iconst 1, 1) := kop_04 (show kBy cL_law 746 4 from kbyte (k := 704) (j := 42) kbk_704 rfl)
theorem dL_law_747 : decode cL_law 747 = .ok (.iadd, 1) := kop_60 (show kBy cL_law 747 96 from kbyte (k := 704) (j := 43) kbk_704 rfl)
theorem dL_law_748 : decode cL_law 748 = .ok (.iaload, 1) := kop_2e (show kBy cL_law 748 46 from kbyte (k := 704) (j := 44) kbk_704 rfl)
theorem dL_law_749 : decode cL_law 749 = .ok (.invokevirtual 98, 3) := kop_b6 (show kBy cL_law 749 182 from kbyte (k := 704) (j := 45) kbk_704 rfl) (show kBy cL_law 750 0 from kbyte (k := 704) (j := 46) kbk_704 rfl) (show kBy cL_law 751 98 from kbyte (k := 704) (j := 47) kbk_704 rfl) (by decide)
theorem dL_law_752 : decode cL_law 752 = .ok (.pop, 1) := kop_57 (show kBy cL_law 752 87 from kbyte (k := 704) (j := 48) kbk_704 rfl)
theorem dL_law_753 : decode cL_law 753 = .ok (.goto 379, 3) := by decide +kernel
set_option maxRecDepth 20000 in
theorem mr_wsX8_widths_r1 : ∀ w ∈ wsX8_widths_r1, w ∈ lw_tbl := List.forall_mem_cons.mpr ⟨iw_0_23, List.forall_mem_cons.mpr ⟨iw_1_19, List.forall_mem_cons.mpr ⟨iw_12_23, List.forall_mem_cons.mpr ⟨iw_13_2, List.forall_mem_cons.mpr ⟨iw_7_9, List.forall_mem_cons.mpr ⟨iw_7_10, List.forall_mem_cons.mpr ⟨iw_0_22, List.forall_mem_cons.mpr ⟨iw_7_11, List.forall_mem_cons.mpr ⟨iw_7_12, List.forall_mem_cons.mpr ⟨iw_5_4, List.forall_mem_cons.mpr ⟨iw_0_2, List.forall_mem_cons.mpr ⟨iw_5_5, List.forall_mem_cons.mpr ⟨iw_27_3, List.forall_mem_cons.mpr ⟨iw_13_8, List.forall_mem_cons.mpr ⟨iw_13_9, List.forall_mem_cons.mpr ⟨iw_27_4, List.forall_mem_cons.mpr ⟨iw_27_5, List.forall_mem_cons.mpr ⟨iw_27_6, List.forall_mem_cons.mpr ⟨iw_1_18, List.forall_mem_cons.mpr ⟨iw_27_7, List.forall_mem_cons.mpr ⟨iw_26_6, List.forall_mem_cons.mpr ⟨iw_27_8, List.forall_mem_cons.mpr ⟨iw_3_19, List.forall_mem_cons.mpr ⟨iw_3_17, fun _ h9 => absurd h9 List.not_mem_nil⟩⟩⟩⟩⟩⟩⟩⟩⟩⟩⟩⟩⟩⟩⟩⟩⟩⟩⟩⟩⟩⟩⟩⟩
set_option maxRecDepth 20000 in
theorem mr_wsX8_widths_r2 : ∀ w ∈ wsX8_widths_r2, w ∈ lw_tbl := List.forall_mem_cons.mpr ⟨iw_27_9, List.forall_mem_cons.mpr ⟨iw_13_4, List.forall_mem_cons.mpr ⟨iw_13_5, List.forall_mem_cons.mpr ⟨iw_13_6, List.forall_mem_cons.mpr ⟨iw_2_12, List.forall_mem_cons.mpr ⟨iw_2_13, List.forall_mem_cons.mpr ⟨iw_13_7, fun _ h9 => absurd h9 List.not_mem_nil⟩⟩⟩⟩⟩⟩⟩
set_option maxRecDepth 20000 in
theorem mr_wsX9_widths_r1 : ∀ w ∈ wsX9_widths_r1, w ∈ lw_tbl := List.forall_mem_cons.mpr ⟨iw_4_4, List.forall_mem_cons.mpr ⟨iw_13_18, List.forall_mem_cons.mpr ⟨iw_13_19, List.forall_mem_cons.mpr ⟨iw_13_20, List.forall_mem_cons.mpr ⟨iw_0_5, List.forall_mem_cons.mpr ⟨iw_13_21, List.forall_mem_cons.mpr ⟨iw_11_5, List.forall_mem_cons.mpr ⟨iw_27_14, List.forall_mem_cons.mpr ⟨iw_27_15, List.forall_mem_cons.mpr ⟨iw_27_16, List.forall_mem_cons.mpr ⟨iw_27_17, List.forall_mem_cons.mpr ⟨iw_11_7, List.forall_mem_cons.mpr ⟨iw_4_17, List.forall_mem_cons.mpr ⟨iw_17_15, List.forall_mem_cons.mpr ⟨iw_17_11, List.forall_mem_cons.mpr ⟨iw_17_12, List.forall_mem_cons.mpr ⟨iw_17_13, List.forall_mem_cons.mpr ⟨iw_17_14, List.forall_mem_cons.mpr ⟨iw_17_16, List.forall_mem_cons.mpr ⟨iw_17_10, List.forall_mem_cons.mpr ⟨iw_4_6, List.forall_mem_cons.mpr ⟨iw_4_15, List.forall_mem_cons.mpr ⟨iw_17_17, List.forall_mem_cons.mpr ⟨iw_17_18, fun _ h9 => absurd h9 List.not_mem_nil⟩⟩⟩⟩⟩⟩⟩⟩⟩⟩⟩⟩⟩⟩⟩⟩⟩⟩⟩⟩⟩⟩⟩⟩
set_option maxRecDepth 20000 in
theorem mr_wsX9_widths_r2 : ∀ w ∈ wsX9_widths_r2, w ∈ lw_tbl := List.forall_mem_cons.mpr ⟨iw_17_19, List.forall_mem_cons.mpr ⟨iw_17_20, List.forall_mem_cons.mpr ⟨iw_4_14, List.forall_mem_cons.mpr ⟨iw_17_21, List.forall_mem_cons.mpr ⟨iw_17_22, List.forall_mem_cons.mpr ⟨iw_17_23, List.forall_mem_cons.mpr ⟨iw_18_0, List.forall_mem_cons.mpr ⟨iw_18_1, List.forall_mem_cons.mpr ⟨iw_11_6, List.forall_mem_cons.mpr ⟨iw_4_8, List.forall_mem_cons.mpr ⟨iw_4_12, List.forall_mem_cons.mpr ⟨iw_4_13, List.forall_mem_cons.mpr ⟨iw_4_5, List.forall_mem_cons.mpr ⟨iw_18_2, List.forall_mem_cons.mpr ⟨iw_18_3, List.forall_mem_cons.mpr ⟨iw_18_4, List.forall_mem_cons.mpr ⟨iw_18_5, List.forall_mem_cons.mpr ⟨iw_18_6, List.forall_mem_cons.mpr ⟨iw_18_7, List.forall_mem_cons.mpr ⟨iw_18_8, List.forall_mem_cons.mpr ⟨iw_18_9, List.forall_mem_cons.mpr ⟨iw_12_16, List.forall_mem_cons.mpr ⟨iw_12_17, List.forall_mem_cons.mpr ⟨iw_12_18, fun _ h9 => absurd h9 List.not_mem_nil⟩⟩⟩⟩⟩⟩⟩⟩⟩⟩⟩⟩⟩⟩⟩⟩⟩⟩⟩⟩⟩⟩⟩⟩
set_option maxRecDepth 20000 in
theorem mr_wsX9_widths_r3 : ∀ w ∈ wsX9_widths_r3, w ∈ lw_tbl := List.forall_mem_cons.mpr ⟨iw_18_10, List.forall_mem_cons.mpr ⟨iw_18_11, List.forall_mem_cons.mpr ⟨iw_18_12, List.forall_mem_cons.mpr ⟨iw_18_13, List.forall_mem_cons.mpr ⟨iw_13_22, List.forall_mem_cons.mpr ⟨iw_13_23, List.forall_mem_cons.mpr ⟨iw_14_0, List.forall_mem_cons.mpr ⟨iw_14_1, List.forall_mem_cons.mpr ⟨iw_4_3, fun _ h9 => absurd h9 List.not_mem_nil⟩⟩⟩⟩⟩⟩⟩⟩⟩
set_option maxRecDepth 20000 in
theorem ggL_law_X8_widths : GoodIn lw_tbl wsX8_widths := goodIn_3 _ (List.forall_mem_cons.mpr ⟨iw_27_21, List.forall_mem_append.mpr ⟨List.forall_mem_append.mpr ⟨List.forall_mem_append.mpr ⟨List.forall_mem_append.mpr ⟨mr_wsX8_widths_r1, mr_wsX8_widths_r2⟩, inX8⟩, inX0⟩, inX2⟩⟩) (by decide +kernel)
theorem gL_law_X8_widths : GoodIn lw_tbl (wsV RL 95 RX8 yX8_widths wsX8_widths) := goodIn_app (goodIn_3 _ (List.forall_mem_cons.mpr ⟨iw_27_18, List.forall_mem_cons.mpr ⟨iw_27_19, List.forall_mem_cons.mpr ⟨iw_27_20, List.forall_mem_cons.mpr ⟨iw_0_2, fun _ h9 => absurd h9 List.not_mem_nil⟩⟩⟩⟩) (by decide +kernel)) ggL_law_X8_widths
set_option maxRecDepth 20000 in
theorem ggL_law_X9_widths : GoodIn lw_tbl wsX9_widths := goodIn_3 _ (List.forall_mem_cons.mpr ⟨iw_28_1, List.forall_mem_append.mpr ⟨List.forall_mem_append.mpr ⟨mr_wsX9_widths_r1, List.forall_mem_append.mpr ⟨mr_wsX9_widths_r2, mr_wsX9_widths_r3⟩⟩, inX9⟩⟩) (by decide +kernel)
theorem gL_law_X9_widths : GoodIn lw_tbl (wsV RL 98 RX9 yX9_widths wsX9_widths) := goodIn_app (goodIn_3 _ (List.forall_mem_cons.mpr ⟨iw_27_22, List.forall_mem_cons.mpr ⟨iw_27_23, List.forall_mem_cons.mpr ⟨iw_28_0, List.forall_mem_cons.mpr ⟨iw_0_5, fun _ h9 => absurd h9 List.not_mem_nil⟩⟩⟩⟩) (by decide +kernel)) ggL_law_X9_widths
