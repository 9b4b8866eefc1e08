def kBy (c : ByteArray) (p : Nat) (b : UInt8) : Prop := ∃ h : p < c.size, c[p]'h = b
theorem kbyte {c : ByteArray} {k j : Nat} {l : List UInt8} {b : UInt8} (h : (c.data.toList.drop k).take 64 = l) (hj : l[j]? = some b) : kBy c (k + j) b := by
  have h1 : ((c.data.toList.drop k).take 64)[j]? = some b := by rw [h]; exact hj
  rw [List.getElem?_take] at h1
  split at h1
  · rw [List.getElem?_drop] at h1
    have h3 : c.data[k + j]? = some b := by rw [← Array.getElem?_toList]; exact h1
    obtain ⟨hs, hb⟩ := Array.getElem?_eq_some_iff.mp h3
    exact ⟨hs, hb⟩
  · cases h1
theorem ku1 {c : ByteArray} {p n : Nat} {b : UInt8} (h : kBy c p b) (hn : b.toNat = n) : (Jvm.ClassFile.Reader.u1 : Jvm.ClassFile.Decoder Nat) c p = .ok (n, p + 1) := by
  obtain ⟨hs, hb⟩ := h
  subst hn
  subst hb
  show ((dite (p < c.size) (fun h => (do set (p + 1); pure c[p].toNat : Jvm.ClassFile.Decoder Nat)) (fun _ => throw (Jvm.ClassFile.HasTruncated.truncated p)) : Jvm.ClassFile.Decoder Nat) c p) = _
  rw [dif_pos hs]
  rfl
theorem kbind {α β : Type} {r : Jvm.ClassFile.Decoder α} {K : α → Jvm.ClassFile.Decoder β} {c : ByteArray} {p q : Nat} {x : α} (e : r c p = .ok (x, q)) : (bind r K : Jvm.ClassFile.Decoder β) c p = K x c q := by
  show Except.bind (r c p) _ = _
  rw [e]
  rfl
set_option maxRecDepth 100000 in
theorem kop_2a {c : ByteArray} {pc : Nat} (h : kBy c pc 42) : decode c pc = .ok (.aload_n 0, 1) := by
  have e := ku1 (n := 42) h (by decide)
  have q : (Jvm.ClassFile.Decoder.instr pc).runAt c pc = .ok (.aload_n 0, pc + 1) := by
    unfold Jvm.ClassFile.Reader.runAt
    show Jvm.ClassFile.Decoder.instr pc c pc = _
    unfold Jvm.ClassFile.Decoder.instr
    exact (kbind e).trans rfl
  unfold Jvm.ClassFile.decode
  rw [q]
  show Except.ok (_, pc + 1 - pc) = _
  rw [Nat.add_sub_cancel_left]
set_option maxRecDepth 100000 in
theorem kop_2b {c : ByteArray} {pc : Nat} (h : kBy c pc 43) : decode c pc = .ok (.aload_n 1, 1) := by
  have e := ku1 (n := 43) h (by decide)
  have q : (Jvm.ClassFile.Decoder.instr pc).runAt c pc = .ok (.aload_n 1, pc + 1) := by
    unfold Jvm.ClassFile.Reader.runAt
    show Jvm.ClassFile.Decoder.instr pc c pc = _
    unfold Jvm.ClassFile.Decoder.instr
    exact (kbind e).trans rfl
  unfold Jvm.ClassFile.decode
  rw [q]
  show Except.ok (_, pc + 1 - pc) = _
  rw [Nat.add_sub_cancel_left]
set_option maxRecDepth 100000 in
theorem kop_2c {c : ByteArray} {pc : Nat} (h : kBy c pc 44) : decode c pc = .ok (.aload_n 2, 1) := by
  have e := ku1 (n := 44) h (by decide)
  have q : (Jvm.ClassFile.Decoder.instr pc).runAt c pc = .ok (.aload_n 2, pc + 1) := by
    unfold Jvm.ClassFile.Reader.runAt
    show Jvm.ClassFile.Decoder.instr pc c pc = _
    unfold Jvm.ClassFile.Decoder.instr
    exact (kbind e).trans rfl
  unfold Jvm.ClassFile.decode
  rw [q]
  show Except.ok (_, pc + 1 - pc) = _
  rw [Nat.add_sub_cancel_left]
set_option maxRecDepth 100000 in
theorem kop_1d {c : ByteArray} {pc : Nat} (h : kBy c pc 29) : decode c pc = .ok (.iload_n 3, 1) := by
  have e := ku1 (n := 29) h (by decide)
  have q : (Jvm.ClassFile.Decoder.instr pc).runAt c pc = .ok (.iload_n 3, pc + 1) := by
    unfold Jvm.ClassFile.Reader.runAt
    show Jvm.ClassFile.Decoder.instr pc c pc = _
    unfold Jvm.ClassFile.Decoder.instr
    exact (kbind e).trans rfl
  unfold Jvm.ClassFile.decode
  rw [q]
  show Except.ok (_, pc + 1 - pc) = _
  rw [Nat.add_sub_cancel_left]
set_option maxRecDepth 100000 in
theorem kop_60 {c : ByteArray} {pc : Nat} (h : kBy c pc 96) : decode c pc = .ok (.iadd, 1) := by
  have e := ku1 (n := 96) h (by decide)
  have q : (Jvm.ClassFile.Decoder.instr pc).runAt c pc = .ok (.iadd, pc + 1) := by
    unfold Jvm.ClassFile.Reader.runAt
    show Jvm.ClassFile.Decoder.instr pc c pc = _
    unfold Jvm.ClassFile.Decoder.instr
    exact (kbind e).trans rfl
  unfold Jvm.ClassFile.decode
  rw [q]
  show Except.ok (_, pc + 1 - pc) = _
  rw [Nat.add_sub_cancel_left]
set_option maxRecDepth 100000 in
theorem kop_2e {c : ByteArray} {pc : Nat} (h : kBy c pc 46) : decode c pc = .ok (.iaload, 1) := by
  have e := ku1 (n := 46) h (by decide)
  have q : (Jvm.ClassFile.Decoder.instr pc).runAt c pc = .ok (.iaload, pc + 1) := by
    unfold Jvm.ClassFile.Reader.runAt
    show Jvm.ClassFile.Decoder.instr pc c pc = _
    unfold Jvm.ClassFile.Decoder.instr
    exact (kbind e).trans rfl
  unfold Jvm.ClassFile.decode
  rw [q]
  show Except.ok (_, pc + 1 - pc) = _
  rw [Nat.add_sub_cancel_left]
set_option maxRecDepth 100000 in
theorem kop_57 {c : ByteArray} {pc : Nat} (h : kBy c pc 87) : decode c pc = .ok (.pop, 1) := by
  have e := ku1 (n := 87) h (by decide)
  have q : (Jvm.ClassFile.Decoder.instr pc).runAt c pc = .ok (.pop, pc + 1) := by
    unfold Jvm.ClassFile.Reader.runAt
    show Jvm.ClassFile.Decoder.instr pc c pc = _
    unfold Jvm.ClassFile.Decoder.instr
    exact (kbind e).trans rfl
  unfold Jvm.ClassFile.decode
  rw [q]
  show Except.ok (_, pc + 1 - pc) = _
  rw [Nat.add_sub_cancel_left]
set_option maxRecDepth 100000 in
theorem kop_58 {c : ByteArray} {pc : Nat} (h : kBy c pc 88) : decode c pc = .ok (.pop2, 1) := by
  have e := ku1 (n := 88) h (by decide)
  have q : (Jvm.ClassFile.Decoder.instr pc).runAt c pc = .ok (.pop2, pc + 1) := by
    unfold Jvm.ClassFile.Reader.runAt
    show Jvm.ClassFile.Decoder.instr pc c pc = _
    unfold Jvm.ClassFile.Decoder.instr
    exact (kbind e).trans rfl
  unfold Jvm.ClassFile.decode
  rw [q]
  show Except.ok (_, pc + 1 - pc) = _
  rw [Nat.add_sub_cancel_left]
set_option maxRecDepth 100000 in
theorem kop_04 {c : ByteArray} {pc : Nat} (h : kBy c pc 4) : decode c pc = .ok (.iconst 1, 1) := by
  have e := ku1 (n := 4) h (by decide)
  have q : (Jvm.ClassFile.Decoder.instr pc).runAt c pc = .ok (.iconst 1, pc + 1) := by
    unfold Jvm.ClassFile.Reader.runAt
    show Jvm.ClassFile.Decoder.instr pc c pc = _
    unfold Jvm.ClassFile.Decoder.instr
    exact (kbind e).trans rfl
  unfold Jvm.ClassFile.decode
  rw [q]
  show Except.ok (_, pc + 1 - pc) = _
  rw [Nat.add_sub_cancel_left]
set_option maxRecDepth 100000 in
theorem kop_05 {c : ByteArray} {pc : Nat} (h : kBy c pc 5) : decode c pc = .ok (.iconst 2, 1) := by
  have e := ku1 (n := 5) h (by decide)
  have q : (Jvm.ClassFile.Decoder.instr pc).runAt c pc = .ok (.iconst 2, pc + 1) := by
    unfold Jvm.ClassFile.Reader.runAt
    show Jvm.ClassFile.Decoder.instr pc c pc = _
    unfold Jvm.ClassFile.Decoder.instr
    exact (kbind e).trans rfl
  unfold Jvm.ClassFile.decode
  rw [q]
  show Except.ok (_, pc + 1 - pc) = _
  rw [Nat.add_sub_cancel_left]
set_option maxRecDepth 100000 in
theorem kop_06 {c : ByteArray} {pc : Nat} (h : kBy c pc 6) : decode c pc = .ok (.iconst 3, 1) := by
  have e := ku1 (n := 6) h (by decide)
  have q : (Jvm.ClassFile.Decoder.instr pc).runAt c pc = .ok (.iconst 3, pc + 1) := by
    unfold Jvm.ClassFile.Reader.runAt
    show Jvm.ClassFile.Decoder.instr pc c pc = _
    unfold Jvm.ClassFile.Decoder.instr
    exact (kbind e).trans rfl
  unfold Jvm.ClassFile.decode
  rw [q]
  show Except.ok (_, pc + 1 - pc) = _
  rw [Nat.add_sub_cancel_left]
set_option maxRecDepth 100000 in
theorem kop_07 {c : ByteArray} {pc : Nat} (h : kBy c pc 7) : decode c pc = .ok (.iconst 4, 1) := by
  have e := ku1 (n := 7) h (by decide)
  have q : (Jvm.ClassFile.Decoder.instr pc).runAt c pc = .ok (.iconst 4, pc + 1) := by
    unfold Jvm.ClassFile.Reader.runAt
    show Jvm.ClassFile.Decoder.instr pc c pc = _
    unfold Jvm.ClassFile.Decoder.instr
    exact (kbind e).trans rfl
  unfold Jvm.ClassFile.decode
  rw [q]
  show Except.ok (_, pc + 1 - pc) = _
  rw [Nat.add_sub_cancel_left]
set_option maxRecDepth 100000 in
theorem kop_08 {c : ByteArray} {pc : Nat} (h : kBy c pc 8) : decode c pc = .ok (.iconst 5, 1) := by
  have e := ku1 (n := 8) h (by decide)
  have q : (Jvm.ClassFile.Decoder.instr pc).runAt c pc = .ok (.iconst 5, pc + 1) := by
    unfold Jvm.ClassFile.Reader.runAt
    show Jvm.ClassFile.Decoder.instr pc c pc = _
    unfold Jvm.ClassFile.Decoder.instr
    exact (kbind e).trans rfl
  unfold Jvm.ClassFile.decode
  rw [q]
  show Except.ok (_, pc + 1 - pc) = _
  rw [Nat.add_sub_cancel_left]
theorem ku2 {c : ByteArray} {p n : Nat} {hi lo : UInt8} (h1 : kBy c p hi) (h2 : kBy c (p + 1) lo) (hn : hi.toNat * 256 + lo.toNat = n) : (Jvm.ClassFile.Reader.u2 : Jvm.ClassFile.Decoder Nat) c p = .ok (n, p + 1 + 1) := by
  subst hn
  unfold Jvm.ClassFile.Reader.u2
  exact (kbind (ku1 h1 rfl)).trans ((kbind (ku1 h2 rfl)).trans rfl)
set_option maxRecDepth 100000 in
theorem kop_b6 {c : ByteArray} {pc n : Nat} {hi lo : UInt8} (h : kBy c pc 182) (h1 : kBy c (pc + 1) hi) (h2 : kBy c (pc + 1 + 1) lo) (hn : hi.toNat * 256 + lo.toNat = n) : decode c pc = .ok (.invokevirtual n, 3) := by
  have e := ku1 (n := 182) h (by decide)
  have e2 := ku2 h1 h2 hn
  have q : (Jvm.ClassFile.Decoder.instr pc).runAt c pc = .ok (.invokevirtual n, pc + 1 + 1 + 1) := by
    unfold Jvm.ClassFile.Reader.runAt
    show Jvm.ClassFile.Decoder.instr pc c pc = _
    unfold Jvm.ClassFile.Decoder.instr
    refine (kbind e).trans ?_
    show (bind Jvm.ClassFile.Reader.u2 (fun x => pure (.invokevirtual x)) : Jvm.ClassFile.Decoder Jvm.ClassFile.Instr) c (pc + 1) = _
    exact (kbind e2).trans rfl
  unfold Jvm.ClassFile.decode
  rw [q]
  show Except.ok (_, pc + 1 + 1 + 1 - pc) = _
  rw [show pc + 1 + 1 + 1 - pc = 3 by omega]
theorem kbk_0 : (cL_law.data.toList.drop 0).take 64 = ([187, 0, 7, 89, 183, 0, 9, 76, 187, 0, 10, 89, 183, 0, 12, 77, 3, 62, 29, 42, 190, 16, 6, 100, 163, 4, 90, 42, 29, 46, 16, 31, 126, 170, 0, 0, 0, 0, 4, 75, 0, 0, 0, 0, 0, 0, 0, 31, 0, 0, 0, 143, 0, 0, 0, 196, 0, 0, 0, 229, 0, 0, 1, 6] : List UInt8) := by decide +kernel
theorem kbk_64 : (cL_law.data.toList.drop 64).take 64 = ([0, 0, 1, 59, 0, 0, 1, 82, 0, 0, 1, 105, 0, 0, 1, 138, 0, 0, 1, 171, 0, 0, 1, 194, 0, 0, 1, 217, 0, 0, 1, 230, 0, 0, 1, 243, 0, 0, 2, 50, 0, 0, 2, 73, 0, 0, 2, 96, 0, 0, 2, 119, 0, 0, 2, 142, 0, 0, 2, 165, 0, 0, 2, 188] : List UInt8) := by decide +kernel
theorem kbk_128 : (cL_law.data.toList.drop 128).take 64 = ([0, 0, 2, 211, 0, 0, 2, 244, 0, 0, 3, 31, 0, 0, 3, 54, 0, 0, 3, 97, 0, 0, 3, 140, 0, 0, 3, 203, 0, 0, 3, 226, 0, 0, 3, 249, 0, 0, 4, 26, 0, 0, 4, 39, 0, 0, 4, 52, 43, 42, 29, 4, 96, 46, 42, 29, 5, 96, 46, 42, 29, 6, 96, 46] : List UInt8) := by decide +kernel
theorem kbk_192 : (cL_law.data.toList.drop 192).take 64 = ([42, 29, 7, 96, 46, 182, 0, 13, 87, 44, 42, 29, 4, 96, 46, 42, 29, 5, 96, 46, 42, 29, 6, 96, 46, 42, 29, 7, 96, 46, 182, 0, 17, 87, 167, 3, 138, 43, 42, 29, 4, 96, 46, 42, 29, 5, 96, 46, 182, 0, 18, 87, 44, 42, 29, 4, 96, 46, 42, 29, 5, 96, 46, 182] : List UInt8) := by decide +kernel
theorem kbk_256 : (cL_law.data.toList.drop 256).take 64 = ([0, 22, 87, 167, 3, 105, 43, 42, 29, 4, 96, 46, 42, 29, 5, 96, 46, 182, 0, 23, 87, 44, 42, 29, 4, 96, 46, 42, 29, 5, 96, 46, 182, 0, 26, 87, 167, 3, 72, 43, 42, 29, 4, 96, 46, 42, 29, 5, 96, 46, 42, 29, 6, 96, 46, 42, 29, 7, 96, 46, 182, 0, 27, 87] : List UInt8) := by decide +kernel
theorem kbk_320 : (cL_law.data.toList.drop 320).take 64 = ([44, 42, 29, 4, 96, 46, 42, 29, 5, 96, 46, 42, 29, 6, 96, 46, 42, 29, 7, 96, 46, 182, 0, 30, 87, 167, 3, 19, 43, 42, 29, 4, 96, 46, 182, 0, 31, 87, 44, 42, 29, 4, 96, 46, 182, 0, 35, 87, 167, 2, 252, 43, 42, 29, 4, 96, 46, 182, 0, 36, 87, 44, 42, 29] : List UInt8) := by decide +kernel
theorem kbk_384 : (cL_law.data.toList.drop 384).take 64 = ([4, 96, 46, 182, 0, 39, 87, 167, 2, 229, 43, 42, 29, 4, 96, 46, 42, 29, 5, 96, 46, 182, 0, 40, 87, 44, 42, 29, 4, 96, 46, 42, 29, 5, 96, 46, 182, 0, 43, 87, 167, 2, 196, 43, 42, 29, 4, 96, 46, 42, 29, 5, 96, 46, 182, 0, 44, 87, 44, 42, 29, 4, 96, 46] : List UInt8) := by decide +kernel
theorem kbk_448 : (cL_law.data.toList.drop 448).take 64 = ([42, 29, 5, 96, 46, 182, 0, 47, 87, 167, 2, 163, 43, 42, 29, 4, 96, 46, 182, 0, 48, 87, 44, 42, 29, 4, 96, 46, 182, 0, 51, 87, 167, 2, 140, 43, 42, 29, 4, 96, 46, 182, 0, 52, 87, 44, 42, 29, 4, 96, 46, 182, 0, 55, 87, 167, 2, 117, 43, 182, 0, 56, 87, 44] : List UInt8) := by decide +kernel
theorem kbk_512 : (cL_law.data.toList.drop 512).take 64 = ([182, 0, 60, 87, 167, 2, 104, 43, 182, 0, 61, 88, 44, 182, 0, 65, 88, 167, 2, 91, 43, 42, 29, 4, 96, 46, 42, 29, 5, 96, 46, 42, 29, 6, 96, 46, 42, 29, 7, 96, 46, 42, 29, 8, 96, 46, 182, 0, 66, 87, 44, 42, 29, 4, 96, 46, 42, 29, 5, 96, 46, 42, 29, 6] : List UInt8) := by decide +kernel
theorem kbk_576 : (cL_law.data.toList.drop 576).take 64 = ([96, 46, 42, 29, 7, 96, 46, 42, 29, 8, 96, 46, 182, 0, 70, 87, 167, 2, 28, 43, 42, 29, 4, 96, 46, 182, 0, 71, 44, 42, 29, 4, 96, 46, 182, 0, 74, 159, 2, 7, 3, 172, 43, 42, 29, 4, 96, 46, 182, 0, 75, 87, 44, 42, 29, 4, 96, 46, 182, 0, 78, 87, 167, 1] : List UInt8) := by decide +kernel
theorem kbk_640 : (cL_law.data.toList.drop 640).take 64 = ([238, 43, 42, 29, 4, 96, 46, 182, 0, 79, 87, 44, 42, 29, 4, 96, 46, 182, 0, 82, 87, 167, 1, 215, 43, 42, 29, 4, 96, 46, 182, 0, 83, 87, 44, 42, 29, 4, 96, 46, 182, 0, 86, 87, 167, 1, 192, 43, 42, 29, 4, 96, 46, 182, 0, 87, 87, 44, 42, 29, 4, 96, 46, 182] : List UInt8) := by decide +kernel
theorem kbk_704 : (cL_law.data.toList.drop 704).take 64 = ([0, 90, 87, 167, 1, 169, 43, 42, 29, 4, 96, 46, 182, 0, 91, 87, 44, 42, 29, 4, 96, 46, 182, 0, 94, 87, 167, 1, 146, 43, 42, 29, 4, 96, 46, 182, 0, 95, 87, 44, 42, 29, 4, 96, 46, 182, 0, 98, 87, 167, 1, 123, 43, 42, 29, 4, 96, 46, 42, 29, 5, 96, 46, 182] : List UInt8) := by decide +kernel
theorem kbk_768 : (cL_law.data.toList.drop 768).take 64 = ([0, 99, 88, 44, 42, 29, 4, 96, 46, 42, 29, 5, 96, 46, 182, 0, 103, 88, 167, 1, 90, 43, 42, 29, 4, 96, 46, 42, 29, 5, 96, 46, 42, 29, 6, 96, 46, 182, 0, 104, 87, 44, 42, 29, 4, 96, 46, 42, 29, 5, 96, 46, 42, 29, 6, 96, 46, 182, 0, 108, 87, 167, 1, 47] : List UInt8) := by decide +kernel
theorem kbk_832 : (cL_law.data.toList.drop 832).take 64 = ([43, 42, 29, 4, 96, 46, 182, 0, 109, 87, 44, 42, 29, 4, 96, 46, 182, 0, 112, 87, 167, 1, 24, 43, 42, 29, 4, 96, 46, 42, 29, 5, 96, 46, 42, 29, 6, 96, 46, 182, 0, 113, 87, 44, 42, 29, 4, 96, 46, 42, 29, 5, 96, 46, 42, 29, 6, 96, 46, 182, 0, 116, 87, 167] : List UInt8) := by decide +kernel
theorem kbk_896 : (cL_law.data.toList.drop 896).take 64 = ([0, 237, 43, 42, 29, 4, 96, 46, 42, 29, 5, 96, 46, 42, 29, 6, 96, 46, 182, 0, 117, 88, 44, 42, 29, 4, 96, 46, 42, 29, 5, 96, 46, 42, 29, 6, 96, 46, 182, 0, 121, 88, 167, 0, 194, 43, 42, 29, 4, 96, 46, 42, 29, 5, 96, 46, 42, 29, 6, 96, 46, 42, 29, 7] : List UInt8) := by decide +kernel
theorem kbk_960 : (cL_law.data.toList.drop 960).take 64 = ([96, 46, 42, 29, 8, 96, 46, 182, 0, 122, 87, 44, 42, 29, 4, 96, 46, 42, 29, 5, 96, 46, 42, 29, 6, 96, 46, 42, 29, 7, 96, 46, 42, 29, 8, 96, 46, 182, 0, 125, 87, 167, 0, 131, 43, 42, 29, 4, 96, 46, 182, 0, 126, 87, 44, 42, 29, 4, 96, 46, 182, 0, 129, 87] : List UInt8) := by decide +kernel
theorem kbk_1024 : (cL_law.data.toList.drop 1024).take 64 = ([167, 0, 108, 43, 42, 29, 4, 96, 46, 182, 0, 130, 87, 44, 42, 29, 4, 96, 46, 182, 0, 133, 87, 167, 0, 85, 43, 42, 29, 4, 96, 46, 42, 29, 5, 96, 46, 182, 0, 134, 87, 44, 42, 29, 4, 96, 46, 42, 29, 5, 96, 46, 182, 0, 137, 87, 167, 0, 52, 43, 182, 0, 138, 87] : List UInt8) := by decide +kernel
theorem kbk_1088 : (cL_law.data.toList.drop 1088).take 64 = ([44, 182, 0, 141, 87, 167, 0, 39, 43, 182, 0, 142, 87, 44, 182, 0, 145, 87, 167, 0, 26, 43, 42, 29, 4, 96, 46, 182, 0, 146, 87, 44, 42, 29, 4, 96, 46, 182, 0, 149, 87, 167, 0, 3, 132, 3, 6, 167, 251, 163, 4, 172] : List UInt8) := by decide +kernel
