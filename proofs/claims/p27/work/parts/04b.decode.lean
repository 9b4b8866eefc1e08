def kbs (c : ByteArray) : List Nat := c.data.toList.map UInt8.toNat
def kBeg : List Nat → List Nat → Bool
  | _, [] => true
  | [], _ :: _ => false
  | a :: l, b :: r => Nat.beq a b && kBeg l r
def kAtB (l : List Nat) (p : Nat) (bs : List Nat) : Bool := kBeg (l.drop p) bs
theorem kBeg_0 {l bs : List Nat} {b : Nat} (h : kBeg l (b :: bs) = true) : l[0]? = some b ∧ kBeg (l.drop 1) bs = true := by
  cases l with
  | nil => cases h
  | cons a r =>
    have q : (Nat.beq a b && kBeg r bs) = true := h
    rw [Bool.and_eq_true] at q
    exact ⟨by rw [Nat.eq_of_beq_eq_true q.1]; rfl, q.2⟩
theorem kAtB_s {bs : List Nat} {b : Nat} (p : Nat) (l : List Nat) (h : kAtB l p (b :: bs) = true) : l[p]? = some b ∧ kAtB l (p + 1) bs = true := by
  have q := kBeg_0 (show kBeg (l.drop p) (b :: bs) = true from h)
  rw [List.getElem?_drop, List.drop_drop] at q
  exact q
theorem kq1 {c : ByteArray} {p n : Nat} (h : (kbs c)[p]? = some n) : (Jvm.ClassFile.Reader.u1 : Jvm.ClassFile.Decoder Nat) c p = .ok (n, p + 1) := by
  unfold kbs at h
  rw [List.getElem?_map] at h
  obtain ⟨b, hb, e⟩ := Option.map_eq_some_iff.mp h
  have h3 : c.data[p]? = some b := by rw [← Array.getElem?_toList]; exact hb
  obtain ⟨hs, hb2⟩ := Array.getElem?_eq_some_iff.mp h3
  have hs2 : p < c.size := hs
  have e2 : c[p].toNat = n := by rw [← e, ← hb2]; rfl
  show ((dite (p < c.size) (fun h => (do set (p + 1); pure c[p].toNat : Jvm.ClassFile.Decoder Nat)) (fun _ => throw (Jvm.ClassFile.HasTruncated.truncated p)) : Jvm.ClassFile.Decoder Nat) c p) = _
  rw [dif_pos hs2, ← e2]
  rfl
theorem kqb {α β : Type} {r : Jvm.ClassFile.Decoder α} {K : α → Jvm.ClassFile.Decoder β} {c : ByteArray} {p q : Nat} {x : α} (e : r c p = .ok (x, q)) : (bind r K : Jvm.ClassFile.Decoder β) c p = K x c q := by
  show Except.bind (r c p) _ = _
  rw [e]
  rfl
theorem kqm {α β : Type} {r : Jvm.ClassFile.Decoder α} {f : α → β} {c : ByteArray} {p q : Nat} {x : α} (e : r c p = .ok (x, q)) : (f <$> r : Jvm.ClassFile.Decoder β) c p = .ok (f x, q) := by
  show Except.bind (r c p) _ = _
  rw [e]
  rfl
theorem kq2 {c : ByteArray} {p hi lo : Nat} (h1 : (kbs c)[p]? = some hi) (h2 : (kbs c)[p + 1]? = some lo) : (Jvm.ClassFile.Reader.u2 : Jvm.ClassFile.Decoder Nat) c p = .ok (hi * 256 + lo, p + 1 + 1) := by
  unfold Jvm.ClassFile.Reader.u2
  exact (kqb (kq1 h1)).trans ((kqb (kq1 h2)).trans rfl)
set_option maxRecDepth 100000 in
theorem kqo_02 {c : ByteArray} {l : List Nat} {pc : Nat} (hl : kbs c = l) (h : kAtB l pc [2] = true) : decode c pc = .ok (.iconst (-1), 1) := by
  subst hl
  obtain ⟨q0, h⟩ := kAtB_s _ _ h
  have q : (Jvm.ClassFile.Decoder.instr pc).runAt c pc = .ok (.iconst (-1), pc + 1) := by
    unfold Jvm.ClassFile.Reader.runAt
    show Jvm.ClassFile.Decoder.instr pc c pc = _
    unfold Jvm.ClassFile.Decoder.instr
    refine (kqb (kq1 q0)).trans ?_
    rfl
  unfold Jvm.ClassFile.decode
  rw [q]
  show Except.ok (_, pc + 1 - pc) = _
  rw [Nat.add_sub_cancel_left]
set_option maxRecDepth 100000 in
theorem kqo_03 {c : ByteArray} {l : List Nat} {pc : Nat} (hl : kbs c = l) (h : kAtB l pc [3] = true) : decode c pc = .ok (.iconst 0, 1) := by
  subst hl
  obtain ⟨q0, h⟩ := kAtB_s _ _ h
  have q : (Jvm.ClassFile.Decoder.instr pc).runAt c pc = .ok (.iconst 0, pc + 1) := by
    unfold Jvm.ClassFile.Reader.runAt
    show Jvm.ClassFile.Decoder.instr pc c pc = _
    unfold Jvm.ClassFile.Decoder.instr
    refine (kqb (kq1 q0)).trans ?_
    rfl
  unfold Jvm.ClassFile.decode
  rw [q]
  show Except.ok (_, pc + 1 - pc) = _
  rw [Nat.add_sub_cancel_left]
set_option maxRecDepth 100000 in
theorem kqo_04 {c : ByteArray} {l : List Nat} {pc : Nat} (hl : kbs c = l) (h : kAtB l pc [4] = true) : decode c pc = .ok (.iconst 1, 1) := by
  subst hl
  obtain ⟨q0, h⟩ := kAtB_s _ _ h
  have q : (Jvm.ClassFile.Decoder.instr pc).runAt c pc = .ok (.iconst 1, pc + 1) := by
    unfold Jvm.ClassFile.Reader.runAt
    show Jvm.ClassFile.Decoder.instr pc c pc = _
    unfold Jvm.ClassFile.Decoder.instr
    refine (kqb (kq1 q0)).trans ?_
    rfl
  unfold Jvm.ClassFile.decode
  rw [q]
  show Except.ok (_, pc + 1 - pc) = _
  rw [Nat.add_sub_cancel_left]
set_option maxRecDepth 100000 in
theorem kqo_05 {c : ByteArray} {l : List Nat} {pc : Nat} (hl : kbs c = l) (h : kAtB l pc [5] = true) : decode c pc = .ok (.iconst 2, 1) := by
  subst hl
  obtain ⟨q0, h⟩ := kAtB_s _ _ h
  have q : (Jvm.ClassFile.Decoder.instr pc).runAt c pc = .ok (.iconst 2, pc + 1) := by
    unfold Jvm.ClassFile.Reader.runAt
    show Jvm.ClassFile.Decoder.instr pc c pc = _
    unfold Jvm.ClassFile.Decoder.instr
    refine (kqb (kq1 q0)).trans ?_
    rfl
  unfold Jvm.ClassFile.decode
  rw [q]
  show Except.ok (_, pc + 1 - pc) = _
  rw [Nat.add_sub_cancel_left]
set_option maxRecDepth 100000 in
theorem kqo_06 {c : ByteArray} {l : List Nat} {pc : Nat} (hl : kbs c = l) (h : kAtB l pc [6] = true) : decode c pc = .ok (.iconst 3, 1) := by
  subst hl
  obtain ⟨q0, h⟩ := kAtB_s _ _ h
  have q : (Jvm.ClassFile.Decoder.instr pc).runAt c pc = .ok (.iconst 3, pc + 1) := by
    unfold Jvm.ClassFile.Reader.runAt
    show Jvm.ClassFile.Decoder.instr pc c pc = _
    unfold Jvm.ClassFile.Decoder.instr
    refine (kqb (kq1 q0)).trans ?_
    rfl
  unfold Jvm.ClassFile.decode
  rw [q]
  show Except.ok (_, pc + 1 - pc) = _
  rw [Nat.add_sub_cancel_left]
set_option maxRecDepth 100000 in
theorem kqo_07 {c : ByteArray} {l : List Nat} {pc : Nat} (hl : kbs c = l) (h : kAtB l pc [7] = true) : decode c pc = .ok (.iconst 4, 1) := by
  subst hl
  obtain ⟨q0, h⟩ := kAtB_s _ _ h
  have q : (Jvm.ClassFile.Decoder.instr pc).runAt c pc = .ok (.iconst 4, pc + 1) := by
    unfold Jvm.ClassFile.Reader.runAt
    show Jvm.ClassFile.Decoder.instr pc c pc = _
    unfold Jvm.ClassFile.Decoder.instr
    refine (kqb (kq1 q0)).trans ?_
    rfl
  unfold Jvm.ClassFile.decode
  rw [q]
  show Except.ok (_, pc + 1 - pc) = _
  rw [Nat.add_sub_cancel_left]
set_option maxRecDepth 100000 in
theorem kqo_08 {c : ByteArray} {l : List Nat} {pc : Nat} (hl : kbs c = l) (h : kAtB l pc [8] = true) : decode c pc = .ok (.iconst 5, 1) := by
  subst hl
  obtain ⟨q0, h⟩ := kAtB_s _ _ h
  have q : (Jvm.ClassFile.Decoder.instr pc).runAt c pc = .ok (.iconst 5, pc + 1) := by
    unfold Jvm.ClassFile.Reader.runAt
    show Jvm.ClassFile.Decoder.instr pc c pc = _
    unfold Jvm.ClassFile.Decoder.instr
    refine (kqb (kq1 q0)).trans ?_
    rfl
  unfold Jvm.ClassFile.decode
  rw [q]
  show Except.ok (_, pc + 1 - pc) = _
  rw [Nat.add_sub_cancel_left]
set_option maxRecDepth 100000 in
theorem kqo_09 {c : ByteArray} {l : List Nat} {pc : Nat} (hl : kbs c = l) (h : kAtB l pc [9] = true) : decode c pc = .ok (.lconst 0, 1) := by
  subst hl
  obtain ⟨q0, h⟩ := kAtB_s _ _ h
  have q : (Jvm.ClassFile.Decoder.instr pc).runAt c pc = .ok (.lconst 0, pc + 1) := by
    unfold Jvm.ClassFile.Reader.runAt
    show Jvm.ClassFile.Decoder.instr pc c pc = _
    unfold Jvm.ClassFile.Decoder.instr
    refine (kqb (kq1 q0)).trans ?_
    rfl
  unfold Jvm.ClassFile.decode
  rw [q]
  show Except.ok (_, pc + 1 - pc) = _
  rw [Nat.add_sub_cancel_left]
set_option maxRecDepth 100000 in
theorem kqo_0a {c : ByteArray} {l : List Nat} {pc : Nat} (hl : kbs c = l) (h : kAtB l pc [10] = true) : decode c pc = .ok (.lconst 1, 1) := by
  subst hl
  obtain ⟨q0, h⟩ := kAtB_s _ _ h
  have q : (Jvm.ClassFile.Decoder.instr pc).runAt c pc = .ok (.lconst 1, pc + 1) := by
    unfold Jvm.ClassFile.Reader.runAt
    show Jvm.ClassFile.Decoder.instr pc c pc = _
    unfold Jvm.ClassFile.Decoder.instr
    refine (kqb (kq1 q0)).trans ?_
    rfl
  unfold Jvm.ClassFile.decode
  rw [q]
  show Except.ok (_, pc + 1 - pc) = _
  rw [Nat.add_sub_cancel_left]
set_option maxRecDepth 100000 in
theorem kqo_10 {c : ByteArray} {l : List Nat} {pc : Nat} {x1 : Nat} {v : Int} (hl : kbs c = l) (h : kAtB l pc [16, x1] = true) (hv : Jvm.ClassFile.Reader.signed 8 x1 = v) : decode c pc = .ok (.bipush v, 2) := by
  subst hl
  subst hv
  obtain ⟨q0, h⟩ := kAtB_s _ _ h
  obtain ⟨q1, h⟩ := kAtB_s _ _ h
  have q : (Jvm.ClassFile.Decoder.instr pc).runAt c pc = .ok (.bipush (Jvm.ClassFile.Reader.signed 8 x1), pc + 2) := by
    unfold Jvm.ClassFile.Reader.runAt
    show Jvm.ClassFile.Decoder.instr pc c pc = _
    unfold Jvm.ClassFile.Decoder.instr
    refine (kqb (kq1 q0)).trans ?_
    show (bind Jvm.ClassFile.Reader.s1 (fun x => pure (.bipush x)) : Jvm.ClassFile.Decoder Jvm.ClassFile.Instr) c (pc + 1) = _
    exact (kqb (kqm (kq1 q1))).trans rfl
  unfold Jvm.ClassFile.decode
  rw [q]
  show Except.ok (_, pc + 2 - pc) = _
  rw [Nat.add_sub_cancel_left]
set_option maxRecDepth 100000 in
theorem kqo_11 {c : ByteArray} {l : List Nat} {pc : Nat} {x1 x2 : Nat} {v : Int} (hl : kbs c = l) (h : kAtB l pc [17, x1, x2] = true) (hv : Jvm.ClassFile.Reader.signed 16 (x1 * 256 + x2) = v) : decode c pc = .ok (.sipush v, 3) := by
  subst hl
  subst hv
  obtain ⟨q0, h⟩ := kAtB_s _ _ h
  obtain ⟨q1, h⟩ := kAtB_s _ _ h
  obtain ⟨q2, h⟩ := kAtB_s _ _ h
  have q : (Jvm.ClassFile.Decoder.instr pc).runAt c pc = .ok (.sipush (Jvm.ClassFile.Reader.signed 16 (x1 * 256 + x2)), pc + 3) := by
    unfold Jvm.ClassFile.Reader.runAt
    show Jvm.ClassFile.Decoder.instr pc c pc = _
    unfold Jvm.ClassFile.Decoder.instr
    refine (kqb (kq1 q0)).trans ?_
    show (bind Jvm.ClassFile.Reader.s2 (fun x => pure (.sipush x)) : Jvm.ClassFile.Decoder Jvm.ClassFile.Instr) c (pc + 1) = _
    exact (kqb (kqm (kq2 q1 q2))).trans rfl
  unfold Jvm.ClassFile.decode
  rw [q]
  show Except.ok (_, pc + 3 - pc) = _
  rw [Nat.add_sub_cancel_left]
set_option maxRecDepth 100000 in
theorem kqo_13 {c : ByteArray} {l : List Nat} {pc : Nat} {x1 x2 : Nat} {n : Nat} (hl : kbs c = l) (h : kAtB l pc [19, x1, x2] = true) (hv : x1 * 256 + x2 = n) : decode c pc = .ok (.ldc_w n, 3) := by
  subst hl
  subst hv
  obtain ⟨q0, h⟩ := kAtB_s _ _ h
  obtain ⟨q1, h⟩ := kAtB_s _ _ h
  obtain ⟨q2, h⟩ := kAtB_s _ _ h
  have q : (Jvm.ClassFile.Decoder.instr pc).runAt c pc = .ok (.ldc_w (x1 * 256 + x2), pc + 3) := by
    unfold Jvm.ClassFile.Reader.runAt
    show Jvm.ClassFile.Decoder.instr pc c pc = _
    unfold Jvm.ClassFile.Decoder.instr
    refine (kqb (kq1 q0)).trans ?_
    show (bind Jvm.ClassFile.Reader.u2 (fun x => pure (.ldc_w x)) : Jvm.ClassFile.Decoder Jvm.ClassFile.Instr) c (pc + 1) = _
    exact (kqb (kq2 q1 q2)).trans rfl
  unfold Jvm.ClassFile.decode
  rw [q]
  show Except.ok (_, pc + 3 - pc) = _
  rw [Nat.add_sub_cancel_left]
set_option maxRecDepth 100000 in
theorem kqo_14 {c : ByteArray} {l : List Nat} {pc : Nat} {x1 x2 : Nat} {n : Nat} (hl : kbs c = l) (h : kAtB l pc [20, x1, x2] = true) (hv : x1 * 256 + x2 = n) : decode c pc = .ok (.ldc2_w n, 3) := by
  subst hl
  subst hv
  obtain ⟨q0, h⟩ := kAtB_s _ _ h
  obtain ⟨q1, h⟩ := kAtB_s _ _ h
  obtain ⟨q2, h⟩ := kAtB_s _ _ h
  have q : (Jvm.ClassFile.Decoder.instr pc).runAt c pc = .ok (.ldc2_w (x1 * 256 + x2), pc + 3) := by
    unfold Jvm.ClassFile.Reader.runAt
    show Jvm.ClassFile.Decoder.instr pc c pc = _
    unfold Jvm.ClassFile.Decoder.instr
    refine (kqb (kq1 q0)).trans ?_
    show (bind Jvm.ClassFile.Reader.u2 (fun x => pure (.ldc2_w x)) : Jvm.ClassFile.Decoder Jvm.ClassFile.Instr) c (pc + 1) = _
    exact (kqb (kq2 q1 q2)).trans rfl
  unfold Jvm.ClassFile.decode
  rw [q]
  show Except.ok (_, pc + 3 - pc) = _
  rw [Nat.add_sub_cancel_left]
set_option maxRecDepth 100000 in
theorem kqo_15 {c : ByteArray} {l : List Nat} {pc : Nat} {x1 : Nat} {n : Nat} (hl : kbs c = l) (h : kAtB l pc [21, x1] = true) (hv : x1 = n) : decode c pc = .ok (.iload n, 2) := by
  subst hl
  subst hv
  obtain ⟨q0, h⟩ := kAtB_s _ _ h
  obtain ⟨q1, h⟩ := kAtB_s _ _ h
  have q : (Jvm.ClassFile.Decoder.instr pc).runAt c pc = .ok (.iload x1, pc + 2) := by
    unfold Jvm.ClassFile.Reader.runAt
    show Jvm.ClassFile.Decoder.instr pc c pc = _
    unfold Jvm.ClassFile.Decoder.instr
    refine (kqb (kq1 q0)).trans ?_
    show (bind Jvm.ClassFile.Reader.u1 (fun x => pure (.iload x)) : Jvm.ClassFile.Decoder Jvm.ClassFile.Instr) c (pc + 1) = _
    exact (kqb (kq1 q1)).trans rfl
  unfold Jvm.ClassFile.decode
  rw [q]
  show Except.ok (_, pc + 2 - pc) = _
  rw [Nat.add_sub_cancel_left]
set_option maxRecDepth 100000 in
theorem kqo_16 {c : ByteArray} {l : List Nat} {pc : Nat} {x1 : Nat} {n : Nat} (hl : kbs c = l) (h : kAtB l pc [22, x1] = true) (hv : x1 = n) : decode c pc = .ok (.lload n, 2) := by
  subst hl
  subst hv
  obtain ⟨q0, h⟩ := kAtB_s _ _ h
  obtain ⟨q1, h⟩ := kAtB_s _ _ h
  have q : (Jvm.ClassFile.Decoder.instr pc).runAt c pc = .ok (.lload x1, pc + 2) := by
    unfold Jvm.ClassFile.Reader.runAt
    show Jvm.ClassFile.Decoder.instr pc c pc = _
    unfold Jvm.ClassFile.Decoder.instr
    refine (kqb (kq1 q0)).trans ?_
    show (bind Jvm.ClassFile.Reader.u1 (fun x => pure (.lload x)) : Jvm.ClassFile.Decoder Jvm.ClassFile.Instr) c (pc + 1) = _
    exact (kqb (kq1 q1)).trans rfl
  unfold Jvm.ClassFile.decode
  rw [q]
  show Except.ok (_, pc + 2 - pc) = _
  rw [Nat.add_sub_cancel_left]
set_option maxRecDepth 100000 in
theorem kqo_19 {c : ByteArray} {l : List Nat} {pc : Nat} {x1 : Nat} {n : Nat} (hl : kbs c = l) (h : kAtB l pc [25, x1] = true) (hv : x1 = n) : decode c pc = .ok (.aload n, 2) := by
  subst hl
  subst hv
  obtain ⟨q0, h⟩ := kAtB_s _ _ h
  obtain ⟨q1, h⟩ := kAtB_s _ _ h
  have q : (Jvm.ClassFile.Decoder.instr pc).runAt c pc = .ok (.aload x1, pc + 2) := by
    unfold Jvm.ClassFile.Reader.runAt
    show Jvm.ClassFile.Decoder.instr pc c pc = _
    unfold Jvm.ClassFile.Decoder.instr
    refine (kqb (kq1 q0)).trans ?_
    show (bind Jvm.ClassFile.Reader.u1 (fun x => pure (.aload x)) : Jvm.ClassFile.Decoder Jvm.ClassFile.Instr) c (pc + 1) = _
    exact (kqb (kq1 q1)).trans rfl
  unfold Jvm.ClassFile.decode
  rw [q]
  show Except.ok (_, pc + 2 - pc) = _
  rw [Nat.add_sub_cancel_left]
set_option maxRecDepth 100000 in
theorem kqo_1a {c : ByteArray} {l : List Nat} {pc : Nat} (hl : kbs c = l) (h : kAtB l pc [26] = true) : decode c pc = .ok (.iload_n 0, 1) := by
  subst hl
  obtain ⟨q0, h⟩ := kAtB_s _ _ h
  have q : (Jvm.ClassFile.Decoder.instr pc).runAt c pc = .ok (.iload_n 0, pc + 1) := by
    unfold Jvm.ClassFile.Reader.runAt
    show Jvm.ClassFile.Decoder.instr pc c pc = _
    unfold Jvm.ClassFile.Decoder.instr
    refine (kqb (kq1 q0)).trans ?_
    rfl
  unfold Jvm.ClassFile.decode
  rw [q]
  show Except.ok (_, pc + 1 - pc) = _
  rw [Nat.add_sub_cancel_left]
set_option maxRecDepth 100000 in
theorem kqo_1b {c : ByteArray} {l : List Nat} {pc : Nat} (hl : kbs c = l) (h : kAtB l pc [27] = true) : decode c pc = .ok (.iload_n 1, 1) := by
  subst hl
  obtain ⟨q0, h⟩ := kAtB_s _ _ h
  have q : (Jvm.ClassFile.Decoder.instr pc).runAt c pc = .ok (.iload_n 1, pc + 1) := by
    unfold Jvm.ClassFile.Reader.runAt
    show Jvm.ClassFile.Decoder.instr pc c pc = _
    unfold Jvm.ClassFile.Decoder.instr
    refine (kqb (kq1 q0)).trans ?_
    rfl
  unfold Jvm.ClassFile.decode
  rw [q]
  show Except.ok (_, pc + 1 - pc) = _
  rw [Nat.add_sub_cancel_left]
set_option maxRecDepth 100000 in
theorem kqo_1c {c : ByteArray} {l : List Nat} {pc : Nat} (hl : kbs c = l) (h : kAtB l pc [28] = true) : decode c pc = .ok (.iload_n 2, 1) := by
  subst hl
  obtain ⟨q0, h⟩ := kAtB_s _ _ h
  have q : (Jvm.ClassFile.Decoder.instr pc).runAt c pc = .ok (.iload_n 2, pc + 1) := by
    unfold Jvm.ClassFile.Reader.runAt
    show Jvm.ClassFile.Decoder.instr pc c pc = _
    unfold Jvm.ClassFile.Decoder.instr
    refine (kqb (kq1 q0)).trans ?_
    rfl
  unfold Jvm.ClassFile.decode
  rw [q]
  show Except.ok (_, pc + 1 - pc) = _
  rw [Nat.add_sub_cancel_left]
set_option maxRecDepth 100000 in
theorem kqo_1d {c : ByteArray} {l : List Nat} {pc : Nat} (hl : kbs c = l) (h : kAtB l pc [29] = true) : decode c pc = .ok (.iload_n 3, 1) := by
  subst hl
  obtain ⟨q0, h⟩ := kAtB_s _ _ h
  have q : (Jvm.ClassFile.Decoder.instr pc).runAt c pc = .ok (.iload_n 3, pc + 1) := by
    unfold Jvm.ClassFile.Reader.runAt
    show Jvm.ClassFile.Decoder.instr pc c pc = _
    unfold Jvm.ClassFile.Decoder.instr
    refine (kqb (kq1 q0)).trans ?_
    rfl
  unfold Jvm.ClassFile.decode
  rw [q]
  show Except.ok (_, pc + 1 - pc) = _
  rw [Nat.add_sub_cancel_left]
set_option maxRecDepth 100000 in
theorem kqo_1e {c : ByteArray} {l : List Nat} {pc : Nat} (hl : kbs c = l) (h : kAtB l pc [30] = true) : decode c pc = .ok (.lload_n 0, 1) := by
  subst hl
  obtain ⟨q0, h⟩ := kAtB_s _ _ h
  have q : (Jvm.ClassFile.Decoder.instr pc).runAt c pc = .ok (.lload_n 0, pc + 1) := by
    unfold Jvm.ClassFile.Reader.runAt
    show Jvm.ClassFile.Decoder.instr pc c pc = _
    unfold Jvm.ClassFile.Decoder.instr
    refine (kqb (kq1 q0)).trans ?_
    rfl
  unfold Jvm.ClassFile.decode
  rw [q]
  show Except.ok (_, pc + 1 - pc) = _
  rw [Nat.add_sub_cancel_left]
set_option maxRecDepth 100000 in
theorem kqo_20 {c : ByteArray} {l : List Nat} {pc : Nat} (hl : kbs c = l) (h : kAtB l pc [32] = true) : decode c pc = .ok (.lload_n 2, 1) := by
  subst hl
  obtain ⟨q0, h⟩ := kAtB_s _ _ h
  have q : (Jvm.ClassFile.Decoder.instr pc).runAt c pc = .ok (.lload_n 2, pc + 1) := by
    unfold Jvm.ClassFile.Reader.runAt
    show Jvm.ClassFile.Decoder.instr pc c pc = _
    unfold Jvm.ClassFile.Decoder.instr
    refine (kqb (kq1 q0)).trans ?_
    rfl
  unfold Jvm.ClassFile.decode
  rw [q]
  show Except.ok (_, pc + 1 - pc) = _
  rw [Nat.add_sub_cancel_left]
set_option maxRecDepth 100000 in
theorem kqo_2a {c : ByteArray} {l : List Nat} {pc : Nat} (hl : kbs c = l) (h : kAtB l pc [42] = true) : decode c pc = .ok (.aload_n 0, 1) := by
  subst hl
  obtain ⟨q0, h⟩ := kAtB_s _ _ h
  have q : (Jvm.ClassFile.Decoder.instr pc).runAt c pc = .ok (.aload_n 0, pc + 1) := by
    unfold Jvm.ClassFile.Reader.runAt
    show Jvm.ClassFile.Decoder.instr pc c pc = _
    unfold Jvm.ClassFile.Decoder.instr
    refine (kqb (kq1 q0)).trans ?_
    rfl
  unfold Jvm.ClassFile.decode
  rw [q]
  show Except.ok (_, pc + 1 - pc) = _
  rw [Nat.add_sub_cancel_left]
set_option maxRecDepth 100000 in
theorem kqo_2b {c : ByteArray} {l : List Nat} {pc : Nat} (hl : kbs c = l) (h : kAtB l pc [43] = true) : decode c pc = .ok (.aload_n 1, 1) := by
  subst hl
  obtain ⟨q0, h⟩ := kAtB_s _ _ h
  have q : (Jvm.ClassFile.Decoder.instr pc).runAt c pc = .ok (.aload_n 1, pc + 1) := by
    unfold Jvm.ClassFile.Reader.runAt
    show Jvm.ClassFile.Decoder.instr pc c pc = _
    unfold Jvm.ClassFile.Decoder.instr
    refine (kqb (kq1 q0)).trans ?_
    rfl
  unfold Jvm.ClassFile.decode
  rw [q]
  show Except.ok (_, pc + 1 - pc) = _
  rw [Nat.add_sub_cancel_left]
set_option maxRecDepth 100000 in
theorem kqo_2c {c : ByteArray} {l : List Nat} {pc : Nat} (hl : kbs c = l) (h : kAtB l pc [44] = true) : decode c pc = .ok (.aload_n 2, 1) := by
  subst hl
  obtain ⟨q0, h⟩ := kAtB_s _ _ h
  have q : (Jvm.ClassFile.Decoder.instr pc).runAt c pc = .ok (.aload_n 2, pc + 1) := by
    unfold Jvm.ClassFile.Reader.runAt
    show Jvm.ClassFile.Decoder.instr pc c pc = _
    unfold Jvm.ClassFile.Decoder.instr
    refine (kqb (kq1 q0)).trans ?_
    rfl
  unfold Jvm.ClassFile.decode
  rw [q]
  show Except.ok (_, pc + 1 - pc) = _
  rw [Nat.add_sub_cancel_left]
set_option maxRecDepth 100000 in
theorem kqo_2d {c : ByteArray} {l : List Nat} {pc : Nat} (hl : kbs c = l) (h : kAtB l pc [45] = true) : decode c pc = .ok (.aload_n 3, 1) := by
  subst hl
  obtain ⟨q0, h⟩ := kAtB_s _ _ h
  have q : (Jvm.ClassFile.Decoder.instr pc).runAt c pc = .ok (.aload_n 3, pc + 1) := by
    unfold Jvm.ClassFile.Reader.runAt
    show Jvm.ClassFile.Decoder.instr pc c pc = _
    unfold Jvm.ClassFile.Decoder.instr
    refine (kqb (kq1 q0)).trans ?_
    rfl
  unfold Jvm.ClassFile.decode
  rw [q]
  show Except.ok (_, pc + 1 - pc) = _
  rw [Nat.add_sub_cancel_left]
set_option maxRecDepth 100000 in
theorem kqo_2e {c : ByteArray} {l : List Nat} {pc : Nat} (hl : kbs c = l) (h : kAtB l pc [46] = true) : decode c pc = .ok (.iaload, 1) := by
  subst hl
  obtain ⟨q0, h⟩ := kAtB_s _ _ h
  have q : (Jvm.ClassFile.Decoder.instr pc).runAt c pc = .ok (.iaload, pc + 1) := by
    unfold Jvm.ClassFile.Reader.runAt
    show Jvm.ClassFile.Decoder.instr pc c pc = _
    unfold Jvm.ClassFile.Decoder.instr
    refine (kqb (kq1 q0)).trans ?_
    rfl
  unfold Jvm.ClassFile.decode
  rw [q]
  show Except.ok (_, pc + 1 - pc) = _
  rw [Nat.add_sub_cancel_left]
set_option maxRecDepth 100000 in
theorem kqo_32 {c : ByteArray} {l : List Nat} {pc : Nat} (hl : kbs c = l) (h : kAtB l pc [50] = true) : decode c pc = .ok (.aaload, 1) := by
  subst hl
  obtain ⟨q0, h⟩ := kAtB_s _ _ h
  have q : (Jvm.ClassFile.Decoder.instr pc).runAt c pc = .ok (.aaload, pc + 1) := by
    unfold Jvm.ClassFile.Reader.runAt
    show Jvm.ClassFile.Decoder.instr pc c pc = _
    unfold Jvm.ClassFile.Decoder.instr
    refine (kqb (kq1 q0)).trans ?_
    rfl
  unfold Jvm.ClassFile.decode
  rw [q]
  show Except.ok (_, pc + 1 - pc) = _
  rw [Nat.add_sub_cancel_left]
set_option maxRecDepth 100000 in
theorem kqo_36 {c : ByteArray} {l : List Nat} {pc : Nat} {x1 : Nat} {n : Nat} (hl : kbs c = l) (h : kAtB l pc [54, x1] = true) (hv : x1 = n) : decode c pc = .ok (.istore n, 2) := by
  subst hl
  subst hv
  obtain ⟨q0, h⟩ := kAtB_s _ _ h
  obtain ⟨q1, h⟩ := kAtB_s _ _ h
  have q : (Jvm.ClassFile.Decoder.instr pc).runAt c pc = .ok (.istore x1, pc + 2) := by
    unfold Jvm.ClassFile.Reader.runAt
    show Jvm.ClassFile.Decoder.instr pc c pc = _
    unfold Jvm.ClassFile.Decoder.instr
    refine (kqb (kq1 q0)).trans ?_
    show (bind Jvm.ClassFile.Reader.u1 (fun x => pure (.istore x)) : Jvm.ClassFile.Decoder Jvm.ClassFile.Instr) c (pc + 1) = _
    exact (kqb (kq1 q1)).trans rfl
  unfold Jvm.ClassFile.decode
  rw [q]
  show Except.ok (_, pc + 2 - pc) = _
  rw [Nat.add_sub_cancel_left]
set_option maxRecDepth 100000 in
theorem kqo_37 {c : ByteArray} {l : List Nat} {pc : Nat} {x1 : Nat} {n : Nat} (hl : kbs c = l) (h : kAtB l pc [55, x1] = true) (hv : x1 = n) : decode c pc = .ok (.lstore n, 2) := by
  subst hl
  subst hv
  obtain ⟨q0, h⟩ := kAtB_s _ _ h
  obtain ⟨q1, h⟩ := kAtB_s _ _ h
  have q : (Jvm.ClassFile.Decoder.instr pc).runAt c pc = .ok (.lstore x1, pc + 2) := by
    unfold Jvm.ClassFile.Reader.runAt
    show Jvm.ClassFile.Decoder.instr pc c pc = _
    unfold Jvm.ClassFile.Decoder.instr
    refine (kqb (kq1 q0)).trans ?_
    show (bind Jvm.ClassFile.Reader.u1 (fun x => pure (.lstore x)) : Jvm.ClassFile.Decoder Jvm.ClassFile.Instr) c (pc + 1) = _
    exact (kqb (kq1 q1)).trans rfl
  unfold Jvm.ClassFile.decode
  rw [q]
  show Except.ok (_, pc + 2 - pc) = _
  rw [Nat.add_sub_cancel_left]
set_option maxRecDepth 100000 in
theorem kqo_3a {c : ByteArray} {l : List Nat} {pc : Nat} {x1 : Nat} {n : Nat} (hl : kbs c = l) (h : kAtB l pc [58, x1] = true) (hv : x1 = n) : decode c pc = .ok (.astore n, 2) := by
  subst hl
  subst hv
  obtain ⟨q0, h⟩ := kAtB_s _ _ h
  obtain ⟨q1, h⟩ := kAtB_s _ _ h
  have q : (Jvm.ClassFile.Decoder.instr pc).runAt c pc = .ok (.astore x1, pc + 2) := by
    unfold Jvm.ClassFile.Reader.runAt
    show Jvm.ClassFile.Decoder.instr pc c pc = _
    unfold Jvm.ClassFile.Decoder.instr
    refine (kqb (kq1 q0)).trans ?_
    show (bind Jvm.ClassFile.Reader.u1 (fun x => pure (.astore x)) : Jvm.ClassFile.Decoder Jvm.ClassFile.Instr) c (pc + 1) = _
    exact (kqb (kq1 q1)).trans rfl
  unfold Jvm.ClassFile.decode
  rw [q]
  show Except.ok (_, pc + 2 - pc) = _
  rw [Nat.add_sub_cancel_left]
set_option maxRecDepth 100000 in
theorem kqo_3b {c : ByteArray} {l : List Nat} {pc : Nat} (hl : kbs c = l) (h : kAtB l pc [59] = true) : decode c pc = .ok (.istore_n 0, 1) := by
  subst hl
  obtain ⟨q0, h⟩ := kAtB_s _ _ h
  have q : (Jvm.ClassFile.Decoder.instr pc).runAt c pc = .ok (.istore_n 0, pc + 1) := by
    unfold Jvm.ClassFile.Reader.runAt
    show Jvm.ClassFile.Decoder.instr pc c pc = _
    unfold Jvm.ClassFile.Decoder.instr
    refine (kqb (kq1 q0)).trans ?_
    rfl
  unfold Jvm.ClassFile.decode
  rw [q]
  show Except.ok (_, pc + 1 - pc) = _
  rw [Nat.add_sub_cancel_left]
set_option maxRecDepth 100000 in
theorem kqo_3c {c : ByteArray} {l : List Nat} {pc : Nat} (hl : kbs c = l) (h : kAtB l pc [60] = true) : decode c pc = .ok (.istore_n 1, 1) := by
  subst hl
  obtain ⟨q0, h⟩ := kAtB_s _ _ h
  have q : (Jvm.ClassFile.Decoder.instr pc).runAt c pc = .ok (.istore_n 1, pc + 1) := by
    unfold Jvm.ClassFile.Reader.runAt
    show Jvm.ClassFile.Decoder.instr pc c pc = _
    unfold Jvm.ClassFile.Decoder.instr
    refine (kqb (kq1 q0)).trans ?_
    rfl
  unfold Jvm.ClassFile.decode
  rw [q]
  show Except.ok (_, pc + 1 - pc) = _
  rw [Nat.add_sub_cancel_left]
set_option maxRecDepth 100000 in
theorem kqo_3d {c : ByteArray} {l : List Nat} {pc : Nat} (hl : kbs c = l) (h : kAtB l pc [61] = true) : decode c pc = .ok (.istore_n 2, 1) := by
  subst hl
  obtain ⟨q0, h⟩ := kAtB_s _ _ h
  have q : (Jvm.ClassFile.Decoder.instr pc).runAt c pc = .ok (.istore_n 2, pc + 1) := by
    unfold Jvm.ClassFile.Reader.runAt
    show Jvm.ClassFile.Decoder.instr pc c pc = _
    unfold Jvm.ClassFile.Decoder.instr
    refine (kqb (kq1 q0)).trans ?_
    rfl
  unfold Jvm.ClassFile.decode
  rw [q]
  show Except.ok (_, pc + 1 - pc) = _
  rw [Nat.add_sub_cancel_left]
set_option maxRecDepth 100000 in
theorem kqo_3e {c : ByteArray} {l : List Nat} {pc : Nat} (hl : kbs c = l) (h : kAtB l pc [62] = true) : decode c pc = .ok (.istore_n 3, 1) := by
  subst hl
  obtain ⟨q0, h⟩ := kAtB_s _ _ h
  have q : (Jvm.ClassFile.Decoder.instr pc).runAt c pc = .ok (.istore_n 3, pc + 1) := by
    unfold Jvm.ClassFile.Reader.runAt
    show Jvm.ClassFile.Decoder.instr pc c pc = _
    unfold Jvm.ClassFile.Decoder.instr
    refine (kqb (kq1 q0)).trans ?_
    rfl
  unfold Jvm.ClassFile.decode
  rw [q]
  show Except.ok (_, pc + 1 - pc) = _
  rw [Nat.add_sub_cancel_left]
set_option maxRecDepth 100000 in
theorem kqo_4f {c : ByteArray} {l : List Nat} {pc : Nat} (hl : kbs c = l) (h : kAtB l pc [79] = true) : decode c pc = .ok (.iastore, 1) := by
  subst hl
  obtain ⟨q0, h⟩ := kAtB_s _ _ h
  have q : (Jvm.ClassFile.Decoder.instr pc).runAt c pc = .ok (.iastore, pc + 1) := by
    unfold Jvm.ClassFile.Reader.runAt
    show Jvm.ClassFile.Decoder.instr pc c pc = _
    unfold Jvm.ClassFile.Decoder.instr
    refine (kqb (kq1 q0)).trans ?_
    rfl
  unfold Jvm.ClassFile.decode
  rw [q]
  show Except.ok (_, pc + 1 - pc) = _
  rw [Nat.add_sub_cancel_left]
set_option maxRecDepth 100000 in
theorem kqo_53 {c : ByteArray} {l : List Nat} {pc : Nat} (hl : kbs c = l) (h : kAtB l pc [83] = true) : decode c pc = .ok (.aastore, 1) := by
  subst hl
  obtain ⟨q0, h⟩ := kAtB_s _ _ h
  have q : (Jvm.ClassFile.Decoder.instr pc).runAt c pc = .ok (.aastore, pc + 1) := by
    unfold Jvm.ClassFile.Reader.runAt
    show Jvm.ClassFile.Decoder.instr pc c pc = _
    unfold Jvm.ClassFile.Decoder.instr
    refine (kqb (kq1 q0)).trans ?_
    rfl
  unfold Jvm.ClassFile.decode
  rw [q]
  show Except.ok (_, pc + 1 - pc) = _
  rw [Nat.add_sub_cancel_left]
set_option maxRecDepth 100000 in
theorem kqo_57 {c : ByteArray} {l : List Nat} {pc : Nat} (hl : kbs c = l) (h : kAtB l pc [87] = true) : decode c pc = .ok (.pop, 1) := by
  subst hl
  obtain ⟨q0, h⟩ := kAtB_s _ _ h
  have q : (Jvm.ClassFile.Decoder.instr pc).runAt c pc = .ok (.pop, pc + 1) := by
    unfold Jvm.ClassFile.Reader.runAt
    show Jvm.ClassFile.Decoder.instr pc c pc = _
    unfold Jvm.ClassFile.Decoder.instr
    refine (kqb (kq1 q0)).trans ?_
    rfl
  unfold Jvm.ClassFile.decode
  rw [q]
  show Except.ok (_, pc + 1 - pc) = _
  rw [Nat.add_sub_cancel_left]
set_option maxRecDepth 100000 in
theorem kqo_59 {c : ByteArray} {l : List Nat} {pc : Nat} (hl : kbs c = l) (h : kAtB l pc [89] = true) : decode c pc = .ok (.dup, 1) := by
  subst hl
  obtain ⟨q0, h⟩ := kAtB_s _ _ h
  have q : (Jvm.ClassFile.Decoder.instr pc).runAt c pc = .ok (.dup, pc + 1) := by
    unfold Jvm.ClassFile.Reader.runAt
    show Jvm.ClassFile.Decoder.instr pc c pc = _
    unfold Jvm.ClassFile.Decoder.instr
    refine (kqb (kq1 q0)).trans ?_
    rfl
  unfold Jvm.ClassFile.decode
  rw [q]
  show Except.ok (_, pc + 1 - pc) = _
  rw [Nat.add_sub_cancel_left]
set_option maxRecDepth 100000 in
theorem kqo_5c {c : ByteArray} {l : List Nat} {pc : Nat} (hl : kbs c = l) (h : kAtB l pc [92] = true) : decode c pc = .ok (.dup2, 1) := by
  subst hl
  obtain ⟨q0, h⟩ := kAtB_s _ _ h
  have q : (Jvm.ClassFile.Decoder.instr pc).runAt c pc = .ok (.dup2, pc + 1) := by
    unfold Jvm.ClassFile.Reader.runAt
    show Jvm.ClassFile.Decoder.instr pc c pc = _
    unfold Jvm.ClassFile.Decoder.instr
    refine (kqb (kq1 q0)).trans ?_
    rfl
  unfold Jvm.ClassFile.decode
  rw [q]
  show Except.ok (_, pc + 1 - pc) = _
  rw [Nat.add_sub_cancel_left]
set_option maxRecDepth 100000 in
theorem kqo_60 {c : ByteArray} {l : List Nat} {pc : Nat} (hl : kbs c = l) (h : kAtB l pc [96] = true) : decode c pc = .ok (.iadd, 1) := by
  subst hl
  obtain ⟨q0, h⟩ := kAtB_s _ _ h
  have q : (Jvm.ClassFile.Decoder.instr pc).runAt c pc = .ok (.iadd, pc + 1) := by
    unfold Jvm.ClassFile.Reader.runAt
    show Jvm.ClassFile.Decoder.instr pc c pc = _
    unfold Jvm.ClassFile.Decoder.instr
    refine (kqb (kq1 q0)).trans ?_
    rfl
  unfold Jvm.ClassFile.decode
  rw [q]
  show Except.ok (_, pc + 1 - pc) = _
  rw [Nat.add_sub_cancel_left]
set_option maxRecDepth 100000 in
theorem kqo_61 {c : ByteArray} {l : List Nat} {pc : Nat} (hl : kbs c = l) (h : kAtB l pc [97] = true) : decode c pc = .ok (.ladd, 1) := by
  subst hl
  obtain ⟨q0, h⟩ := kAtB_s _ _ h
  have q : (Jvm.ClassFile.Decoder.instr pc).runAt c pc = .ok (.ladd, pc + 1) := by
    unfold Jvm.ClassFile.Reader.runAt
    show Jvm.ClassFile.Decoder.instr pc c pc = _
    unfold Jvm.ClassFile.Decoder.instr
    refine (kqb (kq1 q0)).trans ?_
    rfl
  unfold Jvm.ClassFile.decode
  rw [q]
  show Except.ok (_, pc + 1 - pc) = _
  rw [Nat.add_sub_cancel_left]
set_option maxRecDepth 100000 in
theorem kqo_64 {c : ByteArray} {l : List Nat} {pc : Nat} (hl : kbs c = l) (h : kAtB l pc [100] = true) : decode c pc = .ok (.isub, 1) := by
  subst hl
  obtain ⟨q0, h⟩ := kAtB_s _ _ h
  have q : (Jvm.ClassFile.Decoder.instr pc).runAt c pc = .ok (.isub, pc + 1) := by
    unfold Jvm.ClassFile.Reader.runAt
    show Jvm.ClassFile.Decoder.instr pc c pc = _
    unfold Jvm.ClassFile.Decoder.instr
    refine (kqb (kq1 q0)).trans ?_
    rfl
  unfold Jvm.ClassFile.decode
  rw [q]
  show Except.ok (_, pc + 1 - pc) = _
  rw [Nat.add_sub_cancel_left]
set_option maxRecDepth 100000 in
theorem kqo_68 {c : ByteArray} {l : List Nat} {pc : Nat} (hl : kbs c = l) (h : kAtB l pc [104] = true) : decode c pc = .ok (.imul, 1) := by
  subst hl
  obtain ⟨q0, h⟩ := kAtB_s _ _ h
  have q : (Jvm.ClassFile.Decoder.instr pc).runAt c pc = .ok (.imul, pc + 1) := by
    unfold Jvm.ClassFile.Reader.runAt
    show Jvm.ClassFile.Decoder.instr pc c pc = _
    unfold Jvm.ClassFile.Decoder.instr
    refine (kqb (kq1 q0)).trans ?_
    rfl
  unfold Jvm.ClassFile.decode
  rw [q]
  show Except.ok (_, pc + 1 - pc) = _
  rw [Nat.add_sub_cancel_left]
set_option maxRecDepth 100000 in
theorem kqo_69 {c : ByteArray} {l : List Nat} {pc : Nat} (hl : kbs c = l) (h : kAtB l pc [105] = true) : decode c pc = .ok (.lmul, 1) := by
  subst hl
  obtain ⟨q0, h⟩ := kAtB_s _ _ h
  have q : (Jvm.ClassFile.Decoder.instr pc).runAt c pc = .ok (.lmul, pc + 1) := by
    unfold Jvm.ClassFile.Reader.runAt
    show Jvm.ClassFile.Decoder.instr pc c pc = _
    unfold Jvm.ClassFile.Decoder.instr
    refine (kqb (kq1 q0)).trans ?_
    rfl
  unfold Jvm.ClassFile.decode
  rw [q]
  show Except.ok (_, pc + 1 - pc) = _
  rw [Nat.add_sub_cancel_left]
set_option maxRecDepth 100000 in
theorem kqo_6c {c : ByteArray} {l : List Nat} {pc : Nat} (hl : kbs c = l) (h : kAtB l pc [108] = true) : decode c pc = .ok (.idiv, 1) := by
  subst hl
  obtain ⟨q0, h⟩ := kAtB_s _ _ h
  have q : (Jvm.ClassFile.Decoder.instr pc).runAt c pc = .ok (.idiv, pc + 1) := by
    unfold Jvm.ClassFile.Reader.runAt
    show Jvm.ClassFile.Decoder.instr pc c pc = _
    unfold Jvm.ClassFile.Decoder.instr
    refine (kqb (kq1 q0)).trans ?_
    rfl
  unfold Jvm.ClassFile.decode
  rw [q]
  show Except.ok (_, pc + 1 - pc) = _
  rw [Nat.add_sub_cancel_left]
set_option maxRecDepth 100000 in
theorem kqo_6d {c : ByteArray} {l : List Nat} {pc : Nat} (hl : kbs c = l) (h : kAtB l pc [109] = true) : decode c pc = .ok (.ldiv, 1) := by
  subst hl
  obtain ⟨q0, h⟩ := kAtB_s _ _ h
  have q : (Jvm.ClassFile.Decoder.instr pc).runAt c pc = .ok (.ldiv, pc + 1) := by
    unfold Jvm.ClassFile.Reader.runAt
    show Jvm.ClassFile.Decoder.instr pc c pc = _
    unfold Jvm.ClassFile.Decoder.instr
    refine (kqb (kq1 q0)).trans ?_
    rfl
  unfold Jvm.ClassFile.decode
  rw [q]
  show Except.ok (_, pc + 1 - pc) = _
  rw [Nat.add_sub_cancel_left]
set_option maxRecDepth 100000 in
theorem kqo_70 {c : ByteArray} {l : List Nat} {pc : Nat} (hl : kbs c = l) (h : kAtB l pc [112] = true) : decode c pc = .ok (.irem, 1) := by
  subst hl
  obtain ⟨q0, h⟩ := kAtB_s _ _ h
  have q : (Jvm.ClassFile.Decoder.instr pc).runAt c pc = .ok (.irem, pc + 1) := by
    unfold Jvm.ClassFile.Reader.runAt
    show Jvm.ClassFile.Decoder.instr pc c pc = _
    unfold Jvm.ClassFile.Decoder.instr
    refine (kqb (kq1 q0)).trans ?_
    rfl
  unfold Jvm.ClassFile.decode
  rw [q]
  show Except.ok (_, pc + 1 - pc) = _
  rw [Nat.add_sub_cancel_left]
set_option maxRecDepth 100000 in
theorem kqo_71 {c : ByteArray} {l : List Nat} {pc : Nat} (hl : kbs c = l) (h : kAtB l pc [113] = true) : decode c pc = .ok (.lrem, 1) := by
  subst hl
  obtain ⟨q0, h⟩ := kAtB_s _ _ h
  have q : (Jvm.ClassFile.Decoder.instr pc).runAt c pc = .ok (.lrem, pc + 1) := by
    unfold Jvm.ClassFile.Reader.runAt
    show Jvm.ClassFile.Decoder.instr pc c pc = _
    unfold Jvm.ClassFile.Decoder.instr
    refine (kqb (kq1 q0)).trans ?_
    rfl
  unfold Jvm.ClassFile.decode
  rw [q]
  show Except.ok (_, pc + 1 - pc) = _
  rw [Nat.add_sub_cancel_left]
set_option maxRecDepth 100000 in
theorem kqo_78 {c : ByteArray} {l : List Nat} {pc : Nat} (hl : kbs c = l) (h : kAtB l pc [120] = true) : decode c pc = .ok (.ishl, 1) := by
  subst hl
  obtain ⟨q0, h⟩ := kAtB_s _ _ h
  have q : (Jvm.ClassFile.Decoder.instr pc).runAt c pc = .ok (.ishl, pc + 1) := by
    unfold Jvm.ClassFile.Reader.runAt
    show Jvm.ClassFile.Decoder.instr pc c pc = _
    unfold Jvm.ClassFile.Decoder.instr
    refine (kqb (kq1 q0)).trans ?_
    rfl
  unfold Jvm.ClassFile.decode
  rw [q]
  show Except.ok (_, pc + 1 - pc) = _
  rw [Nat.add_sub_cancel_left]
set_option maxRecDepth 100000 in
theorem kqo_7a {c : ByteArray} {l : List Nat} {pc : Nat} (hl : kbs c = l) (h : kAtB l pc [122] = true) : decode c pc = .ok (.ishr, 1) := by
  subst hl
  obtain ⟨q0, h⟩ := kAtB_s _ _ h
  have q : (Jvm.ClassFile.Decoder.instr pc).runAt c pc = .ok (.ishr, pc + 1) := by
    unfold Jvm.ClassFile.Reader.runAt
    show Jvm.ClassFile.Decoder.instr pc c pc = _
    unfold Jvm.ClassFile.Decoder.instr
    refine (kqb (kq1 q0)).trans ?_
    rfl
  unfold Jvm.ClassFile.decode
  rw [q]
  show Except.ok (_, pc + 1 - pc) = _
  rw [Nat.add_sub_cancel_left]
set_option maxRecDepth 100000 in
theorem kqo_7c {c : ByteArray} {l : List Nat} {pc : Nat} (hl : kbs c = l) (h : kAtB l pc [124] = true) : decode c pc = .ok (.iushr, 1) := by
  subst hl
  obtain ⟨q0, h⟩ := kAtB_s _ _ h
  have q : (Jvm.ClassFile.Decoder.instr pc).runAt c pc = .ok (.iushr, pc + 1) := by
    unfold Jvm.ClassFile.Reader.runAt
    show Jvm.ClassFile.Decoder.instr pc c pc = _
    unfold Jvm.ClassFile.Decoder.instr
    refine (kqb (kq1 q0)).trans ?_
    rfl
  unfold Jvm.ClassFile.decode
  rw [q]
  show Except.ok (_, pc + 1 - pc) = _
  rw [Nat.add_sub_cancel_left]
set_option maxRecDepth 100000 in
theorem kqo_7e {c : ByteArray} {l : List Nat} {pc : Nat} (hl : kbs c = l) (h : kAtB l pc [126] = true) : decode c pc = .ok (.iand, 1) := by
  subst hl
  obtain ⟨q0, h⟩ := kAtB_s _ _ h
  have q : (Jvm.ClassFile.Decoder.instr pc).runAt c pc = .ok (.iand, pc + 1) := by
    unfold Jvm.ClassFile.Reader.runAt
    show Jvm.ClassFile.Decoder.instr pc c pc = _
    unfold Jvm.ClassFile.Decoder.instr
    refine (kqb (kq1 q0)).trans ?_
    rfl
  unfold Jvm.ClassFile.decode
  rw [q]
  show Except.ok (_, pc + 1 - pc) = _
  rw [Nat.add_sub_cancel_left]
set_option maxRecDepth 100000 in
theorem kqo_80 {c : ByteArray} {l : List Nat} {pc : Nat} (hl : kbs c = l) (h : kAtB l pc [128] = true) : decode c pc = .ok (.ior, 1) := by
  subst hl
  obtain ⟨q0, h⟩ := kAtB_s _ _ h
  have q : (Jvm.ClassFile.Decoder.instr pc).runAt c pc = .ok (.ior, pc + 1) := by
    unfold Jvm.ClassFile.Reader.runAt
    show Jvm.ClassFile.Decoder.instr pc c pc = _
    unfold Jvm.ClassFile.Decoder.instr
    refine (kqb (kq1 q0)).trans ?_
    rfl
  unfold Jvm.ClassFile.decode
  rw [q]
  show Except.ok (_, pc + 1 - pc) = _
  rw [Nat.add_sub_cancel_left]
set_option maxRecDepth 100000 in
theorem kqo_82 {c : ByteArray} {l : List Nat} {pc : Nat} (hl : kbs c = l) (h : kAtB l pc [130] = true) : decode c pc = .ok (.ixor, 1) := by
  subst hl
  obtain ⟨q0, h⟩ := kAtB_s _ _ h
  have q : (Jvm.ClassFile.Decoder.instr pc).runAt c pc = .ok (.ixor, pc + 1) := by
    unfold Jvm.ClassFile.Reader.runAt
    show Jvm.ClassFile.Decoder.instr pc c pc = _
    unfold Jvm.ClassFile.Decoder.instr
    refine (kqb (kq1 q0)).trans ?_
    rfl
  unfold Jvm.ClassFile.decode
  rw [q]
  show Except.ok (_, pc + 1 - pc) = _
  rw [Nat.add_sub_cancel_left]
set_option maxRecDepth 100000 in
theorem kqo_84 {c : ByteArray} {l : List Nat} {pc : Nat} {x1 x2 : Nat} {v : Int} (hl : kbs c = l) (h : kAtB l pc [132, x1, x2] = true) (hv : Jvm.ClassFile.Reader.signed 8 x2 = v) : decode c pc = .ok (.iinc x1 v, 3) := by
  subst hl
  subst hv
  obtain ⟨q0, h⟩ := kAtB_s _ _ h
  obtain ⟨q1, h⟩ := kAtB_s _ _ h
  obtain ⟨q2, h⟩ := kAtB_s _ _ h
  have q : (Jvm.ClassFile.Decoder.instr pc).runAt c pc = .ok (.iinc x1 (Jvm.ClassFile.Reader.signed 8 x2), pc + 3) := by
    unfold Jvm.ClassFile.Reader.runAt
    show Jvm.ClassFile.Decoder.instr pc c pc = _
    unfold Jvm.ClassFile.Decoder.instr
    refine (kqb (kq1 q0)).trans ?_
    show (bind Jvm.ClassFile.Reader.u1 (fun x => bind Jvm.ClassFile.Reader.s1 (fun y => pure (.iinc x y))) : Jvm.ClassFile.Decoder Jvm.ClassFile.Instr) c (pc + 1) = _
    exact (kqb (kq1 q1)).trans ((kqb (kqm (kq1 q2))).trans rfl)
  unfold Jvm.ClassFile.decode
  rw [q]
  show Except.ok (_, pc + 3 - pc) = _
  rw [Nat.add_sub_cancel_left]
set_option maxRecDepth 100000 in
theorem kqo_85 {c : ByteArray} {l : List Nat} {pc : Nat} (hl : kbs c = l) (h : kAtB l pc [133] = true) : decode c pc = .ok (.i2l, 1) := by
  subst hl
  obtain ⟨q0, h⟩ := kAtB_s _ _ h
  have q : (Jvm.ClassFile.Decoder.instr pc).runAt c pc = .ok (.i2l, pc + 1) := by
    unfold Jvm.ClassFile.Reader.runAt
    show Jvm.ClassFile.Decoder.instr pc c pc = _
    unfold Jvm.ClassFile.Decoder.instr
    refine (kqb (kq1 q0)).trans ?_
    rfl
  unfold Jvm.ClassFile.decode
  rw [q]
  show Except.ok (_, pc + 1 - pc) = _
  rw [Nat.add_sub_cancel_left]
set_option maxRecDepth 100000 in
theorem kqo_91 {c : ByteArray} {l : List Nat} {pc : Nat} (hl : kbs c = l) (h : kAtB l pc [145] = true) : decode c pc = .ok (.i2b, 1) := by
  subst hl
  obtain ⟨q0, h⟩ := kAtB_s _ _ h
  have q : (Jvm.ClassFile.Decoder.instr pc).runAt c pc = .ok (.i2b, pc + 1) := by
    unfold Jvm.ClassFile.Reader.runAt
    show Jvm.ClassFile.Decoder.instr pc c pc = _
    unfold Jvm.ClassFile.Decoder.instr
    refine (kqb (kq1 q0)).trans ?_
    rfl
  unfold Jvm.ClassFile.decode
  rw [q]
  show Except.ok (_, pc + 1 - pc) = _
  rw [Nat.add_sub_cancel_left]
set_option maxRecDepth 100000 in
theorem kqo_93 {c : ByteArray} {l : List Nat} {pc : Nat} (hl : kbs c = l) (h : kAtB l pc [147] = true) : decode c pc = .ok (.i2s, 1) := by
  subst hl
  obtain ⟨q0, h⟩ := kAtB_s _ _ h
  have q : (Jvm.ClassFile.Decoder.instr pc).runAt c pc = .ok (.i2s, pc + 1) := by
    unfold Jvm.ClassFile.Reader.runAt
    show Jvm.ClassFile.Decoder.instr pc c pc = _
    unfold Jvm.ClassFile.Decoder.instr
    refine (kqb (kq1 q0)).trans ?_
    rfl
  unfold Jvm.ClassFile.decode
  rw [q]
  show Except.ok (_, pc + 1 - pc) = _
  rw [Nat.add_sub_cancel_left]
set_option maxRecDepth 100000 in
theorem kqo_94 {c : ByteArray} {l : List Nat} {pc : Nat} (hl : kbs c = l) (h : kAtB l pc [148] = true) : decode c pc = .ok (.lcmp, 1) := by
  subst hl
  obtain ⟨q0, h⟩ := kAtB_s _ _ h
  have q : (Jvm.ClassFile.Decoder.instr pc).runAt c pc = .ok (.lcmp, pc + 1) := by
    unfold Jvm.ClassFile.Reader.runAt
    show Jvm.ClassFile.Decoder.instr pc c pc = _
    unfold Jvm.ClassFile.Decoder.instr
    refine (kqb (kq1 q0)).trans ?_
    rfl
  unfold Jvm.ClassFile.decode
  rw [q]
  show Except.ok (_, pc + 1 - pc) = _
  rw [Nat.add_sub_cancel_left]
set_option maxRecDepth 100000 in
theorem kqo_99 {c : ByteArray} {l : List Nat} {pc : Nat} {x1 x2 : Nat} {v : Int} (hl : kbs c = l) (h : kAtB l pc [153, x1, x2] = true) (hv : Jvm.ClassFile.Reader.signed 16 (x1 * 256 + x2) = v) : decode c pc = .ok (.ifCond .eq v, 3) := by
  subst hl
  subst hv
  obtain ⟨q0, h⟩ := kAtB_s _ _ h
  obtain ⟨q1, h⟩ := kAtB_s _ _ h
  obtain ⟨q2, h⟩ := kAtB_s _ _ h
  have q : (Jvm.ClassFile.Decoder.instr pc).runAt c pc = .ok (.ifCond .eq (Jvm.ClassFile.Reader.signed 16 (x1 * 256 + x2)), pc + 3) := by
    unfold Jvm.ClassFile.Reader.runAt
    show Jvm.ClassFile.Decoder.instr pc c pc = _
    unfold Jvm.ClassFile.Decoder.instr
    refine (kqb (kq1 q0)).trans ?_
    show (bind Jvm.ClassFile.Reader.s2 (fun x => pure (.ifCond .eq x)) : Jvm.ClassFile.Decoder Jvm.ClassFile.Instr) c (pc + 1) = _
    exact (kqb (kqm (kq2 q1 q2))).trans rfl
  unfold Jvm.ClassFile.decode
  rw [q]
  show Except.ok (_, pc + 3 - pc) = _
  rw [Nat.add_sub_cancel_left]
set_option maxRecDepth 100000 in
theorem kqo_9a {c : ByteArray} {l : List Nat} {pc : Nat} {x1 x2 : Nat} {v : Int} (hl : kbs c = l) (h : kAtB l pc [154, x1, x2] = true) (hv : Jvm.ClassFile.Reader.signed 16 (x1 * 256 + x2) = v) : decode c pc = .ok (.ifCond .ne v, 3) := by
  subst hl
  subst hv
  obtain ⟨q0, h⟩ := kAtB_s _ _ h
  obtain ⟨q1, h⟩ := kAtB_s _ _ h
  obtain ⟨q2, h⟩ := kAtB_s _ _ h
  have q : (Jvm.ClassFile.Decoder.instr pc).runAt c pc = .ok (.ifCond .ne (Jvm.ClassFile.Reader.signed 16 (x1 * 256 + x2)), pc + 3) := by
    unfold Jvm.ClassFile.Reader.runAt
    show Jvm.ClassFile.Decoder.instr pc c pc = _
    unfold Jvm.ClassFile.Decoder.instr
    refine (kqb (kq1 q0)).trans ?_
    show (bind Jvm.ClassFile.Reader.s2 (fun x => pure (.ifCond .ne x)) : Jvm.ClassFile.Decoder Jvm.ClassFile.Instr) c (pc + 1) = _
    exact (kqb (kqm (kq2 q1 q2))).trans rfl
  unfold Jvm.ClassFile.decode
  rw [q]
  show Except.ok (_, pc + 3 - pc) = _
  rw [Nat.add_sub_cancel_left]
set_option maxRecDepth 100000 in
theorem kqo_9b {c : ByteArray} {l : List Nat} {pc : Nat} {x1 x2 : Nat} {v : Int} (hl : kbs c = l) (h : kAtB l pc [155, x1, x2] = true) (hv : Jvm.ClassFile.Reader.signed 16 (x1 * 256 + x2) = v) : decode c pc = .ok (.ifCond .lt v, 3) := by
  subst hl
  subst hv
  obtain ⟨q0, h⟩ := kAtB_s _ _ h
  obtain ⟨q1, h⟩ := kAtB_s _ _ h
  obtain ⟨q2, h⟩ := kAtB_s _ _ h
  have q : (Jvm.ClassFile.Decoder.instr pc).runAt c pc = .ok (.ifCond .lt (Jvm.ClassFile.Reader.signed 16 (x1 * 256 + x2)), pc + 3) := by
    unfold Jvm.ClassFile.Reader.runAt
    show Jvm.ClassFile.Decoder.instr pc c pc = _
    unfold Jvm.ClassFile.Decoder.instr
    refine (kqb (kq1 q0)).trans ?_
    show (bind Jvm.ClassFile.Reader.s2 (fun x => pure (.ifCond .lt x)) : Jvm.ClassFile.Decoder Jvm.ClassFile.Instr) c (pc + 1) = _
    exact (kqb (kqm (kq2 q1 q2))).trans rfl
  unfold Jvm.ClassFile.decode
  rw [q]
  show Except.ok (_, pc + 3 - pc) = _
  rw [Nat.add_sub_cancel_left]
set_option maxRecDepth 100000 in
theorem kqo_9c {c : ByteArray} {l : List Nat} {pc : Nat} {x1 x2 : Nat} {v : Int} (hl : kbs c = l) (h : kAtB l pc [156, x1, x2] = true) (hv : Jvm.ClassFile.Reader.signed 16 (x1 * 256 + x2) = v) : decode c pc = .ok (.ifCond .ge v, 3) := by
  subst hl
  subst hv
  obtain ⟨q0, h⟩ := kAtB_s _ _ h
  obtain ⟨q1, h⟩ := kAtB_s _ _ h
  obtain ⟨q2, h⟩ := kAtB_s _ _ h
  have q : (Jvm.ClassFile.Decoder.instr pc).runAt c pc = .ok (.ifCond .ge (Jvm.ClassFile.Reader.signed 16 (x1 * 256 + x2)), pc + 3) := by
    unfold Jvm.ClassFile.Reader.runAt
    show Jvm.ClassFile.Decoder.instr pc c pc = _
    unfold Jvm.ClassFile.Decoder.instr
    refine (kqb (kq1 q0)).trans ?_
    show (bind Jvm.ClassFile.Reader.s2 (fun x => pure (.ifCond .ge x)) : Jvm.ClassFile.Decoder Jvm.ClassFile.Instr) c (pc + 1) = _
    exact (kqb (kqm (kq2 q1 q2))).trans rfl
  unfold Jvm.ClassFile.decode
  rw [q]
  show Except.ok (_, pc + 3 - pc) = _
  rw [Nat.add_sub_cancel_left]
set_option maxRecDepth 100000 in
theorem kqo_9e {c : ByteArray} {l : List Nat} {pc : Nat} {x1 x2 : Nat} {v : Int} (hl : kbs c = l) (h : kAtB l pc [158, x1, x2] = true) (hv : Jvm.ClassFile.Reader.signed 16 (x1 * 256 + x2) = v) : decode c pc = .ok (.ifCond .le v, 3) := by
  subst hl
  subst hv
  obtain ⟨q0, h⟩ := kAtB_s _ _ h
  obtain ⟨q1, h⟩ := kAtB_s _ _ h
  obtain ⟨q2, h⟩ := kAtB_s _ _ h
  have q : (Jvm.ClassFile.Decoder.instr pc).runAt c pc = .ok (.ifCond .le (Jvm.ClassFile.Reader.signed 16 (x1 * 256 + x2)), pc + 3) := by
    unfold Jvm.ClassFile.Reader.runAt
    show Jvm.ClassFile.Decoder.instr pc c pc = _
    unfold Jvm.ClassFile.Decoder.instr
    refine (kqb (kq1 q0)).trans ?_
    show (bind Jvm.ClassFile.Reader.s2 (fun x => pure (.ifCond .le x)) : Jvm.ClassFile.Decoder Jvm.ClassFile.Instr) c (pc + 1) = _
    exact (kqb (kqm (kq2 q1 q2))).trans rfl
  unfold Jvm.ClassFile.decode
  rw [q]
  show Except.ok (_, pc + 3 - pc) = _
  rw [Nat.add_sub_cancel_left]
set_option maxRecDepth 100000 in
theorem kqo_9f {c : ByteArray} {l : List Nat} {pc : Nat} {x1 x2 : Nat} {v : Int} (hl : kbs c = l) (h : kAtB l pc [159, x1, x2] = true) (hv : Jvm.ClassFile.Reader.signed 16 (x1 * 256 + x2) = v) : decode c pc = .ok (.if_icmp .eq v, 3) := by
  subst hl
  subst hv
  obtain ⟨q0, h⟩ := kAtB_s _ _ h
  obtain ⟨q1, h⟩ := kAtB_s _ _ h
  obtain ⟨q2, h⟩ := kAtB_s _ _ h
  have q : (Jvm.ClassFile.Decoder.instr pc).runAt c pc = .ok (.if_icmp .eq (Jvm.ClassFile.Reader.signed 16 (x1 * 256 + x2)), pc + 3) := by
    unfold Jvm.ClassFile.Reader.runAt
    show Jvm.ClassFile.Decoder.instr pc c pc = _
    unfold Jvm.ClassFile.Decoder.instr
    refine (kqb (kq1 q0)).trans ?_
    show (bind Jvm.ClassFile.Reader.s2 (fun x => pure (.if_icmp .eq x)) : Jvm.ClassFile.Decoder Jvm.ClassFile.Instr) c (pc + 1) = _
    exact (kqb (kqm (kq2 q1 q2))).trans rfl
  unfold Jvm.ClassFile.decode
  rw [q]
  show Except.ok (_, pc + 3 - pc) = _
  rw [Nat.add_sub_cancel_left]
set_option maxRecDepth 100000 in
theorem kqo_a0 {c : ByteArray} {l : List Nat} {pc : Nat} {x1 x2 : Nat} {v : Int} (hl : kbs c = l) (h : kAtB l pc [160, x1, x2] = true) (hv : Jvm.ClassFile.Reader.signed 16 (x1 * 256 + x2) = v) : decode c pc = .ok (.if_icmp .ne v, 3) := by
  subst hl
  subst hv
  obtain ⟨q0, h⟩ := kAtB_s _ _ h
  obtain ⟨q1, h⟩ := kAtB_s _ _ h
  obtain ⟨q2, h⟩ := kAtB_s _ _ h
  have q : (Jvm.ClassFile.Decoder.instr pc).runAt c pc = .ok (.if_icmp .ne (Jvm.ClassFile.Reader.signed 16 (x1 * 256 + x2)), pc + 3) := by
    unfold Jvm.ClassFile.Reader.runAt
    show Jvm.ClassFile.Decoder.instr pc c pc = _
    unfold Jvm.ClassFile.Decoder.instr
    refine (kqb (kq1 q0)).trans ?_
    show (bind Jvm.ClassFile.Reader.s2 (fun x => pure (.if_icmp .ne x)) : Jvm.ClassFile.Decoder Jvm.ClassFile.Instr) c (pc + 1) = _
    exact (kqb (kqm (kq2 q1 q2))).trans rfl
  unfold Jvm.ClassFile.decode
  rw [q]
  show Except.ok (_, pc + 3 - pc) = _
  rw [Nat.add_sub_cancel_left]
set_option maxRecDepth 100000 in
theorem kqo_a1 {c : ByteArray} {l : List Nat} {pc : Nat} {x1 x2 : Nat} {v : Int} (hl : kbs c = l) (h : kAtB l pc [161, x1, x2] = true) (hv : Jvm.ClassFile.Reader.signed 16 (x1 * 256 + x2) = v) : decode c pc = .ok (.if_icmp .lt v, 3) := by
  subst hl
  subst hv
  obtain ⟨q0, h⟩ := kAtB_s _ _ h
  obtain ⟨q1, h⟩ := kAtB_s _ _ h
  obtain ⟨q2, h⟩ := kAtB_s _ _ h
  have q : (Jvm.ClassFile.Decoder.instr pc).runAt c pc = .ok (.if_icmp .lt (Jvm.ClassFile.Reader.signed 16 (x1 * 256 + x2)), pc + 3) := by
    unfold Jvm.ClassFile.Reader.runAt
    show Jvm.ClassFile.Decoder.instr pc c pc = _
    unfold Jvm.ClassFile.Decoder.instr
    refine (kqb (kq1 q0)).trans ?_
    show (bind Jvm.ClassFile.Reader.s2 (fun x => pure (.if_icmp .lt x)) : Jvm.ClassFile.Decoder Jvm.ClassFile.Instr) c (pc + 1) = _
    exact (kqb (kqm (kq2 q1 q2))).trans rfl
  unfold Jvm.ClassFile.decode
  rw [q]
  show Except.ok (_, pc + 3 - pc) = _
  rw [Nat.add_sub_cancel_left]
set_option maxRecDepth 100000 in
theorem kqo_a2 {c : ByteArray} {l : List Nat} {pc : Nat} {x1 x2 : Nat} {v : Int} (hl : kbs c = l) (h : kAtB l pc [162, x1, x2] = true) (hv : Jvm.ClassFile.Reader.signed 16 (x1 * 256 + x2) = v) : decode c pc = .ok (.if_icmp .ge v, 3) := by
  subst hl
  subst hv
  obtain ⟨q0, h⟩ := kAtB_s _ _ h
  obtain ⟨q1, h⟩ := kAtB_s _ _ h
  obtain ⟨q2, h⟩ := kAtB_s _ _ h
  have q : (Jvm.ClassFile.Decoder.instr pc).runAt c pc = .ok (.if_icmp .ge (Jvm.ClassFile.Reader.signed 16 (x1 * 256 + x2)), pc + 3) := by
    unfold Jvm.ClassFile.Reader.runAt
    show Jvm.ClassFile.Decoder.instr pc c pc = _
    unfold Jvm.ClassFile.Decoder.instr
    refine (kqb (kq1 q0)).trans ?_
    show (bind Jvm.ClassFile.Reader.s2 (fun x => pure (.if_icmp .ge x)) : Jvm.ClassFile.Decoder Jvm.ClassFile.Instr) c (pc + 1) = _
    exact (kqb (kqm (kq2 q1 q2))).trans rfl
  unfold Jvm.ClassFile.decode
  rw [q]
  show Except.ok (_, pc + 3 - pc) = _
  rw [Nat.add_sub_cancel_left]
set_option maxRecDepth 100000 in
theorem kqo_a3 {c : ByteArray} {l : List Nat} {pc : Nat} {x1 x2 : Nat} {v : Int} (hl : kbs c = l) (h : kAtB l pc [163, x1, x2] = true) (hv : Jvm.ClassFile.Reader.signed 16 (x1 * 256 + x2) = v) : decode c pc = .ok (.if_icmp .gt v, 3) := by
  subst hl
  subst hv
  obtain ⟨q0, h⟩ := kAtB_s _ _ h
  obtain ⟨q1, h⟩ := kAtB_s _ _ h
  obtain ⟨q2, h⟩ := kAtB_s _ _ h
  have q : (Jvm.ClassFile.Decoder.instr pc).runAt c pc = .ok (.if_icmp .gt (Jvm.ClassFile.Reader.signed 16 (x1 * 256 + x2)), pc + 3) := by
    unfold Jvm.ClassFile.Reader.runAt
    show Jvm.ClassFile.Decoder.instr pc c pc = _
    unfold Jvm.ClassFile.Decoder.instr
    refine (kqb (kq1 q0)).trans ?_
    show (bind Jvm.ClassFile.Reader.s2 (fun x => pure (.if_icmp .gt x)) : Jvm.ClassFile.Decoder Jvm.ClassFile.Instr) c (pc + 1) = _
    exact (kqb (kqm (kq2 q1 q2))).trans rfl
  unfold Jvm.ClassFile.decode
  rw [q]
  show Except.ok (_, pc + 3 - pc) = _
  rw [Nat.add_sub_cancel_left]
set_option maxRecDepth 100000 in
theorem kqo_a4 {c : ByteArray} {l : List Nat} {pc : Nat} {x1 x2 : Nat} {v : Int} (hl : kbs c = l) (h : kAtB l pc [164, x1, x2] = true) (hv : Jvm.ClassFile.Reader.signed 16 (x1 * 256 + x2) = v) : decode c pc = .ok (.if_icmp .le v, 3) := by
  subst hl
  subst hv
  obtain ⟨q0, h⟩ := kAtB_s _ _ h
  obtain ⟨q1, h⟩ := kAtB_s _ _ h
  obtain ⟨q2, h⟩ := kAtB_s _ _ h
  have q : (Jvm.ClassFile.Decoder.instr pc).runAt c pc = .ok (.if_icmp .le (Jvm.ClassFile.Reader.signed 16 (x1 * 256 + x2)), pc + 3) := by
    unfold Jvm.ClassFile.Reader.runAt
    show Jvm.ClassFile.Decoder.instr pc c pc = _
    unfold Jvm.ClassFile.Decoder.instr
    refine (kqb (kq1 q0)).trans ?_
    show (bind Jvm.ClassFile.Reader.s2 (fun x => pure (.if_icmp .le x)) : Jvm.ClassFile.Decoder Jvm.ClassFile.Instr) c (pc + 1) = _
    exact (kqb (kqm (kq2 q1 q2))).trans rfl
  unfold Jvm.ClassFile.decode
  rw [q]
  show Except.ok (_, pc + 3 - pc) = _
  rw [Nat.add_sub_cancel_left]
set_option maxRecDepth 100000 in
theorem kqo_a7 {c : ByteArray} {l : List Nat} {pc : Nat} {x1 x2 : Nat} {v : Int} (hl : kbs c = l) (h : kAtB l pc [167, x1, x2] = true) (hv : Jvm.ClassFile.Reader.signed 16 (x1 * 256 + x2) = v) : decode c pc = .ok (.goto v, 3) := by
  subst hl
  subst hv
  obtain ⟨q0, h⟩ := kAtB_s _ _ h
  obtain ⟨q1, h⟩ := kAtB_s _ _ h
  obtain ⟨q2, h⟩ := kAtB_s _ _ h
  have q : (Jvm.ClassFile.Decoder.instr pc).runAt c pc = .ok (.goto (Jvm.ClassFile.Reader.signed 16 (x1 * 256 + x2)), pc + 3) := by
    unfold Jvm.ClassFile.Reader.runAt
    show Jvm.ClassFile.Decoder.instr pc c pc = _
    unfold Jvm.ClassFile.Decoder.instr
    refine (kqb (kq1 q0)).trans ?_
    show (bind Jvm.ClassFile.Reader.s2 (fun x => pure (.goto x)) : Jvm.ClassFile.Decoder Jvm.ClassFile.Instr) c (pc + 1) = _
    exact (kqb (kqm (kq2 q1 q2))).trans rfl
  unfold Jvm.ClassFile.decode
  rw [q]
  show Except.ok (_, pc + 3 - pc) = _
  rw [Nat.add_sub_cancel_left]
set_option maxRecDepth 100000 in
theorem kqo_ac {c : ByteArray} {l : List Nat} {pc : Nat} (hl : kbs c = l) (h : kAtB l pc [172] = true) : decode c pc = .ok (.ireturn, 1) := by
  subst hl
  obtain ⟨q0, h⟩ := kAtB_s _ _ h
  have q : (Jvm.ClassFile.Decoder.instr pc).runAt c pc = .ok (.ireturn, pc + 1) := by
    unfold Jvm.ClassFile.Reader.runAt
    show Jvm.ClassFile.Decoder.instr pc c pc = _
    unfold Jvm.ClassFile.Decoder.instr
    refine (kqb (kq1 q0)).trans ?_
    rfl
  unfold Jvm.ClassFile.decode
  rw [q]
  show Except.ok (_, pc + 1 - pc) = _
  rw [Nat.add_sub_cancel_left]
set_option maxRecDepth 100000 in
theorem kqo_ad {c : ByteArray} {l : List Nat} {pc : Nat} (hl : kbs c = l) (h : kAtB l pc [173] = true) : decode c pc = .ok (.lreturn, 1) := by
  subst hl
  obtain ⟨q0, h⟩ := kAtB_s _ _ h
  have q : (Jvm.ClassFile.Decoder.instr pc).runAt c pc = .ok (.lreturn, pc + 1) := by
    unfold Jvm.ClassFile.Reader.runAt
    show Jvm.ClassFile.Decoder.instr pc c pc = _
    unfold Jvm.ClassFile.Decoder.instr
    refine (kqb (kq1 q0)).trans ?_
    rfl
  unfold Jvm.ClassFile.decode
  rw [q]
  show Except.ok (_, pc + 1 - pc) = _
  rw [Nat.add_sub_cancel_left]
set_option maxRecDepth 100000 in
theorem kqo_b1 {c : ByteArray} {l : List Nat} {pc : Nat} (hl : kbs c = l) (h : kAtB l pc [177] = true) : decode c pc = .ok (.return_, 1) := by
  subst hl
  obtain ⟨q0, h⟩ := kAtB_s _ _ h
  have q : (Jvm.ClassFile.Decoder.instr pc).runAt c pc = .ok (.return_, pc + 1) := by
    unfold Jvm.ClassFile.Reader.runAt
    show Jvm.ClassFile.Decoder.instr pc c pc = _
    unfold Jvm.ClassFile.Decoder.instr
    refine (kqb (kq1 q0)).trans ?_
    rfl
  unfold Jvm.ClassFile.decode
  rw [q]
  show Except.ok (_, pc + 1 - pc) = _
  rw [Nat.add_sub_cancel_left]
set_option maxRecDepth 100000 in
theorem kqo_b4 {c : ByteArray} {l : List Nat} {pc : Nat} {x1 x2 : Nat} {n : Nat} (hl : kbs c = l) (h : kAtB l pc [180, x1, x2] = true) (hv : x1 * 256 + x2 = n) : decode c pc = .ok (.getfield n, 3) := by
  subst hl
  subst hv
  obtain ⟨q0, h⟩ := kAtB_s _ _ h
  obtain ⟨q1, h⟩ := kAtB_s _ _ h
  obtain ⟨q2, h⟩ := kAtB_s _ _ h
  have q : (Jvm.ClassFile.Decoder.instr pc).runAt c pc = .ok (.getfield (x1 * 256 + x2), pc + 3) := by
    unfold Jvm.ClassFile.Reader.runAt
    show Jvm.ClassFile.Decoder.instr pc c pc = _
    unfold Jvm.ClassFile.Decoder.instr
    refine (kqb (kq1 q0)).trans ?_
    show (bind Jvm.ClassFile.Reader.u2 (fun x => pure (.getfield x)) : Jvm.ClassFile.Decoder Jvm.ClassFile.Instr) c (pc + 1) = _
    exact (kqb (kq2 q1 q2)).trans rfl
  unfold Jvm.ClassFile.decode
  rw [q]
  show Except.ok (_, pc + 3 - pc) = _
  rw [Nat.add_sub_cancel_left]
set_option maxRecDepth 100000 in
theorem kqo_b5 {c : ByteArray} {l : List Nat} {pc : Nat} {x1 x2 : Nat} {n : Nat} (hl : kbs c = l) (h : kAtB l pc [181, x1, x2] = true) (hv : x1 * 256 + x2 = n) : decode c pc = .ok (.putfield n, 3) := by
  subst hl
  subst hv
  obtain ⟨q0, h⟩ := kAtB_s _ _ h
  obtain ⟨q1, h⟩ := kAtB_s _ _ h
  obtain ⟨q2, h⟩ := kAtB_s _ _ h
  have q : (Jvm.ClassFile.Decoder.instr pc).runAt c pc = .ok (.putfield (x1 * 256 + x2), pc + 3) := by
    unfold Jvm.ClassFile.Reader.runAt
    show Jvm.ClassFile.Decoder.instr pc c pc = _
    unfold Jvm.ClassFile.Decoder.instr
    refine (kqb (kq1 q0)).trans ?_
    show (bind Jvm.ClassFile.Reader.u2 (fun x => pure (.putfield x)) : Jvm.ClassFile.Decoder Jvm.ClassFile.Instr) c (pc + 1) = _
    exact (kqb (kq2 q1 q2)).trans rfl
  unfold Jvm.ClassFile.decode
  rw [q]
  show Except.ok (_, pc + 3 - pc) = _
  rw [Nat.add_sub_cancel_left]
set_option maxRecDepth 100000 in
theorem kqo_b6 {c : ByteArray} {l : List Nat} {pc : Nat} {x1 x2 : Nat} {n : Nat} (hl : kbs c = l) (h : kAtB l pc [182, x1, x2] = true) (hv : x1 * 256 + x2 = n) : decode c pc = .ok (.invokevirtual n, 3) := by
  subst hl
  subst hv
  obtain ⟨q0, h⟩ := kAtB_s _ _ h
  obtain ⟨q1, h⟩ := kAtB_s _ _ h
  obtain ⟨q2, h⟩ := kAtB_s _ _ h
  have q : (Jvm.ClassFile.Decoder.instr pc).runAt c pc = .ok (.invokevirtual (x1 * 256 + x2), pc + 3) := by
    unfold Jvm.ClassFile.Reader.runAt
    show Jvm.ClassFile.Decoder.instr pc c pc = _
    unfold Jvm.ClassFile.Decoder.instr
    refine (kqb (kq1 q0)).trans ?_
    show (bind Jvm.ClassFile.Reader.u2 (fun x => pure (.invokevirtual x)) : Jvm.ClassFile.Decoder Jvm.ClassFile.Instr) c (pc + 1) = _
    exact (kqb (kq2 q1 q2)).trans rfl
  unfold Jvm.ClassFile.decode
  rw [q]
  show Except.ok (_, pc + 3 - pc) = _
  rw [Nat.add_sub_cancel_left]
set_option maxRecDepth 100000 in
theorem kqo_b7 {c : ByteArray} {l : List Nat} {pc : Nat} {x1 x2 : Nat} {n : Nat} (hl : kbs c = l) (h : kAtB l pc [183, x1, x2] = true) (hv : x1 * 256 + x2 = n) : decode c pc = .ok (.invokespecial n, 3) := by
  subst hl
  subst hv
  obtain ⟨q0, h⟩ := kAtB_s _ _ h
  obtain ⟨q1, h⟩ := kAtB_s _ _ h
  obtain ⟨q2, h⟩ := kAtB_s _ _ h
  have q : (Jvm.ClassFile.Decoder.instr pc).runAt c pc = .ok (.invokespecial (x1 * 256 + x2), pc + 3) := by
    unfold Jvm.ClassFile.Reader.runAt
    show Jvm.ClassFile.Decoder.instr pc c pc = _
    unfold Jvm.ClassFile.Decoder.instr
    refine (kqb (kq1 q0)).trans ?_
    show (bind Jvm.ClassFile.Reader.u2 (fun x => pure (.invokespecial x)) : Jvm.ClassFile.Decoder Jvm.ClassFile.Instr) c (pc + 1) = _
    exact (kqb (kq2 q1 q2)).trans rfl
  unfold Jvm.ClassFile.decode
  rw [q]
  show Except.ok (_, pc + 3 - pc) = _
  rw [Nat.add_sub_cancel_left]
set_option maxRecDepth 100000 in
theorem kqo_b8 {c : ByteArray} {l : List Nat} {pc : Nat} {x1 x2 : Nat} {n : Nat} (hl : kbs c = l) (h : kAtB l pc [184, x1, x2] = true) (hv : x1 * 256 + x2 = n) : decode c pc = .ok (.invokestatic n, 3) := by
  subst hl
  subst hv
  obtain ⟨q0, h⟩ := kAtB_s _ _ h
  obtain ⟨q1, h⟩ := kAtB_s _ _ h
  obtain ⟨q2, h⟩ := kAtB_s _ _ h
  have q : (Jvm.ClassFile.Decoder.instr pc).runAt c pc = .ok (.invokestatic (x1 * 256 + x2), pc + 3) := by
    unfold Jvm.ClassFile.Reader.runAt
    show Jvm.ClassFile.Decoder.instr pc c pc = _
    unfold Jvm.ClassFile.Decoder.instr
    refine (kqb (kq1 q0)).trans ?_
    show (bind Jvm.ClassFile.Reader.u2 (fun x => pure (.invokestatic x)) : Jvm.ClassFile.Decoder Jvm.ClassFile.Instr) c (pc + 1) = _
    exact (kqb (kq2 q1 q2)).trans rfl
  unfold Jvm.ClassFile.decode
  rw [q]
  show Except.ok (_, pc + 3 - pc) = _
  rw [Nat.add_sub_cancel_left]
def kbd_J6_bitCount_0f7a4 : List Nat := [26, 26, 4, 124, 19, 1, 9, 126, 100, 59, 26, 19, 1, 10, 126, 26, 5, 124, 19, 1, 10, 126, 96, 59, 26, 26, 7, 124, 96, 19, 1, 11, 126, 59, 26, 26, 16, 8, 124, 96, 59, 26, 26, 16, 16, 124, 96, 59, 26, 16, 63, 126, 172]
theorem kbl_J6_bitCount_0f7a4 : kbs cJ6_bitCount_0f7a4 = kbd_J6_bitCount_0f7a4 := by decide +kernel
def kbd_X0_all : List Nat := [4, 42, 180, 0, 21, 120, 4, 100, 172]
theorem kbl_X0_all : kbs cX0_all = kbd_X0_all := by decide +kernel
def kbd_X0_fitting : List Nat := [3, 61, 3, 62, 29, 42, 180, 0, 21, 162, 0, 27, 42, 180, 0, 18, 29, 46, 27, 126, 27, 160, 0, 9, 28, 4, 29, 120, 128, 61, 132, 3, 1, 167, 255, 227, 28, 172]
theorem kbl_X0_fitting : kbs cX0_fitting = kbd_X0_fitting := by decide +kernel
def kbd_X0_init : List Nat := [42, 183, 0, 3, 42, 7, 188, 10, 181, 0, 9, 42, 7, 188, 10, 181, 0, 15, 42, 7, 188, 10, 181, 0, 18, 177]
theorem kbl_X0_init : kbs cX0_init = kbd_X0_init := by decide +kernel
def kbd_X0_isFont : List Nat := [27, 3, 42, 180, 0, 21, 4, 100, 184, 0, 25, 172]
theorem kbl_X0_isFont : kbs cX0_isFont = kbd_X0_isFont := by decide +kernel
def kbd_X0_step : List Nat := [42, 27, 182, 0, 29, 153, 0, 21, 42, 180, 0, 9, 27, 46, 42, 180, 0, 15, 27, 46, 184, 0, 33, 167, 0, 4, 3, 172]
theorem kbl_X0_step : kbs cX0_step = kbd_X0_step := by decide +kernel
def kbd_X0_takeFrom : List Nat := [42, 43, 180, 0, 21, 181, 0, 21, 3, 61, 28, 7, 162, 0, 45, 42, 180, 0, 9, 28, 43, 180, 0, 9, 28, 46, 79, 42, 180, 0, 15, 28, 43, 180, 0, 15, 28, 46, 79, 42, 180, 0, 18, 28, 43, 180, 0, 18, 28, 46, 79, 132, 2, 1, 167, 255, 212, 177]
theorem kbl_X0_takeFrom : kbs cX0_takeFrom = kbd_X0_takeFrom := by decide +kernel
def kbd_X1_begin : List Nat := [42, 27, 7, 184, 0, 15, 181, 0, 21, 3, 61, 28, 42, 180, 0, 21, 162, 0, 16, 42, 180, 0, 9, 28, 28, 79, 132, 2, 1, 167, 255, 238, 177]
theorem kbl_X1_begin : kbs cX1_begin = kbd_X1_begin := by decide +kernel
def kbd_X1_init : List Nat := [42, 183, 0, 3, 42, 7, 188, 10, 181, 0, 9, 177]
theorem kbl_X1_init : kbs cX1_init = kbd_X1_init := by decide +kernel
def kbd_X1_lead : List Nat := [42, 27, 182, 0, 25, 61, 28, 16, 247, 160, 0, 5, 3, 172, 28, 62, 29, 158, 0, 23, 42, 180, 0, 9, 29, 42, 180, 0, 9, 29, 4, 100, 46, 79, 132, 3, 255, 167, 255, 235, 42, 180, 0, 9, 3, 27, 79, 4, 172]
theorem kbl_X1_lead : kbs cX1_lead = kbd_X1_lead := by decide +kernel
def kbd_X1_placeOf : List Nat := [3, 61, 28, 42, 180, 0, 21, 162, 0, 21, 42, 180, 0, 9, 28, 46, 27, 160, 0, 5, 28, 172, 132, 2, 1, 167, 255, 233, 16, 247, 172]
theorem kbl_X1_placeOf : kbs cX1_placeOf = kbd_X1_placeOf := by decide +kernel
def kbd_X1_takeFrom : List Nat := [42, 43, 180, 0, 21, 181, 0, 21, 3, 61, 28, 7, 162, 0, 21, 42, 180, 0, 9, 28, 43, 180, 0, 9, 28, 46, 79, 132, 2, 1, 167, 255, 236, 177]
theorem kbl_X1_takeFrom : kbs cX1_takeFrom = kbd_X1_takeFrom := by decide +kernel
def kbd_X2_add : List Nat := [42, 180, 0, 20, 3, 16, 7, 184, 0, 24, 154, 0, 5, 3, 172, 42, 180, 0, 9, 42, 180, 0, 20, 28, 79, 3, 62, 29, 7, 162, 0, 25, 42, 180, 0, 17, 42, 180, 0, 20, 50, 29, 43, 29, 182, 0, 28, 79, 132, 3, 1, 167, 255, 232, 42, 89, 180, 0, 20, 4, 96, 181, 0, 20, 4, 172]
theorem kbl_X2_add : kbs cX2_add = kbd_X2_add := by decide +kernel
def kbd_X2_areSo : List Nat := [3, 54, 4, 21, 4, 42, 180, 0, 20, 162, 0, 76, 3, 54, 5, 3, 54, 6, 21, 6, 43, 180, 0, 34, 162, 0, 41, 21, 5, 42, 180, 0, 17, 21, 4, 50, 21, 6, 46, 21, 6, 28, 160, 0, 7, 29, 167, 0, 9, 43, 21, 6, 182, 0, 37, 104, 96, 54, 5, 132, 6, 1, 167, 255, 212, 21, 5, 42, 180, 0, 9, 21, 4, 46, 159, 0, 5, 3, 172, 132, 4, 1, 167, 255, 177, 4, 172]
theorem kbl_X2_areSo : kbs cX2_areSo = kbd_X2_areSo := by decide +kernel
def kbd_X2_init : List Nat := [42, 183, 0, 3, 42, 16, 8, 188, 10, 181, 0, 9, 42, 16, 8, 7, 197, 0, 15, 2, 181, 0, 17, 177]
theorem kbl_X2_init : kbs cX2_init = kbd_X2_init := by decide +kernel
def kbd_X3_init : List Nat := [42, 183, 0, 3, 42, 8, 188, 10, 181, 0, 9, 177]
theorem kbl_X3_init : kbs cX3_init = kbd_X3_init := by decide +kernel
def kbd_X3_keep : List Nat := [7, 61, 28, 158, 0, 23, 42, 180, 0, 9, 28, 42, 180, 0, 9, 28, 4, 100, 46, 79, 132, 2, 255, 167, 255, 235, 42, 180, 0, 9, 3, 27, 79, 42, 42, 180, 0, 15, 4, 96, 8, 184, 0, 19, 181, 0, 15, 177]
theorem kbl_X3_keep : kbs cX3_keep = kbd_X3_keep := by decide +kernel
def kbd_X4_advance : List Nat := [3, 61, 3, 62, 29, 42, 180, 0, 51, 162, 0, 22, 28, 43, 42, 180, 0, 21, 29, 46, 182, 0, 68, 96, 61, 132, 3, 1, 167, 255, 232, 28, 172]
theorem kbl_X4_advance : kbs cX4_advance = kbd_X4_advance := by decide +kernel
def kbd_X4_changes : List Nat := [42, 180, 0, 59, 4, 100, 3, 184, 0, 62, 172]
theorem kbl_X4_changes : kbs cX4_changes = kbd_X4_changes := by decide +kernel
def kbd_X4_choose : List Nat := [42, 3, 181, 0, 59, 3, 61, 28, 42, 180, 0, 51, 162, 0, 72, 28, 154, 0, 8, 16, 247, 167, 0, 11, 42, 180, 0, 21, 28, 4, 100, 46, 62, 42, 180, 0, 21, 28, 42, 28, 29, 43, 182, 0, 88, 79, 42, 180, 0, 21, 28, 46, 29, 159, 0, 13, 42, 89, 180, 0, 59, 4, 96, 181, 0, 59, 42, 180, 0, 24, 28, 42, 180, 0, 59, 4, 100, 79, 132, 2, 1, 167, 255, 182, 177]
theorem kbl_X4_choose : kbs cX4_choose = kbd_X4_choose := by decide +kernel
def kbd_X4_clustersIn : List Nat := [3, 61, 3, 62, 29, 42, 180, 0, 51, 162, 0, 22, 42, 180, 0, 21, 29, 46, 27, 160, 0, 6, 132, 2, 1, 132, 3, 1, 167, 255, 232, 28, 172]
theorem kbl_X4_clustersIn : kbs cX4_clustersIn = kbd_X4_clustersIn := by decide +kernel
def kbd_X4_clustersOfRun : List Nat := [3, 61, 3, 62, 29, 42, 180, 0, 51, 162, 0, 22, 42, 180, 0, 24, 29, 46, 27, 160, 0, 6, 132, 2, 1, 132, 3, 1, 167, 255, 232, 28, 172]
theorem kbl_X4_clustersOfRun : kbs cX4_clustersOfRun = kbd_X4_clustersOfRun := by decide +kernel
def kbd_X4_cut : List Nat := [42, 3, 181, 0, 51, 3, 61, 28, 43, 180, 0, 74, 162, 0, 101, 43, 180, 0, 77, 28, 46, 62, 42, 180, 0, 51, 153, 0, 9, 29, 16, 12, 162, 0, 43, 42, 180, 0, 9, 42, 180, 0, 51, 28, 79, 42, 180, 0, 15, 42, 180, 0, 51, 3, 79, 42, 180, 0, 27, 42, 180, 0, 51, 3, 79, 42, 89, 180, 0, 51, 4, 96, 181, 0, 51, 42, 180, 0, 15, 42, 180, 0, 51, 4, 100, 92, 46, 4, 96, 79, 42, 180, 0, 27, 42, 180, 0, 51, 4, 100, 92, 46, 4, 29, 120, 128, 79, 132, 2, 1, 167, 255, 153, 177]
theorem kbl_X4_cut : kbs cX4_cut = kbd_X4_cut := by decide +kernel
def kbd_X4_findBehind : List Nat := [3, 61, 42, 180, 0, 51, 4, 100, 62, 29, 155, 0, 129, 42, 180, 0, 18, 29, 46, 154, 0, 7, 27, 167, 0, 9, 42, 180, 0, 18, 29, 46, 54, 4, 17, 3, 232, 54, 5, 3, 54, 6, 21, 6, 7, 162, 0, 85, 29, 4, 96, 42, 180, 0, 51, 162, 0, 17, 42, 180, 0, 32, 29, 4, 96, 50, 21, 6, 46, 167, 0, 4, 3, 54, 7, 42, 180, 0, 32, 29, 50, 21, 6, 21, 4, 21, 6, 122, 4, 126, 154, 0, 9, 17, 3, 232, 167, 0, 11, 21, 7, 28, 4, 96, 184, 0, 85, 79, 21, 5, 42, 180, 0, 32, 29, 50, 21, 6, 46, 184, 0, 85, 54, 5, 132, 6, 1, 167, 255, 171, 21, 5, 61, 132, 3, 255, 167, 255, 129, 177]
theorem kbl_X4_findBehind : kbs cX4_findBehind = kbd_X4_findBehind := by decide +kernel
def kbd_X4_findFitting : List Nat := [42, 3, 181, 0, 80, 3, 62, 29, 42, 180, 0, 51, 162, 0, 46, 42, 180, 0, 18, 29, 43, 42, 180, 0, 27, 29, 46, 182, 0, 83, 28, 126, 79, 42, 180, 0, 18, 29, 46, 154, 0, 13, 42, 89, 180, 0, 80, 4, 96, 181, 0, 80, 132, 3, 1, 167, 255, 208, 177]
theorem kbl_X4_findFitting : kbs cX4_findFitting = kbd_X4_findFitting := by decide +kernel
def kbd_X4_firstOfBest : List Nat := [3, 54, 4, 17, 3, 232, 54, 5, 3, 54, 6, 21, 6, 45, 180, 0, 92, 162, 0, 62, 45, 180, 0, 95, 21, 6, 46, 54, 7, 42, 180, 0, 32, 27, 50, 21, 7, 46, 21, 7, 28, 159, 0, 9, 28, 16, 247, 160, 0, 7, 3, 167, 0, 4, 4, 96, 54, 8, 21, 8, 21, 5, 162, 0, 11, 21, 8, 54, 5, 21, 7, 54, 4, 132, 6, 1, 167, 255, 191, 21, 4, 172]
theorem kbl_X4_firstOfBest : kbs cX4_firstOfBest = kbd_X4_firstOfBest := by decide +kernel
def kbd_X4_firstOfRun : List Nat := [3, 61, 28, 42, 180, 0, 51, 4, 100, 162, 0, 19, 42, 180, 0, 24, 28, 46, 27, 159, 0, 9, 132, 2, 1, 167, 255, 233, 28, 172]
theorem kbl_X4_firstOfRun : kbs cX4_firstOfRun = kbd_X4_firstOfRun := by decide +kernel
def kbd_X4_init : List Nat := [42, 183, 0, 3, 42, 16, 24, 188, 10, 181, 0, 9, 42, 16, 24, 188, 10, 181, 0, 15, 42, 16, 24, 188, 10, 181, 0, 18, 42, 16, 24, 188, 10, 181, 0, 21, 42, 16, 24, 188, 10, 181, 0, 24, 42, 16, 24, 188, 10, 181, 0, 27, 42, 16, 24, 7, 197, 0, 30, 2, 181, 0, 32, 177]
theorem kbl_X4_init : kbs cX4_init = kbd_X4_init := by decide +kernel
def kbd_X4_isCluster : List Nat := [27, 3, 42, 180, 0, 51, 4, 100, 184, 0, 55, 172]
theorem kbl_X4_isCluster : kbs cX4_isCluster = kbd_X4_isCluster := by decide +kernel
def kbd_X4_isServedBy : List Nat := [3, 61, 28, 42, 180, 0, 51, 162, 0, 31, 42, 180, 0, 18, 28, 46, 153, 0, 16, 42, 180, 0, 18, 28, 46, 27, 126, 154, 0, 5, 3, 172, 132, 2, 1, 167, 255, 223, 4, 172]
theorem kbl_X4_isServedBy : kbs cX4_isServedBy = kbd_X4_isServedBy := by decide +kernel
def kbd_X4_make : List Nat := [42, 43, 182, 0, 35, 42, 44, 21, 4, 182, 0, 39, 42, 21, 4, 182, 0, 43, 42, 45, 182, 0, 47, 177]
theorem kbl_X4_make : kbs cX4_make = kbd_X4_make := by decide +kernel
def kbd_X5_at : List Nat := [42, 27, 182, 0, 30, 153, 0, 12, 42, 180, 0, 9, 27, 46, 167, 0, 4, 3, 172]
theorem kbl_X5_at : kbs cX5_at = kbd_X5_at := by decide +kernel
def kbd_X5_begin : List Nat := [3, 62, 29, 16, 60, 162, 0, 16, 42, 180, 0, 9, 29, 3, 79, 132, 3, 1, 167, 255, 240, 42, 4, 181, 0, 15, 42, 27, 181, 0, 19, 42, 28, 181, 0, 23, 177]
theorem kbl_X5_begin : kbs cX5_begin = kbd_X5_begin := by decide +kernel
def kbd_X5_cut : List Nat := [42, 180, 0, 19, 171, 0, 0, 0, 0, 0, 0, 34, 0, 0, 0, 2, 0, 0, 0, 0, 0, 0, 0, 28, 0, 0, 0, 1, 0, 0, 0, 31, 27, 145, 172, 27, 147, 172, 27, 172]
theorem kbl_X5_cut : kbs cX5_cut = kbd_X5_cut := by decide +kernel
def kbd_X5_hasCell : List Nat := [42, 180, 0, 15, 153, 0, 21, 27, 3, 42, 180, 0, 23, 4, 100, 184, 0, 26, 153, 0, 7, 4, 167, 0, 4, 3, 172]
theorem kbl_X5_hasCell : kbs cX5_hasCell = kbd_X5_hasCell := by decide +kernel
def kbd_X5_hasCells : List Nat := [42, 180, 0, 15, 153, 0, 33, 27, 3, 42, 180, 0, 23, 184, 0, 26, 153, 0, 21, 28, 3, 42, 180, 0, 23, 27, 100, 184, 0, 26, 153, 0, 7, 4, 167, 0, 4, 3, 172]
theorem kbl_X5_hasCells : kbs cX5_hasCells = kbd_X5_hasCells := by decide +kernel
def kbd_X5_init : List Nat := [42, 183, 0, 3, 42, 16, 60, 188, 10, 181, 0, 9, 177]
theorem kbl_X5_init : kbs cX5_init = kbd_X5_init := by decide +kernel
def kbd_X6_firstFault : List Nat := [42, 180, 0, 12, 3, 181, 0, 18, 42, 3, 181, 0, 22, 3, 54, 4, 21, 4, 29, 162, 0, 27, 42, 43, 28, 21, 4, 96, 182, 0, 25, 182, 0, 31, 154, 0, 6, 21, 4, 172, 132, 4, 1, 167, 255, 229, 42, 180, 0, 22, 8, 160, 0, 8, 16, 247, 167, 0, 4, 29, 172]
theorem kbl_X6_firstFault : kbs cX6_firstFault = kbd_X6_firstFault := by decide +kernel
def kbd_X6_goesOnWith : List Nat := [42, 180, 0, 22, 170, 0, 0, 0, 0, 0, 0, 93, 0, 0, 0, 0, 0, 0, 0, 4, 0, 0, 0, 36, 0, 0, 0, 42, 0, 0, 0, 48, 0, 0, 0, 63, 0, 0, 0, 78, 42, 27, 182, 0, 35, 172, 42, 27, 182, 0, 38, 172, 42, 27, 42, 180, 0, 12, 180, 0, 18, 4, 100, 182, 0, 41, 172, 42, 27, 42, 180, 0, 12, 180, 0, 18, 4, 100, 182, 0, 45, 172, 42, 27, 42, 180, 0, 12, 180, 0, 18, 4, 100, 182, 0, 48, 172, 27, 16, 59, 160, 0, 11, 42, 27, 182, 0, 38, 167, 0, 17, 42, 27, 42, 180, 0, 12, 180, 0, 18, 4, 100, 182, 0, 48, 172]
theorem kbl_X6_goesOnWith : kbs cX6_goesOnWith = kbd_X6_goesOnWith := by decide +kernel
def kbd_X6_init : List Nat := [42, 183, 0, 3, 42, 187, 0, 9, 89, 183, 0, 11, 181, 0, 12, 177]
theorem kbl_X6_init : kbs cX6_init = kbd_X6_init := by decide +kernel
def kbd_X6_takesBreadth : List Nat := [42, 180, 0, 12, 28, 182, 0, 55, 153, 0, 14, 27, 16, 49, 16, 57, 184, 0, 58, 154, 0, 5, 3, 172, 42, 180, 0, 12, 180, 0, 65, 28, 27, 16, 48, 100, 79, 42, 7, 181, 0, 22, 4, 172]
theorem kbl_X6_takesBreadth : kbs cX6_takesBreadth = kbd_X6_takesBreadth := by decide +kernel
def kbd_X6_takesHead : List Nat := [42, 4, 181, 0, 22, 27, 16, 102, 160, 0, 7, 4, 167, 0, 4, 3, 172]
theorem kbl_X6_takesHead : kbs cX6_takesHead = kbd_X6_takesHead := by decide +kernel
def kbd_X6_takesKind : List Nat := [42, 180, 0, 12, 28, 182, 0, 55, 153, 0, 14, 27, 16, 65, 16, 67, 184, 0, 58, 154, 0, 5, 3, 172, 42, 180, 0, 12, 180, 0, 62, 28, 27, 16, 65, 100, 79, 42, 6, 181, 0, 22, 4, 172]
theorem kbl_X6_takesKind : kbs cX6_takesKind = kbd_X6_takesKind := by decide +kernel
def kbd_X6_takesLetter : List Nat := [42, 180, 0, 12, 28, 182, 0, 55, 153, 0, 14, 27, 16, 97, 16, 112, 184, 0, 58, 154, 0, 5, 3, 172, 4, 27, 16, 97, 100, 120, 62, 42, 180, 0, 12, 180, 0, 51, 28, 46, 29, 126, 154, 0, 20, 42, 180, 0, 12, 180, 0, 51, 28, 46, 184, 0, 68, 16, 8, 161, 0, 5, 3, 172, 42, 180, 0, 12, 180, 0, 51, 28, 92, 46, 29, 128, 79, 42, 8, 181, 0, 22, 4, 172]
theorem kbl_X6_takesLetter : kbs cX6_takesLetter = kbd_X6_takesLetter := by decide +kernel
def kbd_X6_takesSign : List Nat := [27, 16, 59, 160, 0, 14, 42, 180, 0, 12, 180, 0, 18, 7, 161, 0, 5, 3, 172, 42, 180, 0, 12, 180, 0, 51, 42, 180, 0, 12, 180, 0, 18, 3, 79, 42, 180, 0, 12, 89, 180, 0, 18, 4, 96, 181, 0, 18, 42, 5, 181, 0, 22, 4, 172]
theorem kbl_X6_takesSign : kbs cX6_takesSign = kbd_X6_takesSign := by decide +kernel
def kbd_X7_add : List Nat := [42, 180, 0, 15, 3, 16, 23, 184, 0, 19, 154, 0, 5, 3, 172, 42, 180, 0, 9, 42, 180, 0, 15, 27, 79, 42, 89, 180, 0, 15, 4, 96, 181, 0, 15, 4, 172]
theorem kbl_X7_add : kbs cX7_add = kbd_X7_add := by decide +kernel
def kbd_X7_drop : List Nat := [27, 3, 42, 180, 0, 15, 184, 0, 19, 154, 0, 5, 3, 172, 42, 89, 180, 0, 15, 27, 100, 181, 0, 15, 4, 172]
theorem kbl_X7_drop : kbs cX7_drop = kbd_X7_drop := by decide +kernel
def kbd_X7_init : List Nat := [42, 183, 0, 3, 42, 16, 24, 188, 10, 181, 0, 9, 177]
theorem kbl_X7_init : kbs cX7_init = kbd_X7_init := by decide +kernel
def kbd_X7_takeFrom : List Nat := [42, 43, 180, 0, 15, 181, 0, 15, 3, 61, 28, 16, 24, 162, 0, 21, 42, 180, 0, 9, 28, 43, 180, 0, 9, 28, 46, 79, 132, 2, 1, 167, 255, 235, 177]
theorem kbl_X7_takeFrom : kbs cX7_takeFrom = kbd_X7_takeFrom := by decide +kernel
def kbd_X8_areActs : List Nat := [3, 62, 29, 28, 162, 0, 37, 42, 27, 5, 29, 104, 96, 182, 0, 157, 42, 27, 5, 29, 104, 96, 4, 96, 182, 0, 157, 184, 0, 235, 154, 0, 5, 3, 172, 132, 3, 1, 167, 255, 220, 4, 172]
theorem kbl_X8_areActs : kbs cX8_areActs = kbd_X8_areActs := by decide +kernel
def kbd_X8_areLetters : List Nat := [3, 62, 29, 28, 162, 0, 27, 42, 27, 29, 96, 182, 0, 157, 3, 16, 15, 184, 0, 128, 154, 0, 5, 3, 172, 132, 3, 1, 167, 255, 230, 4, 172]
theorem kbl_X8_areLetters : kbs cX8_areLetters = kbd_X8_areLetters := by decide +kernel
def kbd_X8_as : List Nat := [42, 3, 181, 0, 76, 42, 180, 0, 28, 27, 182, 0, 109, 154, 0, 5, 2, 172, 28, 3, 5, 184, 0, 128, 154, 0, 6, 16, 254, 172, 42, 180, 0, 28, 180, 0, 112, 27, 46, 28, 161, 0, 7, 4, 167, 0, 8, 42, 5, 182, 0, 95, 172]
theorem kbl_X8_as : kbs cX8_as = kbd_X8_as := by decide +kernel
def kbd_X8_back : List Nat := [27, 3, 42, 180, 0, 63, 180, 0, 145, 184, 0, 128, 154, 0, 6, 16, 254, 172, 42, 180, 0, 63, 89, 180, 0, 145, 27, 100, 181, 0, 145, 42, 180, 0, 63, 180, 0, 145, 172]
theorem kbl_X8_back : kbs cX8_back = kbd_X8_back := by decide +kernel
def kbd_X8_beginWithFontsTold : List Nat := [42, 180, 0, 28, 42, 180, 0, 21, 180, 0, 132, 182, 0, 135, 42, 180, 0, 35, 3, 181, 0, 139, 42, 180, 0, 42, 42, 180, 0, 28, 180, 0, 106, 182, 0, 140, 42, 180, 0, 49, 3, 181, 0, 144, 42, 180, 0, 63, 3, 181, 0, 145, 42, 182, 0, 146, 177]
theorem kbl_X8_beginWithFontsTold : kbs cX8_beginWithFontsTold = kbd_X8_beginWithFontsTold := by decide +kernel
def kbd_X8_best : List Nat := [27, 3, 6, 184, 0, 128, 154, 0, 6, 16, 254, 172, 42, 180, 0, 28, 180, 0, 106, 154, 0, 6, 16, 253, 172, 27, 170, 0, 0, 0, 0, 50, 0, 0, 0, 0, 0, 0, 0, 2, 0, 0, 0, 26, 0, 0, 0, 34, 0, 0, 0, 42, 42, 180, 0, 56, 182, 0, 247, 172, 42, 180, 0, 56, 180, 0, 187, 172, 42, 180, 0, 56, 180, 0, 251, 172, 42, 180, 0, 56, 42, 180, 0, 28, 182, 0, 254, 172]
theorem kbl_X8_best : kbs cX8_best = kbd_X8_best := by decide +kernel
def kbd_X8_broadTold : List Nat := [42, 5, 182, 1, 63, 42, 27, 182, 1, 60, 16, 100, 96, 172]
theorem kbl_X8_broadTold : kbs cX8_broadTold = kbd_X8_broadTold := by decide +kernel
def kbd_X8_cell : List Nat := [42, 3, 181, 0, 76, 27, 184, 0, 80, 153, 0, 10, 29, 184, 0, 84, 154, 0, 7, 20, 1, 24, 173, 42, 180, 0, 13, 27, 50, 58, 4, 25, 4, 29, 184, 0, 87, 54, 5, 21, 5, 154, 0, 15, 25, 4, 28, 182, 1, 36, 154, 0, 6, 6, 54, 5, 21, 5, 153, 0, 13, 42, 21, 5, 181, 0, 76, 20, 1, 24, 173, 25, 4, 28, 182, 0, 157, 133, 173]
theorem kbl_X8_cell : kbs cX8_cell = kbd_X8_cell := by decide +kernel
def kbd_X8_check : List Nat := [42, 180, 0, 206, 173]
theorem kbl_X8_check : kbs cX8_check = kbd_X8_check := by decide +kernel
def kbd_X8_copy : List Nat := [42, 3, 181, 0, 76, 27, 184, 0, 80, 153, 0, 10, 29, 184, 0, 80, 154, 0, 5, 2, 172, 42, 180, 0, 13, 27, 50, 58, 6, 42, 180, 0, 13, 29, 50, 58, 7, 25, 6, 180, 1, 32, 153, 0, 11, 25, 7, 180, 1, 32, 154, 0, 9, 42, 4, 182, 0, 95, 172, 25, 6, 180, 1, 45, 25, 7, 180, 1, 45, 159, 0, 9, 42, 5, 182, 0, 95, 172, 25, 6, 28, 21, 5, 182, 0, 91, 153, 0, 15, 25, 7, 21, 4, 21, 5, 182, 0, 91, 154, 0, 9, 42, 6, 182, 0, 95, 172, 25, 6, 180, 1, 39, 28, 25, 7, 180, 1, 39, 21, 4, 21, 5, 184, 1, 48, 21, 5, 172]
theorem kbl_X8_copy : kbs cX8_copy = kbd_X8_copy := by decide +kernel
def kbd_X8_day : List Nat := [42, 3, 181, 0, 76, 27, 184, 0, 80, 154, 0, 5, 2, 172, 28, 184, 0, 84, 153, 0, 22, 21, 4, 3, 16, 20, 184, 0, 128, 153, 0, 11, 21, 5, 184, 0, 210, 154, 0, 6, 16, 254, 172, 42, 180, 0, 13, 27, 50, 58, 6, 25, 6, 28, 29, 5, 21, 4, 104, 184, 0, 149, 54, 7, 21, 7, 153, 0, 10, 42, 21, 7, 182, 0, 95, 172, 42, 180, 0, 28, 180, 0, 106, 154, 0, 6, 16, 253, 172, 25, 6, 29, 21, 4, 184, 0, 213, 154, 0, 6, 16, 254, 172, 42, 25, 6, 29, 21, 4, 182, 0, 216, 54, 8, 21, 5, 4, 160, 0, 6, 21, 8, 172, 21, 8, 16, 247, 160, 0, 12, 42, 21, 5, 182, 0, 219, 167, 0, 8, 16, 156, 21, 8, 100, 172]
theorem kbl_X8_day : kbs cX8_day = kbd_X8_day := by decide +kernel
def kbd_X8_doubleTold : List Nat := [42, 6, 182, 1, 63, 42, 27, 182, 1, 57, 61, 28, 42, 27, 182, 1, 60, 96, 172]
theorem kbl_X8_doubleTold : kbs cX8_doubleTold = kbd_X8_doubleTold := by decide +kernel
def kbd_X8_enough : List Nat := [27, 3, 4, 184, 0, 128, 154, 0, 6, 16, 254, 172, 42, 180, 0, 28, 180, 0, 106, 154, 0, 6, 16, 253, 172, 42, 182, 1, 2, 61, 27, 154, 0, 10, 28, 184, 1, 5, 167, 0, 4, 28, 172]
theorem kbl_X8_enough : kbs cX8_enough = kbd_X8_enough := by decide +kernel
def kbd_X8_erase : List Nat := [27, 3, 42, 180, 0, 35, 180, 0, 139, 184, 0, 128, 154, 0, 6, 16, 254, 172, 42, 180, 0, 35, 27, 182, 0, 163, 87, 42, 182, 0, 146, 42, 180, 0, 35, 180, 0, 139, 172]
theorem kbl_X8_erase : kbs cX8_erase = kbd_X8_erase := by decide +kernel
def kbd_X8_failWith : List Nat := [42, 27, 181, 0, 76, 16, 246, 27, 100, 172]
theorem kbl_X8_failWith : kbs cX8_failWith = kbd_X8_failWith := by decide +kernel
def kbd_X8_fault : List Nat := [42, 180, 0, 76, 172]
theorem kbl_X8_fault : kbs cX8_fault = kbd_X8_fault := by decide +kernel
def kbd_X8_faultOfCells : List Nat := [42, 27, 184, 0, 87, 54, 4, 21, 4, 153, 0, 6, 21, 4, 172, 42, 28, 29, 182, 0, 91, 153, 0, 7, 3, 167, 0, 4, 6, 172]
theorem kbl_X8_faultOfCells : kbs cX8_faultOfCells = kbd_X8_faultOfCells := by decide +kernel
def kbd_X8_faultOfLane : List Nat := [42, 180, 1, 32, 154, 0, 5, 4, 172, 42, 180, 1, 45, 27, 160, 0, 7, 3, 167, 0, 4, 5, 172]
theorem kbl_X8_faultOfLane : kbs cX8_faultOfLane = kbd_X8_faultOfLane := by decide +kernel
def kbd_X8_fonts : List Nat := [42, 3, 181, 0, 76, 27, 184, 0, 80, 154, 0, 5, 2, 172, 28, 184, 0, 84, 154, 0, 6, 16, 254, 172, 42, 180, 0, 13, 27, 50, 58, 5, 25, 5, 28, 184, 0, 87, 54, 6, 21, 6, 154, 0, 11, 21, 4, 156, 0, 6, 7, 54, 6, 21, 6, 154, 0, 17, 25, 5, 29, 21, 4, 182, 0, 91, 154, 0, 6, 6, 54, 6, 21, 6, 153, 0, 10, 42, 21, 6, 182, 0, 95, 172, 42, 180, 0, 21, 25, 5, 29, 21, 4, 182, 0, 99, 54, 7, 21, 7, 16, 247, 159, 0, 9, 16, 156, 21, 7, 100, 172, 42, 182, 0, 103, 42, 180, 0, 28, 180, 0, 106, 172]
theorem kbl_X8_fonts : kbs cX8_fonts = kbd_X8_fonts := by decide +kernel
def kbd_X8_init : List Nat := [42, 183, 0, 3, 42, 7, 189, 0, 11, 181, 0, 13, 3, 60, 27, 7, 162, 0, 22, 42, 180, 0, 13, 27, 187, 0, 11, 89, 183, 0, 17, 83, 132, 1, 1, 167, 255, 235, 42, 187, 0, 18, 89, 183, 0, 20, 181, 0, 21, 42, 187, 0, 25, 89, 183, 0, 27, 181, 0, 28, 42, 187, 0, 32, 89, 183, 0, 34, 181, 0, 35, 42, 187, 0, 39, 89, 183, 0, 41, 181, 0, 42, 42, 187, 0, 46, 89, 183, 0, 48, 181, 0, 49, 42, 187, 0, 53, 89, 183, 0, 55, 181, 0, 56, 42, 187, 0, 60, 89, 183, 0, 62, 181, 0, 63, 42, 187, 0, 32, 89, 183, 0, 34, 181, 0, 67, 42, 187, 0, 39, 89, 183, 0, 41, 181, 0, 70, 42, 187, 0, 53, 89, 183, 0, 55, 181, 0, 73, 177]
theorem kbl_X8_init : kbs cX8_init = kbd_X8_init := by decide +kernel
def kbd_X8_isAct : List Nat := [27, 170, 0, 0, 0, 0, 0, 50, 0, 0, 0, 20, 0, 0, 0, 22, 0, 0, 0, 27, 0, 0, 0, 35, 0, 0, 0, 43, 26, 3, 16, 15, 184, 0, 128, 172, 26, 3, 16, 24, 184, 0, 128, 172, 26, 3, 6, 184, 0, 128, 172, 3, 172]
theorem kbl_X8_isAct : kbs cX8_isAct = kbd_X8_isAct := by decide +kernel
def kbd_X8_isLane : List Nat := [26, 3, 5, 184, 0, 128, 172]
theorem kbl_X8_isLane : kbs cX8_isLane = kbd_X8_isLane := by decide +kernel
def kbd_X8_isOfDay : List Nat := [26, 3, 7, 184, 0, 128, 154, 0, 14, 26, 16, 10, 16, 13, 184, 0, 128, 153, 0, 7, 4, 167, 0, 4, 3, 172]
theorem kbl_X8_isOfDay : kbs cX8_isOfDay = kbd_X8_isOfDay := by decide +kernel
def kbd_X8_isSheet : List Nat := [26, 3, 6, 184, 0, 128, 172]
theorem kbl_X8_isSheet : kbs cX8_isSheet = kbd_X8_isSheet := by decide +kernel
def kbd_X8_isWithin : List Nat := [26, 27, 161, 0, 12, 26, 28, 163, 0, 7, 4, 167, 0, 4, 3, 172]
theorem kbl_X8_isWithin : kbs cX8_isWithin = kbd_X8_isWithin := by decide +kernel
def kbd_X8_kinds : List Nat := [42, 180, 0, 28, 27, 182, 0, 109, 154, 0, 5, 2, 172, 3, 61, 3, 62, 29, 5, 163, 0, 43, 42, 180, 0, 63, 42, 180, 0, 28, 27, 29, 42, 180, 0, 28, 180, 0, 116, 27, 46, 184, 1, 16, 182, 1, 20, 153, 0, 9, 28, 4, 29, 120, 128, 61, 132, 3, 1, 167, 255, 214, 28, 172]
theorem kbl_X8_kinds : kbs cX8_kinds = kbd_X8_kinds := by decide +kernel
def kbd_X8_latest : List Nat := [27, 3, 7, 184, 0, 128, 154, 0, 6, 16, 254, 172, 27, 42, 180, 0, 49, 180, 0, 144, 162, 0, 15, 42, 180, 0, 49, 180, 0, 202, 27, 46, 167, 0, 5, 16, 247, 172]
theorem kbl_X8_latest : kbs cX8_latest = kbd_X8_latest := by decide +kernel
def kbd_X8_leastEnough : List Nat := [42, 180, 0, 28, 182, 0, 227, 60, 42, 180, 0, 28, 182, 0, 227, 61, 28, 155, 0, 33, 42, 180, 0, 56, 28, 182, 1, 10, 153, 0, 16, 28, 184, 1, 5, 27, 184, 1, 5, 163, 0, 5, 28, 60, 132, 2, 255, 167, 255, 225, 27, 172]
theorem kbl_X8_leastEnough : kbs cX8_leastEnough = kbd_X8_leastEnough := by decide +kernel
def kbd_X8_leave : List Nat := [42, 16, 31, 42, 180, 1, 66, 104, 27, 96, 181, 1, 66, 177]
theorem kbl_X8_leave : kbs cX8_leave = kbd_X8_leave := by decide +kernel
def kbd_X8_letter : List Nat := [27, 3, 42, 180, 0, 35, 180, 0, 139, 4, 100, 184, 0, 128, 153, 0, 15, 42, 180, 0, 35, 180, 0, 166, 27, 46, 167, 0, 4, 2, 172]
theorem kbl_X8_letter : kbs cX8_letter = kbd_X8_letter := by decide +kernel
def kbd_X8_lettersWithChanges : List Nat := [3, 61, 3, 62, 29, 16, 16, 162, 0, 69, 42, 180, 0, 67, 42, 180, 0, 35, 182, 0, 238, 42, 180, 0, 67, 29, 182, 0, 222, 87, 42, 180, 0, 73, 42, 180, 0, 67, 42, 180, 0, 28, 42, 180, 0, 42, 42, 180, 0, 28, 182, 0, 227, 182, 0, 231, 42, 180, 0, 73, 182, 0, 247, 27, 160, 0, 6, 132, 2, 1, 132, 3, 1, 167, 255, 187, 28, 172]
theorem kbl_X8_lettersWithChanges : kbs cX8_lettersWithChanges = kbd_X8_lettersWithChanges := by decide +kernel
def kbd_X8_lose : List Nat := [27, 184, 0, 80, 154, 0, 5, 2, 172, 42, 180, 0, 13, 27, 50, 180, 1, 32, 61, 42, 180, 0, 13, 27, 50, 3, 181, 1, 32, 28, 153, 0, 7, 4, 167, 0, 4, 3, 172]
theorem kbl_X8_lose : kbs cX8_lose = kbd_X8_lose := by decide +kernel
def kbd_X8_many : List Nat := [27, 170, 0, 0, 0, 0, 0, 63, 0, 0, 0, 0, 0, 0, 0, 3, 0, 0, 0, 31, 0, 0, 0, 39, 0, 0, 0, 47, 0, 0, 0, 55, 42, 180, 0, 28, 180, 0, 106, 172, 42, 180, 0, 35, 180, 0, 139, 172, 42, 180, 0, 56, 180, 0, 250, 172, 42, 180, 0, 63, 180, 0, 145, 172, 16, 254, 172]
theorem kbl_X8_many : kbs cX8_many = kbd_X8_many := by decide +kernel
def kbd_X8_odds : List Nat := [27, 3, 16, 24, 184, 0, 128, 153, 0, 12, 28, 3, 4, 184, 0, 128, 154, 0, 7, 20, 1, 24, 173, 42, 180, 0, 28, 180, 0, 106, 153, 0, 15, 42, 180, 0, 35, 180, 0, 139, 16, 24, 161, 0, 7, 20, 1, 24, 173, 42, 27, 182, 1, 26, 62, 16, 16, 54, 4, 21, 4, 4, 164, 0, 22, 29, 5, 112, 154, 0, 16, 29, 5, 108, 62, 21, 4, 5, 108, 54, 4, 167, 255, 234, 28, 154, 0, 8, 29, 133, 167, 0, 6, 21, 4, 133, 173]
theorem kbl_X8_odds : kbs cX8_odds = kbd_X8_odds := by decide +kernel
def kbd_X8_ofCluster : List Nat := [42, 180, 0, 56, 27, 182, 0, 169, 154, 0, 5, 2, 172, 28, 170, 0, 0, 0, 0, 84, 0, 0, 0, 0, 0, 0, 0, 4, 0, 0, 0, 34, 0, 0, 0, 44, 0, 0, 0, 54, 0, 0, 0, 64, 0, 0, 0, 74, 42, 180, 0, 56, 180, 0, 172, 27, 46, 172, 42, 180, 0, 56, 180, 0, 175, 27, 46, 172, 42, 180, 0, 56, 180, 0, 178, 27, 46, 172, 42, 180, 0, 56, 180, 0, 181, 27, 46, 172, 42, 180, 0, 56, 180, 0, 184, 27, 46, 172, 16, 254, 172]
theorem kbl_X8_ofCluster : kbs cX8_ofCluster = kbd_X8_ofCluster := by decide +kernel
def kbd_X8_ofFont : List Nat := [42, 180, 0, 28, 27, 182, 0, 109, 154, 0, 5, 2, 172, 28, 170, 0, 0, 0, 0, 82, 0, 0, 0, 0, 0, 0, 0, 4, 0, 0, 0, 34, 0, 0, 0, 44, 0, 0, 0, 54, 0, 0, 0, 63, 0, 0, 0, 73, 42, 180, 0, 28, 180, 0, 112, 27, 46, 172, 42, 180, 0, 28, 180, 0, 116, 27, 46, 172, 42, 180, 0, 28, 27, 182, 0, 119, 172, 42, 180, 0, 28, 180, 0, 122, 27, 46, 172, 42, 180, 0, 42, 27, 182, 0, 125, 172, 16, 254, 172]
theorem kbl_X8_ofFont : kbs cX8_ofFont = kbd_X8_ofFont := by decide +kernel
def kbd_X8_ofRun : List Nat := [27, 3, 42, 180, 0, 56, 180, 0, 187, 4, 100, 184, 0, 128, 154, 0, 5, 2, 172, 42, 180, 0, 56, 27, 182, 0, 190, 62, 42, 180, 0, 56, 180, 0, 181, 29, 46, 54, 4, 28, 170, 0, 0, 0, 0, 0, 0, 65, 0, 0, 0, 0, 0, 0, 0, 3, 0, 0, 0, 32, 0, 0, 0, 35, 0, 0, 0, 37, 0, 0, 0, 46, 21, 4, 172, 29, 172, 42, 180, 0, 56, 27, 182, 0, 193, 172, 42, 180, 0, 56, 27, 182, 0, 193, 42, 180, 0, 28, 21, 4, 182, 0, 119, 104, 172, 16, 254, 172]
theorem kbl_X8_ofRun : kbs cX8_ofRun = kbd_X8_ofRun := by decide +kernel
def kbd_X8_ofSupposedDay : List Nat := [27, 16, 10, 161, 0, 15, 42, 180, 0, 70, 27, 16, 10, 100, 182, 0, 125, 172, 42, 180, 0, 73, 42, 180, 0, 67, 42, 180, 0, 28, 42, 180, 0, 70, 42, 180, 0, 28, 182, 0, 227, 182, 0, 231, 27, 170, 0, 0, 0, 0, 0, 55, 0, 0, 0, 0, 0, 0, 0, 3, 0, 0, 0, 31, 0, 0, 0, 55, 0, 0, 0, 39, 0, 0, 0, 47, 42, 180, 0, 73, 182, 0, 247, 172, 42, 180, 0, 73, 180, 0, 250, 172, 42, 180, 0, 73, 180, 0, 251, 172, 42, 180, 0, 73, 42, 180, 0, 28, 182, 0, 254, 172]
theorem kbl_X8_ofSupposedDay : kbs cX8_ofSupposedDay = kbd_X8_ofSupposedDay := by decide +kernel
def kbd_X8_plainTold : List Nat := [42, 4, 182, 1, 63, 27, 172]
theorem kbl_X8_plainTold : kbs cX8_plainTold = kbd_X8_plainTold := by decide +kernel
def kbd_X8_prefer : List Nat := [42, 180, 0, 28, 27, 182, 0, 109, 154, 0, 5, 2, 172, 42, 180, 0, 42, 27, 182, 0, 125, 61, 42, 180, 0, 42, 27, 182, 0, 196, 87, 42, 180, 0, 49, 27, 182, 0, 199, 42, 182, 0, 146, 28, 172]
theorem kbl_X8_prefer : kbs cX8_prefer = kbd_X8_prefer := by decide +kernel
def kbd_X8_put : List Nat := [42, 3, 181, 0, 76, 27, 184, 0, 80, 154, 0, 5, 2, 172, 42, 180, 0, 13, 27, 50, 58, 4, 25, 4, 180, 1, 32, 154, 0, 9, 42, 4, 182, 0, 95, 172, 25, 4, 28, 182, 1, 36, 154, 0, 9, 42, 6, 182, 0, 95, 172, 25, 4, 180, 1, 39, 28, 25, 4, 29, 182, 1, 42, 79, 4, 172]
theorem kbl_X8_put : kbs cX8_put = kbd_X8_put := by decide +kernel
def kbd_X8_reading : List Nat := [42, 180, 0, 28, 180, 0, 106, 154, 0, 6, 16, 253, 172, 27, 3, 17, 1, 244, 184, 0, 128, 154, 0, 6, 16, 254, 172, 42, 180, 0, 63, 180, 0, 145, 61, 42, 180, 0, 63, 42, 180, 0, 56, 27, 182, 1, 13, 153, 0, 7, 28, 167, 0, 5, 16, 252, 172]
theorem kbl_X8_reading : kbs cX8_reading = kbd_X8_reading := by decide +kernel
def kbd_X8_sample : List Nat := [42, 180, 0, 28, 27, 182, 0, 109, 154, 0, 5, 2, 172, 42, 180, 0, 28, 180, 0, 112, 27, 46, 5, 160, 0, 11, 42, 8, 182, 1, 63, 16, 50, 172, 42, 7, 182, 1, 63, 42, 180, 0, 28, 180, 0, 122, 27, 46, 184, 1, 5, 172]
theorem kbl_X8_sample : kbs cX8_sample = kbd_X8_sample := by decide +kernel
def kbd_X8_settle : List Nat := [42, 180, 0, 56, 42, 180, 0, 35, 42, 180, 0, 28, 42, 180, 0, 42, 42, 180, 0, 28, 182, 0, 227, 182, 0, 231, 177]
theorem kbl_X8_settle : kbs cX8_settle = kbd_X8_settle := by decide +kernel
def kbd_X8_sheet : List Nat := [42, 3, 181, 0, 76, 27, 184, 0, 80, 154, 0, 5, 2, 172, 28, 184, 0, 84, 153, 0, 9, 29, 16, 60, 164, 0, 6, 16, 254, 172, 29, 156, 0, 9, 42, 7, 182, 0, 95, 172, 42, 180, 0, 13, 27, 50, 28, 29, 182, 1, 29, 4, 172]
theorem kbl_X8_sheet : kbs cX8_sheet = kbd_X8_sheet := by decide +kernel
def kbd_X8_stepOf : List Nat := [26, 171, 0, 0, 0, 0, 0, 35, 0, 0, 0, 2, 0, 0, 0, 1, 0, 0, 0, 31, 0, 0, 0, 2, 0, 0, 0, 27, 5, 27, 104, 172, 27, 4, 96, 172, 27, 172]
theorem kbl_X8_stepOf : kbs cX8_stepOf = kbd_X8_stepOf := by decide +kernel
def kbd_X8_supposeAct : List Nat := [28, 171, 0, 0, 0, 0, 0, 45, 0, 0, 0, 2, 0, 0, 0, 20, 0, 0, 0, 27, 0, 0, 0, 21, 0, 0, 0, 36, 42, 180, 0, 67, 27, 182, 0, 222, 172, 42, 180, 0, 67, 27, 182, 0, 163, 172, 42, 180, 0, 70, 27, 182, 0, 196, 172]
theorem kbl_X8_supposeAct : kbs cX8_supposeAct = kbd_X8_supposeAct := by decide +kernel
def kbd_X8_supposeActs : List Nat := [42, 180, 0, 67, 42, 180, 0, 35, 182, 0, 238, 42, 180, 0, 70, 42, 180, 0, 42, 182, 0, 241, 3, 54, 4, 21, 4, 29, 162, 0, 41, 42, 43, 28, 5, 21, 4, 104, 96, 182, 0, 157, 43, 28, 5, 21, 4, 104, 96, 4, 96, 182, 0, 157, 182, 0, 244, 154, 0, 6, 21, 4, 172, 132, 4, 1, 167, 255, 215, 16, 247, 172]
theorem kbl_X8_supposeActs : kbs cX8_supposeActs = kbd_X8_supposeActs := by decide +kernel
def kbd_X8_tally : List Nat := [42, 180, 0, 203, 172]
theorem kbl_X8_tally : kbs cX8_tally = kbd_X8_tally := by decide +kernel
def kbd_X8_tell : List Nat := [42, 180, 0, 28, 27, 182, 0, 109, 154, 0, 5, 2, 172, 42, 180, 0, 28, 180, 0, 116, 27, 46, 61, 42, 180, 0, 28, 180, 0, 112, 27, 46, 171, 0, 0, 0, 0, 0, 0, 40, 0, 0, 0, 2, 0, 0, 0, 1, 0, 0, 0, 34, 0, 0, 0, 2, 0, 0, 0, 28, 42, 28, 182, 1, 54, 172, 42, 28, 182, 1, 57, 172, 42, 28, 182, 1, 60, 172]
theorem kbl_X8_tell : kbs cX8_tell = kbd_X8_tell := by decide +kernel
def kbd_X8_trace : List Nat := [42, 180, 1, 66, 172]
theorem kbl_X8_trace : kbs cX8_trace = kbd_X8_trace := by decide +kernel
def kbd_X8_width : List Nat := [42, 180, 0, 28, 27, 182, 0, 109, 154, 0, 5, 2, 172, 28, 4, 16, 9, 184, 0, 128, 154, 0, 6, 16, 254, 172, 42, 180, 0, 28, 180, 0, 116, 27, 46, 62, 42, 180, 0, 28, 180, 0, 116, 27, 28, 79, 29, 172]
theorem kbl_X8_width : kbs cX8_width = kbd_X8_width := by decide +kernel
def kbd_X8_widths : List Nat := [42, 180, 0, 28, 27, 182, 0, 109, 154, 0, 5, 2, 172, 3, 61, 4, 62, 29, 16, 9, 163, 0, 43, 42, 180, 0, 63, 42, 180, 0, 28, 27, 42, 180, 0, 28, 180, 0, 112, 27, 46, 29, 184, 1, 16, 182, 1, 20, 153, 0, 9, 28, 4, 29, 120, 128, 61, 132, 3, 1, 167, 255, 213, 28, 172]
theorem kbl_X8_widths : kbs cX8_widths = kbd_X8_widths := by decide +kernel
def kbd_X8_without : List Nat := [42, 180, 0, 28, 27, 182, 0, 109, 154, 0, 5, 2, 172, 42, 180, 0, 28, 180, 0, 106, 4, 160, 0, 6, 16, 247, 172, 42, 180, 0, 73, 42, 180, 0, 35, 42, 180, 0, 28, 42, 180, 0, 42, 42, 180, 0, 28, 182, 0, 227, 4, 27, 120, 2, 130, 126, 182, 0, 231, 42, 180, 0, 73, 182, 0, 247, 172]
theorem kbl_X8_without : kbs cX8_without = kbd_X8_without := by decide +kernel
def kbd_X8_write : List Nat := [42, 3, 181, 0, 76, 27, 184, 0, 80, 154, 0, 5, 2, 172, 28, 184, 0, 84, 153, 0, 14, 21, 4, 3, 16, 24, 184, 0, 128, 154, 0, 6, 16, 254, 172, 42, 180, 0, 13, 27, 50, 58, 5, 25, 5, 28, 29, 21, 4, 184, 0, 149, 54, 6, 21, 6, 153, 0, 10, 42, 21, 6, 182, 0, 95, 172, 42, 180, 0, 28, 180, 0, 106, 154, 0, 6, 16, 253, 172, 25, 5, 29, 21, 4, 184, 0, 153, 154, 0, 6, 16, 254, 172, 42, 180, 0, 35, 180, 0, 139, 21, 4, 96, 16, 24, 164, 0, 6, 16, 252, 172, 3, 54, 7, 21, 7, 21, 4, 162, 0, 22, 42, 25, 5, 29, 21, 7, 96, 182, 0, 157, 182, 0, 160, 132, 7, 1, 167, 255, 233, 42, 182, 0, 146, 42, 180, 0, 35, 180, 0, 139, 172]
theorem kbl_X8_write : kbs cX8_write = kbd_X8_write := by decide +kernel
def kbd_X8_writeOne : List Nat := [42, 180, 0, 35, 27, 182, 0, 222, 87, 42, 89, 180, 0, 203, 4, 96, 181, 0, 203, 42, 20, 0, 225, 42, 180, 0, 206, 105, 27, 133, 97, 10, 97, 181, 0, 206, 177]
theorem kbl_X8_writeOne : kbs cX8_writeOne = kbd_X8_writeOne := by decide +kernel
def kbd_X9_against : List Nat := [42, 180, 0, 9, 27, 46, 16, 247, 159, 0, 15, 42, 180, 0, 9, 27, 46, 28, 159, 0, 5, 5, 172, 42, 180, 0, 9, 27, 46, 16, 247, 160, 0, 5, 4, 172, 21, 4, 156, 0, 5, 7, 172, 29, 155, 0, 26, 29, 42, 180, 0, 13, 27, 46, 163, 0, 16, 21, 4, 42, 180, 0, 13, 27, 46, 29, 100, 164, 0, 7, 6, 167, 0, 4, 3, 172]
theorem kbl_X9_against : kbs cX9_against = kbd_X9_against := by decide +kernel
def kbd_X9_areSo : List Nat := [42, 182, 0, 167, 87, 4, 60, 3, 61, 28, 42, 180, 0, 104, 162, 0, 32, 27, 153, 0, 20, 42, 180, 0, 61, 28, 46, 42, 180, 0, 158, 160, 0, 7, 4, 167, 0, 4, 3, 60, 132, 2, 1, 167, 255, 222, 27, 172]
theorem kbl_X9_areSo : kbs cX9_areSo = kbd_X9_areSo := by decide +kernel
def kbd_X9_as : List Nat := [42, 3, 181, 0, 64, 42, 27, 182, 0, 120, 154, 0, 5, 2, 172, 28, 3, 5, 184, 0, 70, 154, 0, 6, 16, 254, 172, 42, 180, 0, 19, 27, 46, 28, 161, 0, 7, 4, 167, 0, 8, 42, 5, 182, 0, 91, 172]
theorem kbl_X9_as : kbs cX9_as = kbd_X9_as := by decide +kernel
def kbd_X9_back : List Nat := [27, 3, 42, 180, 0, 104, 184, 0, 70, 154, 0, 6, 16, 254, 172, 42, 89, 180, 0, 104, 27, 100, 181, 0, 104, 42, 180, 0, 104, 172]
theorem kbl_X9_back : kbs cX9_back = kbd_X9_back := by decide +kernel
def kbd_X9_begins : List Nat := [42, 16, 31, 42, 180, 0, 210, 104, 27, 96, 181, 0, 210, 177]
theorem kbl_X9_begins : kbs cX9_begins = kbd_X9_begins := by decide +kernel
def kbd_X9_best : List Nat := [27, 3, 6, 184, 0, 70, 154, 0, 6, 16, 254, 172, 42, 180, 0, 74, 154, 0, 6, 16, 253, 172, 42, 182, 0, 167, 61, 27, 154, 0, 7, 28, 167, 0, 31, 27, 4, 160, 0, 10, 42, 180, 0, 161, 167, 0, 19, 27, 5, 160, 0, 10, 42, 180, 0, 141, 167, 0, 7, 42, 180, 0, 158, 172]
theorem kbl_X9_best : kbs cX9_best = kbd_X9_best := by decide +kernel
def kbd_X9_canSet : List Nat := [28, 29, 159, 0, 29, 42, 180, 0, 49, 27, 46, 153, 0, 16, 42, 180, 0, 49, 27, 46, 28, 184, 0, 117, 153, 0, 7, 4, 167, 0, 4, 3, 172]
theorem kbl_X9_canSet : kbs cX9_canSet = kbd_X9_canSet := by decide +kernel
def kbd_X9_cell : List Nat := [42, 3, 181, 0, 64, 27, 184, 0, 80, 153, 0, 10, 29, 184, 0, 84, 154, 0, 7, 20, 0, 68, 173, 42, 180, 0, 9, 27, 46, 16, 247, 159, 0, 19, 42, 180, 0, 9, 27, 46, 29, 159, 0, 9, 42, 5, 182, 0, 206, 173, 42, 180, 0, 9, 27, 46, 16, 247, 160, 0, 9, 42, 4, 182, 0, 206, 173, 28, 3, 42, 180, 0, 13, 27, 46, 4, 100, 184, 0, 70, 154, 0, 9, 42, 6, 182, 0, 206, 173, 42, 180, 0, 16, 16, 60, 27, 104, 28, 96, 46, 133, 173]
theorem kbl_X9_cell : kbs cX9_cell = kbd_X9_cell := by decide +kernel
def kbd_X9_check : List Nat := [42, 180, 0, 134, 173]
theorem kbl_X9_check : kbs cX9_check = kbd_X9_check := by decide +kernel
def kbd_X9_comesFirst : List Nat := [42, 27, 182, 0, 126, 61, 28, 62, 29, 158, 0, 23, 42, 180, 0, 28, 29, 42, 180, 0, 28, 29, 4, 100, 46, 79, 132, 3, 255, 167, 255, 235, 42, 180, 0, 28, 3, 27, 79, 28, 172]
theorem kbl_X9_comesFirst : kbs cX9_comesFirst = kbd_X9_comesFirst := by decide +kernel
def kbd_X9_copy : List Nat := [42, 3, 181, 0, 64, 27, 184, 0, 80, 153, 0, 10, 29, 184, 0, 80, 154, 0, 5, 2, 172, 42, 180, 0, 9, 27, 46, 16, 247, 159, 0, 14, 42, 180, 0, 9, 29, 46, 16, 247, 160, 0, 9, 42, 4, 182, 0, 91, 172, 42, 180, 0, 9, 27, 46, 42, 180, 0, 9, 29, 46, 159, 0, 9, 42, 5, 182, 0, 91, 172, 28, 155, 0, 38, 21, 4, 155, 0, 33, 21, 5, 155, 0, 28, 28, 42, 180, 0, 13, 27, 46, 163, 0, 18, 21, 4, 42, 180, 0, 13, 29, 46, 163, 0, 7, 4, 167, 0, 4, 3, 54, 6, 21, 6, 153, 0, 30, 21, 5, 42, 180, 0, 13, 27, 46, 28, 100, 163, 0, 17, 21, 5, 42, 180, 0, 13, 29, 46, 21, 4, 100, 164, 0, 9, 42, 6, 182, 0, 91, 172, 28, 21, 4, 162, 0, 7, 4, 167, 0, 4, 3, 54, 7, 3, 54, 8, 21, 8, 21, 5, 162, 0, 57, 21, 7, 153, 0, 13, 21, 5, 4, 100, 21, 8, 100, 167, 0, 5, 21, 8, 54, 9, 42, 180, 0, 16, 16, 60, 29, 104, 21, 4, 96, 21, 9, 96, 42, 180, 0, 16, 16, 60, 27, 104, 28, 96, 21, 9, 96, 46, 79, 132, 8, 1, 167, 255, 198, 21, 5, 172]
theorem kbl_X9_copy : kbs cX9_copy = kbd_X9_copy := by decide +kernel
def kbd_X9_day : List Nat := [42, 3, 181, 0, 64, 27, 184, 0, 80, 154, 0, 5, 2, 172, 28, 184, 0, 84, 153, 0, 36, 21, 4, 3, 16, 20, 184, 0, 70, 153, 0, 25, 21, 5, 3, 7, 184, 0, 70, 154, 0, 18, 21, 5, 16, 10, 16, 13, 184, 0, 70, 154, 0, 6, 16, 254, 172, 42, 27, 28, 29, 5, 21, 4, 104, 182, 0, 87, 54, 6, 21, 6, 153, 0, 10, 42, 21, 6, 182, 0, 91, 172, 42, 180, 0, 74, 154, 0, 6, 16, 253, 172, 16, 60, 27, 104, 29, 96, 54, 7, 3, 54, 8, 21, 8, 21, 4, 162, 0, 44, 42, 180, 0, 16, 21, 7, 5, 21, 8, 104, 96, 46, 42, 180, 0, 16, 21, 7, 5, 21, 8, 104, 96, 4, 96, 46, 184, 0, 180, 154, 0, 6, 16, 254, 172, 132, 8, 1, 167, 255, 211, 42, 182, 0, 183, 42, 21, 7, 21, 4, 182, 0, 186, 54, 8, 42, 21, 5, 182, 0, 190, 54, 9, 42, 182, 0, 193, 21, 5, 4, 160, 0, 8, 21, 8, 167, 0, 20, 21, 8, 16, 247, 160, 0, 8, 21, 9, 167, 0, 8, 16, 156, 21, 8, 100, 172]
theorem kbl_X9_day : kbs cX9_day = kbd_X9_day := by decide +kernel
def kbd_X9_does : List Nat := [28, 16, 20, 160, 0, 36, 42, 180, 0, 101, 16, 24, 160, 0, 5, 3, 172, 42, 180, 0, 34, 42, 180, 0, 101, 27, 79, 42, 89, 180, 0, 101, 4, 96, 181, 0, 101, 4, 172, 28, 16, 21, 160, 0, 25, 27, 42, 180, 0, 101, 164, 0, 5, 3, 172, 42, 89, 180, 0, 101, 27, 100, 181, 0, 101, 4, 172, 42, 27, 182, 0, 120, 154, 0, 5, 3, 172, 42, 27, 182, 0, 174, 87, 4, 172]
theorem kbl_X9_does : kbs cX9_does = kbd_X9_does := by decide +kernel
def kbd_X9_enough : List Nat := [27, 3, 4, 184, 0, 70, 154, 0, 6, 16, 254, 172, 42, 180, 0, 74, 154, 0, 6, 16, 253, 172, 42, 16, 247, 182, 0, 147, 16, 247, 61, 3, 62, 29, 4, 42, 180, 0, 74, 120, 162, 0, 96, 28, 16, 247, 159, 0, 14, 29, 184, 0, 114, 28, 184, 0, 114, 162, 0, 7, 4, 167, 0, 4, 3, 54, 4, 3, 54, 5, 21, 5, 42, 180, 0, 138, 162, 0, 43, 21, 4, 153, 0, 29, 42, 180, 0, 49, 21, 5, 46, 153, 0, 15, 42, 180, 0, 49, 21, 5, 46, 29, 126, 153, 0, 7, 4, 167, 0, 4, 3, 54, 4, 132, 5, 1, 167, 255, 210, 21, 4, 153, 0, 7, 29, 167, 0, 4, 28, 61, 132, 3, 1, 167, 255, 156, 27, 154, 0, 10, 28, 184, 0, 114, 167, 0, 4, 28, 172]
theorem kbl_X9_enough : kbs cX9_enough = kbd_X9_enough := by decide +kernel
def kbd_X9_erase : List Nat := [27, 3, 42, 180, 0, 101, 184, 0, 70, 154, 0, 6, 16, 254, 172, 42, 89, 180, 0, 101, 27, 100, 181, 0, 101, 42, 180, 0, 101, 172]
theorem kbl_X9_erase : kbs cX9_erase = kbd_X9_erase := by decide +kernel
def kbd_X9_fails : List Nat := [42, 27, 181, 0, 64, 16, 246, 27, 100, 172]
theorem kbl_X9_fails : kbs cX9_fails = kbd_X9_fails := by decide +kernel
def kbd_X9_fault : List Nat := [42, 180, 0, 64, 172]
theorem kbl_X9_fault : kbs cX9_fault = kbd_X9_fault := by decide +kernel
def kbd_X9_fewestBehind : List Nat := [27, 4, 96, 42, 180, 0, 138, 160, 0, 5, 3, 172, 16, 24, 54, 4, 3, 54, 5, 21, 5, 42, 180, 0, 74, 162, 0, 70, 42, 27, 4, 96, 21, 5, 29, 182, 0, 144, 153, 0, 31, 42, 180, 0, 52, 7, 27, 4, 96, 104, 21, 5, 96, 46, 21, 5, 28, 160, 0, 7, 3, 167, 0, 4, 4, 96, 167, 0, 5, 16, 24, 54, 6, 21, 6, 21, 4, 162, 0, 8, 21, 6, 167, 0, 5, 21, 4, 54, 4, 132, 5, 1, 167, 255, 183, 21, 4, 172]
theorem kbl_X9_fewestBehind : kbs cX9_fewestBehind = kbd_X9_fewestBehind := by decide +kernel
def kbd_X9_findBest : List Nat := [42, 16, 247, 182, 0, 155, 60, 27, 61, 42, 3, 181, 0, 158, 42, 3, 181, 0, 161, 3, 62, 29, 42, 180, 0, 138, 162, 0, 130, 3, 54, 4, 42, 29, 42, 180, 0, 28, 21, 4, 46, 28, 182, 0, 164, 154, 0, 9, 132, 4, 1, 167, 255, 237, 42, 180, 0, 55, 29, 42, 180, 0, 28, 21, 4, 46, 79, 29, 153, 0, 20, 42, 180, 0, 55, 29, 46, 42, 180, 0, 55, 29, 4, 100, 46, 159, 0, 7, 4, 167, 0, 4, 3, 54, 5, 28, 29, 158, 0, 12, 21, 5, 153, 0, 7, 4, 167, 0, 4, 3, 100, 61, 42, 89, 180, 0, 161, 21, 5, 153, 0, 7, 4, 167, 0, 4, 3, 96, 181, 0, 161, 42, 89, 180, 0, 158, 42, 42, 180, 0, 55, 29, 46, 182, 0, 123, 96, 181, 0, 158, 132, 3, 1, 167, 255, 124, 27, 172]
theorem kbl_X9_findBest : kbs cX9_findBest = kbd_X9_findBest := by decide +kernel
def kbd_X9_findChanges : List Nat := [42, 27, 182, 0, 147, 42, 180, 0, 138, 4, 100, 61, 28, 155, 0, 42, 3, 62, 29, 42, 180, 0, 74, 162, 0, 26, 42, 180, 0, 52, 7, 28, 104, 29, 96, 42, 28, 29, 27, 182, 0, 151, 79, 132, 3, 1, 167, 255, 228, 132, 2, 255, 167, 255, 216, 42, 180, 0, 138, 154, 0, 7, 3, 167, 0, 5, 16, 24, 61, 3, 62, 29, 42, 180, 0, 74, 162, 0, 47, 42, 180, 0, 138, 158, 0, 40, 42, 3, 29, 27, 182, 0, 144, 153, 0, 22, 42, 180, 0, 52, 29, 46, 28, 162, 0, 12, 42, 180, 0, 52, 29, 46, 167, 0, 4, 28, 61, 132, 3, 1, 167, 255, 207, 28, 172]
theorem kbl_X9_findChanges : kbs cX9_findChanges = kbd_X9_findChanges := by decide +kernel
def kbd_X9_findClusters : List Nat := [42, 3, 181, 0, 138, 42, 3, 181, 0, 141, 3, 61, 28, 42, 180, 0, 101, 162, 0, 44, 28, 153, 0, 14, 42, 180, 0, 34, 28, 46, 16, 12, 162, 0, 23, 42, 180, 0, 46, 42, 180, 0, 138, 28, 79, 42, 89, 180, 0, 138, 4, 96, 181, 0, 138, 132, 2, 1, 167, 255, 210, 42, 180, 0, 46, 42, 180, 0, 138, 42, 180, 0, 101, 79, 3, 61, 28, 42, 180, 0, 138, 162, 0, 135, 3, 62, 42, 180, 0, 46, 28, 46, 54, 4, 21, 4, 42, 180, 0, 46, 28, 4, 96, 46, 162, 0, 21, 29, 4, 42, 180, 0, 34, 21, 4, 46, 120, 128, 62, 132, 4, 1, 167, 255, 228, 42, 180, 0, 49, 28, 3, 79, 3, 54, 4, 21, 4, 42, 180, 0, 74, 162, 0, 46, 42, 180, 0, 49, 28, 92, 46, 21, 4, 27, 159, 0, 24, 29, 42, 180, 0, 25, 21, 4, 46, 2, 130, 126, 154, 0, 10, 4, 21, 4, 120, 167, 0, 4, 3, 128, 79, 132, 4, 1, 167, 255, 207, 42, 89, 180, 0, 141, 42, 180, 0, 49, 28, 46, 154, 0, 7, 4, 167, 0, 4, 3, 96, 181, 0, 141, 132, 2, 1, 167, 255, 119, 177]
theorem kbl_X9_findClusters : kbs cX9_findClusters = kbd_X9_findClusters := by decide +kernel
def kbd_X9_fonts : List Nat := [42, 3, 181, 0, 64, 27, 184, 0, 80, 154, 0, 5, 2, 172, 28, 184, 0, 84, 154, 0, 6, 16, 254, 172, 42, 27, 28, 29, 21, 4, 182, 0, 87, 54, 5, 21, 5, 153, 0, 10, 42, 21, 5, 182, 0, 91, 172, 16, 60, 27, 104, 29, 96, 54, 6, 42, 21, 6, 181, 0, 77, 42, 21, 6, 21, 4, 96, 182, 0, 95, 154, 0, 14, 16, 156, 42, 180, 0, 77, 21, 6, 100, 100, 172, 42, 42, 180, 0, 98, 181, 0, 74, 3, 54, 7, 21, 7, 42, 180, 0, 74, 162, 0, 60, 42, 180, 0, 19, 21, 7, 42, 180, 0, 37, 21, 7, 46, 79, 42, 180, 0, 22, 21, 7, 42, 180, 0, 40, 21, 7, 46, 79, 42, 180, 0, 25, 21, 7, 42, 180, 0, 43, 21, 7, 46, 79, 42, 180, 0, 28, 21, 7, 21, 7, 79, 132, 7, 1, 167, 255, 193, 3, 54, 7, 21, 7, 8, 162, 0, 18, 42, 180, 0, 31, 21, 7, 16, 247, 79, 132, 7, 1, 167, 255, 238, 42, 3, 181, 0, 101, 42, 3, 181, 0, 104, 42, 180, 0, 74, 172]
theorem kbl_X9_fonts : kbs cX9_fonts = kbd_X9_fonts := by decide +kernel
def kbd_X9_goDay : List Nat := [3, 62, 29, 28, 162, 0, 40, 42, 42, 180, 0, 16, 27, 5, 29, 104, 96, 46, 42, 180, 0, 16, 27, 5, 29, 104, 96, 4, 96, 46, 182, 0, 177, 154, 0, 5, 29, 172, 132, 3, 1, 167, 255, 217, 16, 247, 172]
theorem kbl_X9_goDay : kbs cX9_goDay = kbd_X9_goDay := by decide +kernel
def kbd_X9_inLeastTerms : List Nat := [30, 55, 5, 32, 55, 7, 22, 7, 9, 148, 153, 0, 21, 22, 5, 22, 7, 113, 55, 9, 22, 7, 55, 5, 22, 9, 55, 7, 167, 255, 234, 21, 4, 154, 0, 10, 30, 22, 5, 109, 167, 0, 7, 32, 22, 5, 109, 173]
theorem kbl_X9_inLeastTerms : kbs cX9_inLeastTerms = kbd_X9_inLeastTerms := by decide +kernel
def kbd_X9_init : List Nat := [42, 183, 0, 1, 42, 7, 188, 10, 89, 3, 16, 247, 79, 89, 4, 16, 247, 79, 89, 5, 16, 247, 79, 89, 6, 16, 247, 79, 181, 0, 9, 42, 7, 188, 10, 181, 0, 13, 42, 17, 0, 240, 188, 10, 181, 0, 16, 42, 7, 188, 10, 181, 0, 19, 42, 7, 188, 10, 181, 0, 22, 42, 7, 188, 10, 181, 0, 25, 42, 7, 188, 10, 181, 0, 28, 42, 8, 188, 10, 181, 0, 31, 42, 16, 24, 188, 10, 181, 0, 34, 42, 7, 188, 10, 181, 0, 37, 42, 7, 188, 10, 181, 0, 40, 42, 7, 188, 10, 181, 0, 43, 42, 16, 25, 188, 10, 181, 0, 46, 42, 16, 24, 188, 10, 181, 0, 49, 42, 16, 96, 188, 10, 181, 0, 52, 42, 16, 24, 188, 10, 181, 0, 55, 42, 16, 29, 188, 10, 181, 0, 58, 42, 16, 8, 188, 10, 181, 0, 61, 177]
theorem kbl_X9_init : kbs cX9_init = kbd_X9_init := by decide +kernel
def kbd_X9_isBestFor : List Nat := [27, 158, 0, 19, 42, 180, 0, 55, 27, 4, 100, 46, 28, 159, 0, 7, 4, 167, 0, 4, 3, 54, 4, 42, 27, 28, 16, 247, 182, 0, 144, 153, 0, 24, 42, 180, 0, 52, 7, 27, 104, 28, 96, 46, 21, 4, 96, 29, 160, 0, 7, 4, 167, 0, 4, 3, 172]
theorem kbl_X9_isBestFor : kbs cX9_isBestFor = kbd_X9_isBestFor := by decide +kernel
def kbd_X9_isFont : List Nat := [27, 155, 0, 15, 27, 42, 180, 0, 74, 162, 0, 7, 4, 167, 0, 4, 3, 172]
theorem kbl_X9_isFont : kbs cX9_isFont = kbd_X9_isFont := by decide +kernel
def kbd_X9_isOf : List Nat := [26, 27, 122, 4, 126, 4, 160, 0, 7, 4, 167, 0, 4, 3, 172]
theorem kbl_X9_isOf : kbs cX9_isOf = kbd_X9_isOf := by decide +kernel
def kbd_X9_isPair : List Nat := [27, 16, 20, 160, 0, 13, 26, 3, 16, 15, 184, 0, 70, 154, 0, 34, 27, 16, 21, 160, 0, 13, 26, 3, 16, 24, 184, 0, 70, 154, 0, 18, 27, 16, 22, 160, 0, 16, 26, 3, 6, 184, 0, 70, 153, 0, 7, 4, 167, 0, 4, 3, 172]
theorem kbl_X9_isPair : kbs cX9_isPair = kbd_X9_isPair := by decide +kernel
def kbd_X9_isSheet : List Nat := [26, 3, 6, 184, 0, 70, 172]
theorem kbl_X9_isSheet : kbs cX9_isSheet = kbd_X9_isSheet := by decide +kernel
def kbd_X9_isSign : List Nat := [42, 180, 0, 77, 27, 162, 0, 16, 42, 180, 0, 16, 42, 180, 0, 77, 46, 28, 159, 0, 5, 3, 172, 42, 89, 180, 0, 77, 4, 96, 181, 0, 77, 4, 172]
theorem kbl_X9_isSign : kbs cX9_isSign = kbd_X9_isSign := by decide +kernel
def kbd_X9_isSort : List Nat := [26, 3, 5, 184, 0, 70, 172]
theorem kbl_X9_isSort : kbs cX9_isSort = kbd_X9_isSort := by decide +kernel
def kbd_X9_keep : List Nat := [42, 180, 0, 58, 3, 42, 180, 0, 101, 79, 3, 60, 27, 16, 24, 162, 0, 23, 42, 180, 0, 58, 4, 27, 96, 42, 180, 0, 34, 27, 46, 79, 132, 1, 1, 167, 255, 233, 3, 60, 27, 7, 162, 0, 24, 42, 180, 0, 58, 16, 25, 27, 96, 42, 180, 0, 28, 27, 46, 79, 132, 1, 1, 167, 255, 233, 177]
theorem kbl_X9_keep : kbs cX9_keep = kbd_X9_keep := by decide +kernel
def kbd_X9_kinds : List Nat := [42, 27, 182, 0, 120, 154, 0, 5, 2, 172, 42, 180, 0, 19, 27, 46, 61, 3, 62, 3, 54, 4, 21, 4, 6, 162, 0, 35, 42, 180, 0, 19, 27, 21, 4, 79, 29, 42, 182, 0, 196, 153, 0, 10, 4, 21, 4, 120, 167, 0, 4, 3, 128, 62, 132, 4, 1, 167, 255, 221, 42, 180, 0, 19, 27, 28, 79, 29, 172]
theorem kbl_X9_kinds : kbs cX9_kinds = kbd_X9_kinds := by decide +kernel
def kbd_X9_latest : List Nat := [27, 3, 7, 184, 0, 70, 154, 0, 6, 16, 254, 172, 42, 180, 0, 74, 154, 0, 8, 16, 247, 167, 0, 9, 42, 180, 0, 31, 27, 46, 172]
theorem kbl_X9_latest : kbs cX9_latest = kbd_X9_latest := by decide +kernel
def kbd_X9_letter : List Nat := [27, 3, 42, 180, 0, 101, 4, 100, 184, 0, 70, 153, 0, 12, 42, 180, 0, 34, 27, 46, 167, 0, 4, 2, 172]
theorem kbl_X9_letter : kbs cX9_letter = kbd_X9_letter := by decide +kernel
def kbd_X9_lose : List Nat := [27, 184, 0, 80, 154, 0, 5, 2, 172, 42, 180, 0, 9, 27, 46, 16, 247, 160, 0, 7, 3, 167, 0, 4, 4, 61, 42, 180, 0, 9, 27, 16, 247, 79, 28, 172]
theorem kbl_X9_lose : kbs cX9_lose = kbd_X9_lose := by decide +kernel
def kbd_X9_lost : List Nat := [42, 27, 181, 0, 64, 20, 0, 68, 173]
theorem kbl_X9_lost : kbs cX9_lost = kbd_X9_lost := by decide +kernel
def kbd_X9_many : List Nat := [27, 170, 0, 0, 0, 0, 0, 57, 0, 0, 0, 0, 0, 0, 0, 3, 0, 0, 0, 31, 0, 0, 0, 36, 0, 0, 0, 41, 0, 0, 0, 52, 42, 180, 0, 74, 172, 42, 180, 0, 101, 172, 42, 16, 247, 182, 0, 147, 42, 180, 0, 138, 172, 42, 180, 0, 104, 172, 16, 254, 172]
theorem kbl_X9_many : kbs cX9_many = kbd_X9_many := by decide +kernel
def kbd_X9_odds : List Nat := [27, 3, 16, 24, 184, 0, 70, 153, 0, 28, 28, 3, 4, 184, 0, 70, 153, 0, 19, 42, 180, 0, 74, 153, 0, 12, 42, 180, 0, 101, 16, 24, 160, 0, 7, 20, 0, 68, 173, 3, 62, 42, 89, 180, 0, 101, 4, 96, 181, 0, 101, 3, 54, 4, 21, 4, 16, 16, 162, 0, 40, 42, 180, 0, 34, 42, 180, 0, 101, 4, 100, 21, 4, 79, 29, 42, 16, 247, 182, 0, 155, 27, 160, 0, 7, 4, 167, 0, 4, 3, 96, 62, 132, 4, 1, 167, 255, 215, 42, 89, 180, 0, 101, 4, 100, 181, 0, 101, 29, 133, 20, 0, 200, 28, 184, 0, 202, 173]
theorem kbl_X9_odds : kbs cX9_odds = kbd_X9_odds := by decide +kernel
def kbd_X9_ofCluster : List Nat := [42, 182, 0, 167, 87, 27, 3, 42, 180, 0, 138, 4, 100, 184, 0, 70, 154, 0, 5, 2, 172, 28, 170, 0, 0, 0, 0, 77, 0, 0, 0, 0, 0, 0, 0, 4, 0, 0, 0, 34, 0, 0, 0, 41, 0, 0, 0, 57, 0, 0, 0, 64, 0, 0, 0, 71, 42, 180, 0, 46, 27, 46, 172, 42, 180, 0, 46, 27, 4, 96, 46, 42, 180, 0, 46, 27, 46, 100, 172, 42, 180, 0, 49, 27, 46, 172, 42, 180, 0, 55, 27, 46, 172, 42, 27, 182, 0, 171, 172, 16, 254, 172]
theorem kbl_X9_ofCluster : kbs cX9_ofCluster = kbd_X9_ofCluster := by decide +kernel
def kbd_X9_ofFont : List Nat := [42, 27, 182, 0, 120, 154, 0, 5, 2, 172, 28, 170, 0, 0, 0, 66, 0, 0, 0, 0, 0, 0, 0, 4, 0, 0, 0, 33, 0, 0, 0, 40, 0, 0, 0, 47, 0, 0, 0, 53, 0, 0, 0, 60, 42, 180, 0, 19, 27, 46, 172, 42, 180, 0, 22, 27, 46, 172, 42, 27, 182, 0, 123, 172, 42, 180, 0, 25, 27, 46, 172, 42, 27, 182, 0, 126, 172, 16, 254, 172]
theorem kbl_X9_ofFont : kbs cX9_ofFont = kbd_X9_ofFont := by decide +kernel
def kbd_X9_ofRun : List Nat := [42, 182, 0, 167, 87, 27, 3, 42, 180, 0, 161, 4, 100, 184, 0, 70, 154, 0, 5, 2, 172, 3, 62, 42, 29, 182, 0, 171, 27, 162, 0, 9, 132, 3, 1, 167, 255, 244, 3, 54, 4, 3, 54, 5, 29, 54, 6, 21, 6, 42, 180, 0, 138, 162, 0, 38, 42, 21, 6, 182, 0, 171, 27, 160, 0, 28, 132, 4, 1, 21, 5, 42, 42, 180, 0, 55, 21, 6, 46, 182, 0, 123, 96, 54, 5, 132, 6, 1, 167, 255, 215, 28, 154, 0, 12, 42, 180, 0, 55, 29, 46, 167, 0, 34, 28, 4, 160, 0, 7, 29, 167, 0, 25, 28, 5, 160, 0, 8, 21, 4, 167, 0, 15, 28, 6, 160, 0, 8, 21, 5, 167, 0, 5, 16, 254, 172]
theorem kbl_X9_ofRun : kbs cX9_ofRun = kbd_X9_ofRun := by decide +kernel
def kbd_X9_placeOf : List Nat := [3, 61, 42, 180, 0, 28, 28, 46, 27, 159, 0, 9, 132, 2, 1, 167, 255, 243, 28, 172]
theorem kbl_X9_placeOf : kbs cX9_placeOf = kbd_X9_placeOf := by decide +kernel
def kbd_X9_prefer : List Nat := [42, 27, 182, 0, 120, 154, 0, 5, 2, 172, 7, 61, 28, 158, 0, 23, 42, 180, 0, 31, 28, 42, 180, 0, 31, 28, 4, 100, 46, 79, 132, 2, 255, 167, 255, 235, 42, 180, 0, 31, 3, 27, 79, 42, 27, 182, 0, 174, 172]
theorem kbl_X9_prefer : kbs cX9_prefer = kbd_X9_prefer := by decide +kernel
def kbd_X9_put : List Nat := [42, 3, 181, 0, 64, 27, 184, 0, 80, 154, 0, 5, 2, 172, 42, 180, 0, 9, 27, 46, 16, 247, 160, 0, 9, 42, 4, 182, 0, 91, 172, 28, 3, 42, 180, 0, 13, 27, 46, 4, 100, 184, 0, 70, 154, 0, 9, 42, 6, 182, 0, 91, 172, 42, 180, 0, 16, 16, 60, 27, 104, 28, 96, 42, 180, 0, 9, 27, 46, 154, 0, 8, 29, 145, 167, 0, 19, 42, 180, 0, 9, 27, 46, 4, 160, 0, 8, 29, 147, 167, 0, 4, 29, 79, 4, 172]
theorem kbl_X9_put : kbs cX9_put = kbd_X9_put := by decide +kernel
def kbd_X9_putBack : List Nat := [42, 42, 180, 0, 58, 3, 46, 181, 0, 101, 3, 60, 27, 16, 24, 162, 0, 23, 42, 180, 0, 34, 27, 42, 180, 0, 58, 4, 27, 96, 46, 79, 132, 1, 1, 167, 255, 233, 3, 60, 27, 7, 162, 0, 24, 42, 180, 0, 28, 27, 42, 180, 0, 58, 16, 25, 27, 96, 46, 79, 132, 1, 1, 167, 255, 233, 177]
theorem kbl_X9_putBack : kbs cX9_putBack = kbd_X9_putBack := by decide +kernel
def kbd_X9_readAll : List Nat := [42, 3, 181, 0, 98, 42, 27, 16, 102, 182, 0, 107, 154, 0, 5, 3, 172, 42, 180, 0, 98, 153, 0, 19, 42, 180, 0, 98, 7, 162, 0, 31, 42, 180, 0, 77, 27, 162, 0, 23, 42, 27, 16, 59, 182, 0, 107, 153, 0, 11, 42, 27, 182, 0, 111, 154, 255, 218, 3, 172, 42, 180, 0, 77, 27, 160, 0, 7, 4, 167, 0, 4, 3, 172]
theorem kbl_X9_readAll : kbs cX9_readAll = kbd_X9_readAll := by decide +kernel
def kbd_X9_readFont : List Nat := [42, 180, 0, 77, 27, 162, 0, 22, 42, 180, 0, 16, 42, 180, 0, 77, 46, 16, 65, 16, 67, 184, 0, 70, 154, 0, 5, 3, 172, 42, 180, 0, 37, 42, 180, 0, 98, 42, 180, 0, 16, 42, 180, 0, 77, 46, 16, 65, 100, 79, 42, 89, 180, 0, 77, 4, 96, 181, 0, 77, 42, 180, 0, 77, 27, 162, 0, 22, 42, 180, 0, 16, 42, 180, 0, 77, 46, 16, 49, 16, 57, 184, 0, 70, 154, 0, 5, 3, 172, 42, 180, 0, 40, 42, 180, 0, 98, 42, 180, 0, 16, 42, 180, 0, 77, 46, 16, 48, 100, 79, 42, 89, 180, 0, 77, 4, 96, 181, 0, 77, 3, 61, 4, 62, 29, 153, 0, 84, 28, 184, 0, 114, 16, 8, 162, 0, 75, 42, 180, 0, 77, 27, 162, 0, 67, 42, 180, 0, 16, 42, 180, 0, 77, 46, 16, 97, 100, 54, 4, 21, 4, 3, 16, 15, 184, 0, 70, 153, 0, 16, 28, 21, 4, 184, 0, 117, 154, 0, 7, 4, 167, 0, 4, 3, 62, 29, 153, 0, 20, 28, 4, 21, 4, 120, 128, 61, 42, 89, 180, 0, 77, 4, 96, 181, 0, 77, 167, 255, 174, 42, 180, 0, 43, 42, 180, 0, 98, 28, 79, 42, 89, 180, 0, 98, 4, 96, 181, 0, 98, 28, 153, 0, 7, 4, 167, 0, 4, 3, 172]
theorem kbl_X9_readFont : kbs cX9_readFont = kbd_X9_readFont := by decide +kernel
def kbd_X9_reading : List Nat := [42, 180, 0, 74, 154, 0, 6, 16, 253, 172, 27, 3, 17, 1, 244, 184, 0, 70, 154, 0, 6, 16, 254, 172, 42, 180, 0, 104, 16, 8, 160, 0, 6, 16, 252, 172, 42, 180, 0, 61, 42, 180, 0, 104, 27, 79, 42, 89, 180, 0, 104, 4, 96, 181, 0, 104, 42, 180, 0, 104, 4, 100, 172]
theorem kbl_X9_reading : kbs cX9_reading = kbd_X9_reading := by decide +kernel
def kbd_X9_runOf : List Nat := [3, 61, 4, 62, 29, 27, 163, 0, 34, 28, 42, 180, 0, 55, 29, 46, 42, 180, 0, 55, 29, 4, 100, 46, 160, 0, 7, 3, 167, 0, 4, 4, 96, 61, 132, 3, 1, 167, 255, 223, 28, 172]
theorem kbl_X9_runOf : kbs cX9_runOf = kbd_X9_runOf := by decide +kernel
def kbd_X9_sample : List Nat := [42, 27, 182, 0, 120, 154, 0, 5, 2, 172, 42, 42, 180, 0, 19, 27, 46, 5, 160, 0, 7, 8, 167, 0, 4, 7, 182, 0, 213, 42, 180, 0, 19, 27, 46, 5, 160, 0, 8, 16, 50, 167, 0, 12, 42, 180, 0, 25, 27, 46, 184, 0, 114, 172]
theorem kbl_X9_sample : kbs cX9_sample = kbd_X9_sample := by decide +kernel
def kbd_X9_sheet : List Nat := [42, 3, 181, 0, 64, 27, 184, 0, 80, 154, 0, 5, 2, 172, 28, 184, 0, 84, 153, 0, 9, 29, 16, 60, 164, 0, 6, 16, 254, 172, 29, 156, 0, 9, 42, 7, 182, 0, 91, 172, 42, 180, 0, 9, 27, 28, 79, 42, 180, 0, 13, 27, 29, 79, 3, 54, 4, 21, 4, 16, 60, 162, 0, 22, 42, 180, 0, 16, 16, 60, 27, 104, 21, 4, 96, 3, 79, 132, 4, 1, 167, 255, 233, 4, 172]
theorem kbl_X9_sheet : kbs cX9_sheet = kbd_X9_sheet := by decide +kernel
def kbd_X9_size : List Nat := [3, 60, 26, 61, 28, 158, 0, 16, 27, 28, 4, 126, 96, 60, 28, 4, 122, 61, 167, 255, 242, 27, 172]
theorem kbl_X9_size : kbs cX9_size = kbd_X9_size := by decide +kernel
def kbd_X9_stepOf : List Nat := [42, 180, 0, 19, 27, 46, 154, 0, 12, 42, 180, 0, 22, 27, 46, 167, 0, 32, 42, 180, 0, 19, 27, 46, 4, 160, 0, 14, 42, 180, 0, 22, 27, 46, 4, 96, 167, 0, 11, 5, 42, 180, 0, 22, 27, 46, 104, 172]
theorem kbl_X9_stepOf : kbs cX9_stepOf = kbd_X9_stepOf := by decide +kernel
def kbd_X9_tally : List Nat := [42, 180, 0, 129, 172]
theorem kbl_X9_tally : kbs cX9_tally = kbd_X9_tally := by decide +kernel
def kbd_X9_tell : List Nat := [42, 27, 182, 0, 120, 154, 0, 5, 2, 172, 42, 180, 0, 22, 27, 46, 61, 42, 180, 0, 19, 27, 46, 171, 0, 0, 0, 67, 0, 0, 0, 2, 0, 0, 0, 1, 0, 0, 0, 25, 0, 0, 0, 2, 0, 0, 0, 40, 42, 5, 182, 0, 213, 42, 4, 182, 0, 213, 28, 16, 100, 96, 172, 42, 6, 182, 0, 213, 42, 5, 182, 0, 213, 42, 4, 182, 0, 213, 42, 4, 182, 0, 213, 5, 28, 104, 16, 100, 96, 172, 42, 4, 182, 0, 213, 28, 172]
theorem kbl_X9_tell : kbs cX9_tell = kbd_X9_tell := by decide +kernel
def kbd_X9_tellDay : List Nat := [27, 16, 10, 161, 0, 28, 42, 27, 16, 10, 100, 182, 0, 120, 153, 0, 14, 42, 27, 16, 10, 100, 182, 0, 126, 167, 0, 5, 16, 247, 172, 42, 182, 0, 167, 61, 27, 154, 0, 7, 28, 167, 0, 31, 27, 5, 160, 0, 10, 42, 180, 0, 138, 167, 0, 19, 27, 6, 160, 0, 10, 42, 180, 0, 141, 167, 0, 7, 42, 180, 0, 158, 172]
theorem kbl_X9_tellDay : kbs cX9_tellDay = kbd_X9_tellDay := by decide +kernel
def kbd_X9_trace : List Nat := [42, 180, 0, 210, 172]
theorem kbl_X9_trace : kbs cX9_trace = kbd_X9_trace := by decide +kernel
def kbd_X9_width : List Nat := [42, 27, 182, 0, 120, 154, 0, 5, 2, 172, 28, 4, 16, 9, 184, 0, 70, 154, 0, 6, 16, 254, 172, 42, 180, 0, 22, 27, 46, 62, 42, 180, 0, 22, 27, 28, 79, 29, 172]
theorem kbl_X9_width : kbs cX9_width = kbd_X9_width := by decide +kernel
def kbd_X9_widths : List Nat := [42, 27, 182, 0, 120, 154, 0, 5, 2, 172, 42, 180, 0, 22, 27, 46, 61, 3, 62, 4, 54, 4, 21, 4, 16, 9, 163, 0, 35, 42, 180, 0, 22, 27, 21, 4, 79, 29, 42, 182, 0, 196, 153, 0, 10, 4, 21, 4, 120, 167, 0, 4, 3, 128, 62, 132, 4, 1, 167, 255, 220, 42, 180, 0, 22, 27, 28, 79, 29, 172]
theorem kbl_X9_widths : kbs cX9_widths = kbd_X9_widths := by decide +kernel
def kbd_X9_within : List Nat := [26, 27, 161, 0, 12, 26, 28, 163, 0, 7, 4, 167, 0, 4, 3, 172]
theorem kbl_X9_within : kbs cX9_within = kbd_X9_within := by decide +kernel
def kbd_X9_without : List Nat := [42, 27, 182, 0, 120, 154, 0, 5, 2, 172, 42, 180, 0, 74, 4, 160, 0, 8, 16, 247, 167, 0, 8, 42, 27, 182, 0, 155, 172]
theorem kbl_X9_without : kbs cX9_without = kbd_X9_without := by decide +kernel
def kbd_X9_write : List Nat := [42, 3, 181, 0, 64, 27, 184, 0, 80, 154, 0, 5, 2, 172, 28, 184, 0, 84, 153, 0, 14, 21, 4, 3, 16, 24, 184, 0, 70, 154, 0, 6, 16, 254, 172, 42, 27, 28, 29, 21, 4, 182, 0, 87, 54, 5, 21, 5, 153, 0, 10, 42, 21, 5, 182, 0, 91, 172, 42, 180, 0, 74, 154, 0, 6, 16, 253, 172, 16, 60, 27, 104, 29, 96, 54, 6, 3, 54, 7, 21, 7, 21, 4, 162, 0, 31, 42, 180, 0, 16, 21, 6, 21, 7, 96, 46, 3, 16, 15, 184, 0, 70, 154, 0, 6, 16, 254, 172, 132, 7, 1, 167, 255, 224, 42, 180, 0, 101, 21, 4, 96, 16, 24, 164, 0, 6, 16, 252, 172, 3, 54, 7, 21, 7, 21, 4, 162, 0, 74, 42, 180, 0, 34, 42, 180, 0, 101, 42, 180, 0, 16, 21, 6, 21, 7, 96, 46, 79, 42, 89, 180, 0, 101, 4, 96, 181, 0, 101, 42, 89, 180, 0, 129, 4, 96, 181, 0, 129, 42, 20, 0, 132, 42, 180, 0, 134, 105, 42, 180, 0, 16, 21, 6, 21, 7, 96, 46, 133, 97, 10, 97, 181, 0, 134, 132, 7, 1, 167, 255, 181, 42, 180, 0, 101, 172]
theorem kbl_X9_write : kbs cX9_write = kbd_X9_write := by decide +kernel
theorem goodIn_4 {big : List Cond} (ws : List Cond) (hm : ∀ w ∈ ws, w ∈ big) (h : ws.all goodWord = true) : GoodIn big ws := fun w hw => ⟨hm w hw, good_of_word (List.all_eq_true.mp h w hw)⟩
theorem dX8_isWithin_0 : decode cX8_isWithin 0 = .ok (.iload_n 0, 1) := kqo_1a kbl_X8_isWithin (pc := 0) rfl
theorem dX8_isWithin_1 : decode cX8_isWithin 1 = .ok (.iload_n 1, 1) := kqo_1b kbl_X8_isWithin (pc := 1) rfl
theorem dX8_isWithin_2 : decode cX8_isWithin 2 = .ok (.if_icmp .lt 12, 3) := kqo_a1 (x1 := 0) (x2 := 12) kbl_X8_isWithin (pc := 2) rfl rfl
theorem dX8_isWithin_5 : decode cX8_isWithin 5 = .ok (.iload_n 0, 1) := kqo_1a kbl_X8_isWithin (pc := 5) rfl
theorem dX8_isWithin_6 : decode cX8_isWithin 6 = .ok (.iload_n 2, 1) := kqo_1c kbl_X8_isWithin (pc := 6) rfl
theorem dX8_isWithin_7 : decode cX8_isWithin 7 = .ok (.if_icmp .gt 7, 3) := kqo_a3 (x1 := 0) (x2 := 7) kbl_X8_isWithin (pc := 7) rfl rfl
theorem dX8_isWithin_10 : decode cX8_isWithin 10 = .ok (.iconst 1, 1) := kqo_04 kbl_X8_isWithin (pc := 10) rfl
theorem dX8_isWithin_11 : decode cX8_isWithin 11 = .ok (.goto 4, 3) := kqo_a7 (x1 := 0) (x2 := 4) kbl_X8_isWithin (pc := 11) rfl rfl
theorem dX8_isWithin_14 : decode cX8_isWithin 14 = .ok (.iconst 0, 1) := kqo_03 kbl_X8_isWithin (pc := 14) rfl
theorem dX8_isWithin_15 : decode cX8_isWithin 15 = .ok (.ireturn, 1) := kqo_ac kbl_X8_isWithin (pc := 15) rfl
set_option maxHeartbeats 4000000 in
set_option maxRecDepth 100000 in
theorem c_X8_isWithin (l : Launch) (D : va_G) (sz : Nat) (v : Int) (a : Int) (b : Int) (q0 : rg v) (q1 : rg a) (q2 : rg b) : Met l yX8_isWithin wsX8_isWithin ({ frames := 0, cells := 0, slots := 0, locals := 0 }) (kPre [.int (zI v), .int (zI a), .int (zI b)] D [] [] sz) (QcRead (if a ≤ v ∧ v ≤ b then 1 else 0)) 0 0 (fun _ => False) := by
  refine Met.ofW (cc := cX8_isWithin) (maxL := 3) (ret := (some .boolean)) (by decide) rfl ?_
  intro p e s m args below meth c s₁ B hml hv
  obtain ⟨rfl, hsz, hP, hK, hD0, hN⟩ := hv
  have hx := B.exec
  have hb := B.bytes
  have hr := B.returns
  have hts := atoms_spec (ws := wsX8_isWithin) B.pre
  have hown : s.vm.findClass RX8 = some m.cls := findClass_of_methodNamed B.named
  have hlocks := B.notSynchronized
  subst hsz
  have hD := hD0
  have hP : va_P D vwCl [] s.heap := hP
  have hl := lv_entry ([.int (zI v), .int (zI a), .int (zI b)]) (n := 3) (Nat.le_of_ble_eq_true rfl)
  rw [lg_entry_eq]
  generalize (lg_sl ([.int (zI v), .int (zI a), .int (zI b)]) ++ List.replicate (3 - (lg_sl ([.int (zI v), .int (zI a), .int (zI b)])).length) Slot.unset).toArray = ls at hl ⊢
  have hl : lv_has ls 3 [(0, .int (zI v)), (1, .int (zI a)), (2, .int (zI b))] := hl
  refine lv_iload_n hx hb dX8_isWithin_0 rfl (lv_at hl 0 rfl) ?_
  refine lv_iload_n hx hb dX8_isWithin_1 rfl (lv_at hl 1 rfl) ?_
  refine kz_icmp_lt (tgt := 14) hx hb dX8_isWithin_2 (by decide) (by omega) (by omega) (fun c_1 => ?_) (fun c_1 => ?_)
  · refine lv_iconst (v := zI 0) hx hb dX8_isWithin_14 rfl ?_
    exact W.zret (v := (zI 0)) hx hb hr rfl (fun t ht hW => kRd (kb0 (by omega)) ht) (fun _ h9 => by cases h9) dX8_isWithin_15
  · refine lv_iload_n hx hb dX8_isWithin_5 rfl (lv_at hl 0 rfl) ?_
    refine lv_iload_n hx hb dX8_isWithin_6 rfl (lv_at hl 2 rfl) ?_
    refine kz_icmp_gt (tgt := 14) hx hb dX8_isWithin_7 (by decide) (by omega) (by omega) (fun c_2 => ?_) (fun c_2 => ?_)
    · refine lv_iconst (v := zI 0) hx hb dX8_isWithin_14 rfl ?_
      exact W.zret (v := (zI 0)) hx hb hr rfl (fun t ht hW => kRd (kb0 (by omega)) ht) (fun _ h9 => by cases h9) dX8_isWithin_15
    · refine lv_iconst (v := zI 1) hx hb dX8_isWithin_10 rfl ?_
      refine lv_goto (tgt := 15) hx hb dX8_isWithin_11 (by decide) ?_
      exact W.zret (v := (zI 1)) hx hb hr rfl (fun t ht hW => kRd (kb1 (by omega)) ht) (fun _ h9 => by cases h9) dX8_isWithin_15
theorem dX9_within_0 : decode cX9_within 0 = .ok (.iload_n 0, 1) := kqo_1a kbl_X9_within (pc := 0) rfl
theorem dX9_within_1 : decode cX9_within 1 = .ok (.iload_n 1, 1) := kqo_1b kbl_X9_within (pc := 1) rfl
theorem dX9_within_2 : decode cX9_within 2 = .ok (.if_icmp .lt 12, 3) := kqo_a1 (x1 := 0) (x2 := 12) kbl_X9_within (pc := 2) rfl rfl
theorem dX9_within_5 : decode cX9_within 5 = .ok (.iload_n 0, 1) := kqo_1a kbl_X9_within (pc := 5) rfl
theorem dX9_within_6 : decode cX9_within 6 = .ok (.iload_n 2, 1) := kqo_1c kbl_X9_within (pc := 6) rfl
theorem dX9_within_7 : decode cX9_within 7 = .ok (.if_icmp .gt 7, 3) := kqo_a3 (x1 := 0) (x2 := 7) kbl_X9_within (pc := 7) rfl rfl
theorem dX9_within_10 : decode cX9_within 10 = .ok (.iconst 1, 1) := kqo_04 kbl_X9_within (pc := 10) rfl
theorem dX9_within_11 : decode cX9_within 11 = .ok (.goto 4, 3) := kqo_a7 (x1 := 0) (x2 := 4) kbl_X9_within (pc := 11) rfl rfl
theorem dX9_within_14 : decode cX9_within 14 = .ok (.iconst 0, 1) := kqo_03 kbl_X9_within (pc := 14) rfl
theorem dX9_within_15 : decode cX9_within 15 = .ok (.ireturn, 1) := kqo_ac kbl_X9_within (pc := 15) rfl
set_option maxHeartbeats 4000000 in
set_option maxRecDepth 100000 in
theorem c_X9_within (l : Launch) (D : va_G) (sz : Nat) (v : Int) (a : Int) (b : Int) (q0 : rg v) (q1 : rg a) (q2 : rg b) : Met l yX9_within wsX9_within ({ frames := 0, cells := 0, slots := 0, locals := 0 }) (kPre [.int (zI v), .int (zI a), .int (zI b)] D [] [] sz) (QcRead (if a ≤ v ∧ v ≤ b then 1 else 0)) 0 0 (fun _ => False) := by
  refine Met.ofW (cc := cX9_within) (maxL := 3) (ret := (some .boolean)) (by decide) rfl ?_
  intro p e s m args below meth c s₁ B hml hv
  obtain ⟨rfl, hsz, hP, hK, hD0, hN⟩ := hv
  have hx := B.exec
  have hb := B.bytes
  have hr := B.returns
  have hts := atoms_spec (ws := wsX9_within) B.pre
  have hown : s.vm.findClass RX9 = some m.cls := findClass_of_methodNamed B.named
  have hlocks := B.notSynchronized
  subst hsz
  have hD := hD0
  have hP : va_P D vwCl [] s.heap := hP
  have hl := lv_entry ([.int (zI v), .int (zI a), .int (zI b)]) (n := 3) (Nat.le_of_ble_eq_true rfl)
  rw [lg_entry_eq]
  generalize (lg_sl ([.int (zI v), .int (zI a), .int (zI b)]) ++ List.replicate (3 - (lg_sl ([.int (zI v), .int (zI a), .int (zI b)])).length) Slot.unset).toArray = ls at hl ⊢
  have hl : lv_has ls 3 [(0, .int (zI v)), (1, .int (zI a)), (2, .int (zI b))] := hl
  refine lv_iload_n hx hb dX9_within_0 rfl (lv_at hl 0 rfl) ?_
  refine lv_iload_n hx hb dX9_within_1 rfl (lv_at hl 1 rfl) ?_
  refine kz_icmp_lt (tgt := 14) hx hb dX9_within_2 (by decide) (by omega) (by omega) (fun c_1 => ?_) (fun c_1 => ?_)
  · refine lv_iconst (v := zI 0) hx hb dX9_within_14 rfl ?_
    exact W.zret (v := (zI 0)) hx hb hr rfl (fun t ht hW => kRd (kb0 (by omega)) ht) (fun _ h9 => by cases h9) dX9_within_15
  · refine lv_iload_n hx hb dX9_within_5 rfl (lv_at hl 0 rfl) ?_
    refine lv_iload_n hx hb dX9_within_6 rfl (lv_at hl 2 rfl) ?_
    refine kz_icmp_gt (tgt := 14) hx hb dX9_within_7 (by decide) (by omega) (by omega) (fun c_2 => ?_) (fun c_2 => ?_)
    · refine lv_iconst (v := zI 0) hx hb dX9_within_14 rfl ?_
      exact W.zret (v := (zI 0)) hx hb hr rfl (fun t ht hW => kRd (kb0 (by omega)) ht) (fun _ h9 => by cases h9) dX9_within_15
    · refine lv_iconst (v := zI 1) hx hb dX9_within_10 rfl ?_
      refine lv_goto (tgt := 15) hx hb dX9_within_11 (by decide) ?_
      exact W.zret (v := (zI 1)) hx hb hr rfl (fun t ht hW => kRd (kb1 (by omega)) ht) (fun _ h9 => by cases h9) dX9_within_15
theorem dX8_isSheet_0 : decode cX8_isSheet 0 = .ok (.iload_n 0, 1) := kqo_1a kbl_X8_isSheet (pc := 0) rfl
theorem dX8_isSheet_1 : decode cX8_isSheet 1 = .ok (.iconst 0, 1) := kqo_03 kbl_X8_isSheet (pc := 1) rfl
theorem dX8_isSheet_2 : decode cX8_isSheet 2 = .ok (.iconst 3, 1) := kqo_06 kbl_X8_isSheet (pc := 2) rfl
theorem dX8_isSheet_3 : decode cX8_isSheet 3 = .ok (.invokestatic 128, 3) := kqo_b8 (x1 := 0) (x2 := 128) kbl_X8_isSheet (pc := 3) rfl rfl
theorem dX8_isSheet_6 : decode cX8_isSheet 6 = .ok (.ireturn, 1) := kqo_ac kbl_X8_isSheet (pc := 6) rfl
set_option maxRecDepth 20000 in
theorem ggX8_isSheet_X8_isWithin : GoodIn wsX8_isSheet wsX8_isWithin := goodIn_4 _ (List.forall_mem_cons.mpr ⟨List.mem_cons_of_mem _ (List.mem_of_getElem? (i := 3) rfl), fun _ h9 => absurd h9 List.not_mem_nil⟩) (by decide +kernel)
set_option maxRecDepth 20000 in
theorem gX8_isSheet_X8_isWithin : GoodIn wsX8_isSheet (va_wsS RX8 128 yX8_isWithin wsX8_isWithin) := goodIn_app (goodIn_4 _ (List.forall_mem_cons.mpr ⟨List.mem_cons_of_mem _ (List.mem_of_getElem? (i := 0) rfl), List.forall_mem_cons.mpr ⟨List.mem_cons_of_mem _ (List.mem_of_getElem? (i := 1) rfl), List.forall_mem_cons.mpr ⟨List.mem_cons_of_mem _ (List.mem_of_getElem? (i := 2) rfl), fun _ h9 => absurd h9 List.not_mem_nil⟩⟩⟩) (by decide +kernel)) ggX8_isSheet_X8_isWithin
theorem ax_X8_isSheet_0 : ([] : List Nat).map (fun i => ([] : va_W)[i]?) = ([] : va_W).map some := rfl
set_option maxHeartbeats 4000000 in
set_option maxRecDepth 100000 in
theorem c_X8_isSheet (l : Launch) (D : va_G) (sz : Nat) (k : Int) (q0 : rg k) : Met l yX8_isSheet wsX8_isSheet ({ frames := 1, cells := 0, slots := 0, locals := 22 }) (kPre [.int (zI k)] D [] [] sz) (QcRead (if 0 ≤ k ∧ k ≤ 3 then 1 else 0)) 0 0 (fun _ => False) := by
  refine Met.ofW (cc := cX8_isSheet) (maxL := 1) (ret := (some .boolean)) (by decide) rfl ?_
  intro p e s m args below meth c s₁ B hml hv
  obtain ⟨rfl, hsz, hP, hK, hD0, hN⟩ := hv
  have hx := B.exec
  have hb := B.bytes
  have hr := B.returns
  have hts := atoms_spec (ws := wsX8_isSheet) B.pre
  have hown : s.vm.findClass RX8 = some m.cls := findClass_of_methodNamed B.named
  have hlocks := B.notSynchronized
  subst hsz
  have hD := hD0
  have hP : va_P D vwCl [] s.heap := hP
  have hl := lv_entry ([.int (zI k)]) (n := 1) (Nat.le_of_ble_eq_true rfl)
  rw [lg_entry_eq]
  generalize (lg_sl ([.int (zI k)]) ++ List.replicate (1 - (lg_sl ([.int (zI k)])).length) Slot.unset).toArray = ls at hl ⊢
  have hl : lv_has ls 1 [(0, .int (zI k))] := hl
  refine lv_iload_n hx hb dX8_isSheet_0 rfl (lv_at hl 0 rfl) ?_
  refine lv_iconst (v := zI 0) hx hb dX8_isSheet_1 rfl ?_
  refine lv_iconst (v := zI 3) hx hb dX8_isSheet_2 rfl ?_
  refine k_callR (va_runS (As := [.int (zI k), .int (zI 0), .int (zI 3)]) (rest := []) ⟨hx, hb, hml, hown, hts⟩ (c_X8_isWithin l D s.heap.size (v := k) (a := 0) (b := 3) q0 (by omega) (by omega)) (va_cwS 3 hts gX8_isSheet_X8_isWithin rfl rfl rfl (by decide +kernel) ⟨Nat.le_of_ble_eq_true rfl, Nat.le_of_ble_eq_true rfl⟩) (kPreS hP (kD0 hD) hK hN [] [] ax_X8_isSheet_0 rfl (by decide +kernel)) rfl rfl hl.1 rfl (lv_room (Nat.le_of_ble_eq_true rfl)) dX8_isSheet_3 ⟨Nat.le_of_ble_eq_true rfl, Nat.le_of_ble_eq_true rfl⟩) ?_
  exact W.zret (v := (if 0 ≤ k ∧ k ≤ 3 then 1 else 0)) hx hb hr kzb (fun t ht hW => kRd rfl ht) (fun _ h9 => by cases h9) dX8_isSheet_6
theorem dX9_isSheet_0 : decode cX9_isSheet 0 = .ok (.iload_n 0, 1) := kqo_1a kbl_X9_isSheet (pc := 0) rfl
theorem dX9_isSheet_1 : decode cX9_isSheet 1 = .ok (.iconst 0, 1) := kqo_03 kbl_X9_isSheet (pc := 1) rfl
theorem dX9_isSheet_2 : decode cX9_isSheet 2 = .ok (.iconst 3, 1) := kqo_06 kbl_X9_isSheet (pc := 2) rfl
theorem dX9_isSheet_3 : decode cX9_isSheet 3 = .ok (.invokestatic 70, 3) := kqo_b8 (x1 := 0) (x2 := 70) kbl_X9_isSheet (pc := 3) rfl rfl
theorem dX9_isSheet_6 : decode cX9_isSheet 6 = .ok (.ireturn, 1) := kqo_ac kbl_X9_isSheet (pc := 6) rfl
set_option maxRecDepth 20000 in
theorem ggX9_isSheet_X9_within : GoodIn wsX9_isSheet wsX9_within := goodIn_4 _ (List.forall_mem_cons.mpr ⟨List.mem_cons_of_mem _ (List.mem_of_getElem? (i := 3) rfl), fun _ h9 => absurd h9 List.not_mem_nil⟩) (by decide +kernel)
set_option maxRecDepth 20000 in
theorem gX9_isSheet_X9_within : GoodIn wsX9_isSheet (va_wsS RX9 70 yX9_within wsX9_within) := goodIn_app (goodIn_4 _ (List.forall_mem_cons.mpr ⟨List.mem_cons_of_mem _ (List.mem_of_getElem? (i := 0) rfl), List.forall_mem_cons.mpr ⟨List.mem_cons_of_mem _ (List.mem_of_getElem? (i := 1) rfl), List.forall_mem_cons.mpr ⟨List.mem_cons_of_mem _ (List.mem_of_getElem? (i := 2) rfl), fun _ h9 => absurd h9 List.not_mem_nil⟩⟩⟩) (by decide +kernel)) ggX9_isSheet_X9_within
theorem ax_X9_isSheet_0 : ([] : List Nat).map (fun i => ([] : va_W)[i]?) = ([] : va_W).map some := rfl
set_option maxHeartbeats 4000000 in
set_option maxRecDepth 100000 in
theorem c_X9_isSheet (l : Launch) (D : va_G) (sz : Nat) (k : Int) (q0 : rg k) : Met l yX9_isSheet wsX9_isSheet ({ frames := 1, cells := 0, slots := 0, locals := 22 }) (kPre [.int (zI k)] D [] [] sz) (QcRead (if 0 ≤ k ∧ k ≤ 3 then 1 else 0)) 0 0 (fun _ => False) := by
  refine Met.ofW (cc := cX9_isSheet) (maxL := 1) (ret := (some .boolean)) (by decide) rfl ?_
  intro p e s m args below meth c s₁ B hml hv
  obtain ⟨rfl, hsz, hP, hK, hD0, hN⟩ := hv
  have hx := B.exec
  have hb := B.bytes
  have hr := B.returns
  have hts := atoms_spec (ws := wsX9_isSheet) B.pre
  have hown : s.vm.findClass RX9 = some m.cls := findClass_of_methodNamed B.named
  have hlocks := B.notSynchronized
  subst hsz
  have hD := hD0
  have hP : va_P D vwCl [] s.heap := hP
  have hl := lv_entry ([.int (zI k)]) (n := 1) (Nat.le_of_ble_eq_true rfl)
  rw [lg_entry_eq]
  generalize (lg_sl ([.int (zI k)]) ++ List.replicate (1 - (lg_sl ([.int (zI k)])).length) Slot.unset).toArray = ls at hl ⊢
  have hl : lv_has ls 1 [(0, .int (zI k))] := hl
  refine lv_iload_n hx hb dX9_isSheet_0 rfl (lv_at hl 0 rfl) ?_
  refine lv_iconst (v := zI 0) hx hb dX9_isSheet_1 rfl ?_
  refine lv_iconst (v := zI 3) hx hb dX9_isSheet_2 rfl ?_
  refine k_callR (va_runS (As := [.int (zI k), .int (zI 0), .int (zI 3)]) (rest := []) ⟨hx, hb, hml, hown, hts⟩ (c_X9_within l D s.heap.size (v := k) (a := 0) (b := 3) q0 (by omega) (by omega)) (va_cwS 3 hts gX9_isSheet_X9_within rfl rfl rfl (by decide +kernel) ⟨Nat.le_of_ble_eq_true rfl, Nat.le_of_ble_eq_true rfl⟩) (kPreS hP (kD0 hD) hK hN [] [] ax_X9_isSheet_0 rfl (by decide +kernel)) rfl rfl hl.1 rfl (lv_room (Nat.le_of_ble_eq_true rfl)) dX9_isSheet_3 ⟨Nat.le_of_ble_eq_true rfl, Nat.le_of_ble_eq_true rfl⟩) ?_
  exact W.zret (v := (if 0 ≤ k ∧ k ≤ 3 then 1 else 0)) hx hb hr kzb (fun t ht hW => kRd rfl ht) (fun _ h9 => by cases h9) dX9_isSheet_6
theorem dX8_isLane_0 : decode cX8_isLane 0 = .ok (.iload_n 0, 1) := kqo_1a kbl_X8_isLane (pc := 0) rfl
theorem dX8_isLane_1 : decode cX8_isLane 1 = .ok (.iconst 0, 1) := kqo_03 kbl_X8_isLane (pc := 1) rfl
theorem dX8_isLane_2 : decode cX8_isLane 2 = .ok (.iconst 2, 1) := kqo_05 kbl_X8_isLane (pc := 2) rfl
theorem dX8_isLane_3 : decode cX8_isLane 3 = .ok (.invokestatic 128, 3) := kqo_b8 (x1 := 0) (x2 := 128) kbl_X8_isLane (pc := 3) rfl rfl
theorem dX8_isLane_6 : decode cX8_isLane 6 = .ok (.ireturn, 1) := kqo_ac kbl_X8_isLane (pc := 6) rfl
set_option maxRecDepth 20000 in
theorem ggX8_isLane_X8_isWithin : GoodIn wsX8_isLane wsX8_isWithin := goodIn_4 _ (List.forall_mem_cons.mpr ⟨List.mem_cons_of_mem _ (List.mem_of_getElem? (i := 3) rfl), fun _ h9 => absurd h9 List.not_mem_nil⟩) (by decide +kernel)
set_option maxRecDepth 20000 in
theorem gX8_isLane_X8_isWithin : GoodIn wsX8_isLane (va_wsS RX8 128 yX8_isWithin wsX8_isWithin) := goodIn_app (goodIn_4 _ (List.forall_mem_cons.mpr ⟨List.mem_cons_of_mem _ (List.mem_of_getElem? (i := 0) rfl), List.forall_mem_cons.mpr ⟨List.mem_cons_of_mem _ (List.mem_of_getElem? (i := 1) rfl), List.forall_mem_cons.mpr ⟨List.mem_cons_of_mem _ (List.mem_of_getElem? (i := 2) rfl), fun _ h9 => absurd h9 List.not_mem_nil⟩⟩⟩) (by decide +kernel)) ggX8_isLane_X8_isWithin
theorem ax_X8_isLane_0 : ([] : List Nat).map (fun i => ([] : va_W)[i]?) = ([] : va_W).map some := rfl
set_option maxHeartbeats 4000000 in
set_option maxRecDepth 100000 in
theorem c_X8_isLane (l : Launch) (D : va_G) (sz : Nat) (k : Int) (q0 : rg k) : Met l yX8_isLane wsX8_isLane ({ frames := 1, cells := 0, slots := 0, locals := 22 }) (kPre [.int (zI k)] D [] [] sz) (QcRead (if 0 ≤ k ∧ k ≤ 2 then 1 else 0)) 0 0 (fun _ => False) := by
  refine Met.ofW (cc := cX8_isLane) (maxL := 1) (ret := (some .boolean)) (by decide) rfl ?_
  intro p e s m args below meth c s₁ B hml hv
  obtain ⟨rfl, hsz, hP, hK, hD0, hN⟩ := hv
  have hx := B.exec
  have hb := B.bytes
  have hr := B.returns
  have hts := atoms_spec (ws := wsX8_isLane) B.pre
  have hown : s.vm.findClass RX8 = some m.cls := findClass_of_methodNamed B.named
  have hlocks := B.notSynchronized
  subst hsz
  have hD := hD0
  have hP : va_P D vwCl [] s.heap := hP
  have hl := lv_entry ([.int (zI k)]) (n := 1) (Nat.le_of_ble_eq_true rfl)
  rw [lg_entry_eq]
  generalize (lg_sl ([.int (zI k)]) ++ List.replicate (1 - (lg_sl ([.int (zI k)])).length) Slot.unset).toArray = ls at hl ⊢
  have hl : lv_has ls 1 [(0, .int (zI k))] := hl
  refine lv_iload_n hx hb dX8_isLane_0 rfl (lv_at hl 0 rfl) ?_
  refine lv_iconst (v := zI 0) hx hb dX8_isLane_1 rfl ?_
  refine lv_iconst (v := zI 2) hx hb dX8_isLane_2 rfl ?_
  refine k_callR (va_runS (As := [.int (zI k), .int (zI 0), .int (zI 2)]) (rest := []) ⟨hx, hb, hml, hown, hts⟩ (c_X8_isWithin l D s.heap.size (v := k) (a := 0) (b := 2) q0 (by omega) (by omega)) (va_cwS 3 hts gX8_isLane_X8_isWithin rfl rfl rfl (by decide +kernel) ⟨Nat.le_of_ble_eq_true rfl, Nat.le_of_ble_eq_true rfl⟩) (kPreS hP (kD0 hD) hK hN [] [] ax_X8_isLane_0 rfl (by decide +kernel)) rfl rfl hl.1 rfl (lv_room (Nat.le_of_ble_eq_true rfl)) dX8_isLane_3 ⟨Nat.le_of_ble_eq_true rfl, Nat.le_of_ble_eq_true rfl⟩) ?_
  exact W.zret (v := (if 0 ≤ k ∧ k ≤ 2 then 1 else 0)) hx hb hr kzb (fun t ht hW => kRd rfl ht) (fun _ h9 => by cases h9) dX8_isLane_6
theorem dX9_isSort_0 : decode cX9_isSort 0 = .ok (.iload_n 0, 1) := kqo_1a kbl_X9_isSort (pc := 0) rfl
theorem dX9_isSort_1 : decode cX9_isSort 1 = .ok (.iconst 0, 1) := kqo_03 kbl_X9_isSort (pc := 1) rfl
theorem dX9_isSort_2 : decode cX9_isSort 2 = .ok (.iconst 2, 1) := kqo_05 kbl_X9_isSort (pc := 2) rfl
theorem dX9_isSort_3 : decode cX9_isSort 3 = .ok (.invokestatic 70, 3) := kqo_b8 (x1 := 0) (x2 := 70) kbl_X9_isSort (pc := 3) rfl rfl
theorem dX9_isSort_6 : decode cX9_isSort 6 = .ok (.ireturn, 1) := kqo_ac kbl_X9_isSort (pc := 6) rfl
set_option maxRecDepth 20000 in
theorem ggX9_isSort_X9_within : GoodIn wsX9_isSort wsX9_within := goodIn_4 _ (List.forall_mem_cons.mpr ⟨List.mem_cons_of_mem _ (List.mem_of_getElem? (i := 3) rfl), fun _ h9 => absurd h9 List.not_mem_nil⟩) (by decide +kernel)
set_option maxRecDepth 20000 in
theorem gX9_isSort_X9_within : GoodIn wsX9_isSort (va_wsS RX9 70 yX9_within wsX9_within) := goodIn_app (goodIn_4 _ (List.forall_mem_cons.mpr ⟨List.mem_cons_of_mem _ (List.mem_of_getElem? (i := 0) rfl), List.forall_mem_cons.mpr ⟨List.mem_cons_of_mem _ (List.mem_of_getElem? (i := 1) rfl), List.forall_mem_cons.mpr ⟨List.mem_cons_of_mem _ (List.mem_of_getElem? (i := 2) rfl), fun _ h9 => absurd h9 List.not_mem_nil⟩⟩⟩) (by decide +kernel)) ggX9_isSort_X9_within
theorem ax_X9_isSort_0 : ([] : List Nat).map (fun i => ([] : va_W)[i]?) = ([] : va_W).map some := rfl
set_option maxHeartbeats 4000000 in
set_option maxRecDepth 100000 in
theorem c_X9_isSort (l : Launch) (D : va_G) (sz : Nat) (k : Int) (q0 : rg k) : Met l yX9_isSort wsX9_isSort ({ frames := 1, cells := 0, slots := 0, locals := 22 }) (kPre [.int (zI k)] D [] [] sz) (QcRead (if 0 ≤ k ∧ k ≤ 2 then 1 else 0)) 0 0 (fun _ => False) := by
  refine Met.ofW (cc := cX9_isSort) (maxL := 1) (ret := (some .boolean)) (by decide) rfl ?_
  intro p e s m args below meth c s₁ B hml hv
  obtain ⟨rfl, hsz, hP, hK, hD0, hN⟩ := hv
  have hx := B.exec
  have hb := B.bytes
  have hr := B.returns
  have hts := atoms_spec (ws := wsX9_isSort) B.pre
  have hown : s.vm.findClass RX9 = some m.cls := findClass_of_methodNamed B.named
  have hlocks := B.notSynchronized
  subst hsz
  have hD := hD0
  have hP : va_P D vwCl [] s.heap := hP
  have hl := lv_entry ([.int (zI k)]) (n := 1) (Nat.le_of_ble_eq_true rfl)
  rw [lg_entry_eq]
  generalize (lg_sl ([.int (zI k)]) ++ List.replicate (1 - (lg_sl ([.int (zI k)])).length) Slot.unset).toArray = ls at hl ⊢
  have hl : lv_has ls 1 [(0, .int (zI k))] := hl
  refine lv_iload_n hx hb dX9_isSort_0 rfl (lv_at hl 0 rfl) ?_
  refine lv_iconst (v := zI 0) hx hb dX9_isSort_1 rfl ?_
  refine lv_iconst (v := zI 2) hx hb dX9_isSort_2 rfl ?_
  refine k_callR (va_runS (As := [.int (zI k), .int (zI 0), .int (zI 2)]) (rest := []) ⟨hx, hb, hml, hown, hts⟩ (c_X9_within l D s.heap.size (v := k) (a := 0) (b := 2) q0 (by omega) (by omega)) (va_cwS 3 hts gX9_isSort_X9_within rfl rfl rfl (by decide +kernel) ⟨Nat.le_of_ble_eq_true rfl, Nat.le_of_ble_eq_true rfl⟩) (kPreS hP (kD0 hD) hK hN [] [] ax_X9_isSort_0 rfl (by decide +kernel)) rfl rfl hl.1 rfl (lv_room (Nat.le_of_ble_eq_true rfl)) dX9_isSort_3 ⟨Nat.le_of_ble_eq_true rfl, Nat.le_of_ble_eq_true rfl⟩) ?_
  exact W.zret (v := (if 0 ≤ k ∧ k ≤ 2 then 1 else 0)) hx hb hr kzb (fun t ht hW => kRd rfl ht) (fun _ h9 => by cases h9) dX9_isSort_6
theorem dX8_isOfDay_0 : decode cX8_isOfDay 0 = .ok (.iload_n 0, 1) := kqo_1a kbl_X8_isOfDay (pc := 0) rfl
theorem dX8_isOfDay_1 : decode cX8_isOfDay 1 = .ok (.iconst 0, 1) := kqo_03 kbl_X8_isOfDay (pc := 1) rfl
theorem dX8_isOfDay_2 : decode cX8_isOfDay 2 = .ok (.iconst 4, 1) := kqo_07 kbl_X8_isOfDay (pc := 2) rfl
theorem dX8_isOfDay_3 : decode cX8_isOfDay 3 = .ok (.invokestatic 128, 3) := kqo_b8 (x1 := 0) (x2 := 128) kbl_X8_isOfDay (pc := 3) rfl rfl
theorem dX8_isOfDay_6 : decode cX8_isOfDay 6 = .ok (.ifCond .ne 14, 3) := kqo_9a (x1 := 0) (x2 := 14) kbl_X8_isOfDay (pc := 6) rfl rfl
theorem dX8_isOfDay_9 : decode cX8_isOfDay 9 = .ok (.iload_n 0, 1) := kqo_1a kbl_X8_isOfDay (pc := 9) rfl
theorem dX8_isOfDay_10 : decode cX8_isOfDay 10 = .ok (.bipush 10, 2) := kqo_10 (x1 := 10) kbl_X8_isOfDay (pc := 10) rfl rfl
theorem dX8_isOfDay_12 : decode cX8_isOfDay 12 = .ok (.bipush 13, 2) := kqo_10 (x1 := 13) kbl_X8_isOfDay (pc := 12) rfl rfl
theorem dX8_isOfDay_14 : decode cX8_isOfDay 14 = .ok (.invokestatic 128, 3) := kqo_b8 (x1 := 0) (x2 := 128) kbl_X8_isOfDay (pc := 14) rfl rfl
theorem dX8_isOfDay_17 : decode cX8_isOfDay 17 = .ok (.ifCond .eq 7, 3) := kqo_99 (x1 := 0) (x2 := 7) kbl_X8_isOfDay (pc := 17) rfl rfl
theorem dX8_isOfDay_20 : decode cX8_isOfDay 20 = .ok (.iconst 1, 1) := kqo_04 kbl_X8_isOfDay (pc := 20) rfl
theorem dX8_isOfDay_21 : decode cX8_isOfDay 21 = .ok (.goto 4, 3) := kqo_a7 (x1 := 0) (x2 := 4) kbl_X8_isOfDay (pc := 21) rfl rfl
theorem dX8_isOfDay_24 : decode cX8_isOfDay 24 = .ok (.iconst 0, 1) := kqo_03 kbl_X8_isOfDay (pc := 24) rfl
theorem dX8_isOfDay_25 : decode cX8_isOfDay 25 = .ok (.ireturn, 1) := kqo_ac kbl_X8_isOfDay (pc := 25) rfl
set_option maxRecDepth 20000 in
theorem ggX8_isOfDay_X8_isWithin : GoodIn wsX8_isOfDay wsX8_isWithin := goodIn_4 _ (List.forall_mem_cons.mpr ⟨List.mem_cons_of_mem _ (List.mem_of_getElem? (i := 3) rfl), fun _ h9 => absurd h9 List.not_mem_nil⟩) (by decide +kernel)
set_option maxRecDepth 20000 in
theorem gX8_isOfDay_X8_isWithin : GoodIn wsX8_isOfDay (va_wsS RX8 128 yX8_isWithin wsX8_isWithin) := goodIn_app (goodIn_4 _ (List.forall_mem_cons.mpr ⟨List.mem_cons_of_mem _ (List.mem_of_getElem? (i := 0) rfl), List.forall_mem_cons.mpr ⟨List.mem_cons_of_mem _ (List.mem_of_getElem? (i := 1) rfl), List.forall_mem_cons.mpr ⟨List.mem_cons_of_mem _ (List.mem_of_getElem? (i := 2) rfl), fun _ h9 => absurd h9 List.not_mem_nil⟩⟩⟩) (by decide +kernel)) ggX8_isOfDay_X8_isWithin
theorem ax_X8_isOfDay_0 : ([] : List Nat).map (fun i => ([] : va_W)[i]?) = ([] : va_W).map some := rfl
set_option maxHeartbeats 4000000 in
set_option maxRecDepth 100000 in
theorem c_X8_isOfDay (l : Launch) (D : va_G) (sz : Nat) (k : Int) (q0 : rg k) : Met l yX8_isOfDay wsX8_isOfDay ({ frames := 1, cells := 0, slots := 0, locals := 22 }) (kPre [.int (zI k)] D [] [] sz) (QcRead (if (0 ≤ k ∧ k ≤ 4) ∨ (10 ≤ k ∧ k ≤ 13) then 1 else 0)) 0 0 (fun _ => False) := by
  refine Met.ofW (cc := cX8_isOfDay) (maxL := 1) (ret := (some .boolean)) (by decide) rfl ?_
  intro p e s m args below meth c s₁ B hml hv
  obtain ⟨rfl, hsz, hP, hK, hD0, hN⟩ := hv
  have hx := B.exec
  have hb := B.bytes
  have hr := B.returns
  have hts := atoms_spec (ws := wsX8_isOfDay) B.pre
  have hown : s.vm.findClass RX8 = some m.cls := findClass_of_methodNamed B.named
  have hlocks := B.notSynchronized
  subst hsz
  have hD := hD0
  have hP : va_P D vwCl [] s.heap := hP
  have hl := lv_entry ([.int (zI k)]) (n := 1) (Nat.le_of_ble_eq_true rfl)
  rw [lg_entry_eq]
  generalize (lg_sl ([.int (zI k)]) ++ List.replicate (1 - (lg_sl ([.int (zI k)])).length) Slot.unset).toArray = ls at hl ⊢
  have hl : lv_has ls 1 [(0, .int (zI k))] := hl
  refine lv_iload_n hx hb dX8_isOfDay_0 rfl (lv_at hl 0 rfl) ?_
  refine lv_iconst (v := zI 0) hx hb dX8_isOfDay_1 rfl ?_
  refine lv_iconst (v := zI 4) hx hb dX8_isOfDay_2 rfl ?_
  refine k_callR (va_runS (As := [.int (zI k), .int (zI 0), .int (zI 4)]) (rest := []) ⟨hx, hb, hml, hown, hts⟩ (c_X8_isWithin l D s.heap.size (v := k) (a := 0) (b := 4) q0 (by omega) (by omega)) (va_cwS 3 hts gX8_isOfDay_X8_isWithin rfl rfl rfl (by decide +kernel) ⟨Nat.le_of_ble_eq_true rfl, Nat.le_of_ble_eq_true rfl⟩) (kPreS hP (kD0 hD) hK hN [] [] ax_X8_isOfDay_0 rfl (by decide +kernel)) rfl rfl hl.1 rfl (lv_room (Nat.le_of_ble_eq_true rfl)) dX8_isOfDay_3 ⟨Nat.le_of_ble_eq_true rfl, Nat.le_of_ble_eq_true rfl⟩) ?_
  refine lv_if_ne (tgt := 20) hx hb dX8_isOfDay_6 (by decide) (fun c_1 => ?_) (fun c_1 => ?_)
  · have c_1 : 0 ≤ k ∧ k ≤ 4 := b01t c_1
    refine lv_iconst (v := zI 1) hx hb dX8_isOfDay_20 rfl ?_
    refine lv_goto (tgt := 25) hx hb dX8_isOfDay_21 (by decide) ?_
    exact W.zret (v := (zI 1)) hx hb hr rfl (fun t ht hW => kRd (kb1 (by omega)) ht) (fun _ h9 => by cases h9) dX8_isOfDay_25
  · have c_1 : ¬ (0 ≤ k ∧ k ≤ 4) := b01f c_1
    refine lv_iload_n hx hb dX8_isOfDay_9 rfl (lv_at hl 0 rfl) ?_
    refine lv_bipush (v := zI 10) hx hb dX8_isOfDay_10 (by decide) ?_
    refine lv_bipush (v := zI 13) hx hb dX8_isOfDay_12 (by decide) ?_
    refine k_callR (va_runS (As := [.int (zI k), .int (zI 10), .int (zI 13)]) (rest := []) ⟨hx, hb, hml, hown, hts⟩ (c_X8_isWithin l D s.heap.size (v := k) (a := 10) (b := 13) q0 (by omega) (by omega)) (va_cwS 3 hts gX8_isOfDay_X8_isWithin rfl rfl rfl (by decide +kernel) ⟨Nat.le_of_ble_eq_true rfl, Nat.le_of_ble_eq_true rfl⟩) (kPreS hP (kD0 hD) hK hN [] [] ax_X8_isOfDay_0 rfl (by decide +kernel)) rfl rfl hl.1 rfl (lv_room (Nat.le_of_ble_eq_true rfl)) dX8_isOfDay_14 ⟨Nat.le_of_ble_eq_true rfl, Nat.le_of_ble_eq_true rfl⟩) ?_
    refine lv_if_eq (tgt := 24) hx hb dX8_isOfDay_17 (by decide) (fun c_2 => ?_) (fun c_2 => ?_)
    · have c_2 : ¬ (10 ≤ k ∧ k ≤ 13) := b01f c_2
      refine lv_iconst (v := zI 0) hx hb dX8_isOfDay_24 rfl ?_
      exact W.zret (v := (zI 0)) hx hb hr rfl (fun t ht hW => kRd (kb0 (by omega)) ht) (fun _ h9 => by cases h9) dX8_isOfDay_25
    · have c_2 : 10 ≤ k ∧ k ≤ 13 := b01t c_2
      refine lv_iconst (v := zI 1) hx hb dX8_isOfDay_20 rfl ?_
      refine lv_goto (tgt := 25) hx hb dX8_isOfDay_21 (by decide) ?_
      exact W.zret (v := (zI 1)) hx hb hr rfl (fun t ht hW => kRd (kb1 (by omega)) ht) (fun _ h9 => by cases h9) dX8_isOfDay_25
theorem dX8_isAct_0 : decode cX8_isAct 0 = .ok (.iload_n 1, 1) := kqo_1b kbl_X8_isAct (pc := 0) rfl
theorem dX8_isAct_1 : decode cX8_isAct 1 = .ok (.tableswitch 50 20 22 #[27, 35, 43], 27) := by decide +kernel
theorem dX8_isAct_28 : decode cX8_isAct 28 = .ok (.iload_n 0, 1) := kqo_1a kbl_X8_isAct (pc := 28) rfl
theorem dX8_isAct_29 : decode cX8_isAct 29 = .ok (.iconst 0, 1) := kqo_03 kbl_X8_isAct (pc := 29) rfl
theorem dX8_isAct_30 : decode cX8_isAct 30 = .ok (.bipush 15, 2) := kqo_10 (x1 := 15) kbl_X8_isAct (pc := 30) rfl rfl
theorem dX8_isAct_32 : decode cX8_isAct 32 = .ok (.invokestatic 128, 3) := kqo_b8 (x1 := 0) (x2 := 128) kbl_X8_isAct (pc := 32) rfl rfl
theorem dX8_isAct_35 : decode cX8_isAct 35 = .ok (.ireturn, 1) := kqo_ac kbl_X8_isAct (pc := 35) rfl
theorem dX8_isAct_36 : decode cX8_isAct 36 = .ok (.iload_n 0, 1) := kqo_1a kbl_X8_isAct (pc := 36) rfl
theorem dX8_isAct_37 : decode cX8_isAct 37 = .ok (.iconst 0, 1) := kqo_03 kbl_X8_isAct (pc := 37) rfl
theorem dX8_isAct_38 : decode cX8_isAct 38 = .ok (.bipush 24, 2) := kqo_10 (x1 := 24) kbl_X8_isAct (pc := 38) rfl rfl
theorem dX8_isAct_40 : decode cX8_isAct 40 = .ok (.invokestatic 128, 3) := kqo_b8 (x1 := 0) (x2 := 128) kbl_X8_isAct (pc := 40) rfl rfl
theorem dX8_isAct_43 : decode cX8_isAct 43 = .ok (.ireturn, 1) := kqo_ac kbl_X8_isAct (pc := 43) rfl
theorem dX8_isAct_44 : decode cX8_isAct 44 = .ok (.iload_n 0, 1) := kqo_1a kbl_X8_isAct (pc := 44) rfl
theorem dX8_isAct_45 : decode cX8_isAct 45 = .ok (.iconst 0, 1) := kqo_03 kbl_X8_isAct (pc := 45) rfl
theorem dX8_isAct_46 : decode cX8_isAct 46 = .ok (.iconst 3, 1) := kqo_06 kbl_X8_isAct (pc := 46) rfl
theorem dX8_isAct_47 : decode cX8_isAct 47 = .ok (.invokestatic 128, 3) := kqo_b8 (x1 := 0) (x2 := 128) kbl_X8_isAct (pc := 47) rfl rfl
theorem dX8_isAct_50 : decode cX8_isAct 50 = .ok (.ireturn, 1) := kqo_ac kbl_X8_isAct (pc := 50) rfl
theorem dX8_isAct_51 : decode cX8_isAct 51 = .ok (.iconst 0, 1) := kqo_03 kbl_X8_isAct (pc := 51) rfl
theorem dX8_isAct_52 : decode cX8_isAct 52 = .ok (.ireturn, 1) := kqo_ac kbl_X8_isAct (pc := 52) rfl
set_option maxRecDepth 20000 in
theorem ggX8_isAct_X8_isWithin : GoodIn wsX8_isAct wsX8_isWithin := goodIn_4 _ (List.forall_mem_cons.mpr ⟨List.mem_cons_of_mem _ (List.mem_of_getElem? (i := 3) rfl), fun _ h9 => absurd h9 List.not_mem_nil⟩) (by decide +kernel)
set_option maxRecDepth 20000 in
theorem gX8_isAct_X8_isWithin : GoodIn wsX8_isAct (va_wsS RX8 128 yX8_isWithin wsX8_isWithin) := goodIn_app (goodIn_4 _ (List.forall_mem_cons.mpr ⟨List.mem_cons_of_mem _ (List.mem_of_getElem? (i := 0) rfl), List.forall_mem_cons.mpr ⟨List.mem_cons_of_mem _ (List.mem_of_getElem? (i := 1) rfl), List.forall_mem_cons.mpr ⟨List.mem_cons_of_mem _ (List.mem_of_getElem? (i := 2) rfl), fun _ h9 => absurd h9 List.not_mem_nil⟩⟩⟩) (by decide +kernel)) ggX8_isAct_X8_isWithin
theorem ax_X8_isAct_0 : ([] : List Nat).map (fun i => ([] : va_W)[i]?) = ([] : va_W).map some := rfl
set_option maxHeartbeats 4000000 in
set_option maxRecDepth 100000 in
theorem c_X8_isAct (l : Launch) (D : va_G) (sz : Nat) (k : Int) (a : Int) (q0 : rg k) (q1 : rg a) : Met l yX8_isAct wsX8_isAct ({ frames := 1, cells := 0, slots := 0, locals := 22 }) (kPre [.int (zI k), .int (zI a)] D [] [] sz) (QcRead (if (a = 20 ∧ 0 ≤ k ∧ k ≤ 15) ∨ (a = 21 ∧ 0 ≤ k ∧ k ≤ 24) ∨ (a = 22 ∧ 0 ≤ k ∧ k ≤ 3) then 1 else 0)) 0 0 (fun _ => False) := by
  refine Met.ofW (cc := cX8_isAct) (maxL := 2) (ret := (some .boolean)) (by decide) rfl ?_
  intro p e s m args below meth c s₁ B hml hv
  obtain ⟨rfl, hsz, hP, hK, hD0, hN⟩ := hv
  have hx := B.exec
  have hb := B.bytes
  have hr := B.returns
  have hts := atoms_spec (ws := wsX8_isAct) B.pre
  have hown : s.vm.findClass RX8 = some m.cls := findClass_of_methodNamed B.named
  have hlocks := B.notSynchronized
  subst hsz
  have hD := hD0
  have hP : va_P D vwCl [] s.heap := hP
  have hl := lv_entry ([.int (zI k), .int (zI a)]) (n := 2) (Nat.le_of_ble_eq_true rfl)
  rw [lg_entry_eq]
  generalize (lg_sl ([.int (zI k), .int (zI a)]) ++ List.replicate (2 - (lg_sl ([.int (zI k), .int (zI a)])).length) Slot.unset).toArray = ls at hl ⊢
  have hl : lv_has ls 2 [(0, .int (zI k)), (1, .int (zI a))] := hl
  refine lv_iload_n hx hb dX8_isAct_0 rfl (lv_at hl 1 rfl) ?_
  rcases (show a = 20 ∨ a = 21 ∨ a = 22 ∨ (¬ a = 20 ∧ ¬ a = 21 ∧ ¬ a = 22) from by omega) with c_1 | c_1 | c_1 | c_1
  · refine kz_tabIn (tgt := 28) (off := 27) hx hb dX8_isAct_1 20 (by omega) (by decide) (by decide) (by decide) (by decide) (by decide) ?_
    refine lv_iload_n hx hb dX8_isAct_28 rfl (lv_at hl 0 rfl) ?_
    refine lv_iconst (v := zI 0) hx hb dX8_isAct_29 rfl ?_
    refine lv_bipush (v := zI 15) hx hb dX8_isAct_30 (by decide) ?_
    refine k_callR (va_runS (As := [.int (zI k), .int (zI 0), .int (zI 15)]) (rest := []) ⟨hx, hb, hml, hown, hts⟩ (c_X8_isWithin l D s.heap.size (v := k) (a := 0) (b := 15) q0 (by omega) (by omega)) (va_cwS 3 hts gX8_isAct_X8_isWithin rfl rfl rfl (by decide +kernel) ⟨Nat.le_of_ble_eq_true rfl, Nat.le_of_ble_eq_true rfl⟩) (kPreS hP (kD0 hD) hK hN [] [] ax_X8_isAct_0 rfl (by decide +kernel)) rfl rfl hl.1 rfl (lv_room (Nat.le_of_ble_eq_true rfl)) dX8_isAct_32 ⟨Nat.le_of_ble_eq_true rfl, Nat.le_of_ble_eq_true rfl⟩) ?_
    exact W.zret (v := (if 0 ≤ k ∧ k ≤ 15 then 1 else 0)) hx hb hr kzb (fun t ht hW => kRd (kbc (by constructor <;> (intro h9; omega))) ht) (fun _ h9 => by cases h9) dX8_isAct_35
  · refine kz_tabIn (tgt := 36) (off := 35) hx hb dX8_isAct_1 21 (by omega) (by decide) (by decide) (by decide) (by decide) (by decide) ?_
    refine lv_iload_n hx hb dX8_isAct_36 rfl (lv_at hl 0 rfl) ?_
    refine lv_iconst (v := zI 0) hx hb dX8_isAct_37 rfl ?_
    refine lv_bipush (v := zI 24) hx hb dX8_isAct_38 (by decide) ?_
    refine k_callR (va_runS (As := [.int (zI k), .int (zI 0), .int (zI 24)]) (rest := []) ⟨hx, hb, hml, hown, hts⟩ (c_X8_isWithin l D s.heap.size (v := k) (a := 0) (b := 24) q0 (by omega) (by omega)) (va_cwS 3 hts gX8_isAct_X8_isWithin rfl rfl rfl (by decide +kernel) ⟨Nat.le_of_ble_eq_true rfl, Nat.le_of_ble_eq_true rfl⟩) (kPreS hP (kD0 hD) hK hN [] [] ax_X8_isAct_0 rfl (by decide +kernel)) rfl rfl hl.1 rfl (lv_room (Nat.le_of_ble_eq_true rfl)) dX8_isAct_40 ⟨Nat.le_of_ble_eq_true rfl, Nat.le_of_ble_eq_true rfl⟩) ?_
    exact W.zret (v := (if 0 ≤ k ∧ k ≤ 24 then 1 else 0)) hx hb hr kzb (fun t ht hW => kRd (kbc (by constructor <;> (intro h9; omega))) ht) (fun _ h9 => by cases h9) dX8_isAct_43
  · refine kz_tabIn (tgt := 44) (off := 43) hx hb dX8_isAct_1 22 (by omega) (by decide) (by decide) (by decide) (by decide) (by decide) ?_
    refine lv_iload_n hx hb dX8_isAct_44 rfl (lv_at hl 0 rfl) ?_
    refine lv_iconst (v := zI 0) hx hb dX8_isAct_45 rfl ?_
    refine lv_iconst (v := zI 3) hx hb dX8_isAct_46 rfl ?_
    refine k_callR (va_runS (As := [.int (zI k), .int (zI 0), .int (zI 3)]) (rest := []) ⟨hx, hb, hml, hown, hts⟩ (c_X8_isWithin l D s.heap.size (v := k) (a := 0) (b := 3) q0 (by omega) (by omega)) (va_cwS 3 hts gX8_isAct_X8_isWithin rfl rfl rfl (by decide +kernel) ⟨Nat.le_of_ble_eq_true rfl, Nat.le_of_ble_eq_true rfl⟩) (kPreS hP (kD0 hD) hK hN [] [] ax_X8_isAct_0 rfl (by decide +kernel)) rfl rfl hl.1 rfl (lv_room (Nat.le_of_ble_eq_true rfl)) dX8_isAct_47 ⟨Nat.le_of_ble_eq_true rfl, Nat.le_of_ble_eq_true rfl⟩) ?_
    exact W.zret (v := (if 0 ≤ k ∧ k ≤ 3 then 1 else 0)) hx hb hr kzb (fun t ht hW => kRd (kbc (by constructor <;> (intro h9; omega))) ht) (fun _ h9 => by cases h9) dX8_isAct_50
  · refine kz_tabOut (tgt := 51) hx hb dX8_isAct_1 (by omega) (by omega) (by decide) ?_
    refine lv_iconst (v := zI 0) hx hb dX8_isAct_51 rfl ?_
    exact W.zret (v := (zI 0)) hx hb hr rfl (fun t ht hW => kRd (kb0 (by omega)) ht) (fun _ h9 => by cases h9) dX8_isAct_52
theorem dX9_isPair_0 : decode cX9_isPair 0 = .ok (.iload_n 1, 1) := kqo_1b kbl_X9_isPair (pc := 0) rfl
theorem dX9_isPair_1 : decode cX9_isPair 1 = .ok (.bipush 20, 2) := kqo_10 (x1 := 20) kbl_X9_isPair (pc := 1) rfl rfl
theorem dX9_isPair_3 : decode cX9_isPair 3 = .ok (.if_icmp .ne 13, 3) := kqo_a0 (x1 := 0) (x2 := 13) kbl_X9_isPair (pc := 3) rfl rfl
theorem dX9_isPair_6 : decode cX9_isPair 6 = .ok (.iload_n 0, 1) := kqo_1a kbl_X9_isPair (pc := 6) rfl
theorem dX9_isPair_7 : decode cX9_isPair 7 = .ok (.iconst 0, 1) := kqo_03 kbl_X9_isPair (pc := 7) rfl
theorem dX9_isPair_8 : decode cX9_isPair 8 = .ok (.bipush 15, 2) := kqo_10 (x1 := 15) kbl_X9_isPair (pc := 8) rfl rfl
theorem dX9_isPair_10 : decode cX9_isPair 10 = .ok (.invokestatic 70, 3) := kqo_b8 (x1 := 0) (x2 := 70) kbl_X9_isPair (pc := 10) rfl rfl
theorem dX9_isPair_13 : decode cX9_isPair 13 = .ok (.ifCond .ne 34, 3) := kqo_9a (x1 := 0) (x2 := 34) kbl_X9_isPair (pc := 13) rfl rfl
theorem dX9_isPair_16 : decode cX9_isPair 16 = .ok (.iload_n 1, 1) := kqo_1b kbl_X9_isPair (pc := 16) rfl
theorem dX9_isPair_17 : decode cX9_isPair 17 = .ok (.bipush 21, 2) := kqo_10 (x1 := 21) kbl_X9_isPair (pc := 17) rfl rfl
theorem dX9_isPair_19 : decode cX9_isPair 19 = .ok (.if_icmp .ne 13, 3) := kqo_a0 (x1 := 0) (x2 := 13) kbl_X9_isPair (pc := 19) rfl rfl
theorem dX9_isPair_22 : decode cX9_isPair 22 = .ok (.iload_n 0, 1) := kqo_1a kbl_X9_isPair (pc := 22) rfl
theorem dX9_isPair_23 : decode cX9_isPair 23 = .ok (.iconst 0, 1) := kqo_03 kbl_X9_isPair (pc := 23) rfl
theorem dX9_isPair_24 : decode cX9_isPair 24 = .ok (.bipush 24, 2) := kqo_10 (x1 := 24) kbl_X9_isPair (pc := 24) rfl rfl
theorem dX9_isPair_26 : decode cX9_isPair 26 = .ok (.invokestatic 70, 3) := kqo_b8 (x1 := 0) (x2 := 70) kbl_X9_isPair (pc := 26) rfl rfl
theorem dX9_isPair_29 : decode cX9_isPair 29 = .ok (.ifCond .ne 18, 3) := kqo_9a (x1 := 0) (x2 := 18) kbl_X9_isPair (pc := 29) rfl rfl
theorem dX9_isPair_32 : decode cX9_isPair 32 = .ok (.iload_n 1, 1) := kqo_1b kbl_X9_isPair (pc := 32) rfl
theorem dX9_isPair_33 : decode cX9_isPair 33 = .ok (.bipush 22, 2) := kqo_10 (x1 := 22) kbl_X9_isPair (pc := 33) rfl rfl
theorem dX9_isPair_35 : decode cX9_isPair 35 = .ok (.if_icmp .ne 16, 3) := kqo_a0 (x1 := 0) (x2 := 16) kbl_X9_isPair (pc := 35) rfl rfl
theorem dX9_isPair_38 : decode cX9_isPair 38 = .ok (.iload_n 0, 1) := kqo_1a kbl_X9_isPair (pc := 38) rfl
theorem dX9_isPair_39 : decode cX9_isPair 39 = .ok (.iconst 0, 1) := kqo_03 kbl_X9_isPair (pc := 39) rfl
theorem dX9_isPair_40 : decode cX9_isPair 40 = .ok (.iconst 3, 1) := kqo_06 kbl_X9_isPair (pc := 40) rfl
theorem dX9_isPair_41 : decode cX9_isPair 41 = .ok (.invokestatic 70, 3) := kqo_b8 (x1 := 0) (x2 := 70) kbl_X9_isPair (pc := 41) rfl rfl
theorem dX9_isPair_44 : decode cX9_isPair 44 = .ok (.ifCond .eq 7, 3) := kqo_99 (x1 := 0) (x2 := 7) kbl_X9_isPair (pc := 44) rfl rfl
theorem dX9_isPair_47 : decode cX9_isPair 47 = .ok (.iconst 1, 1) := kqo_04 kbl_X9_isPair (pc := 47) rfl
theorem dX9_isPair_48 : decode cX9_isPair 48 = .ok (.goto 4, 3) := kqo_a7 (x1 := 0) (x2 := 4) kbl_X9_isPair (pc := 48) rfl rfl
theorem dX9_isPair_51 : decode cX9_isPair 51 = .ok (.iconst 0, 1) := kqo_03 kbl_X9_isPair (pc := 51) rfl
theorem dX9_isPair_52 : decode cX9_isPair 52 = .ok (.ireturn, 1) := kqo_ac kbl_X9_isPair (pc := 52) rfl
set_option maxRecDepth 20000 in
theorem ggX9_isPair_X9_within : GoodIn wsX9_isPair wsX9_within := goodIn_4 _ (List.forall_mem_cons.mpr ⟨List.mem_cons_of_mem _ (List.mem_of_getElem? (i := 3) rfl), fun _ h9 => absurd h9 List.not_mem_nil⟩) (by decide +kernel)
set_option maxRecDepth 20000 in
theorem gX9_isPair_X9_within : GoodIn wsX9_isPair (va_wsS RX9 70 yX9_within wsX9_within) := goodIn_app (goodIn_4 _ (List.forall_mem_cons.mpr ⟨List.mem_cons_of_mem _ (List.mem_of_getElem? (i := 0) rfl), List.forall_mem_cons.mpr ⟨List.mem_cons_of_mem _ (List.mem_of_getElem? (i := 1) rfl), List.forall_mem_cons.mpr ⟨List.mem_cons_of_mem _ (List.mem_of_getElem? (i := 2) rfl), fun _ h9 => absurd h9 List.not_mem_nil⟩⟩⟩) (by decide +kernel)) ggX9_isPair_X9_within
theorem ax_X9_isPair_0 : ([] : List Nat).map (fun i => ([] : va_W)[i]?) = ([] : va_W).map some := rfl
set_option maxHeartbeats 4000000 in
set_option maxRecDepth 100000 in
theorem c_X9_isPair (l : Launch) (D : va_G) (sz : Nat) (k : Int) (a : Int) (q0 : rg k) (q1 : rg a) : Met l yX9_isPair wsX9_isPair ({ frames := 1, cells := 0, slots := 0, locals := 22 }) (kPre [.int (zI k), .int (zI a)] D [] [] sz) (QcRead (if (a = 20 ∧ 0 ≤ k ∧ k ≤ 15) ∨ (a = 21 ∧ 0 ≤ k ∧ k ≤ 24) ∨ (a = 22 ∧ 0 ≤ k ∧ k ≤ 3) then 1 else 0)) 0 0 (fun _ => False) := by
  refine Met.ofW (cc := cX9_isPair) (maxL := 2) (ret := (some .boolean)) (by decide) rfl ?_
  intro p e s m args below meth c s₁ B hml hv
  obtain ⟨rfl, hsz, hP, hK, hD0, hN⟩ := hv
  have hx := B.exec
  have hb := B.bytes
  have hr := B.returns
  have hts := atoms_spec (ws := wsX9_isPair) B.pre
  have hown : s.vm.findClass RX9 = some m.cls := findClass_of_methodNamed B.named
  have hlocks := B.notSynchronized
  subst hsz
  have hD := hD0
  have hP : va_P D vwCl [] s.heap := hP
  have hl := lv_entry ([.int (zI k), .int (zI a)]) (n := 2) (Nat.le_of_ble_eq_true rfl)
  rw [lg_entry_eq]
  generalize (lg_sl ([.int (zI k), .int (zI a)]) ++ List.replicate (2 - (lg_sl ([.int (zI k), .int (zI a)])).length) Slot.unset).toArray = ls at hl ⊢
  have hl : lv_has ls 2 [(0, .int (zI k)), (1, .int (zI a))] := hl
  refine lv_iload_n hx hb dX9_isPair_0 rfl (lv_at hl 1 rfl) ?_
  refine lv_bipush (v := zI 20) hx hb dX9_isPair_1 (by decide) ?_
  refine kz_icmp_ne (tgt := 16) hx hb dX9_isPair_3 (by decide) (by omega) (by omega) (fun c_1 => ?_) (fun c_1 => ?_)
  · refine lv_iload_n hx hb dX9_isPair_16 rfl (lv_at hl 1 rfl) ?_
    refine lv_bipush (v := zI 21) hx hb dX9_isPair_17 (by decide) ?_
    refine kz_icmp_ne (tgt := 32) hx hb dX9_isPair_19 (by decide) (by omega) (by omega) (fun c_2 => ?_) (fun c_2 => ?_)
    · refine lv_iload_n hx hb dX9_isPair_32 rfl (lv_at hl 1 rfl) ?_
      refine lv_bipush (v := zI 22) hx hb dX9_isPair_33 (by decide) ?_
      refine kz_icmp_ne (tgt := 51) hx hb dX9_isPair_35 (by decide) (by omega) (by omega) (fun c_3 => ?_) (fun c_3 => ?_)
      · refine lv_iconst (v := zI 0) hx hb dX9_isPair_51 rfl ?_
        exact W.zret (v := (zI 0)) hx hb hr rfl (fun t ht hW => kRd (kb0 (by omega)) ht) (fun _ h9 => by cases h9) dX9_isPair_52
      · refine lv_iload_n hx hb dX9_isPair_38 rfl (lv_at hl 0 rfl) ?_
        refine lv_iconst (v := zI 0) hx hb dX9_isPair_39 rfl ?_
        refine lv_iconst (v := zI 3) hx hb dX9_isPair_40 rfl ?_
        refine k_callR (va_runS (As := [.int (zI k), .int (zI 0), .int (zI 3)]) (rest := []) ⟨hx, hb, hml, hown, hts⟩ (c_X9_within l D s.heap.size (v := k) (a := 0) (b := 3) q0 (by omega) (by omega)) (va_cwS 3 hts gX9_isPair_X9_within rfl rfl rfl (by decide +kernel) ⟨Nat.le_of_ble_eq_true rfl, Nat.le_of_ble_eq_true rfl⟩) (kPreS hP (kD0 hD) hK hN [] [] ax_X9_isPair_0 rfl (by decide +kernel)) rfl rfl hl.1 rfl (lv_room (Nat.le_of_ble_eq_true rfl)) dX9_isPair_41 ⟨Nat.le_of_ble_eq_true rfl, Nat.le_of_ble_eq_true rfl⟩) ?_
        refine lv_if_eq (tgt := 51) hx hb dX9_isPair_44 (by decide) (fun c_4 => ?_) (fun c_4 => ?_)
        · have c_4 : ¬ (0 ≤ k ∧ k ≤ 3) := b01f c_4
          refine lv_iconst (v := zI 0) hx hb dX9_isPair_51 rfl ?_
          exact W.zret (v := (zI 0)) hx hb hr rfl (fun t ht hW => kRd (kb0 (by omega)) ht) (fun _ h9 => by cases h9) dX9_isPair_52
        · have c_4 : 0 ≤ k ∧ k ≤ 3 := b01t c_4
          refine lv_iconst (v := zI 1) hx hb dX9_isPair_47 rfl ?_
          refine lv_goto (tgt := 52) hx hb dX9_isPair_48 (by decide) ?_
          exact W.zret (v := (zI 1)) hx hb hr rfl (fun t ht hW => kRd (kb1 (by omega)) ht) (fun _ h9 => by cases h9) dX9_isPair_52
    · refine lv_iload_n hx hb dX9_isPair_22 rfl (lv_at hl 0 rfl) ?_
      refine lv_iconst (v := zI 0) hx hb dX9_isPair_23 rfl ?_
      refine lv_bipush (v := zI 24) hx hb dX9_isPair_24 (by decide) ?_
      refine k_callR (va_runS (As := [.int (zI k), .int (zI 0), .int (zI 24)]) (rest := []) ⟨hx, hb, hml, hown, hts⟩ (c_X9_within l D s.heap.size (v := k) (a := 0) (b := 24) q0 (by omega) (by omega)) (va_cwS 3 hts gX9_isPair_X9_within rfl rfl rfl (by decide +kernel) ⟨Nat.le_of_ble_eq_true rfl, Nat.le_of_ble_eq_true rfl⟩) (kPreS hP (kD0 hD) hK hN [] [] ax_X9_isPair_0 rfl (by decide +kernel)) rfl rfl hl.1 rfl (lv_room (Nat.le_of_ble_eq_true rfl)) dX9_isPair_26 ⟨Nat.le_of_ble_eq_true rfl, Nat.le_of_ble_eq_true rfl⟩) ?_
      refine lv_if_ne (tgt := 47) hx hb dX9_isPair_29 (by decide) (fun c_5 => ?_) (fun c_5 => ?_)
      · have c_5 : 0 ≤ k ∧ k ≤ 24 := b01t c_5
        refine lv_iconst (v := zI 1) hx hb dX9_isPair_47 rfl ?_
        refine lv_goto (tgt := 52) hx hb dX9_isPair_48 (by decide) ?_
        exact W.zret (v := (zI 1)) hx hb hr rfl (fun t ht hW => kRd (kb1 (by omega)) ht) (fun _ h9 => by cases h9) dX9_isPair_52
      · have c_5 : ¬ (0 ≤ k ∧ k ≤ 24) := b01f c_5
        refine lv_iload_n hx hb dX9_isPair_32 rfl (lv_at hl 1 rfl) ?_
        refine lv_bipush (v := zI 22) hx hb dX9_isPair_33 (by decide) ?_
        refine kz_icmp_ne (tgt := 51) hx hb dX9_isPair_35 (by decide) (by omega) (by omega) (fun c_6 => ?_) (fun c_6 => ?_)
        · refine lv_iconst (v := zI 0) hx hb dX9_isPair_51 rfl ?_
          exact W.zret (v := (zI 0)) hx hb hr rfl (fun t ht hW => kRd (kb0 (by omega)) ht) (fun _ h9 => by cases h9) dX9_isPair_52
        · refine lv_iload_n hx hb dX9_isPair_38 rfl (lv_at hl 0 rfl) ?_
          refine lv_iconst (v := zI 0) hx hb dX9_isPair_39 rfl ?_
          refine lv_iconst (v := zI 3) hx hb dX9_isPair_40 rfl ?_
          refine k_callR (va_runS (As := [.int (zI k), .int (zI 0), .int (zI 3)]) (rest := []) ⟨hx, hb, hml, hown, hts⟩ (c_X9_within l D s.heap.size (v := k) (a := 0) (b := 3) q0 (by omega) (by omega)) (va_cwS 3 hts gX9_isPair_X9_within rfl rfl rfl (by decide +kernel) ⟨Nat.le_of_ble_eq_true rfl, Nat.le_of_ble_eq_true rfl⟩) (kPreS hP (kD0 hD) hK hN [] [] ax_X9_isPair_0 rfl (by decide +kernel)) rfl rfl hl.1 rfl (lv_room (Nat.le_of_ble_eq_true rfl)) dX9_isPair_41 ⟨Nat.le_of_ble_eq_true rfl, Nat.le_of_ble_eq_true rfl⟩) ?_
          refine lv_if_eq (tgt := 51) hx hb dX9_isPair_44 (by decide) (fun c_7 => ?_) (fun c_7 => ?_)
          · have c_7 : ¬ (0 ≤ k ∧ k ≤ 3) := b01f c_7
            refine lv_iconst (v := zI 0) hx hb dX9_isPair_51 rfl ?_
            exact W.zret (v := (zI 0)) hx hb hr rfl (fun t ht hW => kRd (kb0 (by omega)) ht) (fun _ h9 => by cases h9) dX9_isPair_52
          · have c_7 : 0 ≤ k ∧ k ≤ 3 := b01t c_7
            refine lv_iconst (v := zI 1) hx hb dX9_isPair_47 rfl ?_
            refine lv_goto (tgt := 52) hx hb dX9_isPair_48 (by decide) ?_
            exact W.zret (v := (zI 1)) hx hb hr rfl (fun t ht hW => kRd (kb1 (by omega)) ht) (fun _ h9 => by cases h9) dX9_isPair_52
  · refine lv_iload_n hx hb dX9_isPair_6 rfl (lv_at hl 0 rfl) ?_
    refine lv_iconst (v := zI 0) hx hb dX9_isPair_7 rfl ?_
    refine lv_bipush (v := zI 15) hx hb dX9_isPair_8 (by decide) ?_
    refine k_callR (va_runS (As := [.int (zI k), .int (zI 0), .int (zI 15)]) (rest := []) ⟨hx, hb, hml, hown, hts⟩ (c_X9_within l D s.heap.size (v := k) (a := 0) (b := 15) q0 (by omega) (by omega)) (va_cwS 3 hts gX9_isPair_X9_within rfl rfl rfl (by decide +kernel) ⟨Nat.le_of_ble_eq_true rfl, Nat.le_of_ble_eq_true rfl⟩) (kPreS hP (kD0 hD) hK hN [] [] ax_X9_isPair_0 rfl (by decide +kernel)) rfl rfl hl.1 rfl (lv_room (Nat.le_of_ble_eq_true rfl)) dX9_isPair_10 ⟨Nat.le_of_ble_eq_true rfl, Nat.le_of_ble_eq_true rfl⟩) ?_
    refine lv_if_ne (tgt := 47) hx hb dX9_isPair_13 (by decide) (fun c_8 => ?_) (fun c_8 => ?_)
    · have c_8 : 0 ≤ k ∧ k ≤ 15 := b01t c_8
      refine lv_iconst (v := zI 1) hx hb dX9_isPair_47 rfl ?_
      refine lv_goto (tgt := 52) hx hb dX9_isPair_48 (by decide) ?_
      exact W.zret (v := (zI 1)) hx hb hr rfl (fun t ht hW => kRd (kb1 (by omega)) ht) (fun _ h9 => by cases h9) dX9_isPair_52
    · have c_8 : ¬ (0 ≤ k ∧ k ≤ 15) := b01f c_8
      refine lv_iload_n hx hb dX9_isPair_16 rfl (lv_at hl 1 rfl) ?_
      refine lv_bipush (v := zI 21) hx hb dX9_isPair_17 (by decide) ?_
      refine kz_icmp_ne (tgt := 32) hx hb dX9_isPair_19 (by decide) (by omega) (by omega) (fun c_9 => ?_) (fun c_9 => ?_)
      · refine lv_iload_n hx hb dX9_isPair_32 rfl (lv_at hl 1 rfl) ?_
        refine lv_bipush (v := zI 22) hx hb dX9_isPair_33 (by decide) ?_
        refine kz_icmp_ne (tgt := 51) hx hb dX9_isPair_35 (by decide) (by omega) (by omega) (fun c_10 => ?_) (fun c_10 => ?_)
        · refine lv_iconst (v := zI 0) hx hb dX9_isPair_51 rfl ?_
          exact W.zret (v := (zI 0)) hx hb hr rfl (fun t ht hW => kRd (kb0 (by omega)) ht) (fun _ h9 => by cases h9) dX9_isPair_52
        · refine lv_iload_n hx hb dX9_isPair_38 rfl (lv_at hl 0 rfl) ?_
          refine lv_iconst (v := zI 0) hx hb dX9_isPair_39 rfl ?_
          refine lv_iconst (v := zI 3) hx hb dX9_isPair_40 rfl ?_
          refine k_callR (va_runS (As := [.int (zI k), .int (zI 0), .int (zI 3)]) (rest := []) ⟨hx, hb, hml, hown, hts⟩ (c_X9_within l D s.heap.size (v := k) (a := 0) (b := 3) q0 (by omega) (by omega)) (va_cwS 3 hts gX9_isPair_X9_within rfl rfl rfl (by decide +kernel) ⟨Nat.le_of_ble_eq_true rfl, Nat.le_of_ble_eq_true rfl⟩) (kPreS hP (kD0 hD) hK hN [] [] ax_X9_isPair_0 rfl (by decide +kernel)) rfl rfl hl.1 rfl (lv_room (Nat.le_of_ble_eq_true rfl)) dX9_isPair_41 ⟨Nat.le_of_ble_eq_true rfl, Nat.le_of_ble_eq_true rfl⟩) ?_
          refine lv_if_eq (tgt := 51) hx hb dX9_isPair_44 (by decide) (fun c_11 => ?_) (fun c_11 => ?_)
          · have c_11 : ¬ (0 ≤ k ∧ k ≤ 3) := b01f c_11
            refine lv_iconst (v := zI 0) hx hb dX9_isPair_51 rfl ?_
            exact W.zret (v := (zI 0)) hx hb hr rfl (fun t ht hW => kRd (kb0 (by omega)) ht) (fun _ h9 => by cases h9) dX9_isPair_52
          · have c_11 : 0 ≤ k ∧ k ≤ 3 := b01t c_11
            refine lv_iconst (v := zI 1) hx hb dX9_isPair_47 rfl ?_
            refine lv_goto (tgt := 52) hx hb dX9_isPair_48 (by decide) ?_
            exact W.zret (v := (zI 1)) hx hb hr rfl (fun t ht hW => kRd (kb1 (by omega)) ht) (fun _ h9 => by cases h9) dX9_isPair_52
      · refine lv_iload_n hx hb dX9_isPair_22 rfl (lv_at hl 0 rfl) ?_
        refine lv_iconst (v := zI 0) hx hb dX9_isPair_23 rfl ?_
        refine lv_bipush (v := zI 24) hx hb dX9_isPair_24 (by decide) ?_
        refine k_callR (va_runS (As := [.int (zI k), .int (zI 0), .int (zI 24)]) (rest := []) ⟨hx, hb, hml, hown, hts⟩ (c_X9_within l D s.heap.size (v := k) (a := 0) (b := 24) q0 (by omega) (by omega)) (va_cwS 3 hts gX9_isPair_X9_within rfl rfl rfl (by decide +kernel) ⟨Nat.le_of_ble_eq_true rfl, Nat.le_of_ble_eq_true rfl⟩) (kPreS hP (kD0 hD) hK hN [] [] ax_X9_isPair_0 rfl (by decide +kernel)) rfl rfl hl.1 rfl (lv_room (Nat.le_of_ble_eq_true rfl)) dX9_isPair_26 ⟨Nat.le_of_ble_eq_true rfl, Nat.le_of_ble_eq_true rfl⟩) ?_
        refine lv_if_ne (tgt := 47) hx hb dX9_isPair_29 (by decide) (fun c_12 => ?_) (fun c_12 => ?_)
        · have c_12 : 0 ≤ k ∧ k ≤ 24 := b01t c_12
          refine lv_iconst (v := zI 1) hx hb dX9_isPair_47 rfl ?_
          refine lv_goto (tgt := 52) hx hb dX9_isPair_48 (by decide) ?_
          exact W.zret (v := (zI 1)) hx hb hr rfl (fun t ht hW => kRd (kb1 (by omega)) ht) (fun _ h9 => by cases h9) dX9_isPair_52
        · have c_12 : ¬ (0 ≤ k ∧ k ≤ 24) := b01f c_12
          refine lv_iload_n hx hb dX9_isPair_32 rfl (lv_at hl 1 rfl) ?_
          refine lv_bipush (v := zI 22) hx hb dX9_isPair_33 (by decide) ?_
          refine kz_icmp_ne (tgt := 51) hx hb dX9_isPair_35 (by decide) (by omega) (by omega) (fun c_13 => ?_) (fun c_13 => ?_)
          · refine lv_iconst (v := zI 0) hx hb dX9_isPair_51 rfl ?_
            exact W.zret (v := (zI 0)) hx hb hr rfl (fun t ht hW => kRd (kb0 (by omega)) ht) (fun _ h9 => by cases h9) dX9_isPair_52
          · refine lv_iload_n hx hb dX9_isPair_38 rfl (lv_at hl 0 rfl) ?_
            refine lv_iconst (v := zI 0) hx hb dX9_isPair_39 rfl ?_
            refine lv_iconst (v := zI 3) hx hb dX9_isPair_40 rfl ?_
            refine k_callR (va_runS (As := [.int (zI k), .int (zI 0), .int (zI 3)]) (rest := []) ⟨hx, hb, hml, hown, hts⟩ (c_X9_within l D s.heap.size (v := k) (a := 0) (b := 3) q0 (by omega) (by omega)) (va_cwS 3 hts gX9_isPair_X9_within rfl rfl rfl (by decide +kernel) ⟨Nat.le_of_ble_eq_true rfl, Nat.le_of_ble_eq_true rfl⟩) (kPreS hP (kD0 hD) hK hN [] [] ax_X9_isPair_0 rfl (by decide +kernel)) rfl rfl hl.1 rfl (lv_room (Nat.le_of_ble_eq_true rfl)) dX9_isPair_41 ⟨Nat.le_of_ble_eq_true rfl, Nat.le_of_ble_eq_true rfl⟩) ?_
            refine lv_if_eq (tgt := 51) hx hb dX9_isPair_44 (by decide) (fun c_14 => ?_) (fun c_14 => ?_)
            · have c_14 : ¬ (0 ≤ k ∧ k ≤ 3) := b01f c_14
              refine lv_iconst (v := zI 0) hx hb dX9_isPair_51 rfl ?_
              exact W.zret (v := (zI 0)) hx hb hr rfl (fun t ht hW => kRd (kb0 (by omega)) ht) (fun _ h9 => by cases h9) dX9_isPair_52
            · have c_14 : 0 ≤ k ∧ k ≤ 3 := b01t c_14
              refine lv_iconst (v := zI 1) hx hb dX9_isPair_47 rfl ?_
              refine lv_goto (tgt := 52) hx hb dX9_isPair_48 (by decide) ?_
              exact W.zret (v := (zI 1)) hx hb hr rfl (fun t ht hW => kRd (kb1 (by omega)) ht) (fun _ h9 => by cases h9) dX9_isPair_52
/-! rows of FONTS: each of the first four is one -/
def kPr (f : Nat → Int32) : Prop := ∀ i : Nat, i < 4 → 0 ≤ (f i).toInt ∧ (f i).toInt ≤ 3
theorem kPr_at {f : Nat → Int32} (h : kPr f) {i : Nat} {z : Int} (hi : i < 4) (hz : rg z) (e : f i = zI z) : 0 ≤ z ∧ z ≤ 3 := by
  have := h i hi
  rw [e, zI_toInt hz] at this
  exact this
theorem kPr_upd {f : Nat → Int32} (h : kPr f) {k : Nat} {v : Int} (hk : k < 4) (hv : 0 ≤ v ∧ v ≤ 3) : kPr (upd f k (zI v)) := by
  intro i hi
  by_cases e : i = k
  · subst e
    rw [pk_us, zI_toInt (by omega)]
    exact hv
  · rw [pk_un e]
    exact h i hi
def kStep (k b : Int) : Int := if k = 2 then 2 * b else if k = 1 then b + 1 else b
theorem dX8_stepOf_0 : decode cX8_stepOf 0 = .ok (.iload_n 0, 1) := kqo_1a kbl_X8_stepOf (pc := 0) rfl
theorem dX8_stepOf_1 : decode cX8_stepOf 1 = .ok (.lookupswitch 35 #[(1, 31), (2, 27)], 27) := by decide +kernel
theorem dX8_stepOf_28 : decode cX8_stepOf 28 = .ok (.iconst 2, 1) := kqo_05 kbl_X8_stepOf (pc := 28) rfl
theorem dX8_stepOf_29 : decode cX8_stepOf 29 = .ok (.iload_n 1, 1) := kqo_1b kbl_X8_stepOf (pc := 29) rfl
theorem dX8_stepOf_30 : decode cX8_stepOf 30 = .ok (.imul, 1) := kqo_68 kbl_X8_stepOf (pc := 30) rfl
theorem dX8_stepOf_31 : decode cX8_stepOf 31 = .ok (.ireturn, 1) := kqo_ac kbl_X8_stepOf (pc := 31) rfl
theorem dX8_stepOf_32 : decode cX8_stepOf 32 = .ok (.iload_n 1, 1) := kqo_1b kbl_X8_stepOf (pc := 32) rfl
theorem dX8_stepOf_33 : decode cX8_stepOf 33 = .ok (.iconst 1, 1) := kqo_04 kbl_X8_stepOf (pc := 33) rfl
theorem dX8_stepOf_34 : decode cX8_stepOf 34 = .ok (.iadd, 1) := kqo_60 kbl_X8_stepOf (pc := 34) rfl
theorem dX8_stepOf_35 : decode cX8_stepOf 35 = .ok (.ireturn, 1) := kqo_ac kbl_X8_stepOf (pc := 35) rfl
theorem dX8_stepOf_36 : decode cX8_stepOf 36 = .ok (.iload_n 1, 1) := kqo_1b kbl_X8_stepOf (pc := 36) rfl
theorem dX8_stepOf_37 : decode cX8_stepOf 37 = .ok (.ireturn, 1) := kqo_ac kbl_X8_stepOf (pc := 37) rfl
set_option maxHeartbeats 4000000 in
set_option maxRecDepth 100000 in
theorem c_X8_stepOf (l : Launch) (D : va_G) (sz : Nat) (k : Int) (b : Int) (q0 : rg k) (q1 : rg b) : Met l yX8_stepOf wsX8_stepOf ({ frames := 0, cells := 0, slots := 0, locals := 0 }) (kPre [.int (zI k), .int (zI b)] D [] [] sz) (QcP (fun rz => True)) 0 0 (fun _ => False) := by
  refine Met.ofW (cc := cX8_stepOf) (maxL := 2) (ret := (some .int)) (by decide) rfl ?_
  intro p e s m args below meth c s₁ B hml hv
  obtain ⟨rfl, hsz, hP, hK, hD0, hN⟩ := hv
  have hx := B.exec
  have hb := B.bytes
  have hr := B.returns
  have hts := atoms_spec (ws := wsX8_stepOf) B.pre
  have hown : s.vm.findClass RX8 = some m.cls := findClass_of_methodNamed B.named
  have hlocks := B.notSynchronized
  subst hsz
  have hD := hD0
  have hP : va_P D vwCl [] s.heap := hP
  have hl := lv_entry ([.int (zI k), .int (zI b)]) (n := 2) (Nat.le_of_ble_eq_true rfl)
  rw [lg_entry_eq]
  generalize (lg_sl ([.int (zI k), .int (zI b)]) ++ List.replicate (2 - (lg_sl ([.int (zI k), .int (zI b)])).length) Slot.unset).toArray = ls at hl ⊢
  have hl : lv_has ls 2 [(0, .int (zI k)), (1, .int (zI b))] := hl
  refine lv_iload_n hx hb dX8_stepOf_0 rfl (lv_at hl 0 rfl) ?_
  rcases (show k = 1 ∨ k = 2 ∨ (¬ k = 1 ∧ ¬ k = 2) from by omega) with c_1 | c_1 | c_1
  · refine kz_look (tgt := 32) (off := 31) hx hb dX8_stepOf_1 (by decide) (by omega) (by show Op.lookupswitch.offset [(1, 31), (2, 27)] 35 k = 31; rw [Op.lookupswitch.offset_cons, Op.lookupswitch.offset_cons, Op.lookupswitch.offset_nil]; (repeat' split) <;> omega) (by decide) ?_
    refine lv_iload_n hx hb dX8_stepOf_32 rfl (lv_at hl 1 rfl) ?_
    refine lv_iconst (v := zI 1) hx hb dX8_stepOf_33 rfl ?_
    refine kz_iadd hx hb dX8_stepOf_34 ?_
    refine kz_any (fun z_2 rz_2 ez_2 => ?_)
    exact W.iret (v := (zI z_2)) hx hb hr (fun t ht hW => QcP_of (by omega) trivial ht) (fun _ h9 => by cases h9) dX8_stepOf_35
  · refine kz_look (tgt := 28) (off := 27) hx hb dX8_stepOf_1 (by decide) (by omega) (by show Op.lookupswitch.offset [(1, 31), (2, 27)] 35 k = 27; rw [Op.lookupswitch.offset_cons, Op.lookupswitch.offset_cons, Op.lookupswitch.offset_nil]; (repeat' split) <;> omega) (by decide) ?_
    refine lv_iconst (v := zI 2) hx hb dX8_stepOf_28 rfl ?_
    refine lv_iload_n hx hb dX8_stepOf_29 rfl (lv_at hl 1 rfl) ?_
    refine kz_imul hx hb dX8_stepOf_30 ?_
    refine kz_any (fun z_3 rz_3 ez_3 => ?_)
    exact W.iret (v := (zI z_3)) hx hb hr (fun t ht hW => QcP_of (by omega) trivial ht) (fun _ h9 => by cases h9) dX8_stepOf_31
  · refine kz_look (tgt := 36) (off := 35) hx hb dX8_stepOf_1 (by decide) (by omega) (by show Op.lookupswitch.offset [(1, 31), (2, 27)] 35 k = 35; rw [Op.lookupswitch.offset_cons, Op.lookupswitch.offset_cons, Op.lookupswitch.offset_nil]; (repeat' split) <;> omega) (by decide) ?_
    refine lv_iload_n hx hb dX8_stepOf_36 rfl (lv_at hl 1 rfl) ?_
    refine kz_any (fun z_4 rz_4 ez_4 => ?_)
    exact W.iret (v := (zI z_4)) hx hb hr (fun t ht hW => QcP_of (by omega) trivial ht) (fun _ h9 => by cases h9) dX8_stepOf_37
theorem dX0_isFont_0 : decode cX0_isFont 0 = .ok (.iload_n 1, 1) := kqo_1b kbl_X0_isFont (pc := 0) rfl
theorem dX0_isFont_1 : decode cX0_isFont 1 = .ok (.iconst 0, 1) := kqo_03 kbl_X0_isFont (pc := 1) rfl
theorem dX0_isFont_2 : decode cX0_isFont 2 = .ok (.aload_n 0, 1) := kqo_2a kbl_X0_isFont (pc := 2) rfl
theorem dX0_isFont_3 : decode cX0_isFont 3 = .ok (.getfield 21, 3) := kqo_b4 (x1 := 0) (x2 := 21) kbl_X0_isFont (pc := 3) rfl rfl
theorem dX0_isFont_6 : decode cX0_isFont 6 = .ok (.iconst 1, 1) := kqo_04 kbl_X0_isFont (pc := 6) rfl
theorem dX0_isFont_7 : decode cX0_isFont 7 = .ok (.isub, 1) := kqo_64 kbl_X0_isFont (pc := 7) rfl
theorem dX0_isFont_8 : decode cX0_isFont 8 = .ok (.invokestatic 25, 3) := kqo_b8 (x1 := 0) (x2 := 25) kbl_X0_isFont (pc := 8) rfl rfl
theorem dX0_isFont_11 : decode cX0_isFont 11 = .ok (.ireturn, 1) := kqo_ac kbl_X0_isFont (pc := 11) rfl
set_option maxRecDepth 20000 in
theorem ggX0_isFont_X8_isWithin : GoodIn wsX0_isFont wsX8_isWithin := goodIn_4 _ (List.forall_mem_cons.mpr ⟨List.mem_cons_of_mem _ (List.mem_append_left _ (List.mem_of_getElem? (i := 3) rfl)), fun _ h9 => absurd h9 List.not_mem_nil⟩) (by decide +kernel)
set_option maxRecDepth 20000 in
theorem gX0_isFont_X8_isWithin_n25 : GoodIn wsX0_isFont (wsX8_isWithin) := ggX0_isFont_X8_isWithin
set_option maxRecDepth 20000 in
theorem mw_X0_isFont_0 : (.fieldLink RX0 21 "FontRuns$FontRow" "count" "I" : Cond) ∈ wsX0_isFont := List.mem_cons_of_mem _ (List.mem_append_left _ (List.mem_of_getElem? (i := 0) rfl))
set_option maxRecDepth 20000 in
theorem mw_X0_isFont_1 : (.initialized RX8 : Cond) ∈ wsX0_isFont := List.mem_cons_of_mem _ (List.mem_append_left _ (List.mem_of_getElem? (i := 2) rfl))
set_option maxRecDepth 20000 in
theorem mw_X0_isFont_2 : (.static yX8_isWithin : Cond) ∈ wsX0_isFont := List.mem_cons_of_mem _ (List.mem_append_left _ (List.mem_of_getElem? (i := 1) rfl))
theorem ax_X0_isFont_0 {e0 : Nat × va_E} : ([] : List Nat).map (fun i => ([e0] : va_W)[i]?) = ([] : va_W).map some := rfl
set_option maxHeartbeats 4000000 in
set_option maxRecDepth 100000 in
theorem c_X0_isFont (l : Launch) (D : va_G) (sz : Nat) (f : Int) (h0 : Nat) (k1 : Nat) (k2 : Nat) (k3 : Nat) (n : Int) (q0 : rg f) (q1 : 0 ≤ n ∧ n ≤ 4) : Met l yX0_isFont wsX0_isFont ({ frames := 1, cells := 0, slots := 0, locals := 22 }) (kPre [.ref h0, .int (zI f)] D [(h0, .inr (0, [.ref k1, .ref k2, .ref k3, .int (zI n)]))] [] sz) (QcRead (if 0 ≤ f ∧ f ≤ n - 1 then 1 else 0)) 0 0 (fun _ => False) := by
  refine Met.ofW (cc := cX0_isFont) (maxL := 2) (ret := (some .boolean)) (by decide) rfl ?_
  intro p e s m args below meth c s₁ B hml hv
  obtain ⟨rfl, hsz, hP, hK, hD0, hN⟩ := hv
  have hx := B.exec
  have hb := B.bytes
  have hr := B.returns
  have hts := atoms_spec (ws := wsX0_isFont) B.pre
  have hown : s.vm.findClass RX0 = some m.cls := findClass_of_methodNamed B.named
  have hlocks := B.notSynchronized
  subst hsz
  have hD := hD0
  have hP : va_P D vwCl [(h0, .inr (0, [.ref k1, .ref k2, .ref k3, .int (zI n)]))] s.heap := hP
  have hl := lv_entry ([.ref h0, .int (zI f)]) (n := 2) (Nat.le_of_ble_eq_true rfl)
  rw [lg_entry_eq]
  generalize (lg_sl ([.ref h0, .int (zI f)]) ++ List.replicate (2 - (lg_sl ([.ref h0, .int (zI f)])).length) Slot.unset).toArray = ls at hl ⊢
  have hl : lv_has ls 2 [(0, .ref h0), (1, .int (zI f))] := hl
  refine lv_iload_n hx hb dX0_isFont_0 rfl (lv_at hl 1 rfl) ?_
  refine lv_iconst (v := zI 0) hx hb dX0_isFont_1 rfl ?_
  refine lv_aload_n hx hb dX0_isFont_2 rfl (lv_at hl 0 rfl) ?_
  refine va_get (D := D) (ci := 0) (v := .int (zI n)) (C := RX0) (T := TX0) (N := 4) hx hb hts (fun _ h9 => List.mem_cons_of_mem _ (List.mem_append_right _ h9)) hown hK hP 0 rfl rfl 3 (by decide) (hts (.fieldLink RX0 21 "FontRuns$FontRow" "count" "I") mw_X0_isFont_0) (fun _ h9 => h9) rfl dX0_isFont_3 ?_
  refine lv_iconst (v := zI 1) hx hb dX0_isFont_6 rfl ?_
  refine kz_isub hx hb dX0_isFont_7 ?_
  refine k_callR (va_runSN (As := [.int (zI f), .int (zI 0), .int (zI (n - 1))]) (rest := []) ⟨hx, hb, hml, hown, hts⟩ (c_X8_isWithin l D s.heap.size (v := f) (a := 0) (b := (n - 1)) q0 (by omega) (by omega)) (⟨va_cnB 3 hts gX0_isFont_X8_isWithin_n25 rfl rfl rfl (hN.1 (RX0, 25, yX8_isWithin) (by decide +kernel)) (hts (.initialized RX8) mw_X0_isFont_1) (by decide +kernel) ⟨Nat.le_of_ble_eq_true rfl, Nat.le_of_ble_eq_true rfl⟩, (hts (.static yX8_isWithin) mw_X0_isFont_2), trivial⟩) (kPreS hP (kD0 hD) hK hN [] [] ax_X0_isFont_0 rfl (by decide +kernel)) rfl rfl hl.1 rfl (lv_room (Nat.le_of_ble_eq_true rfl)) dX0_isFont_8 ⟨Nat.le_of_ble_eq_true rfl, Nat.le_of_ble_eq_true rfl⟩) ?_
  exact W.zret (v := (if 0 ≤ f ∧ f ≤ (n - 1) then 1 else 0)) hx hb hr kzb (fun t ht hW => kRd (kbc (by constructor <;> (intro h9; omega))) ht) (fun _ h9 => by cases h9) dX0_isFont_11
theorem dX0_all_0 : decode cX0_all 0 = .ok (.iconst 1, 1) := kqo_04 kbl_X0_all (pc := 0) rfl
theorem dX0_all_1 : decode cX0_all 1 = .ok (.aload_n 0, 1) := kqo_2a kbl_X0_all (pc := 1) rfl
theorem dX0_all_2 : decode cX0_all 2 = .ok (.getfield 21, 3) := kqo_b4 (x1 := 0) (x2 := 21) kbl_X0_all (pc := 2) rfl rfl
theorem dX0_all_5 : decode cX0_all 5 = .ok (.ishl, 1) := kqo_78 kbl_X0_all (pc := 5) rfl
theorem dX0_all_6 : decode cX0_all 6 = .ok (.iconst 1, 1) := kqo_04 kbl_X0_all (pc := 6) rfl
theorem dX0_all_7 : decode cX0_all 7 = .ok (.isub, 1) := kqo_64 kbl_X0_all (pc := 7) rfl
theorem dX0_all_8 : decode cX0_all 8 = .ok (.ireturn, 1) := kqo_ac kbl_X0_all (pc := 8) rfl
set_option maxRecDepth 20000 in
theorem mw_X0_all_0 : (.fieldLink RX0 21 "FontRuns$FontRow" "count" "I" : Cond) ∈ wsX0_all := List.mem_cons_of_mem _ (List.mem_append_left _ (List.mem_of_getElem? (i := 0) rfl))
set_option maxHeartbeats 4000000 in
set_option maxRecDepth 100000 in
theorem c_X0_all (l : Launch) (D : va_G) (sz : Nat) (h0 : Nat) (k1 : Nat) (k2 : Nat) (k3 : Nat) (n : Int) (q0 : 0 ≤ n ∧ n ≤ 4) : Met l yX0_all wsX0_all ({ frames := 0, cells := 0, slots := 0, locals := 0 }) (kPre [.ref h0] D [(h0, .inr (0, [.ref k1, .ref k2, .ref k3, .int (zI n)]))] [] sz) (QcP (fun rz => True)) 0 0 (fun _ => False) := by
  refine Met.ofW (cc := cX0_all) (maxL := 1) (ret := (some .int)) (by decide) rfl ?_
  intro p e s m args below meth c s₁ B hml hv
  obtain ⟨rfl, hsz, hP, hK, hD0, hN⟩ := hv
  have hx := B.exec
  have hb := B.bytes
  have hr := B.returns
  have hts := atoms_spec (ws := wsX0_all) B.pre
  have hown : s.vm.findClass RX0 = some m.cls := findClass_of_methodNamed B.named
  have hlocks := B.notSynchronized
  subst hsz
  have hD := hD0
  have hP : va_P D vwCl [(h0, .inr (0, [.ref k1, .ref k2, .ref k3, .int (zI n)]))] s.heap := hP
  have hl := lv_entry ([.ref h0]) (n := 1) (Nat.le_of_ble_eq_true rfl)
  rw [lg_entry_eq]
  generalize (lg_sl ([.ref h0]) ++ List.replicate (1 - (lg_sl ([.ref h0])).length) Slot.unset).toArray = ls at hl ⊢
  have hl : lv_has ls 1 [(0, .ref h0)] := hl
  refine lv_iconst (v := zI 1) hx hb dX0_all_0 rfl ?_
  refine lv_aload_n hx hb dX0_all_1 rfl (lv_at hl 0 rfl) ?_
  refine va_get (D := D) (ci := 0) (v := .int (zI n)) (C := RX0) (T := TX0) (N := 4) hx hb hts (fun _ h9 => List.mem_cons_of_mem _ (List.mem_append_right _ h9)) hown hK hP 0 rfl rfl 3 (by decide) (hts (.fieldLink RX0 21 "FontRuns$FontRow" "count" "I") mw_X0_all_0) (fun _ h9 => h9) rfl dX0_all_2 ?_
  refine lv_ishl hx hb dX0_all_5 ?_
  refine kz_any (fun z_1 rz_1 ez_1 => ?_)
  refine lv_iconst (v := zI 1) hx hb dX0_all_6 rfl ?_
  refine kz_isub hx hb dX0_all_7 ?_
  refine kz_any (fun z_2 rz_2 ez_2 => ?_)
  exact W.iret (v := (zI z_2)) hx hb hr (fun t ht hW => QcP_of (by omega) trivial ht) (fun _ h9 => by cases h9) dX0_all_8
theorem dX0_step_0 : decode cX0_step 0 = .ok (.aload_n 0, 1) := kqo_2a kbl_X0_step (pc := 0) rfl
theorem dX0_step_1 : decode cX0_step 1 = .ok (.iload_n 1, 1) := kqo_1b kbl_X0_step (pc := 1) rfl
theorem dX0_step_2 : decode cX0_step 2 = .ok (.invokevirtual 29, 3) := kqo_b6 (x1 := 0) (x2 := 29) kbl_X0_step (pc := 2) rfl rfl
theorem dX0_step_5 : decode cX0_step 5 = .ok (.ifCond .eq 21, 3) := kqo_99 (x1 := 0) (x2 := 21) kbl_X0_step (pc := 5) rfl rfl
theorem dX0_step_8 : decode cX0_step 8 = .ok (.aload_n 0, 1) := kqo_2a kbl_X0_step (pc := 8) rfl
theorem dX0_step_9 : decode cX0_step 9 = .ok (.getfield 9, 3) := kqo_b4 (x1 := 0) (x2 := 9) kbl_X0_step (pc := 9) rfl rfl
theorem dX0_step_12 : decode cX0_step 12 = .ok (.iload_n 1, 1) := kqo_1b kbl_X0_step (pc := 12) rfl
theorem dX0_step_13 : decode cX0_step 13 = .ok (.iaload, 1) := kqo_2e kbl_X0_step (pc := 13) rfl
theorem dX0_step_14 : decode cX0_step 14 = .ok (.aload_n 0, 1) := kqo_2a kbl_X0_step (pc := 14) rfl
theorem dX0_step_15 : decode cX0_step 15 = .ok (.getfield 15, 3) := kqo_b4 (x1 := 0) (x2 := 15) kbl_X0_step (pc := 15) rfl rfl
theorem dX0_step_18 : decode cX0_step 18 = .ok (.iload_n 1, 1) := kqo_1b kbl_X0_step (pc := 18) rfl
theorem dX0_step_19 : decode cX0_step 19 = .ok (.iaload, 1) := kqo_2e kbl_X0_step (pc := 19) rfl
theorem dX0_step_20 : decode cX0_step 20 = .ok (.invokestatic 33, 3) := kqo_b8 (x1 := 0) (x2 := 33) kbl_X0_step (pc := 20) rfl rfl
theorem dX0_step_23 : decode cX0_step 23 = .ok (.goto 4, 3) := kqo_a7 (x1 := 0) (x2 := 4) kbl_X0_step (pc := 23) rfl rfl
theorem dX0_step_26 : decode cX0_step 26 = .ok (.iconst 0, 1) := kqo_03 kbl_X0_step (pc := 26) rfl
theorem dX0_step_27 : decode cX0_step 27 = .ok (.ireturn, 1) := kqo_ac kbl_X0_step (pc := 27) rfl
set_option maxRecDepth 20000 in
theorem ggX0_step_X0_isFont : GoodIn wsX0_step wsX0_isFont := goodIn_4 _ (List.forall_mem_cons.mpr ⟨List.mem_cons_of_mem _ (List.mem_append_left _ (List.mem_of_getElem? (i := 6) rfl)), List.forall_mem_append.mpr ⟨List.forall_mem_cons.mpr ⟨List.mem_cons_of_mem _ (List.mem_append_left _ (List.mem_of_getElem? (i := 7) rfl)), List.forall_mem_cons.mpr ⟨List.mem_cons_of_mem _ (List.mem_append_left _ (List.mem_of_getElem? (i := 8) rfl)), List.forall_mem_cons.mpr ⟨List.mem_cons_of_mem _ (List.mem_append_left _ (List.mem_of_getElem? (i := 9) rfl)), List.forall_mem_cons.mpr ⟨List.mem_cons_of_mem _ (List.mem_append_left _ (List.mem_of_getElem? (i := 10) rfl)), fun _ h9 => absurd h9 List.not_mem_nil⟩⟩⟩⟩, fun w h9 => List.mem_cons_of_mem _ (List.mem_append_right _ (h9))⟩⟩) (by decide +kernel)
set_option maxRecDepth 20000 in
theorem gX0_step_X0_isFont : GoodIn wsX0_step (wsV RX0 29 RX0 yX0_isFont wsX0_isFont) := goodIn_app (goodIn_4 _ (List.forall_mem_cons.mpr ⟨List.mem_cons_of_mem _ (List.mem_append_left _ (List.mem_of_getElem? (i := 2) rfl)), List.forall_mem_cons.mpr ⟨List.mem_cons_of_mem _ (List.mem_append_left _ (List.mem_of_getElem? (i := 3) rfl)), List.forall_mem_cons.mpr ⟨List.mem_cons_of_mem _ (List.mem_append_left _ (List.mem_of_getElem? (i := 4) rfl)), List.forall_mem_cons.mpr ⟨List.mem_cons_of_mem _ (List.mem_append_left _ (List.mem_of_getElem? (i := 5) rfl)), fun _ h9 => absurd h9 List.not_mem_nil⟩⟩⟩⟩) (by decide +kernel)) ggX0_step_X0_isFont
set_option maxRecDepth 20000 in
theorem ggX0_step_X8_stepOf : GoodIn wsX0_step wsX8_stepOf := goodIn_4 _ (List.forall_mem_cons.mpr ⟨List.mem_cons_of_mem _ (List.mem_append_left _ (List.mem_of_getElem? (i := 12) rfl)), fun _ h9 => absurd h9 List.not_mem_nil⟩) (by decide +kernel)
set_option maxRecDepth 20000 in
theorem gX0_step_X8_stepOf_n33 : GoodIn wsX0_step (wsX8_stepOf) := ggX0_step_X8_stepOf
set_option maxRecDepth 20000 in
theorem mw_X0_step_0 : (.fieldLink RX0 9 "FontRuns$FontRow" "kind" "[I" : Cond) ∈ wsX0_step := List.mem_cons_of_mem _ (List.mem_append_left _ (List.mem_of_getElem? (i := 0) rfl))
set_option maxRecDepth 20000 in
theorem mw_X0_step_1 : (.fieldLink RX0 15 "FontRuns$FontRow" "breadth" "[I" : Cond) ∈ wsX0_step := List.mem_cons_of_mem _ (List.mem_append_left _ (List.mem_of_getElem? (i := 1) rfl))
set_option maxRecDepth 20000 in
theorem mw_X0_step_2 : (.initialized RX8 : Cond) ∈ wsX0_step := List.mem_cons_of_mem _ (List.mem_append_left _ (List.mem_of_getElem? (i := 9) rfl))
set_option maxRecDepth 20000 in
theorem mw_X0_step_3 : (.static yX8_stepOf : Cond) ∈ wsX0_step := List.mem_cons_of_mem _ (List.mem_append_left _ (List.mem_of_getElem? (i := 11) rfl))
theorem ax_X0_step_0 {e0 e1 e2 : Nat × va_E} : ([0] : List Nat).map (fun i => ([e0, e1, e2] : va_W)[i]?) = ([e0] : va_W).map some := rfl
theorem ax_X0_step_1 {e0 e1 e2 : Nat × va_E} : ([] : List Nat).map (fun i => ([e0, e1, e2] : va_W)[i]?) = ([] : va_W).map some := rfl
set_option maxHeartbeats 4000000 in
set_option maxRecDepth 100000 in
theorem c_X0_step (l : Launch) (D : va_G) (sz : Nat) (f : Int) (h0 : Nat) (k1 : Nat) (k2 : Nat) (k3 : Nat) (n : Int) (ck1 : ClassId) (fk : Nat → Int32) (ck2 : ClassId) (fb : Nat → Int32) (q0 : rg f) (q1 : 0 ≤ n ∧ n ≤ 4) : Met l yX0_step wsX0_step ({ frames := 2, cells := 0, slots := 0, locals := 43 }) (kPre [.ref h0, .int (zI f)] D [(h0, .inr (0, [.ref k1, .ref k2, .ref k3, .int (zI n)])), (k1, .inl (ck1, 4, .inl fk)), (k2, .inl (ck2, 4, .inl fb))] [(ck1, .int), (ck2, .int)] sz) (QcP (fun rz => True)) 0 0 (fun _ => False) := by
  refine Met.ofW (cc := cX0_step) (maxL := 2) (ret := (some .int)) (by decide) rfl ?_
  intro p e s m args below meth c s₁ B hml hv
  obtain ⟨rfl, hsz, hP, hK, hD0, hN⟩ := hv
  have hx := B.exec
  have hb := B.bytes
  have hr := B.returns
  have hts := atoms_spec (ws := wsX0_step) B.pre
  have hown : s.vm.findClass RX0 = some m.cls := findClass_of_methodNamed B.named
  have hlocks := B.notSynchronized
  subst hsz
  have hD := hD0
  have hP : va_P D vwCl [(h0, .inr (0, [.ref k1, .ref k2, .ref k3, .int (zI n)])), (k1, .inl (ck1, 4, .inl fk)), (k2, .inl (ck2, 4, .inl fb))] s.heap := hP
  have hl := lv_entry ([.ref h0, .int (zI f)]) (n := 2) (Nat.le_of_ble_eq_true rfl)
  rw [lg_entry_eq]
  generalize (lg_sl ([.ref h0, .int (zI f)]) ++ List.replicate (2 - (lg_sl ([.ref h0, .int (zI f)])).length) Slot.unset).toArray = ls at hl ⊢
  have hl : lv_has ls 2 [(0, .ref h0), (1, .int (zI f))] := hl
  refine lv_aload_n hx hb dX0_step_0 rfl (lv_at hl 0 rfl) ?_
  refine lv_iload_n hx hb dX0_step_1 rfl (lv_at hl 1 rfl) ?_
  refine k_callR (va_runV (As := [.int (zI f)]) (rest := []) ⟨hx, hb, hml, hown, hts⟩ (c_X0_isFont l D s.heap.size (f := f) (h0 := h0) (k1 := k1) (k2 := k2) (k3 := k3) (n := n) q0 q1) (cwV 1 hts gX0_step_X0_isFont rfl rfl rfl (by decide +kernel) ⟨Nat.le_of_ble_eq_true rfl, Nat.le_of_ble_eq_true rfl⟩) (kPreV hP (kD0 hD) hK hN [0] [] ax_X0_step_0 rfl (by decide +kernel) 0 0 rfl rfl) rfl rfl hl.1 rfl (lv_room (Nat.le_of_ble_eq_true rfl)) dX0_step_2 ⟨Nat.le_of_ble_eq_true rfl, Nat.le_of_ble_eq_true rfl⟩) ?_
  refine lv_if_eq (tgt := 26) hx hb dX0_step_5 (by decide) (fun c_1 => ?_) (fun c_1 => ?_)
  · have c_1 : ¬ (0 ≤ f ∧ f ≤ n - 1) := b01f c_1
    refine lv_iconst (v := zI 0) hx hb dX0_step_26 rfl ?_
    exact W.iret (v := (zI 0)) hx hb hr (fun t ht hW => QcP_of (by omega) trivial ht) (fun _ h9 => by cases h9) dX0_step_27
  · have c_1 : 0 ≤ f ∧ f ≤ n - 1 := b01t c_1
    refine lv_aload_n hx hb dX0_step_8 rfl (lv_at hl 0 rfl) ?_
    refine va_get (D := D) (ci := 0) (v := .ref k1) (C := RX0) (T := TX0) (N := 4) hx hb hts (fun _ h9 => List.mem_cons_of_mem _ (List.mem_append_right _ h9)) hown hK hP 0 rfl rfl 0 (by decide) (hts (.fieldLink RX0 9 "FontRuns$FontRow" "kind" "[I") mw_X0_step_0) (fun _ h9 => h9) rfl dX0_step_9 ?_
    refine lv_iload_n hx hb dX0_step_12 rfl (lv_at hl 1 rfl) ?_
    refine kz_iald hx hb hK hP 1 0 rfl rfl (by omega) dX0_step_13 (fun z_2 rz_2 ez_2 => ?_)
    refine lv_aload_n hx hb dX0_step_14 rfl (lv_at hl 0 rfl) ?_
    refine va_get (D := D) (ci := 0) (v := .ref k2) (C := RX0) (T := TX0) (N := 4) hx hb hts (fun _ h9 => List.mem_cons_of_mem _ (List.mem_append_right _ h9)) hown hK hP 0 rfl rfl 1 (by decide) (hts (.fieldLink RX0 15 "FontRuns$FontRow" "breadth" "[I") mw_X0_step_1) (fun _ h9 => h9) rfl dX0_step_15 ?_
    refine lv_iload_n hx hb dX0_step_18 rfl (lv_at hl 1 rfl) ?_
    refine kz_iald hx hb hK hP 2 1 rfl rfl (by omega) dX0_step_19 (fun z_3 rz_3 ez_3 => ?_)
    refine k_callP (va_runSN (As := [.int (zI z_2), .int (zI z_3)]) (rest := []) ⟨hx, hb, hml, hown, hts⟩ (c_X8_stepOf l D s.heap.size (k := z_2) (b := z_3) (by omega) (by omega)) (⟨va_cnB 2 hts gX0_step_X8_stepOf_n33 rfl rfl rfl (hN.1 (RX0, 33, yX8_stepOf) (by decide +kernel)) (hts (.initialized RX8) mw_X0_step_2) (by decide +kernel) ⟨Nat.le_of_ble_eq_true rfl, Nat.le_of_ble_eq_true rfl⟩, (hts (.static yX8_stepOf) mw_X0_step_3), trivial⟩) (kPreS hP (kD0 hD) hK hN [] [] ax_X0_step_1 rfl (by decide +kernel)) rfl rfl hl.1 rfl (lv_room (Nat.le_of_ble_eq_true rfl)) dX0_step_20 ⟨Nat.le_of_ble_eq_true rfl, Nat.le_of_ble_eq_true rfl⟩) (fun z_4 rz_4 h_5 => ?_)
    refine lv_goto (tgt := 27) hx hb dX0_step_23 (by decide) ?_
    exact W.iret (v := (zI z_4)) hx hb hr (fun t ht hW => QcP_of (by omega) trivial ht) (fun _ h9 => by cases h9) dX0_step_27
theorem dX0_fitting_0 : decode cX0_fitting 0 = .ok (.iconst 0, 1) := kqo_03 kbl_X0_fitting (pc := 0) rfl
theorem dX0_fitting_1 : decode cX0_fitting 1 = .ok (.istore_n 2, 1) := kqo_3d kbl_X0_fitting (pc := 1) rfl
theorem dX0_fitting_2 : decode cX0_fitting 2 = .ok (.iconst 0, 1) := kqo_03 kbl_X0_fitting (pc := 2) rfl
theorem dX0_fitting_3 : decode cX0_fitting 3 = .ok (.istore_n 3, 1) := kqo_3e kbl_X0_fitting (pc := 3) rfl
theorem dX0_fitting_4 : decode cX0_fitting 4 = .ok (.iload_n 3, 1) := kqo_1d kbl_X0_fitting (pc := 4) rfl
theorem dX0_fitting_5 : decode cX0_fitting 5 = .ok (.aload_n 0, 1) := kqo_2a kbl_X0_fitting (pc := 5) rfl
theorem dX0_fitting_6 : decode cX0_fitting 6 = .ok (.getfield 21, 3) := kqo_b4 (x1 := 0) (x2 := 21) kbl_X0_fitting (pc := 6) rfl rfl
theorem dX0_fitting_9 : decode cX0_fitting 9 = .ok (.if_icmp .ge 27, 3) := kqo_a2 (x1 := 0) (x2 := 27) kbl_X0_fitting (pc := 9) rfl rfl
theorem dX0_fitting_12 : decode cX0_fitting 12 = .ok (.aload_n 0, 1) := kqo_2a kbl_X0_fitting (pc := 12) rfl
theorem dX0_fitting_13 : decode cX0_fitting 13 = .ok (.getfield 18, 3) := kqo_b4 (x1 := 0) (x2 := 18) kbl_X0_fitting (pc := 13) rfl rfl
theorem dX0_fitting_16 : decode cX0_fitting 16 = .ok (.iload_n 3, 1) := kqo_1d kbl_X0_fitting (pc := 16) rfl
theorem dX0_fitting_17 : decode cX0_fitting 17 = .ok (.iaload, 1) := kqo_2e kbl_X0_fitting (pc := 17) rfl
theorem dX0_fitting_18 : decode cX0_fitting 18 = .ok (.iload_n 1, 1) := kqo_1b kbl_X0_fitting (pc := 18) rfl
theorem dX0_fitting_19 : decode cX0_fitting 19 = .ok (.iand, 1) := kqo_7e kbl_X0_fitting (pc := 19) rfl
theorem dX0_fitting_20 : decode cX0_fitting 20 = .ok (.iload_n 1, 1) := kqo_1b kbl_X0_fitting (pc := 20) rfl
theorem dX0_fitting_21 : decode cX0_fitting 21 = .ok (.if_icmp .ne 9, 3) := kqo_a0 (x1 := 0) (x2 := 9) kbl_X0_fitting (pc := 21) rfl rfl
theorem dX0_fitting_24 : decode cX0_fitting 24 = .ok (.iload_n 2, 1) := kqo_1c kbl_X0_fitting (pc := 24) rfl
theorem dX0_fitting_25 : decode cX0_fitting 25 = .ok (.iconst 1, 1) := kqo_04 kbl_X0_fitting (pc := 25) rfl
theorem dX0_fitting_26 : decode cX0_fitting 26 = .ok (.iload_n 3, 1) := kqo_1d kbl_X0_fitting (pc := 26) rfl
theorem dX0_fitting_27 : decode cX0_fitting 27 = .ok (.ishl, 1) := kqo_78 kbl_X0_fitting (pc := 27) rfl
theorem dX0_fitting_28 : decode cX0_fitting 28 = .ok (.ior, 1) := kqo_80 kbl_X0_fitting (pc := 28) rfl
theorem dX0_fitting_29 : decode cX0_fitting 29 = .ok (.istore_n 2, 1) := kqo_3d kbl_X0_fitting (pc := 29) rfl
theorem dX0_fitting_30 : decode cX0_fitting 30 = .ok (.iinc 3 1, 3) := kqo_84 (x1 := 3) (x2 := 1) kbl_X0_fitting (pc := 30) rfl rfl
theorem dX0_fitting_33 : decode cX0_fitting 33 = .ok (.goto (-29), 3) := kqo_a7 (x1 := 255) (x2 := 227) kbl_X0_fitting (pc := 33) rfl rfl
theorem dX0_fitting_36 : decode cX0_fitting 36 = .ok (.iload_n 2, 1) := kqo_1c kbl_X0_fitting (pc := 36) rfl
theorem dX0_fitting_37 : decode cX0_fitting 37 = .ok (.ireturn, 1) := kqo_ac kbl_X0_fitting (pc := 37) rfl
set_option maxRecDepth 20000 in
theorem mw_X0_fitting_0 : (.fieldLink RX0 21 "FontRuns$FontRow" "count" "I" : Cond) ∈ wsX0_fitting := List.mem_cons_of_mem _ (List.mem_append_left _ (List.mem_of_getElem? (i := 0) rfl))
set_option maxRecDepth 20000 in
theorem mw_X0_fitting_1 : (.fieldLink RX0 18 "FontRuns$FontRow" "has" "[I" : Cond) ∈ wsX0_fitting := List.mem_cons_of_mem _ (List.mem_append_left _ (List.mem_of_getElem? (i := 1) rfl))
set_option maxHeartbeats 4000000 in
set_option maxRecDepth 100000 in
theorem c_X0_fitting (l : Launch) (D : va_G) (sz : Nat) (le : Int) (h0 : Nat) (k1 : Nat) (k2 : Nat) (k3 : Nat) (n : Int) (ck3 : ClassId) (fh : Nat → Int32) (q0 : rg le) (q1 : 0 ≤ n ∧ n ≤ 4) : Met l yX0_fitting wsX0_fitting ({ frames := 0, cells := 0, slots := 0, locals := 0 }) (kPre [.ref h0, .int (zI le)] D [(h0, .inr (0, [.ref k1, .ref k2, .ref k3, .int (zI n)])), (k3, .inl (ck3, 4, .inl fh))] [(ck3, .int)] sz) (QcP (fun rz => True)) 0 0 (fun _ => False) := by
  refine Met.ofW (cc := cX0_fitting) (maxL := 4) (ret := (some .int)) (by decide) rfl ?_
  intro p e s m args below meth c s₁ B hml hv
  obtain ⟨rfl, hsz, hP, hK, hD0, hN⟩ := hv
  have hx := B.exec
  have hb := B.bytes
  have hr := B.returns
  have hts := atoms_spec (ws := wsX0_fitting) B.pre
  have hown : s.vm.findClass RX0 = some m.cls := findClass_of_methodNamed B.named
  have hlocks := B.notSynchronized
  subst hsz
  have hD := hD0
  have hP : va_P D vwCl [(h0, .inr (0, [.ref k1, .ref k2, .ref k3, .int (zI n)])), (k3, .inl (ck3, 4, .inl fh))] s.heap := hP
  have hl := lv_entry ([.ref h0, .int (zI le)]) (n := 4) (Nat.le_of_ble_eq_true rfl)
  rw [lg_entry_eq]
  generalize (lg_sl ([.ref h0, .int (zI le)]) ++ List.replicate (4 - (lg_sl ([.ref h0, .int (zI le)])).length) Slot.unset).toArray = ls at hl ⊢
  have hl : lv_has ls 4 [(0, .ref h0), (1, .int (zI le))] := hl
  refine lv_iconst (v := zI 0) hx hb dX0_fitting_0 rfl ?_
  refine lv_istore_n (lv' := [(2, .int (zI 0)), (0, .ref h0), (1, .int (zI le))]) hx hb dX0_fitting_1 rfl hl (by decide) rfl (fun ls hl => ?_)
  refine lv_iconst (v := zI 0) hx hb dX0_fitting_2 rfl ?_
  refine lv_istore_n (lv' := [(3, .int (zI 0)), (2, .int (zI 0)), (0, .ref h0), (1, .int (zI le))]) hx hb dX0_fitting_3 rfl hl (by decide) rfl (fun ls hl => ?_)
  refine k_loopM (I := fun n9 H locs ls => ∃ (js : Int) (jk : Int), n9 = (n - jk).toNat ∧ (rg js) ∧ (0 ≤ jk ∧ jk ≤ n) ∧ H = s.heap ∧ locs = [] ∧ lv_has ls 4 [(3, .int (zI jk)), (2, .int (zI js)), (0, .ref h0), (1, .int (zI le))]) ?_ _ ⟨0, 0, rfl, (by omega), (by omega), rfl, rfl, hl⟩
  intro n4 ih4 H locs ls hI
  obtain ⟨js, jk, en4, v_40, v_41, eH, eL, hl⟩ := hI
  subst eH
  subst eL
  refine lv_iload_n hx hb dX0_fitting_4 rfl (lv_at hl 0 rfl) ?_
  refine lv_aload_n hx hb dX0_fitting_5 rfl (lv_at hl 2 rfl) ?_
  refine va_get (D := D) (ci := 0) (v := .int (zI n)) (C := RX0) (T := TX0) (N := 4) hx hb hts (fun _ h9 => List.mem_cons_of_mem _ (List.mem_append_right _ h9)) hown hK hP 0 rfl rfl 3 (by decide) (hts (.fieldLink RX0 21 "FontRuns$FontRow" "count" "I") mw_X0_fitting_0) (fun _ h9 => h9) rfl dX0_fitting_6 ?_
  refine kz_icmp_ge (tgt := 36) hx hb dX0_fitting_9 (by decide) (by omega) (by omega) (fun c_1 => ?_) (fun c_1 => ?_)
  · refine lv_iload_n hx hb dX0_fitting_36 rfl (lv_at hl 1 rfl) ?_
    exact W.iret (v := (zI js)) hx hb hr (fun t ht hW => QcP_of (by omega) trivial ht) (fun _ h9 => by cases h9) dX0_fitting_37
  · refine lv_aload_n hx hb dX0_fitting_12 rfl (lv_at hl 2 rfl) ?_
    refine va_get (D := D) (ci := 0) (v := .ref k3) (C := RX0) (T := TX0) (N := 4) hx hb hts (fun _ h9 => List.mem_cons_of_mem _ (List.mem_append_right _ h9)) hown hK hP 0 rfl rfl 2 (by decide) (hts (.fieldLink RX0 18 "FontRuns$FontRow" "has" "[I") mw_X0_fitting_1) (fun _ h9 => h9) rfl dX0_fitting_13 ?_
    refine lv_iload_n hx hb dX0_fitting_16 rfl (lv_at hl 0 rfl) ?_
    refine kz_iald hx hb hK hP 1 0 rfl rfl (by omega) dX0_fitting_17 (fun z_2 rz_2 ez_2 => ?_)
    refine lv_iload_n hx hb dX0_fitting_18 rfl (lv_at hl 3 rfl) ?_
    refine lv_iand hx hb dX0_fitting_19 ?_
    refine kz_any (fun z_3 rz_3 ez_3 => ?_)
    refine lv_iload_n hx hb dX0_fitting_20 rfl (lv_at hl 3 rfl) ?_
    refine kz_icmp_ne (tgt := 30) hx hb dX0_fitting_21 (by decide) (by omega) (by omega) (fun c_4 => ?_) (fun c_4 => ?_)
    · refine lv_iinc (v := (zI (jk + 1))) (lv' := [(3, .int (zI (jk + 1))), (2, .int (zI js)), (0, .ref h0), (1, .int (zI le))]) hx hb dX0_fitting_30 hl (k := 0) rfl (kz_inc _ 1) (by decide) rfl (fun ls hl => ?_)
      refine lv_goto (tgt := 4) hx hb dX0_fitting_33 (by decide) ?_
      exact ih4 _ (by omega) _ _ _ ⟨js, (jk + 1), rfl, v_40, (by omega), rfl, rfl, lv_sub hl [0, 1, 2, 3] rfl⟩
    · refine lv_iload_n hx hb dX0_fitting_24 rfl (lv_at hl 1 rfl) ?_
      refine lv_iconst (v := zI 1) hx hb dX0_fitting_25 rfl ?_
      refine lv_iload_n hx hb dX0_fitting_26 rfl (lv_at hl 0 rfl) ?_
      refine lv_ishl hx hb dX0_fitting_27 ?_
      refine kz_any (fun z_5 rz_5 ez_5 => ?_)
      refine lv_ior hx hb dX0_fitting_28 ?_
      refine kz_any (fun z_6 rz_6 ez_6 => ?_)
      refine lv_istore_n (lv' := [(2, .int (zI z_6)), (3, .int (zI jk)), (0, .ref h0), (1, .int (zI le))]) hx hb dX0_fitting_29 rfl hl (by decide) rfl (fun ls hl => ?_)
      refine lv_iinc (v := (zI (jk + 1))) (lv' := [(3, .int (zI (jk + 1))), (2, .int (zI z_6)), (0, .ref h0), (1, .int (zI le))]) hx hb dX0_fitting_30 hl (k := 1) rfl (kz_inc _ 1) (by decide) rfl (fun ls hl => ?_)
      refine lv_goto (tgt := 4) hx hb dX0_fitting_33 (by decide) ?_
      exact ih4 _ (by omega) _ _ _ ⟨z_6, (jk + 1), rfl, (by omega), (by omega), rfl, rfl, lv_sub hl [0, 1, 2, 3] rfl⟩
theorem dX0_takeFrom_0 : decode cX0_takeFrom 0 = .ok (.aload_n 0, 1) := kqo_2a kbl_X0_takeFrom (pc := 0) rfl
theorem dX0_takeFrom_1 : decode cX0_takeFrom 1 = .ok (.aload_n 1, 1) := kqo_2b kbl_X0_takeFrom (pc := 1) rfl
theorem dX0_takeFrom_2 : decode cX0_takeFrom 2 = .ok (.getfield 21, 3) := kqo_b4 (x1 := 0) (x2 := 21) kbl_X0_takeFrom (pc := 2) rfl rfl
theorem dX0_takeFrom_5 : decode cX0_takeFrom 5 = .ok (.putfield 21, 3) := kqo_b5 (x1 := 0) (x2 := 21) kbl_X0_takeFrom (pc := 5) rfl rfl
theorem dX0_takeFrom_8 : decode cX0_takeFrom 8 = .ok (.iconst 0, 1) := kqo_03 kbl_X0_takeFrom (pc := 8) rfl
theorem dX0_takeFrom_9 : decode cX0_takeFrom 9 = .ok (.istore_n 2, 1) := kqo_3d kbl_X0_takeFrom (pc := 9) rfl
theorem dX0_takeFrom_10 : decode cX0_takeFrom 10 = .ok (.iload_n 2, 1) := kqo_1c kbl_X0_takeFrom (pc := 10) rfl
theorem dX0_takeFrom_11 : decode cX0_takeFrom 11 = .ok (.iconst 4, 1) := kqo_07 kbl_X0_takeFrom (pc := 11) rfl
theorem dX0_takeFrom_12 : decode cX0_takeFrom 12 = .ok (.if_icmp .ge 45, 3) := kqo_a2 (x1 := 0) (x2 := 45) kbl_X0_takeFrom (pc := 12) rfl rfl
theorem dX0_takeFrom_15 : decode cX0_takeFrom 15 = .ok (.aload_n 0, 1) := kqo_2a kbl_X0_takeFrom (pc := 15) rfl
theorem dX0_takeFrom_16 : decode cX0_takeFrom 16 = .ok (.getfield 9, 3) := kqo_b4 (x1 := 0) (x2 := 9) kbl_X0_takeFrom (pc := 16) rfl rfl
theorem dX0_takeFrom_19 : decode cX0_takeFrom 19 = .ok (.iload_n 2, 1) := kqo_1c kbl_X0_takeFrom (pc := 19) rfl
theorem dX0_takeFrom_20 : decode cX0_takeFrom 20 = .ok (.aload_n 1, 1) := kqo_2b kbl_X0_takeFrom (pc := 20) rfl
theorem dX0_takeFrom_21 : decode cX0_takeFrom 21 = .ok (.getfield 9, 3) := kqo_b4 (x1 := 0) (x2 := 9) kbl_X0_takeFrom (pc := 21) rfl rfl
theorem dX0_takeFrom_24 : decode cX0_takeFrom 24 = .ok (.iload_n 2, 1) := kqo_1c kbl_X0_takeFrom (pc := 24) rfl
theorem dX0_takeFrom_25 : decode cX0_takeFrom 25 = .ok (.iaload, 1) := kqo_2e kbl_X0_takeFrom (pc := 25) rfl
theorem dX0_takeFrom_26 : decode cX0_takeFrom 26 = .ok (.iastore, 1) := kqo_4f kbl_X0_takeFrom (pc := 26) rfl
theorem dX0_takeFrom_27 : decode cX0_takeFrom 27 = .ok (.aload_n 0, 1) := kqo_2a kbl_X0_takeFrom (pc := 27) rfl
theorem dX0_takeFrom_28 : decode cX0_takeFrom 28 = .ok (.getfield 15, 3) := kqo_b4 (x1 := 0) (x2 := 15) kbl_X0_takeFrom (pc := 28) rfl rfl
theorem dX0_takeFrom_31 : decode cX0_takeFrom 31 = .ok (.iload_n 2, 1) := kqo_1c kbl_X0_takeFrom (pc := 31) rfl
theorem dX0_takeFrom_32 : decode cX0_takeFrom 32 = .ok (.aload_n 1, 1) := kqo_2b kbl_X0_takeFrom (pc := 32) rfl
theorem dX0_takeFrom_33 : decode cX0_takeFrom 33 = .ok (.getfield 15, 3) := kqo_b4 (x1 := 0) (x2 := 15) kbl_X0_takeFrom (pc := 33) rfl rfl
theorem dX0_takeFrom_36 : decode cX0_takeFrom 36 = .ok (.iload_n 2, 1) := kqo_1c kbl_X0_takeFrom (pc := 36) rfl
theorem dX0_takeFrom_37 : decode cX0_takeFrom 37 = .ok (.iaload, 1) := kqo_2e kbl_X0_takeFrom (pc := 37) rfl
theorem dX0_takeFrom_38 : decode cX0_takeFrom 38 = .ok (.iastore, 1) := kqo_4f kbl_X0_takeFrom (pc := 38) rfl
theorem dX0_takeFrom_39 : decode cX0_takeFrom 39 = .ok (.aload_n 0, 1) := kqo_2a kbl_X0_takeFrom (pc := 39) rfl
theorem dX0_takeFrom_40 : decode cX0_takeFrom 40 = .ok (.getfield 18, 3) := kqo_b4 (x1 := 0) (x2 := 18) kbl_X0_takeFrom (pc := 40) rfl rfl
theorem dX0_takeFrom_43 : decode cX0_takeFrom 43 = .ok (.iload_n 2, 1) := kqo_1c kbl_X0_takeFrom (pc := 43) rfl
theorem dX0_takeFrom_44 : decode cX0_takeFrom 44 = .ok (.aload_n 1, 1) := kqo_2b kbl_X0_takeFrom (pc := 44) rfl
theorem dX0_takeFrom_45 : decode cX0_takeFrom 45 = .ok (.getfield 18, 3) := kqo_b4 (x1 := 0) (x2 := 18) kbl_X0_takeFrom (pc := 45) rfl rfl
theorem dX0_takeFrom_48 : decode cX0_takeFrom 48 = .ok (.iload_n 2, 1) := kqo_1c kbl_X0_takeFrom (pc := 48) rfl
theorem dX0_takeFrom_49 : decode cX0_takeFrom 49 = .ok (.iaload, 1) := kqo_2e kbl_X0_takeFrom (pc := 49) rfl
theorem dX0_takeFrom_50 : decode cX0_takeFrom 50 = .ok (.iastore, 1) := kqo_4f kbl_X0_takeFrom (pc := 50) rfl
theorem dX0_takeFrom_51 : decode cX0_takeFrom 51 = .ok (.iinc 2 1, 3) := kqo_84 (x1 := 2) (x2 := 1) kbl_X0_takeFrom (pc := 51) rfl rfl
theorem dX0_takeFrom_54 : decode cX0_takeFrom 54 = .ok (.goto (-44), 3) := kqo_a7 (x1 := 255) (x2 := 212) kbl_X0_takeFrom (pc := 54) rfl rfl
theorem dX0_takeFrom_57 : decode cX0_takeFrom 57 = .ok (.return_, 1) := kqo_b1 kbl_X0_takeFrom (pc := 57) rfl
set_option maxRecDepth 20000 in
theorem mw_X0_takeFrom_0 : (.fieldLink RX0 21 "FontRuns$FontRow" "count" "I" : Cond) ∈ wsX0_takeFrom := List.mem_cons_of_mem _ (List.mem_append_left _ (List.mem_of_getElem? (i := 0) rfl))
set_option maxRecDepth 20000 in
theorem mw_X0_takeFrom_1 : (.fieldLink RX0 9 "FontRuns$FontRow" "kind" "[I" : Cond) ∈ wsX0_takeFrom := List.mem_cons_of_mem _ (List.mem_append_left _ (List.mem_of_getElem? (i := 1) rfl))
set_option maxRecDepth 20000 in
theorem mw_X0_takeFrom_2 : (.fieldLink RX0 15 "FontRuns$FontRow" "breadth" "[I" : Cond) ∈ wsX0_takeFrom := List.mem_cons_of_mem _ (List.mem_append_left _ (List.mem_of_getElem? (i := 2) rfl))
set_option maxRecDepth 20000 in
theorem mw_X0_takeFrom_3 : (.fieldLink RX0 18 "FontRuns$FontRow" "has" "[I" : Cond) ∈ wsX0_takeFrom := List.mem_cons_of_mem _ (List.mem_append_left _ (List.mem_of_getElem? (i := 3) rfl))
theorem ax_X0_takeFrom_0 {e0 e1 e2 e3 e4 e5 e6 e7 : Nat × va_E} : ([0, 1, 2, 3, 4, 5, 6, 7] : List Nat).map (fun i => ([e0, e1, e2, e3, e4, e5, e6, e7] : va_W)[i]?) = ([e0, e1, e2, e3, e4, e5, e6, e7] : va_W).map some := rfl
set_option maxHeartbeats 4000000 in
set_option maxRecDepth 100000 in
theorem c_X0_takeFrom (l : Launch) (D : va_G) (sz : Nat) (h1 : Nat) (h0 : Nat) (k1 : Nat) (k2 : Nat) (k3 : Nat) (n : Int) (ck1 : ClassId) (fk : Nat → Int32) (ck2 : ClassId) (fb : Nat → Int32) (ck3 : ClassId) (fh : Nat → Int32) (m1 : Nat) (m2 : Nat) (m3 : Nat) (n2 : Int) (cm1 : ClassId) (gk : Nat → Int32) (cm2 : ClassId) (gb : Nat → Int32) (cm3 : ClassId) (gh : Nat → Int32) (q0 : 0 ≤ n2 ∧ n2 ≤ 4) : Met l yX0_takeFrom wsX0_takeFrom ({ frames := 0, cells := 0, slots := 0, locals := 0 }) (kPre [.ref h0, .ref h1] D [(h0, .inr (0, [.ref k1, .ref k2, .ref k3, .int (zI n)])), (k1, .inl (ck1, 4, .inl fk)), (k2, .inl (ck2, 4, .inl fb)), (k3, .inl (ck3, 4, .inl fh)), (h1, .inr (0, [.ref m1, .ref m2, .ref m3, .int (zI n2)])), (m1, .inl (cm1, 4, .inl gk)), (m2, .inl (cm2, 4, .inl gb)), (m3, .inl (cm3, 4, .inl gh))] [(ck1, .int), (ck2, .int), (ck3, .int), (cm1, .int), (cm2, .int), (cm3, .int)] sz) (kQV (fun t => ∃ (un : Int) (uk : Nat → Int32) (ub : Nat → Int32) (uh : Nat → Int32), (0 ≤ un ∧ un ≤ 4) ∧ va_P D vwCl [(h0, .inr (0, [.ref k1, .ref k2, .ref k3, .int (zI un)])), (k1, .inl (ck1, 4, .inl uk)), (k2, .inl (ck2, 4, .inl ub)), (k3, .inl (ck3, 4, .inl uh)), (h1, .inr (0, [.ref m1, .ref m2, .ref m3, .int (zI n2)])), (m1, .inl (cm1, 4, .inl gk)), (m2, .inl (cm2, 4, .inl gb)), (m3, .inl (cm3, 4, .inl gh))] t.heap ∧ va_D (va_A [(h0, .inr (0, [.ref k1, .ref k2, .ref k3, .int (zI n)])), (k1, .inl (ck1, 4, .inl fk)), (k2, .inl (ck2, 4, .inl fb)), (k3, .inl (ck3, 4, .inl fh)), (h1, .inr (0, [.ref m1, .ref m2, .ref m3, .int (zI n2)])), (m1, .inl (cm1, 4, .inl gk)), (m2, .inl (cm2, 4, .inl gb)), (m3, .inl (cm3, 4, .inl gh))] sz) [(h0, .inr (0, [.ref k1, .ref k2, .ref k3, .int (zI un)])), (k1, .inl (ck1, 4, .inl uk)), (k2, .inl (ck2, 4, .inl ub)), (k3, .inl (ck3, 4, .inl uh)), (h1, .inr (0, [.ref m1, .ref m2, .ref m3, .int (zI n2)])), (m1, .inl (cm1, 4, .inl gk)), (m2, .inl (cm2, 4, .inl gb)), (m3, .inl (cm3, 4, .inl gh))]) (va_A [(h0, .inr (0, [.ref k1, .ref k2, .ref k3, .int (zI n)])), (k1, .inl (ck1, 4, .inl fk)), (k2, .inl (ck2, 4, .inl fb)), (k3, .inl (ck3, 4, .inl fh)), (h1, .inr (0, [.ref m1, .ref m2, .ref m3, .int (zI n2)])), (m1, .inl (cm1, 4, .inl gk)), (m2, .inl (cm2, 4, .inl gb)), (m3, .inl (cm3, 4, .inl gh))] sz)) 0 0 (va_A [(h0, .inr (0, [.ref k1, .ref k2, .ref k3, .int (zI n)])), (k1, .inl (ck1, 4, .inl fk)), (k2, .inl (ck2, 4, .inl fb)), (k3, .inl (ck3, 4, .inl fh)), (h1, .inr (0, [.ref m1, .ref m2, .ref m3, .int (zI n2)])), (m1, .inl (cm1, 4, .inl gk)), (m2, .inl (cm2, 4, .inl gb)), (m3, .inl (cm3, 4, .inl gh))] sz) := by
  refine Met.ofW (cc := cX0_takeFrom) (maxL := 3) (ret := none) (by decide) rfl ?_
  intro p e s m args below meth c s₁ B hml hv
  obtain ⟨rfl, hsz, hP, hK, hD0, hN⟩ := hv
  have hx := B.exec
  have hb := B.bytes
  have hr := B.returns
  have hts := atoms_spec (ws := wsX0_takeFrom) B.pre
  have hown : s.vm.findClass RX0 = some m.cls := findClass_of_methodNamed B.named
  have hlocks := B.notSynchronized
  subst hsz
  have hD := hD0.self (sz := s.heap.size)
  generalize hAe : va_A [(h0, .inr (0, [.ref k1, .ref k2, .ref k3, .int (zI n)])), (k1, .inl (ck1, 4, .inl fk)), (k2, .inl (ck2, 4, .inl fb)), (k3, .inl (ck3, 4, .inl fh)), (h1, .inr (0, [.ref m1, .ref m2, .ref m3, .int (zI n2)])), (m1, .inl (cm1, 4, .inl gk)), (m2, .inl (cm2, 4, .inl gb)), (m3, .inl (cm3, 4, .inl gh))] s.heap.size = A at hD ⊢
  have hA : ∀ q : Nat, s.heap.size ≤ q → A q := fun q h => by rw [← hAe]; exact Or.inr h
  have hS : va_S A s.heap s.heap [] := va_S.rf
  have hP : va_P D vwCl [(h0, .inr (0, [.ref k1, .ref k2, .ref k3, .int (zI n)])), (k1, .inl (ck1, 4, .inl fk)), (k2, .inl (ck2, 4, .inl fb)), (k3, .inl (ck3, 4, .inl fh)), (h1, .inr (0, [.ref m1, .ref m2, .ref m3, .int (zI n2)])), (m1, .inl (cm1, 4, .inl gk)), (m2, .inl (cm2, 4, .inl gb)), (m3, .inl (cm3, 4, .inl gh))] s.heap := hP
  have hl := lv_entry ([.ref h0, .ref h1]) (n := 3) (Nat.le_of_ble_eq_true rfl)
  rw [lg_entry_eq]
  generalize (lg_sl ([.ref h0, .ref h1]) ++ List.replicate (3 - (lg_sl ([.ref h0, .ref h1])).length) Slot.unset).toArray = ls at hl ⊢
  have hl : lv_has ls 3 [(0, .ref h0), (1, .ref h1)] := hl
  refine lv_aload_n hx hb dX0_takeFrom_0 rfl (lv_at hl 0 rfl) ?_
  refine lv_aload_n hx hb dX0_takeFrom_1 rfl (lv_at hl 1 rfl) ?_
  refine va_get (D := D) (ci := 0) (v := .int (zI n2)) (C := RX0) (T := TX0) (N := 4) hx hb hts (fun _ h9 => List.mem_cons_of_mem _ (List.mem_append_right _ h9)) hown hK hP 4 rfl rfl 3 (by decide) (hts (.fieldLink RX0 21 "FontRuns$FontRow" "count" "I") mw_X0_takeFrom_0) (fun _ h9 => h9) rfl dX0_takeFrom_2 ?_
  refine va_put (D := D) (ci := 0) (v := .int (zI n2)) (ty := .int) (C := RX0) (T := TX0) (N := 4) hx hb hts (fun _ h9 => List.mem_cons_of_mem _ (List.mem_append_right _ h9)) tyX0 tyX0_ok nmX0 hown hK hP hD hS 0 rfl rfl 3 (by decide) (hts (.fieldLink RX0 21 "FontRuns$FontRow" "count" "I") mw_X0_takeFrom_0) (fun _ h9 => h9) rfl (by decide +kernel) rfl rfl (Nat.le_of_ble_eq_true rfl) dX0_takeFrom_5 (fun H locs hP hD hS => ?_)
  have hP : va_P D vwCl [(h0, .inr (0, [.ref k1, .ref k2, .ref k3, .int (zI n2)])), (k1, .inl (ck1, 4, .inl fk)), (k2, .inl (ck2, 4, .inl fb)), (k3, .inl (ck3, 4, .inl fh)), (h1, .inr (0, [.ref m1, .ref m2, .ref m3, .int (zI n2)])), (m1, .inl (cm1, 4, .inl gk)), (m2, .inl (cm2, 4, .inl gb)), (m3, .inl (cm3, 4, .inl gh))] H := hP
  have hD : va_D A [(h0, .inr (0, [.ref k1, .ref k2, .ref k3, .int (zI n2)])), (k1, .inl (ck1, 4, .inl fk)), (k2, .inl (ck2, 4, .inl fb)), (k3, .inl (ck3, 4, .inl fh)), (h1, .inr (0, [.ref m1, .ref m2, .ref m3, .int (zI n2)])), (m1, .inl (cm1, 4, .inl gk)), (m2, .inl (cm2, 4, .inl gb)), (m3, .inl (cm3, 4, .inl gh))] := hD
  refine lv_iconst (v := zI 0) hx hb dX0_takeFrom_8 rfl ?_
  refine lv_istore_n (lv' := [(2, .int (zI 0)), (0, .ref h0), (1, .ref h1)]) hx hb dX0_takeFrom_9 rfl hl (by decide) rfl (fun ls hl => ?_)
  refine k_loopM (I := fun n9 H locs ls => ∃ (jk : Int) (ja : Nat → Int32) (jb : Nat → Int32) (jc : Nat → Int32), n9 = (4 - jk).toNat ∧ (0 ≤ jk ∧ jk ≤ 4) ∧ va_P D vwCl [(h0, .inr (0, [.ref k1, .ref k2, .ref k3, .int (zI n2)])), (k1, .inl (ck1, 4, .inl ja)), (k2, .inl (ck2, 4, .inl jb)), (k3, .inl (ck3, 4, .inl jc)), (h1, .inr (0, [.ref m1, .ref m2, .ref m3, .int (zI n2)])), (m1, .inl (cm1, 4, .inl gk)), (m2, .inl (cm2, 4, .inl gb)), (m3, .inl (cm3, 4, .inl gh))] H ∧ va_D A [(h0, .inr (0, [.ref k1, .ref k2, .ref k3, .int (zI n2)])), (k1, .inl (ck1, 4, .inl ja)), (k2, .inl (ck2, 4, .inl jb)), (k3, .inl (ck3, 4, .inl jc)), (h1, .inr (0, [.ref m1, .ref m2, .ref m3, .int (zI n2)])), (m1, .inl (cm1, 4, .inl gk)), (m2, .inl (cm2, 4, .inl gb)), (m3, .inl (cm3, 4, .inl gh))] ∧ va_S A s.heap H locs ∧ lv_has ls 3 [(2, .int (zI jk)), (0, .ref h0), (1, .ref h1)]) ?_ _ ⟨0, fk, fb, fh, rfl, (by omega), hP, hD, hS, hl⟩
  intro n10 ih10 H locs ls hI
  obtain ⟨jk, ja, jb, jc, en10, v_100, hP, hD, hS, hl⟩ := hI
  refine lv_iload_n hx hb dX0_takeFrom_10 rfl (lv_at hl 0 rfl) ?_
  refine lv_iconst (v := zI 4) hx hb dX0_takeFrom_11 rfl ?_
  refine kz_icmp_ge (tgt := 57) hx hb dX0_takeFrom_12 (by decide) (by omega) (by omega) (fun c_1 => ?_) (fun c_1 => ?_)
  · have hP9 := hP.sub (ws' := [(h0, .inr (0, [.ref k1, .ref k2, .ref k3, .int (zI n2)])), (k1, .inl (ck1, 4, .inl ja)), (k2, .inl (ck2, 4, .inl jb)), (k3, .inl (ck3, 4, .inl jc)), (h1, .inr (0, [.ref m1, .ref m2, .ref m3, .int (zI n2)])), (m1, .inl (cm1, 4, .inl gk)), (m2, .inl (cm2, 4, .inl gb)), (m3, .inl (cm3, 4, .inl gh))]) [0, 1, 2, 3, 4, 5, 6, 7] rfl
    have hD9 := hD.sub (ws' := [(h0, .inr (0, [.ref k1, .ref k2, .ref k3, .int (zI n2)])), (k1, .inl (ck1, 4, .inl ja)), (k2, .inl (ck2, 4, .inl jb)), (k3, .inl (ck3, 4, .inl jc)), (h1, .inr (0, [.ref m1, .ref m2, .ref m3, .int (zI n2)])), (m1, .inl (cm1, 4, .inl gk)), (m2, .inl (cm2, 4, .inl gb)), (m3, .inl (cm3, 4, .inl gh))]) [0, 1, 2, 3, 4, 5, 6, 7] (by decide +kernel) rfl
    exact W.vret hx hb hr (fun t ht hW => kQV_of ⟨n2, ja, jb, jc, q0, by rw [ht]; exact hP9, hD9⟩ (hS.F ht)) hS.2.2 dX0_takeFrom_57
  · refine lv_aload_n hx hb dX0_takeFrom_15 rfl (lv_at hl 1 rfl) ?_
    refine va_get (D := D) (ci := 0) (v := .ref k1) (C := RX0) (T := TX0) (N := 4) hx hb hts (fun _ h9 => List.mem_cons_of_mem _ (List.mem_append_right _ h9)) hown hK hP 0 rfl rfl 0 (by decide) (hts (.fieldLink RX0 9 "FontRuns$FontRow" "kind" "[I") mw_X0_takeFrom_1) (fun _ h9 => h9) rfl dX0_takeFrom_16 ?_
    refine lv_iload_n hx hb dX0_takeFrom_19 rfl (lv_at hl 0 rfl) ?_
    refine lv_aload_n hx hb dX0_takeFrom_20 rfl (lv_at hl 2 rfl) ?_
    refine va_get (D := D) (ci := 0) (v := .ref m1) (C := RX0) (T := TX0) (N := 4) hx hb hts (fun _ h9 => List.mem_cons_of_mem _ (List.mem_append_right _ h9)) hown hK hP 4 rfl rfl 0 (by decide) (hts (.fieldLink RX0 9 "FontRuns$FontRow" "kind" "[I") mw_X0_takeFrom_1) (fun _ h9 => h9) rfl dX0_takeFrom_21 ?_
    refine lv_iload_n hx hb dX0_takeFrom_24 rfl (lv_at hl 0 rfl) ?_
    refine kz_iald hx hb hK hP 5 3 rfl rfl (by omega) dX0_takeFrom_25 (fun z_2 rz_2 ez_2 => ?_)
    refine kz_iast hx hb hK hP hD hS 1 0 rfl rfl (by omega) dX0_takeFrom_26 (fun H locs hP hD hS => ?_)
    have hP : va_P D vwCl [(h0, .inr (0, [.ref k1, .ref k2, .ref k3, .int (zI n2)])), (k1, .inl (ck1, 4, .inl (upd ja (jk).toNat (zI z_2)))), (k2, .inl (ck2, 4, .inl jb)), (k3, .inl (ck3, 4, .inl jc)), (h1, .inr (0, [.ref m1, .ref m2, .ref m3, .int (zI n2)])), (m1, .inl (cm1, 4, .inl gk)), (m2, .inl (cm2, 4, .inl gb)), (m3, .inl (cm3, 4, .inl gh))] H := hP
    have hD : va_D A [(h0, .inr (0, [.ref k1, .ref k2, .ref k3, .int (zI n2)])), (k1, .inl (ck1, 4, .inl (upd ja (jk).toNat (zI z_2)))), (k2, .inl (ck2, 4, .inl jb)), (k3, .inl (ck3, 4, .inl jc)), (h1, .inr (0, [.ref m1, .ref m2, .ref m3, .int (zI n2)])), (m1, .inl (cm1, 4, .inl gk)), (m2, .inl (cm2, 4, .inl gb)), (m3, .inl (cm3, 4, .inl gh))] := hD
    generalize ef_3 : upd ja (jk).toNat (zI z_2) = f_3 at hP hD
    refine lv_aload_n hx hb dX0_takeFrom_27 rfl (lv_at hl 1 rfl) ?_
    refine va_get (D := D) (ci := 0) (v := .ref k2) (C := RX0) (T := TX0) (N := 4) hx hb hts (fun _ h9 => List.mem_cons_of_mem _ (List.mem_append_right _ h9)) hown hK hP 0 rfl rfl 1 (by decide) (hts (.fieldLink RX0 15 "FontRuns$FontRow" "breadth" "[I") mw_X0_takeFrom_2) (fun _ h9 => h9) rfl dX0_takeFrom_28 ?_
    refine lv_iload_n hx hb dX0_takeFrom_31 rfl (lv_at hl 0 rfl) ?_
    refine lv_aload_n hx hb dX0_takeFrom_32 rfl (lv_at hl 2 rfl) ?_
    refine va_get (D := D) (ci := 0) (v := .ref m2) (C := RX0) (T := TX0) (N := 4) hx hb hts (fun _ h9 => List.mem_cons_of_mem _ (List.mem_append_right _ h9)) hown hK hP 4 rfl rfl 1 (by decide) (hts (.fieldLink RX0 15 "FontRuns$FontRow" "breadth" "[I") mw_X0_takeFrom_2) (fun _ h9 => h9) rfl dX0_takeFrom_33 ?_
    refine lv_iload_n hx hb dX0_takeFrom_36 rfl (lv_at hl 0 rfl) ?_
    refine kz_iald hx hb hK hP 6 4 rfl rfl (by omega) dX0_takeFrom_37 (fun z_4 rz_4 ez_4 => ?_)
    refine kz_iast hx hb hK hP hD hS 2 1 rfl rfl (by omega) dX0_takeFrom_38 (fun H locs hP hD hS => ?_)
    have hP : va_P D vwCl [(h0, .inr (0, [.ref k1, .ref k2, .ref k3, .int (zI n2)])), (k1, .inl (ck1, 4, .inl f_3)), (k2, .inl (ck2, 4, .inl (upd jb (jk).toNat (zI z_4)))), (k3, .inl (ck3, 4, .inl jc)), (h1, .inr (0, [.ref m1, .ref m2, .ref m3, .int (zI n2)])), (m1, .inl (cm1, 4, .inl gk)), (m2, .inl (cm2, 4, .inl gb)), (m3, .inl (cm3, 4, .inl gh))] H := hP
    have hD : va_D A [(h0, .inr (0, [.ref k1, .ref k2, .ref k3, .int (zI n2)])), (k1, .inl (ck1, 4, .inl f_3)), (k2, .inl (ck2, 4, .inl (upd jb (jk).toNat (zI z_4)))), (k3, .inl (ck3, 4, .inl jc)), (h1, .inr (0, [.ref m1, .ref m2, .ref m3, .int (zI n2)])), (m1, .inl (cm1, 4, .inl gk)), (m2, .inl (cm2, 4, .inl gb)), (m3, .inl (cm3, 4, .inl gh))] := hD
    generalize ef_5 : upd jb (jk).toNat (zI z_4) = f_5 at hP hD
    refine lv_aload_n hx hb dX0_takeFrom_39 rfl (lv_at hl 1 rfl) ?_
    refine va_get (D := D) (ci := 0) (v := .ref k3) (C := RX0) (T := TX0) (N := 4) hx hb hts (fun _ h9 => List.mem_cons_of_mem _ (List.mem_append_right _ h9)) hown hK hP 0 rfl rfl 2 (by decide) (hts (.fieldLink RX0 18 "FontRuns$FontRow" "has" "[I") mw_X0_takeFrom_3) (fun _ h9 => h9) rfl dX0_takeFrom_40 ?_
    refine lv_iload_n hx hb dX0_takeFrom_43 rfl (lv_at hl 0 rfl) ?_
    refine lv_aload_n hx hb dX0_takeFrom_44 rfl (lv_at hl 2 rfl) ?_
    refine va_get (D := D) (ci := 0) (v := .ref m3) (C := RX0) (T := TX0) (N := 4) hx hb hts (fun _ h9 => List.mem_cons_of_mem _ (List.mem_append_right _ h9)) hown hK hP 4 rfl rfl 2 (by decide) (hts (.fieldLink RX0 18 "FontRuns$FontRow" "has" "[I") mw_X0_takeFrom_3) (fun _ h9 => h9) rfl dX0_takeFrom_45 ?_
    refine lv_iload_n hx hb dX0_takeFrom_48 rfl (lv_at hl 0 rfl) ?_
    refine kz_iald hx hb hK hP 7 5 rfl rfl (by omega) dX0_takeFrom_49 (fun z_6 rz_6 ez_6 => ?_)
    refine kz_iast hx hb hK hP hD hS 3 2 rfl rfl (by omega) dX0_takeFrom_50 (fun H locs hP hD hS => ?_)
    have hP : va_P D vwCl [(h0, .inr (0, [.ref k1, .ref k2, .ref k3, .int (zI n2)])), (k1, .inl (ck1, 4, .inl f_3)), (k2, .inl (ck2, 4, .inl f_5)), (k3, .inl (ck3, 4, .inl (upd jc (jk).toNat (zI z_6)))), (h1, .inr (0, [.ref m1, .ref m2, .ref m3, .int (zI n2)])), (m1, .inl (cm1, 4, .inl gk)), (m2, .inl (cm2, 4, .inl gb)), (m3, .inl (cm3, 4, .inl gh))] H := hP
    have hD : va_D A [(h0, .inr (0, [.ref k1, .ref k2, .ref k3, .int (zI n2)])), (k1, .inl (ck1, 4, .inl f_3)), (k2, .inl (ck2, 4, .inl f_5)), (k3, .inl (ck3, 4, .inl (upd jc (jk).toNat (zI z_6)))), (h1, .inr (0, [.ref m1, .ref m2, .ref m3, .int (zI n2)])), (m1, .inl (cm1, 4, .inl gk)), (m2, .inl (cm2, 4, .inl gb)), (m3, .inl (cm3, 4, .inl gh))] := hD
    generalize ef_7 : upd jc (jk).toNat (zI z_6) = f_7 at hP hD
    refine lv_iinc (v := (zI (jk + 1))) (lv' := [(2, .int (zI (jk + 1))), (0, .ref h0), (1, .ref h1)]) hx hb dX0_takeFrom_51 hl (k := 0) rfl (kz_inc _ 1) (by decide) rfl (fun ls hl => ?_)
    refine lv_goto (tgt := 10) hx hb dX0_takeFrom_54 (by decide) ?_
    exact ih10 _ (by omega) _ _ _ ⟨(jk + 1), f_3, f_5, f_7, rfl, (by omega), hP, hD, hS, lv_sub hl [0, 1, 2] rfl⟩
theorem dX1_placeOf_0 : decode cX1_placeOf 0 = .ok (.iconst 0, 1) := kqo_03 kbl_X1_placeOf (pc := 0) rfl
theorem dX1_placeOf_1 : decode cX1_placeOf 1 = .ok (.istore_n 2, 1) := kqo_3d kbl_X1_placeOf (pc := 1) rfl
theorem dX1_placeOf_2 : decode cX1_placeOf 2 = .ok (.iload_n 2, 1) := kqo_1c kbl_X1_placeOf (pc := 2) rfl
theorem dX1_placeOf_3 : decode cX1_placeOf 3 = .ok (.aload_n 0, 1) := kqo_2a kbl_X1_placeOf (pc := 3) rfl
theorem dX1_placeOf_4 : decode cX1_placeOf 4 = .ok (.getfield 21, 3) := kqo_b4 (x1 := 0) (x2 := 21) kbl_X1_placeOf (pc := 4) rfl rfl
theorem dX1_placeOf_7 : decode cX1_placeOf 7 = .ok (.if_icmp .ge 21, 3) := kqo_a2 (x1 := 0) (x2 := 21) kbl_X1_placeOf (pc := 7) rfl rfl
theorem dX1_placeOf_10 : decode cX1_placeOf 10 = .ok (.aload_n 0, 1) := kqo_2a kbl_X1_placeOf (pc := 10) rfl
theorem dX1_placeOf_11 : decode cX1_placeOf 11 = .ok (.getfield 9, 3) := kqo_b4 (x1 := 0) (x2 := 9) kbl_X1_placeOf (pc := 11) rfl rfl
theorem dX1_placeOf_14 : decode cX1_placeOf 14 = .ok (.iload_n 2, 1) := kqo_1c kbl_X1_placeOf (pc := 14) rfl
theorem dX1_placeOf_15 : decode cX1_placeOf 15 = .ok (.iaload, 1) := kqo_2e kbl_X1_placeOf (pc := 15) rfl
theorem dX1_placeOf_16 : decode cX1_placeOf 16 = .ok (.iload_n 1, 1) := kqo_1b kbl_X1_placeOf (pc := 16) rfl
theorem dX1_placeOf_17 : decode cX1_placeOf 17 = .ok (.if_icmp .ne 5, 3) := kqo_a0 (x1 := 0) (x2 := 5) kbl_X1_placeOf (pc := 17) rfl rfl
theorem dX1_placeOf_20 : decode cX1_placeOf 20 = .ok (.iload_n 2, 1) := kqo_1c kbl_X1_placeOf (pc := 20) rfl
theorem dX1_placeOf_21 : decode cX1_placeOf 21 = .ok (.ireturn, 1) := kqo_ac kbl_X1_placeOf (pc := 21) rfl
theorem dX1_placeOf_22 : decode cX1_placeOf 22 = .ok (.iinc 2 1, 3) := kqo_84 (x1 := 2) (x2 := 1) kbl_X1_placeOf (pc := 22) rfl rfl
theorem dX1_placeOf_25 : decode cX1_placeOf 25 = .ok (.goto (-23), 3) := kqo_a7 (x1 := 255) (x2 := 233) kbl_X1_placeOf (pc := 25) rfl rfl
theorem dX1_placeOf_28 : decode cX1_placeOf 28 = .ok (.bipush (-9), 2) := kqo_10 (x1 := 247) kbl_X1_placeOf (pc := 28) rfl rfl
theorem dX1_placeOf_30 : decode cX1_placeOf 30 = .ok (.ireturn, 1) := kqo_ac kbl_X1_placeOf (pc := 30) rfl
set_option maxRecDepth 20000 in
theorem mw_X1_placeOf_0 : (.fieldLink RX1 21 "FontRuns$Preference" "count" "I" : Cond) ∈ wsX1_placeOf := List.mem_cons_of_mem _ (List.mem_append_left _ (List.mem_of_getElem? (i := 0) rfl))
set_option maxRecDepth 20000 in
theorem mw_X1_placeOf_1 : (.fieldLink RX1 9 "FontRuns$Preference" "row" "[I" : Cond) ∈ wsX1_placeOf := List.mem_cons_of_mem _ (List.mem_append_left _ (List.mem_of_getElem? (i := 1) rfl))
set_option maxHeartbeats 4000000 in
set_option maxRecDepth 100000 in
theorem c_X1_placeOf (l : Launch) (D : va_G) (sz : Nat) (f : Int) (h0 : Nat) (r1 : Nat) (n : Int) (cr1 : ClassId) (fr : Nat → Int32) (q0 : rg f) (q1 : 0 ≤ n ∧ n ≤ 4) (q2 : kPr fr) : Met l yX1_placeOf wsX1_placeOf ({ frames := 0, cells := 0, slots := 0, locals := 0 }) (kPre [.ref h0, .int (zI f)] D [(h0, .inr (1, [.ref r1, .int (zI n)])), (r1, .inl (cr1, 4, .inl fr))] [(cr1, .int)] sz) (QcP (fun rz => rz = -9 ∨ (0 ≤ rz ∧ rz ≤ n - 1 ∧ 0 ≤ f ∧ f ≤ 3))) 0 0 (fun _ => False) := by
  refine Met.ofW (cc := cX1_placeOf) (maxL := 3) (ret := (some .int)) (by decide) rfl ?_
  intro p e s m args below meth c s₁ B hml hv
  obtain ⟨rfl, hsz, hP, hK, hD0, hN⟩ := hv
  have hx := B.exec
  have hb := B.bytes
  have hr := B.returns
  have hts := atoms_spec (ws := wsX1_placeOf) B.pre
  have hown : s.vm.findClass RX1 = some m.cls := findClass_of_methodNamed B.named
  have hlocks := B.notSynchronized
  subst hsz
  have hD := hD0
  have hP : va_P D vwCl [(h0, .inr (1, [.ref r1, .int (zI n)])), (r1, .inl (cr1, 4, .inl fr))] s.heap := hP
  have hl := lv_entry ([.ref h0, .int (zI f)]) (n := 3) (Nat.le_of_ble_eq_true rfl)
  rw [lg_entry_eq]
  generalize (lg_sl ([.ref h0, .int (zI f)]) ++ List.replicate (3 - (lg_sl ([.ref h0, .int (zI f)])).length) Slot.unset).toArray = ls at hl ⊢
  have hl : lv_has ls 3 [(0, .ref h0), (1, .int (zI f))] := hl
  refine lv_iconst (v := zI 0) hx hb dX1_placeOf_0 rfl ?_
  refine lv_istore_n (lv' := [(2, .int (zI 0)), (0, .ref h0), (1, .int (zI f))]) hx hb dX1_placeOf_1 rfl hl (by decide) rfl (fun ls hl => ?_)
  refine k_loopM (I := fun n9 H locs ls => ∃ (jk : Int), n9 = (n - jk).toNat ∧ (0 ≤ jk ∧ jk ≤ n) ∧ H = s.heap ∧ locs = [] ∧ lv_has ls 3 [(2, .int (zI jk)), (0, .ref h0), (1, .int (zI f))]) ?_ _ ⟨0, rfl, (by omega), rfl, rfl, hl⟩
  intro n2 ih2 H locs ls hI
  obtain ⟨jk, en2, v_20, eH, eL, hl⟩ := hI
  subst eH
  subst eL
  refine lv_iload_n hx hb dX1_placeOf_2 rfl (lv_at hl 0 rfl) ?_
  refine lv_aload_n hx hb dX1_placeOf_3 rfl (lv_at hl 1 rfl) ?_
  refine va_get (D := D) (ci := 1) (v := .int (zI n)) (C := RX1) (T := TX1) (N := 2) hx hb hts (fun _ h9 => List.mem_cons_of_mem _ (List.mem_append_right _ h9)) hown hK hP 0 rfl rfl 1 (by decide) (hts (.fieldLink RX1 21 "FontRuns$Preference" "count" "I") mw_X1_placeOf_0) (fun _ h9 => h9) rfl dX1_placeOf_4 ?_
  refine kz_icmp_ge (tgt := 28) hx hb dX1_placeOf_7 (by decide) (by omega) (by omega) (fun c_1 => ?_) (fun c_1 => ?_)
  · refine lv_bipush (v := zI (-9)) hx hb dX1_placeOf_28 (by decide) ?_
    exact W.iret (v := (zI (-9))) hx hb hr (fun t ht hW => QcP_of (by omega) (by omega) ht) (fun _ h9 => by cases h9) dX1_placeOf_30
  · refine lv_aload_n hx hb dX1_placeOf_10 rfl (lv_at hl 1 rfl) ?_
    refine va_get (D := D) (ci := 1) (v := .ref r1) (C := RX1) (T := TX1) (N := 2) hx hb hts (fun _ h9 => List.mem_cons_of_mem _ (List.mem_append_right _ h9)) hown hK hP 0 rfl rfl 0 (by decide) (hts (.fieldLink RX1 9 "FontRuns$Preference" "row" "[I") mw_X1_placeOf_1) (fun _ h9 => h9) rfl dX1_placeOf_11 ?_
    refine lv_iload_n hx hb dX1_placeOf_14 rfl (lv_at hl 0 rfl) ?_
    refine kz_iald hx hb hK hP 1 0 rfl rfl (by omega) dX1_placeOf_15 (fun z_2 rz_2 ez_2 => ?_)
    have bz_2 := kPr_at q2 (by omega) rz_2 ez_2
    refine lv_iload_n hx hb dX1_placeOf_16 rfl (lv_at hl 2 rfl) ?_
    refine kz_icmp_ne (tgt := 22) hx hb dX1_placeOf_17 (by decide) (by omega) (by omega) (fun c_3 => ?_) (fun c_3 => ?_)
    · refine lv_iinc (v := (zI (jk + 1))) (lv' := [(2, .int (zI (jk + 1))), (0, .ref h0), (1, .int (zI f))]) hx hb dX1_placeOf_22 hl (k := 0) rfl (kz_inc _ 1) (by decide) rfl (fun ls hl => ?_)
      refine lv_goto (tgt := 2) hx hb dX1_placeOf_25 (by decide) ?_
      exact ih2 _ (by omega) _ _ _ ⟨(jk + 1), rfl, (by omega), rfl, rfl, lv_sub hl [0, 1, 2] rfl⟩
    · refine lv_iload_n hx hb dX1_placeOf_20 rfl (lv_at hl 0 rfl) ?_
      exact W.iret (v := (zI jk)) hx hb hr (fun t ht hW => QcP_of (by omega) (by omega) ht) (fun _ h9 => by cases h9) dX1_placeOf_21
theorem dX1_begin_0 : decode cX1_begin 0 = .ok (.aload_n 0, 1) := kqo_2a kbl_X1_begin (pc := 0) rfl
theorem dX1_begin_1 : decode cX1_begin 1 = .ok (.iload_n 1, 1) := kqo_1b kbl_X1_begin (pc := 1) rfl
theorem dX1_begin_2 : decode cX1_begin 2 = .ok (.iconst 4, 1) := kqo_07 kbl_X1_begin (pc := 2) rfl
theorem dX1_begin_3 : decode cX1_begin 3 = .ok (.invokestatic 15, 3) := kqo_b8 (x1 := 0) (x2 := 15) kbl_X1_begin (pc := 3) rfl rfl
theorem dX1_begin_6 : decode cX1_begin 6 = .ok (.putfield 21, 3) := kqo_b5 (x1 := 0) (x2 := 21) kbl_X1_begin (pc := 6) rfl rfl
theorem dX1_begin_9 : decode cX1_begin 9 = .ok (.iconst 0, 1) := kqo_03 kbl_X1_begin (pc := 9) rfl
theorem dX1_begin_10 : decode cX1_begin 10 = .ok (.istore_n 2, 1) := kqo_3d kbl_X1_begin (pc := 10) rfl
theorem dX1_begin_11 : decode cX1_begin 11 = .ok (.iload_n 2, 1) := kqo_1c kbl_X1_begin (pc := 11) rfl
theorem dX1_begin_12 : decode cX1_begin 12 = .ok (.aload_n 0, 1) := kqo_2a kbl_X1_begin (pc := 12) rfl
theorem dX1_begin_13 : decode cX1_begin 13 = .ok (.getfield 21, 3) := kqo_b4 (x1 := 0) (x2 := 21) kbl_X1_begin (pc := 13) rfl rfl
theorem dX1_begin_16 : decode cX1_begin 16 = .ok (.if_icmp .ge 16, 3) := kqo_a2 (x1 := 0) (x2 := 16) kbl_X1_begin (pc := 16) rfl rfl
theorem dX1_begin_19 : decode cX1_begin 19 = .ok (.aload_n 0, 1) := kqo_2a kbl_X1_begin (pc := 19) rfl
theorem dX1_begin_20 : decode cX1_begin 20 = .ok (.getfield 9, 3) := kqo_b4 (x1 := 0) (x2 := 9) kbl_X1_begin (pc := 20) rfl rfl
theorem dX1_begin_23 : decode cX1_begin 23 = .ok (.iload_n 2, 1) := kqo_1c kbl_X1_begin (pc := 23) rfl
theorem dX1_begin_24 : decode cX1_begin 24 = .ok (.iload_n 2, 1) := kqo_1c kbl_X1_begin (pc := 24) rfl
theorem dX1_begin_25 : decode cX1_begin 25 = .ok (.iastore, 1) := kqo_4f kbl_X1_begin (pc := 25) rfl
theorem dX1_begin_26 : decode cX1_begin 26 = .ok (.iinc 2 1, 3) := kqo_84 (x1 := 2) (x2 := 1) kbl_X1_begin (pc := 26) rfl rfl
theorem dX1_begin_29 : decode cX1_begin 29 = .ok (.goto (-18), 3) := kqo_a7 (x1 := 255) (x2 := 238) kbl_X1_begin (pc := 29) rfl rfl
theorem dX1_begin_32 : decode cX1_begin 32 = .ok (.return_, 1) := kqo_b1 kbl_X1_begin (pc := 32) rfl
set_option maxRecDepth 20000 in
theorem mw_X1_begin_0 : (.methodLink RX1 15 Lib.Math.min.name : Cond) ∈ wsX1_begin := List.mem_cons_of_mem _ (List.mem_append_left _ (List.mem_of_getElem? (i := 0) rfl))
set_option maxRecDepth 20000 in
theorem mw_X1_begin_1 : (.static Lib.Math.min.name : Cond) ∈ wsX1_begin := List.mem_cons_of_mem _ (List.mem_append_left _ (List.mem_of_getElem? (i := 1) rfl))
set_option maxRecDepth 20000 in
theorem mw_X1_begin_2 : (.initialized "java/lang/Math" : Cond) ∈ wsX1_begin := List.mem_cons_of_mem _ (List.mem_append_left _ (List.mem_of_getElem? (i := 2) rfl))
set_option maxRecDepth 20000 in
theorem mw_X1_begin_3 : (.code Lib.Math.min.name Lib.Math.min.code 2 (some .int) : Cond) ∈ wsX1_begin := List.mem_cons_of_mem _ (List.mem_append_left _ (List.mem_of_getElem? (i := 3) rfl))
set_option maxRecDepth 20000 in
theorem mw_X1_begin_4 : (.fieldLink RX1 21 "FontRuns$Preference" "count" "I" : Cond) ∈ wsX1_begin := List.mem_cons_of_mem _ (List.mem_append_left _ (List.mem_of_getElem? (i := 4) rfl))
set_option maxRecDepth 20000 in
theorem mw_X1_begin_5 : (.fieldLink RX1 9 "FontRuns$Preference" "row" "[I" : Cond) ∈ wsX1_begin := List.mem_cons_of_mem _ (List.mem_append_left _ (List.mem_of_getElem? (i := 5) rfl))
theorem ax_X1_begin_0 {e0 e1 : Nat × va_E} : ([0, 1] : List Nat).map (fun i => ([e0, e1] : va_W)[i]?) = ([e0, e1] : va_W).map some := rfl
set_option maxHeartbeats 4000000 in
set_option maxRecDepth 100000 in
theorem c_X1_begin (l : Launch) (D : va_G) (sz : Nat) (k : Int) (h0 : Nat) (r1 : Nat) (n : Int) (cr1 : ClassId) (fr : Nat → Int32) (q0 : rg k ∧ 0 ≤ k) (q1 : kPr fr) : Met l yX1_begin wsX1_begin ({ frames := 1, cells := 0, slots := 0, locals := 21 }) (kPre [.ref h0, .int (zI k)] D [(h0, .inr (1, [.ref r1, .int (zI n)])), (r1, .inl (cr1, 4, .inl fr))] [(cr1, .int)] sz) (kQV (fun t => ∃ (un : Int) (uf : Nat → Int32), (0 ≤ un ∧ un ≤ 4) ∧ (kPr uf) ∧ va_P D vwCl [(h0, .inr (1, [.ref r1, .int (zI un)])), (r1, .inl (cr1, 4, .inl uf))] t.heap ∧ va_D (va_A [(h0, .inr (1, [.ref r1, .int (zI n)])), (r1, .inl (cr1, 4, .inl fr))] sz) [(h0, .inr (1, [.ref r1, .int (zI un)])), (r1, .inl (cr1, 4, .inl uf))]) (va_A [(h0, .inr (1, [.ref r1, .int (zI n)])), (r1, .inl (cr1, 4, .inl fr))] sz)) 0 0 (va_A [(h0, .inr (1, [.ref r1, .int (zI n)])), (r1, .inl (cr1, 4, .inl fr))] sz) := by
  refine Met.ofW (cc := cX1_begin) (maxL := 3) (ret := none) (by decide) rfl ?_
  intro p e s m args below meth c s₁ B hml hv
  obtain ⟨rfl, hsz, hP, hK, hD0, hN⟩ := hv
  have hx := B.exec
  have hb := B.bytes
  have hr := B.returns
  have hts := atoms_spec (ws := wsX1_begin) B.pre
  have hown : s.vm.findClass RX1 = some m.cls := findClass_of_methodNamed B.named
  have hlocks := B.notSynchronized
  subst hsz
  have hD := hD0.self (sz := s.heap.size)
  generalize hAe : va_A [(h0, .inr (1, [.ref r1, .int (zI n)])), (r1, .inl (cr1, 4, .inl fr))] s.heap.size = A at hD ⊢
  have hA : ∀ q : Nat, s.heap.size ≤ q → A q := fun q h => by rw [← hAe]; exact Or.inr h
  have hS : va_S A s.heap s.heap [] := va_S.rf
  have hP : va_P D vwCl [(h0, .inr (1, [.ref r1, .int (zI n)])), (r1, .inl (cr1, 4, .inl fr))] s.heap := hP
  have hl := lv_entry ([.ref h0, .int (zI k)]) (n := 3) (Nat.le_of_ble_eq_true rfl)
  rw [lg_entry_eq]
  generalize (lg_sl ([.ref h0, .int (zI k)]) ++ List.replicate (3 - (lg_sl ([.ref h0, .int (zI k)])).length) Slot.unset).toArray = ls at hl ⊢
  have hl : lv_has ls 3 [(0, .ref h0), (1, .int (zI k))] := hl
  refine lv_aload_n hx hb dX1_begin_0 rfl (lv_at hl 0 rfl) ?_
  refine lv_iload_n hx hb dX1_begin_1 rfl (lv_at hl 1 rfl) ?_
  refine lv_iconst (v := zI 4) hx hb dX1_begin_2 rfl ?_
  refine kz_min hx hb (by rw [hml]; exact hl.1.symm) hown (hts (.methodLink RX1 15 Lib.Math.min.name) mw_X1_begin_0) (hts (.static Lib.Math.min.name) mw_X1_begin_1) (hts (.initialized "java/lang/Math") mw_X1_begin_2) (hts (.code Lib.Math.min.name Lib.Math.min.code 2 (some .int)) mw_X1_begin_3) (Nat.le_of_ble_eq_true rfl) (Nat.le_of_ble_eq_true rfl) (Nat.le_of_ble_eq_true rfl) (Nat.le_of_ble_eq_true rfl) (by omega) (by omega) dX1_begin_3 (fun z_1 rz_1 ez_1 => ?_)
  refine va_put (D := D) (ci := 1) (v := .int (zI z_1)) (ty := .int) (C := RX1) (T := TX1) (N := 2) hx hb hts (fun _ h9 => List.mem_cons_of_mem _ (List.mem_append_right _ h9)) tyX1 tyX1_ok nmX1 hown hK hP hD hS 0 rfl rfl 1 (by decide) (hts (.fieldLink RX1 21 "FontRuns$Preference" "count" "I") mw_X1_begin_4) (fun _ h9 => h9) rfl (by decide +kernel) rfl rfl (Nat.le_of_ble_eq_true rfl) dX1_begin_6 (fun H locs hP hD hS => ?_)
  have hP : va_P D vwCl [(h0, .inr (1, [.ref r1, .int (zI z_1)])), (r1, .inl (cr1, 4, .inl fr))] H := hP
  have hD : va_D A [(h0, .inr (1, [.ref r1, .int (zI z_1)])), (r1, .inl (cr1, 4, .inl fr))] := hD
  refine lv_iconst (v := zI 0) hx hb dX1_begin_9 rfl ?_
  refine lv_istore_n (lv' := [(2, .int (zI 0)), (0, .ref h0), (1, .int (zI k))]) hx hb dX1_begin_10 rfl hl (by decide) rfl (fun ls hl => ?_)
  refine k_loopM (I := fun n9 H locs ls => ∃ (jk : Int) (ja : Nat → Int32), n9 = (4 - jk).toNat ∧ (0 ≤ jk ∧ jk ≤ 4) ∧ (kPr ja) ∧ va_P D vwCl [(h0, .inr (1, [.ref r1, .int (zI z_1)])), (r1, .inl (cr1, 4, .inl ja))] H ∧ va_D A [(h0, .inr (1, [.ref r1, .int (zI z_1)])), (r1, .inl (cr1, 4, .inl ja))] ∧ va_S A s.heap H locs ∧ lv_has ls 3 [(2, .int (zI jk)), (0, .ref h0), (1, .int (zI k))]) ?_ _ ⟨0, fr, rfl, (by omega), q1, hP, hD, hS, hl⟩
  intro n11 ih11 H locs ls hI
  obtain ⟨jk, ja, en11, v_110, v_111, hP, hD, hS, hl⟩ := hI
  refine lv_iload_n hx hb dX1_begin_11 rfl (lv_at hl 0 rfl) ?_
  refine lv_aload_n hx hb dX1_begin_12 rfl (lv_at hl 1 rfl) ?_
  refine va_get (D := D) (ci := 1) (v := .int (zI z_1)) (C := RX1) (T := TX1) (N := 2) hx hb hts (fun _ h9 => List.mem_cons_of_mem _ (List.mem_append_right _ h9)) hown hK hP 0 rfl rfl 1 (by decide) (hts (.fieldLink RX1 21 "FontRuns$Preference" "count" "I") mw_X1_begin_4) (fun _ h9 => h9) rfl dX1_begin_13 ?_
  refine kz_icmp_ge (tgt := 32) hx hb dX1_begin_16 (by decide) (by omega) (by omega) (fun c_2 => ?_) (fun c_2 => ?_)
  · have hP9 := hP.sub (ws' := [(h0, .inr (1, [.ref r1, .int (zI z_1)])), (r1, .inl (cr1, 4, .inl ja))]) [0, 1] rfl
    have hD9 := hD.sub (ws' := [(h0, .inr (1, [.ref r1, .int (zI z_1)])), (r1, .inl (cr1, 4, .inl ja))]) [0, 1] (by decide +kernel) rfl
    exact W.vret hx hb hr (fun t ht hW => kQV_of ⟨z_1, ja, (by omega), v_111, by rw [ht]; exact hP9, hD9⟩ (hS.F ht)) hS.2.2 dX1_begin_32
  · refine lv_aload_n hx hb dX1_begin_19 rfl (lv_at hl 1 rfl) ?_
    refine va_get (D := D) (ci := 1) (v := .ref r1) (C := RX1) (T := TX1) (N := 2) hx hb hts (fun _ h9 => List.mem_cons_of_mem _ (List.mem_append_right _ h9)) hown hK hP 0 rfl rfl 0 (by decide) (hts (.fieldLink RX1 9 "FontRuns$Preference" "row" "[I") mw_X1_begin_5) (fun _ h9 => h9) rfl dX1_begin_20 ?_
    refine lv_iload_n hx hb dX1_begin_23 rfl (lv_at hl 0 rfl) ?_
    refine lv_iload_n hx hb dX1_begin_24 rfl (lv_at hl 0 rfl) ?_
    refine kz_iast hx hb hK hP hD hS 1 0 rfl rfl (by omega) dX1_begin_25 (fun H locs hP hD hS => ?_)
    have hP : va_P D vwCl [(h0, .inr (1, [.ref r1, .int (zI z_1)])), (r1, .inl (cr1, 4, .inl (upd ja (jk).toNat (zI jk))))] H := hP
    have hD : va_D A [(h0, .inr (1, [.ref r1, .int (zI z_1)])), (r1, .inl (cr1, 4, .inl (upd ja (jk).toNat (zI jk))))] := hD
    have k_4 : kPr (upd ja (jk).toNat (zI jk)) := kPr_upd v_111 (by omega) (by omega)
    generalize ef_3 : upd ja (jk).toNat (zI jk) = f_3 at hP hD k_4
    refine lv_iinc (v := (zI (jk + 1))) (lv' := [(2, .int (zI (jk + 1))), (0, .ref h0), (1, .int (zI k))]) hx hb dX1_begin_26 hl (k := 0) rfl (kz_inc _ 1) (by decide) rfl (fun ls hl => ?_)
    refine lv_goto (tgt := 11) hx hb dX1_begin_29 (by decide) ?_
    exact ih11 _ (by omega) _ _ _ ⟨(jk + 1), f_3, rfl, (by omega), k_4, hP, hD, hS, lv_sub hl [0, 1, 2] rfl⟩
theorem dX1_lead_0 : decode cX1_lead 0 = .ok (.aload_n 0, 1) := kqo_2a kbl_X1_lead (pc := 0) rfl
theorem dX1_lead_1 : decode cX1_lead 1 = .ok (.iload_n 1, 1) := kqo_1b kbl_X1_lead (pc := 1) rfl
theorem dX1_lead_2 : decode cX1_lead 2 = .ok (.invokevirtual 25, 3) := kqo_b6 (x1 := 0) (x2 := 25) kbl_X1_lead (pc := 2) rfl rfl
theorem dX1_lead_5 : decode cX1_lead 5 = .ok (.istore_n 2, 1) := kqo_3d kbl_X1_lead (pc := 5) rfl
theorem dX1_lead_6 : decode cX1_lead 6 = .ok (.iload_n 2, 1) := kqo_1c kbl_X1_lead (pc := 6) rfl
theorem dX1_lead_7 : decode cX1_lead 7 = .ok (.bipush (-9), 2) := kqo_10 (x1 := 247) kbl_X1_lead (pc := 7) rfl rfl
theorem dX1_lead_9 : decode cX1_lead 9 = .ok (.if_icmp .ne 5, 3) := kqo_a0 (x1 := 0) (x2 := 5) kbl_X1_lead (pc := 9) rfl rfl
theorem dX1_lead_12 : decode cX1_lead 12 = .ok (.iconst 0, 1) := kqo_03 kbl_X1_lead (pc := 12) rfl
theorem dX1_lead_13 : decode cX1_lead 13 = .ok (.ireturn, 1) := kqo_ac kbl_X1_lead (pc := 13) rfl
theorem dX1_lead_14 : decode cX1_lead 14 = .ok (.iload_n 2, 1) := kqo_1c kbl_X1_lead (pc := 14) rfl
theorem dX1_lead_15 : decode cX1_lead 15 = .ok (.istore_n 3, 1) := kqo_3e kbl_X1_lead (pc := 15) rfl
theorem dX1_lead_16 : decode cX1_lead 16 = .ok (.iload_n 3, 1) := kqo_1d kbl_X1_lead (pc := 16) rfl
theorem dX1_lead_17 : decode cX1_lead 17 = .ok (.ifCond .le 23, 3) := kqo_9e (x1 := 0) (x2 := 23) kbl_X1_lead (pc := 17) rfl rfl
theorem dX1_lead_20 : decode cX1_lead 20 = .ok (.aload_n 0, 1) := kqo_2a kbl_X1_lead (pc := 20) rfl
theorem dX1_lead_21 : decode cX1_lead 21 = .ok (.getfield 9, 3) := kqo_b4 (x1 := 0) (x2 := 9) kbl_X1_lead (pc := 21) rfl rfl
theorem dX1_lead_24 : decode cX1_lead 24 = .ok (.iload_n 3, 1) := kqo_1d kbl_X1_lead (pc := 24) rfl
theorem dX1_lead_25 : decode cX1_lead 25 = .ok (.aload_n 0, 1) := kqo_2a kbl_X1_lead (pc := 25) rfl
theorem dX1_lead_26 : decode cX1_lead 26 = .ok (.getfield 9, 3) := kqo_b4 (x1 := 0) (x2 := 9) kbl_X1_lead (pc := 26) rfl rfl
theorem dX1_lead_29 : decode cX1_lead 29 = .ok (.iload_n 3, 1) := kqo_1d kbl_X1_lead (pc := 29) rfl
theorem dX1_lead_30 : decode cX1_lead 30 = .ok (.iconst 1, 1) := kqo_04 kbl_X1_lead (pc := 30) rfl
theorem dX1_lead_31 : decode cX1_lead 31 = .ok (.isub, 1) := kqo_64 kbl_X1_lead (pc := 31) rfl
theorem dX1_lead_32 : decode cX1_lead 32 = .ok (.iaload, 1) := kqo_2e kbl_X1_lead (pc := 32) rfl
theorem dX1_lead_33 : decode cX1_lead 33 = .ok (.iastore, 1) := kqo_4f kbl_X1_lead (pc := 33) rfl
theorem dX1_lead_34 : decode cX1_lead 34 = .ok (.iinc 3 (-1), 3) := kqo_84 (x1 := 3) (x2 := 255) kbl_X1_lead (pc := 34) rfl rfl
theorem dX1_lead_37 : decode cX1_lead 37 = .ok (.goto (-21), 3) := kqo_a7 (x1 := 255) (x2 := 235) kbl_X1_lead (pc := 37) rfl rfl
theorem dX1_lead_40 : decode cX1_lead 40 = .ok (.aload_n 0, 1) := kqo_2a kbl_X1_lead (pc := 40) rfl
theorem dX1_lead_41 : decode cX1_lead 41 = .ok (.getfield 9, 3) := kqo_b4 (x1 := 0) (x2 := 9) kbl_X1_lead (pc := 41) rfl rfl
theorem dX1_lead_44 : decode cX1_lead 44 = .ok (.iconst 0, 1) := kqo_03 kbl_X1_lead (pc := 44) rfl
theorem dX1_lead_45 : decode cX1_lead 45 = .ok (.iload_n 1, 1) := kqo_1b kbl_X1_lead (pc := 45) rfl
theorem dX1_lead_46 : decode cX1_lead 46 = .ok (.iastore, 1) := kqo_4f kbl_X1_lead (pc := 46) rfl
theorem dX1_lead_47 : decode cX1_lead 47 = .ok (.iconst 1, 1) := kqo_04 kbl_X1_lead (pc := 47) rfl
theorem dX1_lead_48 : decode cX1_lead 48 = .ok (.ireturn, 1) := kqo_ac kbl_X1_lead (pc := 48) rfl
set_option maxRecDepth 20000 in
theorem ggX1_lead_X1_placeOf : GoodIn wsX1_lead wsX1_placeOf := goodIn_4 _ (List.forall_mem_cons.mpr ⟨List.mem_cons_of_mem _ (List.mem_append_left _ (List.mem_of_getElem? (i := 5) rfl)), List.forall_mem_append.mpr ⟨List.forall_mem_cons.mpr ⟨List.mem_cons_of_mem _ (List.mem_append_left _ (List.mem_of_getElem? (i := 6) rfl)), List.forall_mem_cons.mpr ⟨List.mem_cons_of_mem _ (List.mem_append_left _ (List.mem_of_getElem? (i := 0) rfl)), fun _ h9 => absurd h9 List.not_mem_nil⟩⟩, fun w h9 => List.mem_cons_of_mem _ (List.mem_append_right _ (h9))⟩⟩) (by decide +kernel)
set_option maxRecDepth 20000 in
theorem gX1_lead_X1_placeOf : GoodIn wsX1_lead (wsV RX1 25 RX1 yX1_placeOf wsX1_placeOf) := goodIn_app (goodIn_4 _ (List.forall_mem_cons.mpr ⟨List.mem_cons_of_mem _ (List.mem_append_left _ (List.mem_of_getElem? (i := 1) rfl)), List.forall_mem_cons.mpr ⟨List.mem_cons_of_mem _ (List.mem_append_left _ (List.mem_of_getElem? (i := 2) rfl)), List.forall_mem_cons.mpr ⟨List.mem_cons_of_mem _ (List.mem_append_left _ (List.mem_of_getElem? (i := 3) rfl)), List.forall_mem_cons.mpr ⟨List.mem_cons_of_mem _ (List.mem_append_left _ (List.mem_of_getElem? (i := 4) rfl)), fun _ h9 => absurd h9 List.not_mem_nil⟩⟩⟩⟩) (by decide +kernel)) ggX1_lead_X1_placeOf
set_option maxRecDepth 20000 in
theorem mw_X1_lead_0 : (.fieldLink RX1 9 "FontRuns$Preference" "row" "[I" : Cond) ∈ wsX1_lead := List.mem_cons_of_mem _ (List.mem_append_left _ (List.mem_of_getElem? (i := 0) rfl))
theorem ax_X1_lead_0 {e0 e1 : Nat × va_E} : ([0, 1] : List Nat).map (fun i => ([e0, e1] : va_W)[i]?) = ([e0, e1] : va_W).map some := rfl
set_option maxHeartbeats 4000000 in
set_option maxRecDepth 100000 in
theorem c_X1_lead (l : Launch) (D : va_G) (sz : Nat) (f : Int) (h0 : Nat) (r1 : Nat) (n : Int) (cr1 : ClassId) (fr : Nat → Int32) (q0 : rg f) (q1 : 0 ≤ n ∧ n ≤ 4) (q2 : kPr fr) : Met l yX1_lead wsX1_lead ({ frames := 1, cells := 0, slots := 0, locals := 22 }) (kPre [.ref h0, .int (zI f)] D [(h0, .inr (1, [.ref r1, .int (zI n)])), (r1, .inl (cr1, 4, .inl fr))] [(cr1, .int)] sz) (kQS (fun rz t => ∃ (uf : Nat → Int32), (kPr uf) ∧ (rz = 0 ∨ rz = 1) ∧ va_P D vwCl [(h0, .inr (1, [.ref r1, .int (zI n)])), (r1, .inl (cr1, 4, .inl uf))] t.heap ∧ va_D (va_A [(h0, .inr (1, [.ref r1, .int (zI n)])), (r1, .inl (cr1, 4, .inl fr))] sz) [(h0, .inr (1, [.ref r1, .int (zI n)])), (r1, .inl (cr1, 4, .inl uf))]) (va_A [(h0, .inr (1, [.ref r1, .int (zI n)])), (r1, .inl (cr1, 4, .inl fr))] sz)) 0 0 (va_A [(h0, .inr (1, [.ref r1, .int (zI n)])), (r1, .inl (cr1, 4, .inl fr))] sz) := by
  refine Met.ofW (cc := cX1_lead) (maxL := 4) (ret := (some .boolean)) (by decide) rfl ?_
  intro p e s m args below meth c s₁ B hml hv
  obtain ⟨rfl, hsz, hP, hK, hD0, hN⟩ := hv
  have hx := B.exec
  have hb := B.bytes
  have hr := B.returns
  have hts := atoms_spec (ws := wsX1_lead) B.pre
  have hown : s.vm.findClass RX1 = some m.cls := findClass_of_methodNamed B.named
  have hlocks := B.notSynchronized
  subst hsz
  have hD := hD0.self (sz := s.heap.size)
  generalize hAe : va_A [(h0, .inr (1, [.ref r1, .int (zI n)])), (r1, .inl (cr1, 4, .inl fr))] s.heap.size = A at hD ⊢
  have hA : ∀ q : Nat, s.heap.size ≤ q → A q := fun q h => by rw [← hAe]; exact Or.inr h
  have hS : va_S A s.heap s.heap [] := va_S.rf
  have hP : va_P D vwCl [(h0, .inr (1, [.ref r1, .int (zI n)])), (r1, .inl (cr1, 4, .inl fr))] s.heap := hP
  have hl := lv_entry ([.ref h0, .int (zI f)]) (n := 4) (Nat.le_of_ble_eq_true rfl)
  rw [lg_entry_eq]
  generalize (lg_sl ([.ref h0, .int (zI f)]) ++ List.replicate (4 - (lg_sl ([.ref h0, .int (zI f)])).length) Slot.unset).toArray = ls at hl ⊢
  have hl : lv_has ls 4 [(0, .ref h0), (1, .int (zI f))] := hl
  refine lv_aload_n hx hb dX1_lead_0 rfl (lv_at hl 0 rfl) ?_
  refine lv_iload_n hx hb dX1_lead_1 rfl (lv_at hl 1 rfl) ?_
  refine k_callP (va_runV (As := [.int (zI f)]) (rest := []) ⟨hx, hb, hml, hown, hts⟩ (c_X1_placeOf l D s.heap.size (f := f) (h0 := h0) (r1 := r1) (n := n) (cr1 := cr1) (fr := fr) q0 q1 q2) (cwV 1 hts gX1_lead_X1_placeOf rfl rfl rfl (by decide +kernel) ⟨Nat.le_of_ble_eq_true rfl, Nat.le_of_ble_eq_true rfl⟩) (kPreV hP (kD0 hD) hK hN [0, 1] [0] ax_X1_lead_0 rfl (by decide +kernel) 0 1 rfl rfl) rfl rfl hl.1 rfl (lv_room (Nat.le_of_ble_eq_true rfl)) dX1_lead_2 ⟨Nat.le_of_ble_eq_true rfl, Nat.le_of_ble_eq_true rfl⟩) (fun z_1 rz_1 h_2 => ?_)
  refine lv_istore_n (lv' := [(2, .int (zI z_1)), (0, .ref h0), (1, .int (zI f))]) hx hb dX1_lead_5 rfl hl (by decide) rfl (fun ls hl => ?_)
  refine lv_iload_n hx hb dX1_lead_6 rfl (lv_at hl 0 rfl) ?_
  refine lv_bipush (v := zI (-9)) hx hb dX1_lead_7 (by decide) ?_
  refine kz_icmp_ne (tgt := 14) hx hb dX1_lead_9 (by decide) (by omega) (by omega) (fun c_3 => ?_) (fun c_3 => ?_)
  · refine lv_iload_n hx hb dX1_lead_14 rfl (lv_at hl 0 rfl) ?_
    refine lv_istore_n (lv' := [(3, .int (zI z_1)), (2, .int (zI z_1)), (0, .ref h0), (1, .int (zI f))]) hx hb dX1_lead_15 rfl hl (by decide) rfl (fun ls hl => ?_)
    refine k_loopM (I := fun n9 H locs ls => ∃ (jk : Int) (ja : Nat → Int32), n9 = (jk).toNat ∧ (0 ≤ jk ∧ jk ≤ 3) ∧ (kPr ja) ∧ va_P D vwCl [(h0, .inr (1, [.ref r1, .int (zI n)])), (r1, .inl (cr1, 4, .inl ja))] H ∧ va_D A [(h0, .inr (1, [.ref r1, .int (zI n)])), (r1, .inl (cr1, 4, .inl ja))] ∧ va_S A s.heap H locs ∧ lv_has ls 4 [(3, .int (zI jk)), (2, .int (zI z_1)), (0, .ref h0), (1, .int (zI f))]) ?_ _ ⟨z_1, fr, rfl, (by omega), q2, hP, hD, hS, hl⟩
    intro n16 ih16 H locs ls hI
    obtain ⟨jk, ja, en16, v_160, v_161, hP, hD, hS, hl⟩ := hI
    refine lv_iload_n hx hb dX1_lead_16 rfl (lv_at hl 0 rfl) ?_
    refine kz_if_le (tgt := 40) hx hb dX1_lead_17 (by decide) (by omega) (fun c_4 => ?_) (fun c_4 => ?_)
    · refine lv_aload_n hx hb dX1_lead_40 rfl (lv_at hl 2 rfl) ?_
      refine va_get (D := D) (ci := 1) (v := .ref r1) (C := RX1) (T := TX1) (N := 2) hx hb hts (fun _ h9 => List.mem_cons_of_mem _ (List.mem_append_right _ h9)) hown hK hP 0 rfl rfl 0 (by decide) (hts (.fieldLink RX1 9 "FontRuns$Preference" "row" "[I") mw_X1_lead_0) (fun _ h9 => h9) rfl dX1_lead_41 ?_
      refine lv_iconst (v := zI 0) hx hb dX1_lead_44 rfl ?_
      refine lv_iload_n hx hb dX1_lead_45 rfl (lv_at hl 3 rfl) ?_
      refine kz_iast hx hb hK hP hD hS 1 0 rfl rfl (by omega) dX1_lead_46 (fun H locs hP hD hS => ?_)
      have hP : va_P D vwCl [(h0, .inr (1, [.ref r1, .int (zI n)])), (r1, .inl (cr1, 4, .inl (upd ja (0 : Int).toNat (zI f))))] H := hP
      have hD : va_D A [(h0, .inr (1, [.ref r1, .int (zI n)])), (r1, .inl (cr1, 4, .inl (upd ja (0 : Int).toNat (zI f))))] := hD
      have k_6 : kPr (upd ja (0 : Int).toNat (zI f)) := kPr_upd v_161 (by omega) (by omega)
      generalize ef_5 : upd ja (0 : Int).toNat (zI f) = f_5 at hP hD k_6
      refine lv_iconst (v := zI 1) hx hb dX1_lead_47 rfl ?_
      have hP9 := hP.sub (ws' := [(h0, .inr (1, [.ref r1, .int (zI n)])), (r1, .inl (cr1, 4, .inl f_5))]) [0, 1] rfl
      have hD9 := hD.sub (ws' := [(h0, .inr (1, [.ref r1, .int (zI n)])), (r1, .inl (cr1, 4, .inl f_5))]) [0, 1] (by decide +kernel) rfl
      exact W.zret (v := (zI 1)) hx hb hr rfl (fun t ht hW => kQS_of (by omega) ⟨f_5, k_6, (by omega), by rw [ht]; exact hP9, hD9⟩ (hS.F ht)) hS.2.2 dX1_lead_48
    · refine lv_aload_n hx hb dX1_lead_20 rfl (lv_at hl 2 rfl) ?_
      refine va_get (D := D) (ci := 1) (v := .ref r1) (C := RX1) (T := TX1) (N := 2) hx hb hts (fun _ h9 => List.mem_cons_of_mem _ (List.mem_append_right _ h9)) hown hK hP 0 rfl rfl 0 (by decide) (hts (.fieldLink RX1 9 "FontRuns$Preference" "row" "[I") mw_X1_lead_0) (fun _ h9 => h9) rfl dX1_lead_21 ?_
      refine lv_iload_n hx hb dX1_lead_24 rfl (lv_at hl 0 rfl) ?_
      refine lv_aload_n hx hb dX1_lead_25 rfl (lv_at hl 2 rfl) ?_
      refine va_get (D := D) (ci := 1) (v := .ref r1) (C := RX1) (T := TX1) (N := 2) hx hb hts (fun _ h9 => List.mem_cons_of_mem _ (List.mem_append_right _ h9)) hown hK hP 0 rfl rfl 0 (by decide) (hts (.fieldLink RX1 9 "FontRuns$Preference" "row" "[I") mw_X1_lead_0) (fun _ h9 => h9) rfl dX1_lead_26 ?_
      refine lv_iload_n hx hb dX1_lead_29 rfl (lv_at hl 0 rfl) ?_
      refine lv_iconst (v := zI 1) hx hb dX1_lead_30 rfl ?_
      refine kz_isub hx hb dX1_lead_31 ?_
      refine kz_iald hx hb hK hP 1 0 rfl rfl (by omega) dX1_lead_32 (fun z_7 rz_7 ez_7 => ?_)
      have bz_7 := kPr_at v_161 (by omega) rz_7 ez_7
      refine kz_iast hx hb hK hP hD hS 1 0 rfl rfl (by omega) dX1_lead_33 (fun H locs hP hD hS => ?_)
      have hP : va_P D vwCl [(h0, .inr (1, [.ref r1, .int (zI n)])), (r1, .inl (cr1, 4, .inl (upd ja (jk).toNat (zI z_7))))] H := hP
      have hD : va_D A [(h0, .inr (1, [.ref r1, .int (zI n)])), (r1, .inl (cr1, 4, .inl (upd ja (jk).toNat (zI z_7))))] := hD
      have k_9 : kPr (upd ja (jk).toNat (zI z_7)) := kPr_upd v_161 (by omega) (by omega)
      generalize ef_8 : upd ja (jk).toNat (zI z_7) = f_8 at hP hD k_9
      refine lv_iinc (v := (zI (jk - 1))) (lv' := [(3, .int (zI (jk - 1))), (2, .int (zI z_1)), (0, .ref h0), (1, .int (zI f))]) hx hb dX1_lead_34 hl (k := 0) rfl (kz_dec _ 1) (by decide) rfl (fun ls hl => ?_)
      refine lv_goto (tgt := 16) hx hb dX1_lead_37 (by decide) ?_
      exact ih16 _ (by omega) _ _ _ ⟨(jk - 1), f_8, rfl, (by omega), k_9, hP, hD, hS, lv_sub hl [0, 1, 2, 3] rfl⟩
  · refine lv_iconst (v := zI 0) hx hb dX1_lead_12 rfl ?_
    have hP9 := hP.sub (ws' := [(h0, .inr (1, [.ref r1, .int (zI n)])), (r1, .inl (cr1, 4, .inl fr))]) [0, 1] rfl
    have hD9 := hD.sub (ws' := [(h0, .inr (1, [.ref r1, .int (zI n)])), (r1, .inl (cr1, 4, .inl fr))]) [0, 1] (by decide +kernel) rfl
    exact W.zret (v := (zI 0)) hx hb hr rfl (fun t ht hW => kQS_of (by omega) ⟨fr, q2, (by omega), by rw [ht]; exact hP9, hD9⟩ (hS.F ht)) hS.2.2 dX1_lead_13
theorem dX1_takeFrom_0 : decode cX1_takeFrom 0 = .ok (.aload_n 0, 1) := kqo_2a kbl_X1_takeFrom (pc := 0) rfl
theorem dX1_takeFrom_1 : decode cX1_takeFrom 1 = .ok (.aload_n 1, 1) := kqo_2b kbl_X1_takeFrom (pc := 1) rfl
theorem dX1_takeFrom_2 : decode cX1_takeFrom 2 = .ok (.getfield 21, 3) := kqo_b4 (x1 := 0) (x2 := 21) kbl_X1_takeFrom (pc := 2) rfl rfl
theorem dX1_takeFrom_5 : decode cX1_takeFrom 5 = .ok (.putfield 21, 3) := kqo_b5 (x1 := 0) (x2 := 21) kbl_X1_takeFrom (pc := 5) rfl rfl
theorem dX1_takeFrom_8 : decode cX1_takeFrom 8 = .ok (.iconst 0, 1) := kqo_03 kbl_X1_takeFrom (pc := 8) rfl
theorem dX1_takeFrom_9 : decode cX1_takeFrom 9 = .ok (.istore_n 2, 1) := kqo_3d kbl_X1_takeFrom (pc := 9) rfl
theorem dX1_takeFrom_10 : decode cX1_takeFrom 10 = .ok (.iload_n 2, 1) := kqo_1c kbl_X1_takeFrom (pc := 10) rfl
theorem dX1_takeFrom_11 : decode cX1_takeFrom 11 = .ok (.iconst 4, 1) := kqo_07 kbl_X1_takeFrom (pc := 11) rfl
theorem dX1_takeFrom_12 : decode cX1_takeFrom 12 = .ok (.if_icmp .ge 21, 3) := kqo_a2 (x1 := 0) (x2 := 21) kbl_X1_takeFrom (pc := 12) rfl rfl
theorem dX1_takeFrom_15 : decode cX1_takeFrom 15 = .ok (.aload_n 0, 1) := kqo_2a kbl_X1_takeFrom (pc := 15) rfl
theorem dX1_takeFrom_16 : decode cX1_takeFrom 16 = .ok (.getfield 9, 3) := kqo_b4 (x1 := 0) (x2 := 9) kbl_X1_takeFrom (pc := 16) rfl rfl
theorem dX1_takeFrom_19 : decode cX1_takeFrom 19 = .ok (.iload_n 2, 1) := kqo_1c kbl_X1_takeFrom (pc := 19) rfl
theorem dX1_takeFrom_20 : decode cX1_takeFrom 20 = .ok (.aload_n 1, 1) := kqo_2b kbl_X1_takeFrom (pc := 20) rfl
theorem dX1_takeFrom_21 : decode cX1_takeFrom 21 = .ok (.getfield 9, 3) := kqo_b4 (x1 := 0) (x2 := 9) kbl_X1_takeFrom (pc := 21) rfl rfl
theorem dX1_takeFrom_24 : decode cX1_takeFrom 24 = .ok (.iload_n 2, 1) := kqo_1c kbl_X1_takeFrom (pc := 24) rfl
theorem dX1_takeFrom_25 : decode cX1_takeFrom 25 = .ok (.iaload, 1) := kqo_2e kbl_X1_takeFrom (pc := 25) rfl
theorem dX1_takeFrom_26 : decode cX1_takeFrom 26 = .ok (.iastore, 1) := kqo_4f kbl_X1_takeFrom (pc := 26) rfl
theorem dX1_takeFrom_27 : decode cX1_takeFrom 27 = .ok (.iinc 2 1, 3) := kqo_84 (x1 := 2) (x2 := 1) kbl_X1_takeFrom (pc := 27) rfl rfl
theorem dX1_takeFrom_30 : decode cX1_takeFrom 30 = .ok (.goto (-20), 3) := kqo_a7 (x1 := 255) (x2 := 236) kbl_X1_takeFrom (pc := 30) rfl rfl
theorem dX1_takeFrom_33 : decode cX1_takeFrom 33 = .ok (.return_, 1) := kqo_b1 kbl_X1_takeFrom (pc := 33) rfl
set_option maxRecDepth 20000 in
theorem mw_X1_takeFrom_0 : (.fieldLink RX1 21 "FontRuns$Preference" "count" "I" : Cond) ∈ wsX1_takeFrom := List.mem_cons_of_mem _ (List.mem_append_left _ (List.mem_of_getElem? (i := 0) rfl))
set_option maxRecDepth 20000 in
theorem mw_X1_takeFrom_1 : (.fieldLink RX1 9 "FontRuns$Preference" "row" "[I" : Cond) ∈ wsX1_takeFrom := List.mem_cons_of_mem _ (List.mem_append_left _ (List.mem_of_getElem? (i := 1) rfl))
theorem ax_X1_takeFrom_0 {e0 e1 e2 e3 : Nat × va_E} : ([0, 1, 2, 3] : List Nat).map (fun i => ([e0, e1, e2, e3] : va_W)[i]?) = ([e0, e1, e2, e3] : va_W).map some := rfl
set_option maxHeartbeats 4000000 in
set_option maxRecDepth 100000 in
theorem c_X1_takeFrom (l : Launch) (D : va_G) (sz : Nat) (h1 : Nat) (h0 : Nat) (r1 : Nat) (n : Int) (cr1 : ClassId) (fr : Nat → Int32) (r2 : Nat) (n2 : Int) (cr2 : ClassId) (fr2 : Nat → Int32) (q0 : 0 ≤ n2 ∧ n2 ≤ 4) (q1 : kPr fr) (q2 : kPr fr2) : Met l yX1_takeFrom wsX1_takeFrom ({ frames := 0, cells := 0, slots := 0, locals := 0 }) (kPre [.ref h0, .ref h1] D [(h0, .inr (1, [.ref r1, .int (zI n)])), (r1, .inl (cr1, 4, .inl fr)), (h1, .inr (1, [.ref r2, .int (zI n2)])), (r2, .inl (cr2, 4, .inl fr2))] [(cr1, .int), (cr2, .int)] sz) (kQV (fun t => ∃ (un : Int) (uf : Nat → Int32), (0 ≤ un ∧ un ≤ 4) ∧ (kPr uf) ∧ va_P D vwCl [(h0, .inr (1, [.ref r1, .int (zI un)])), (r1, .inl (cr1, 4, .inl uf)), (h1, .inr (1, [.ref r2, .int (zI n2)])), (r2, .inl (cr2, 4, .inl fr2))] t.heap ∧ va_D (va_A [(h0, .inr (1, [.ref r1, .int (zI n)])), (r1, .inl (cr1, 4, .inl fr)), (h1, .inr (1, [.ref r2, .int (zI n2)])), (r2, .inl (cr2, 4, .inl fr2))] sz) [(h0, .inr (1, [.ref r1, .int (zI un)])), (r1, .inl (cr1, 4, .inl uf)), (h1, .inr (1, [.ref r2, .int (zI n2)])), (r2, .inl (cr2, 4, .inl fr2))]) (va_A [(h0, .inr (1, [.ref r1, .int (zI n)])), (r1, .inl (cr1, 4, .inl fr)), (h1, .inr (1, [.ref r2, .int (zI n2)])), (r2, .inl (cr2, 4, .inl fr2))] sz)) 0 0 (va_A [(h0, .inr (1, [.ref r1, .int (zI n)])), (r1, .inl (cr1, 4, .inl fr)), (h1, .inr (1, [.ref r2, .int (zI n2)])), (r2, .inl (cr2, 4, .inl fr2))] sz) := by
  refine Met.ofW (cc := cX1_takeFrom) (maxL := 3) (ret := none) (by decide) rfl ?_
  intro p e s m args below meth c s₁ B hml hv
  obtain ⟨rfl, hsz, hP, hK, hD0, hN⟩ := hv
  have hx := B.exec
  have hb := B.bytes
  have hr := B.returns
  have hts := atoms_spec (ws := wsX1_takeFrom) B.pre
  have hown : s.vm.findClass RX1 = some m.cls := findClass_of_methodNamed B.named
  have hlocks := B.notSynchronized
  subst hsz
  have hD := hD0.self (sz := s.heap.size)
  generalize hAe : va_A [(h0, .inr (1, [.ref r1, .int (zI n)])), (r1, .inl (cr1, 4, .inl fr)), (h1, .inr (1, [.ref r2, .int (zI n2)])), (r2, .inl (cr2, 4, .inl fr2))] s.heap.size = A at hD ⊢
  have hA : ∀ q : Nat, s.heap.size ≤ q → A q := fun q h => by rw [← hAe]; exact Or.inr h
  have hS : va_S A s.heap s.heap [] := va_S.rf
  have hP : va_P D vwCl [(h0, .inr (1, [.ref r1, .int (zI n)])), (r1, .inl (cr1, 4, .inl fr)), (h1, .inr (1, [.ref r2, .int (zI n2)])), (r2, .inl (cr2, 4, .inl fr2))] s.heap := hP
  have hl := lv_entry ([.ref h0, .ref h1]) (n := 3) (Nat.le_of_ble_eq_true rfl)
  rw [lg_entry_eq]
  generalize (lg_sl ([.ref h0, .ref h1]) ++ List.replicate (3 - (lg_sl ([.ref h0, .ref h1])).length) Slot.unset).toArray = ls at hl ⊢
  have hl : lv_has ls 3 [(0, .ref h0), (1, .ref h1)] := hl
  refine lv_aload_n hx hb dX1_takeFrom_0 rfl (lv_at hl 0 rfl) ?_
  refine lv_aload_n hx hb dX1_takeFrom_1 rfl (lv_at hl 1 rfl) ?_
  refine va_get (D := D) (ci := 1) (v := .int (zI n2)) (C := RX1) (T := TX1) (N := 2) hx hb hts (fun _ h9 => List.mem_cons_of_mem _ (List.mem_append_right _ h9)) hown hK hP 2 rfl rfl 1 (by decide) (hts (.fieldLink RX1 21 "FontRuns$Preference" "count" "I") mw_X1_takeFrom_0) (fun _ h9 => h9) rfl dX1_takeFrom_2 ?_
  refine va_put (D := D) (ci := 1) (v := .int (zI n2)) (ty := .int) (C := RX1) (T := TX1) (N := 2) hx hb hts (fun _ h9 => List.mem_cons_of_mem _ (List.mem_append_right _ h9)) tyX1 tyX1_ok nmX1 hown hK hP hD hS 0 rfl rfl 1 (by decide) (hts (.fieldLink RX1 21 "FontRuns$Preference" "count" "I") mw_X1_takeFrom_0) (fun _ h9 => h9) rfl (by decide +kernel) rfl rfl (Nat.le_of_ble_eq_true rfl) dX1_takeFrom_5 (fun H locs hP hD hS => ?_)
  have hP : va_P D vwCl [(h0, .inr (1, [.ref r1, .int (zI n2)])), (r1, .inl (cr1, 4, .inl fr)), (h1, .inr (1, [.ref r2, .int (zI n2)])), (r2, .inl (cr2, 4, .inl fr2))] H := hP
  have hD : va_D A [(h0, .inr (1, [.ref r1, .int (zI n2)])), (r1, .inl (cr1, 4, .inl fr)), (h1, .inr (1, [.ref r2, .int (zI n2)])), (r2, .inl (cr2, 4, .inl fr2))] := hD
  refine lv_iconst (v := zI 0) hx hb dX1_takeFrom_8 rfl ?_
  refine lv_istore_n (lv' := [(2, .int (zI 0)), (0, .ref h0), (1, .ref h1)]) hx hb dX1_takeFrom_9 rfl hl (by decide) rfl (fun ls hl => ?_)
  refine k_loopM (I := fun n9 H locs ls => ∃ (jk : Int) (ja : Nat → Int32), n9 = (4 - jk).toNat ∧ (0 ≤ jk ∧ jk ≤ 4) ∧ (kPr ja) ∧ va_P D vwCl [(h0, .inr (1, [.ref r1, .int (zI n2)])), (r1, .inl (cr1, 4, .inl ja)), (h1, .inr (1, [.ref r2, .int (zI n2)])), (r2, .inl (cr2, 4, .inl fr2))] H ∧ va_D A [(h0, .inr (1, [.ref r1, .int (zI n2)])), (r1, .inl (cr1, 4, .inl ja)), (h1, .inr (1, [.ref r2, .int (zI n2)])), (r2, .inl (cr2, 4, .inl fr2))] ∧ va_S A s.heap H locs ∧ lv_has ls 3 [(2, .int (zI jk)), (0, .ref h0), (1, .ref h1)]) ?_ _ ⟨0, fr, rfl, (by omega), q1, hP, hD, hS, hl⟩
  intro n10 ih10 H locs ls hI
  obtain ⟨jk, ja, en10, v_100, v_101, hP, hD, hS, hl⟩ := hI
  refine lv_iload_n hx hb dX1_takeFrom_10 rfl (lv_at hl 0 rfl) ?_
  refine lv_iconst (v := zI 4) hx hb dX1_takeFrom_11 rfl ?_
  refine kz_icmp_ge (tgt := 33) hx hb dX1_takeFrom_12 (by decide) (by omega) (by omega) (fun c_1 => ?_) (fun c_1 => ?_)
  · have hP9 := hP.sub (ws' := [(h0, .inr (1, [.ref r1, .int (zI n2)])), (r1, .inl (cr1, 4, .inl ja)), (h1, .inr (1, [.ref r2, .int (zI n2)])), (r2, .inl (cr2, 4, .inl fr2))]) [0, 1, 2, 3] rfl
    have hD9 := hD.sub (ws' := [(h0, .inr (1, [.ref r1, .int (zI n2)])), (r1, .inl (cr1, 4, .inl ja)), (h1, .inr (1, [.ref r2, .int (zI n2)])), (r2, .inl (cr2, 4, .inl fr2))]) [0, 1, 2, 3] (by decide +kernel) rfl
    exact W.vret hx hb hr (fun t ht hW => kQV_of ⟨n2, ja, q0, v_101, by rw [ht]; exact hP9, hD9⟩ (hS.F ht)) hS.2.2 dX1_takeFrom_33
  · refine lv_aload_n hx hb dX1_takeFrom_15 rfl (lv_at hl 1 rfl) ?_
    refine va_get (D := D) (ci := 1) (v := .ref r1) (C := RX1) (T := TX1) (N := 2) hx hb hts (fun _ h9 => List.mem_cons_of_mem _ (List.mem_append_right _ h9)) hown hK hP 0 rfl rfl 0 (by decide) (hts (.fieldLink RX1 9 "FontRuns$Preference" "row" "[I") mw_X1_takeFrom_1) (fun _ h9 => h9) rfl dX1_takeFrom_16 ?_
    refine lv_iload_n hx hb dX1_takeFrom_19 rfl (lv_at hl 0 rfl) ?_
    refine lv_aload_n hx hb dX1_takeFrom_20 rfl (lv_at hl 2 rfl) ?_
    refine va_get (D := D) (ci := 1) (v := .ref r2) (C := RX1) (T := TX1) (N := 2) hx hb hts (fun _ h9 => List.mem_cons_of_mem _ (List.mem_append_right _ h9)) hown hK hP 2 rfl rfl 0 (by decide) (hts (.fieldLink RX1 9 "FontRuns$Preference" "row" "[I") mw_X1_takeFrom_1) (fun _ h9 => h9) rfl dX1_takeFrom_21 ?_
    refine lv_iload_n hx hb dX1_takeFrom_24 rfl (lv_at hl 0 rfl) ?_
    refine kz_iald hx hb hK hP 3 1 rfl rfl (by omega) dX1_takeFrom_25 (fun z_2 rz_2 ez_2 => ?_)
    have bz_2 := kPr_at q2 (by omega) rz_2 ez_2
    refine kz_iast hx hb hK hP hD hS 1 0 rfl rfl (by omega) dX1_takeFrom_26 (fun H locs hP hD hS => ?_)
    have hP : va_P D vwCl [(h0, .inr (1, [.ref r1, .int (zI n2)])), (r1, .inl (cr1, 4, .inl (upd ja (jk).toNat (zI z_2)))), (h1, .inr (1, [.ref r2, .int (zI n2)])), (r2, .inl (cr2, 4, .inl fr2))] H := hP
    have hD : va_D A [(h0, .inr (1, [.ref r1, .int (zI n2)])), (r1, .inl (cr1, 4, .inl (upd ja (jk).toNat (zI z_2)))), (h1, .inr (1, [.ref r2, .int (zI n2)])), (r2, .inl (cr2, 4, .inl fr2))] := hD
    have k_4 : kPr (upd ja (jk).toNat (zI z_2)) := kPr_upd v_101 (by omega) (by omega)
    generalize ef_3 : upd ja (jk).toNat (zI z_2) = f_3 at hP hD k_4
    refine lv_iinc (v := (zI (jk + 1))) (lv' := [(2, .int (zI (jk + 1))), (0, .ref h0), (1, .ref h1)]) hx hb dX1_takeFrom_27 hl (k := 0) rfl (kz_inc _ 1) (by decide) rfl (fun ls hl => ?_)
    refine lv_goto (tgt := 10) hx hb dX1_takeFrom_30 (by decide) ?_
    exact ih10 _ (by omega) _ _ _ ⟨(jk + 1), f_3, rfl, (by omega), k_4, hP, hD, hS, lv_sub hl [0, 1, 2] rfl⟩

theorem dX7_add_0 : decode cX7_add 0 = .ok (.aload_n 0, 1) := kqo_2a kbl_X7_add (pc := 0) rfl
theorem dX7_add_1 : decode cX7_add 1 = .ok (.getfield 15, 3) := kqo_b4 (x1 := 0) (x2 := 15) kbl_X7_add (pc := 1) rfl rfl
theorem dX7_add_4 : decode cX7_add 4 = .ok (.iconst 0, 1) := kqo_03 kbl_X7_add (pc := 4) rfl
theorem dX7_add_5 : decode cX7_add 5 = .ok (.bipush 23, 2) := kqo_10 (x1 := 23) kbl_X7_add (pc := 5) rfl rfl
theorem dX7_add_7 : decode cX7_add 7 = .ok (.invokestatic 19, 3) := kqo_b8 (x1 := 0) (x2 := 19) kbl_X7_add (pc := 7) rfl rfl
theorem dX7_add_10 : decode cX7_add 10 = .ok (.ifCond .ne 5, 3) := kqo_9a (x1 := 0) (x2 := 5) kbl_X7_add (pc := 10) rfl rfl
theorem dX7_add_13 : decode cX7_add 13 = .ok (.iconst 0, 1) := kqo_03 kbl_X7_add (pc := 13) rfl
theorem dX7_add_14 : decode cX7_add 14 = .ok (.ireturn, 1) := kqo_ac kbl_X7_add (pc := 14) rfl
theorem dX7_add_15 : decode cX7_add 15 = .ok (.aload_n 0, 1) := kqo_2a kbl_X7_add (pc := 15) rfl
theorem dX7_add_16 : decode cX7_add 16 = .ok (.getfield 9, 3) := kqo_b4 (x1 := 0) (x2 := 9) kbl_X7_add (pc := 16) rfl rfl
theorem dX7_add_19 : decode cX7_add 19 = .ok (.aload_n 0, 1) := kqo_2a kbl_X7_add (pc := 19) rfl
theorem dX7_add_20 : decode cX7_add 20 = .ok (.getfield 15, 3) := kqo_b4 (x1 := 0) (x2 := 15) kbl_X7_add (pc := 20) rfl rfl
theorem dX7_add_23 : decode cX7_add 23 = .ok (.iload_n 1, 1) := kqo_1b kbl_X7_add (pc := 23) rfl
theorem dX7_add_24 : decode cX7_add 24 = .ok (.iastore, 1) := kqo_4f kbl_X7_add (pc := 24) rfl
theorem dX7_add_25 : decode cX7_add 25 = .ok (.aload_n 0, 1) := kqo_2a kbl_X7_add (pc := 25) rfl
theorem dX7_add_26 : decode cX7_add 26 = .ok (.dup, 1) := kqo_59 kbl_X7_add (pc := 26) rfl
theorem dX7_add_27 : decode cX7_add 27 = .ok (.getfield 15, 3) := kqo_b4 (x1 := 0) (x2 := 15) kbl_X7_add (pc := 27) rfl rfl
theorem dX7_add_30 : decode cX7_add 30 = .ok (.iconst 1, 1) := kqo_04 kbl_X7_add (pc := 30) rfl
theorem dX7_add_31 : decode cX7_add 31 = .ok (.iadd, 1) := kqo_60 kbl_X7_add (pc := 31) rfl
theorem dX7_add_32 : decode cX7_add 32 = .ok (.putfield 15, 3) := kqo_b5 (x1 := 0) (x2 := 15) kbl_X7_add (pc := 32) rfl rfl
theorem dX7_add_35 : decode cX7_add 35 = .ok (.iconst 1, 1) := kqo_04 kbl_X7_add (pc := 35) rfl
theorem dX7_add_36 : decode cX7_add 36 = .ok (.ireturn, 1) := kqo_ac kbl_X7_add (pc := 36) rfl
set_option maxRecDepth 20000 in
theorem ggX7_add_X8_isWithin : GoodIn wsX7_add wsX8_isWithin := goodIn_4 _ (List.forall_mem_cons.mpr ⟨List.mem_cons_of_mem _ (List.mem_append_left _ (List.mem_of_getElem? (i := 4) rfl)), fun _ h9 => absurd h9 List.not_mem_nil⟩) (by decide +kernel)
set_option maxRecDepth 20000 in
theorem gX7_add_X8_isWithin_n19 : GoodIn wsX7_add (wsX8_isWithin) := ggX7_add_X8_isWithin
set_option maxRecDepth 20000 in
theorem mw_X7_add_0 : (.fieldLink RX7 15 "FontRuns$Writing" "count" "I" : Cond) ∈ wsX7_add := List.mem_cons_of_mem _ (List.mem_append_left _ (List.mem_of_getElem? (i := 0) rfl))
set_option maxRecDepth 20000 in
theorem mw_X7_add_1 : (.initialized RX8 : Cond) ∈ wsX7_add := List.mem_cons_of_mem _ (List.mem_append_left _ (List.mem_of_getElem? (i := 3) rfl))
set_option maxRecDepth 20000 in
theorem mw_X7_add_2 : (.static yX8_isWithin : Cond) ∈ wsX7_add := List.mem_cons_of_mem _ (List.mem_append_left _ (List.mem_of_getElem? (i := 2) rfl))
set_option maxRecDepth 20000 in
theorem mw_X7_add_3 : (.fieldLink RX7 9 "FontRuns$Writing" "row" "[I" : Cond) ∈ wsX7_add := List.mem_cons_of_mem _ (List.mem_append_left _ (List.mem_of_getElem? (i := 1) rfl))
theorem ax_X7_add_0 {e0 e1 : Nat × va_E} : ([] : List Nat).map (fun i => ([e0, e1] : va_W)[i]?) = ([] : va_W).map some := rfl
theorem ax_X7_add_1 {e0 e1 : Nat × va_E} : ([0, 1] : List Nat).map (fun i => ([e0, e1] : va_W)[i]?) = ([e0, e1] : va_W).map some := rfl
set_option maxHeartbeats 4000000 in
set_option maxRecDepth 100000 in
theorem c_X7_add (l : Launch) (D : va_G) (sz : Nat) (x : Int) (h0 : Nat) (r1 : Nat) (n : Int) (cr1 : ClassId) (fr : Nat → Int32) (q0 : rg x) (q1 : 0 ≤ n ∧ n ≤ 24) : Met l yX7_add wsX7_add ({ frames := 1, cells := 0, slots := 0, locals := 22 }) (kPre [.ref h0, .int (zI x)] D [(h0, .inr (7, [.ref r1, .int (zI n)])), (r1, .inl (cr1, 24, .inl fr))] [(cr1, .int)] sz) (kQS (fun rz t => ∃ (un : Int) (uf : Nat → Int32), (0 ≤ un ∧ un ≤ 24) ∧ (rz = 0 ∨ rz = 1) ∧ va_P D vwCl [(h0, .inr (7, [.ref r1, .int (zI un)])), (r1, .inl (cr1, 24, .inl uf))] t.heap ∧ va_D (va_A [(h0, .inr (7, [.ref r1, .int (zI n)])), (r1, .inl (cr1, 24, .inl fr))] sz) [(h0, .inr (7, [.ref r1, .int (zI un)])), (r1, .inl (cr1, 24, .inl uf))]) (va_A [(h0, .inr (7, [.ref r1, .int (zI n)])), (r1, .inl (cr1, 24, .inl fr))] sz)) 0 0 (va_A [(h0, .inr (7, [.ref r1, .int (zI n)])), (r1, .inl (cr1, 24, .inl fr))] sz) := by
  refine Met.ofW (cc := cX7_add) (maxL := 2) (ret := (some .boolean)) (by decide) rfl ?_
  intro p e s m args below meth c s₁ B hml hv
  obtain ⟨rfl, hsz, hP, hK, hD0, hN⟩ := hv
  have hx := B.exec
  have hb := B.bytes
  have hr := B.returns
  have hts := atoms_spec (ws := wsX7_add) B.pre
  have hown : s.vm.findClass RX7 = some m.cls := findClass_of_methodNamed B.named
  have hlocks := B.notSynchronized
  subst hsz
  have hD := hD0.self (sz := s.heap.size)
  generalize hAe : va_A [(h0, .inr (7, [.ref r1, .int (zI n)])), (r1, .inl (cr1, 24, .inl fr))] s.heap.size = A at hD ⊢
  have hA : ∀ q : Nat, s.heap.size ≤ q → A q := fun q h => by rw [← hAe]; exact Or.inr h
  have hS : va_S A s.heap s.heap [] := va_S.rf
  have hP : va_P D vwCl [(h0, .inr (7, [.ref r1, .int (zI n)])), (r1, .inl (cr1, 24, .inl fr))] s.heap := hP
  have hl := lv_entry ([.ref h0, .int (zI x)]) (n := 2) (Nat.le_of_ble_eq_true rfl)
  rw [lg_entry_eq]
  generalize (lg_sl ([.ref h0, .int (zI x)]) ++ List.replicate (2 - (lg_sl ([.ref h0, .int (zI x)])).length) Slot.unset).toArray = ls at hl ⊢
  have hl : lv_has ls 2 [(0, .ref h0), (1, .int (zI x))] := hl
  refine lv_aload_n hx hb dX7_add_0 rfl (lv_at hl 0 rfl) ?_
  refine va_get (D := D) (ci := 7) (v := .int (zI n)) (C := RX7) (T := TX7) (N := 2) hx hb hts (fun _ h9 => List.mem_cons_of_mem _ (List.mem_append_right _ h9)) hown hK hP 0 rfl rfl 1 (by decide) (hts (.fieldLink RX7 15 "FontRuns$Writing" "count" "I") mw_X7_add_0) (fun _ h9 => h9) rfl dX7_add_1 ?_
  refine lv_iconst (v := zI 0) hx hb dX7_add_4 rfl ?_
  refine lv_bipush (v := zI 23) hx hb dX7_add_5 (by decide) ?_
  refine k_callR (va_runSN (As := [.int (zI n), .int (zI 0), .int (zI 23)]) (rest := []) ⟨hx, hb, hml, hown, hts⟩ (c_X8_isWithin l D s.heap.size (v := n) (a := 0) (b := 23) (by omega) (by omega) (by omega)) (⟨va_cnB 3 hts gX7_add_X8_isWithin_n19 rfl rfl rfl (hN.1 (RX7, 19, yX8_isWithin) (by decide +kernel)) (hts (.initialized RX8) mw_X7_add_1) (by decide +kernel) ⟨Nat.le_of_ble_eq_true rfl, Nat.le_of_ble_eq_true rfl⟩, (hts (.static yX8_isWithin) mw_X7_add_2), trivial⟩) (kPreS hP (kD0 hD) hK hN [] [] ax_X7_add_0 rfl (by decide +kernel)) rfl rfl hl.1 rfl (lv_room (Nat.le_of_ble_eq_true rfl)) dX7_add_7 ⟨Nat.le_of_ble_eq_true rfl, Nat.le_of_ble_eq_true rfl⟩) ?_
  refine lv_if_ne (tgt := 15) hx hb dX7_add_10 (by decide) (fun c_1 => ?_) (fun c_1 => ?_)
  · have c_1 : 0 ≤ n ∧ n ≤ 23 := b01t c_1
    refine lv_aload_n hx hb dX7_add_15 rfl (lv_at hl 0 rfl) ?_
    refine va_get (D := D) (ci := 7) (v := .ref r1) (C := RX7) (T := TX7) (N := 2) hx hb hts (fun _ h9 => List.mem_cons_of_mem _ (List.mem_append_right _ h9)) hown hK hP 0 rfl rfl 0 (by decide) (hts (.fieldLink RX7 9 "FontRuns$Writing" "row" "[I") mw_X7_add_3) (fun _ h9 => h9) rfl dX7_add_16 ?_
    refine lv_aload_n hx hb dX7_add_19 rfl (lv_at hl 0 rfl) ?_
    refine va_get (D := D) (ci := 7) (v := .int (zI n)) (C := RX7) (T := TX7) (N := 2) hx hb hts (fun _ h9 => List.mem_cons_of_mem _ (List.mem_append_right _ h9)) hown hK hP 0 rfl rfl 1 (by decide) (hts (.fieldLink RX7 15 "FontRuns$Writing" "count" "I") mw_X7_add_0) (fun _ h9 => h9) rfl dX7_add_20 ?_
    refine lv_iload_n hx hb dX7_add_23 rfl (lv_at hl 1 rfl) ?_
    refine kz_iast hx hb hK hP hD hS 1 0 rfl rfl (by omega) dX7_add_24 (fun H locs hP hD hS => ?_)
    have hP : va_P D vwCl [(h0, .inr (7, [.ref r1, .int (zI n)])), (r1, .inl (cr1, 24, .inl (upd fr (n).toNat (zI x))))] H := hP
    have hD : va_D A [(h0, .inr (7, [.ref r1, .int (zI n)])), (r1, .inl (cr1, 24, .inl (upd fr (n).toNat (zI x))))] := hD
    generalize ef_2 : upd fr (n).toNat (zI x) = f_2 at hP hD
    refine lv_aload_n hx hb dX7_add_25 rfl (lv_at hl 0 rfl) ?_
    refine lv_dup hx hb dX7_add_26 rfl ?_
    refine va_get (D := D) (ci := 7) (v := .int (zI n)) (C := RX7) (T := TX7) (N := 2) hx hb hts (fun _ h9 => List.mem_cons_of_mem _ (List.mem_append_right _ h9)) hown hK hP 0 rfl rfl 1 (by decide) (hts (.fieldLink RX7 15 "FontRuns$Writing" "count" "I") mw_X7_add_0) (fun _ h9 => h9) rfl dX7_add_27 ?_
    refine lv_iconst (v := zI 1) hx hb dX7_add_30 rfl ?_
    refine kz_iadd hx hb dX7_add_31 ?_
    refine va_put (D := D) (ci := 7) (v := .int (zI (n + 1))) (ty := .int) (C := RX7) (T := TX7) (N := 2) hx hb hts (fun _ h9 => List.mem_cons_of_mem _ (List.mem_append_right _ h9)) tyX7 tyX7_ok nmX7 hown hK hP hD hS 0 rfl rfl 1 (by decide) (hts (.fieldLink RX7 15 "FontRuns$Writing" "count" "I") mw_X7_add_0) (fun _ h9 => h9) rfl (by decide +kernel) rfl rfl (Nat.le_of_ble_eq_true rfl) dX7_add_32 (fun H locs hP hD hS => ?_)
    have hP : va_P D vwCl [(h0, .inr (7, [.ref r1, .int (zI (n + 1))])), (r1, .inl (cr1, 24, .inl f_2))] H := hP
    have hD : va_D A [(h0, .inr (7, [.ref r1, .int (zI (n + 1))])), (r1, .inl (cr1, 24, .inl f_2))] := hD
    refine lv_iconst (v := zI 1) hx hb dX7_add_35 rfl ?_
    have hP9 := hP.sub (ws' := [(h0, .inr (7, [.ref r1, .int (zI (n + 1))])), (r1, .inl (cr1, 24, .inl f_2))]) [0, 1] rfl
    have hD9 := hD.sub (ws' := [(h0, .inr (7, [.ref r1, .int (zI (n + 1))])), (r1, .inl (cr1, 24, .inl f_2))]) [0, 1] (by decide +kernel) rfl
    exact W.zret (v := (zI 1)) hx hb hr rfl (fun t ht hW => kQS_of (by omega) ⟨(n + 1), f_2, (by omega), (by omega), by rw [ht]; exact hP9, hD9⟩ (hS.F ht)) hS.2.2 dX7_add_36
  · have c_1 : ¬ (0 ≤ n ∧ n ≤ 23) := b01f c_1
    refine lv_iconst (v := zI 0) hx hb dX7_add_13 rfl ?_
    have hP9 := hP.sub (ws' := [(h0, .inr (7, [.ref r1, .int (zI n)])), (r1, .inl (cr1, 24, .inl fr))]) [0, 1] rfl
    have hD9 := hD.sub (ws' := [(h0, .inr (7, [.ref r1, .int (zI n)])), (r1, .inl (cr1, 24, .inl fr))]) [0, 1] (by decide +kernel) rfl
    exact W.zret (v := (zI 0)) hx hb hr rfl (fun t ht hW => kQS_of (by omega) ⟨n, fr, q1, (by omega), by rw [ht]; exact hP9, hD9⟩ (hS.F ht)) hS.2.2 dX7_add_14
theorem dX7_drop_0 : decode cX7_drop 0 = .ok (.iload_n 1, 1) := kqo_1b kbl_X7_drop (pc := 0) rfl
theorem dX7_drop_1 : decode cX7_drop 1 = .ok (.iconst 0, 1) := kqo_03 kbl_X7_drop (pc := 1) rfl
theorem dX7_drop_2 : decode cX7_drop 2 = .ok (.aload_n 0, 1) := kqo_2a kbl_X7_drop (pc := 2) rfl
theorem dX7_drop_3 : decode cX7_drop 3 = .ok (.getfield 15, 3) := kqo_b4 (x1 := 0) (x2 := 15) kbl_X7_drop (pc := 3) rfl rfl
theorem dX7_drop_6 : decode cX7_drop 6 = .ok (.invokestatic 19, 3) := kqo_b8 (x1 := 0) (x2 := 19) kbl_X7_drop (pc := 6) rfl rfl
theorem dX7_drop_9 : decode cX7_drop 9 = .ok (.ifCond .ne 5, 3) := kqo_9a (x1 := 0) (x2 := 5) kbl_X7_drop (pc := 9) rfl rfl
theorem dX7_drop_12 : decode cX7_drop 12 = .ok (.iconst 0, 1) := kqo_03 kbl_X7_drop (pc := 12) rfl
theorem dX7_drop_13 : decode cX7_drop 13 = .ok (.ireturn, 1) := kqo_ac kbl_X7_drop (pc := 13) rfl
theorem dX7_drop_14 : decode cX7_drop 14 = .ok (.aload_n 0, 1) := kqo_2a kbl_X7_drop (pc := 14) rfl
theorem dX7_drop_15 : decode cX7_drop 15 = .ok (.dup, 1) := kqo_59 kbl_X7_drop (pc := 15) rfl
theorem dX7_drop_16 : decode cX7_drop 16 = .ok (.getfield 15, 3) := kqo_b4 (x1 := 0) (x2 := 15) kbl_X7_drop (pc := 16) rfl rfl
theorem dX7_drop_19 : decode cX7_drop 19 = .ok (.iload_n 1, 1) := kqo_1b kbl_X7_drop (pc := 19) rfl
theorem dX7_drop_20 : decode cX7_drop 20 = .ok (.isub, 1) := kqo_64 kbl_X7_drop (pc := 20) rfl
theorem dX7_drop_21 : decode cX7_drop 21 = .ok (.putfield 15, 3) := kqo_b5 (x1 := 0) (x2 := 15) kbl_X7_drop (pc := 21) rfl rfl
theorem dX7_drop_24 : decode cX7_drop 24 = .ok (.iconst 1, 1) := kqo_04 kbl_X7_drop (pc := 24) rfl
theorem dX7_drop_25 : decode cX7_drop 25 = .ok (.ireturn, 1) := kqo_ac kbl_X7_drop (pc := 25) rfl
set_option maxRecDepth 20000 in
theorem ggX7_drop_X8_isWithin : GoodIn wsX7_drop wsX8_isWithin := goodIn_4 _ (List.forall_mem_cons.mpr ⟨List.mem_cons_of_mem _ (List.mem_append_left _ (List.mem_of_getElem? (i := 3) rfl)), fun _ h9 => absurd h9 List.not_mem_nil⟩) (by decide +kernel)
set_option maxRecDepth 20000 in
theorem gX7_drop_X8_isWithin_n19 : GoodIn wsX7_drop (wsX8_isWithin) := ggX7_drop_X8_isWithin
set_option maxRecDepth 20000 in
theorem mw_X7_drop_0 : (.fieldLink RX7 15 "FontRuns$Writing" "count" "I" : Cond) ∈ wsX7_drop := List.mem_cons_of_mem _ (List.mem_append_left _ (List.mem_of_getElem? (i := 0) rfl))
set_option maxRecDepth 20000 in
theorem mw_X7_drop_1 : (.initialized RX8 : Cond) ∈ wsX7_drop := List.mem_cons_of_mem _ (List.mem_append_left _ (List.mem_of_getElem? (i := 2) rfl))
set_option maxRecDepth 20000 in
theorem mw_X7_drop_2 : (.static yX8_isWithin : Cond) ∈ wsX7_drop := List.mem_cons_of_mem _ (List.mem_append_left _ (List.mem_of_getElem? (i := 1) rfl))
theorem ax_X7_drop_0 {e0 : Nat × va_E} : ([] : List Nat).map (fun i => ([e0] : va_W)[i]?) = ([] : va_W).map some := rfl
theorem ax_X7_drop_1 {e0 : Nat × va_E} : ([0] : List Nat).map (fun i => ([e0] : va_W)[i]?) = ([e0] : va_W).map some := rfl
set_option maxHeartbeats 4000000 in
set_option maxRecDepth 100000 in
theorem c_X7_drop (l : Launch) (D : va_G) (sz : Nat) (x : Int) (h0 : Nat) (r1 : Nat) (n : Int) (q0 : rg x) (q1 : 0 ≤ n ∧ n ≤ 24) : Met l yX7_drop wsX7_drop ({ frames := 1, cells := 0, slots := 0, locals := 22 }) (kPre [.ref h0, .int (zI x)] D [(h0, .inr (7, [.ref r1, .int (zI n)]))] [] sz) (kQS (fun rz t => ∃ (un : Int), (0 ≤ un ∧ un ≤ 24) ∧ (rz = 0 ∨ rz = 1) ∧ va_P D vwCl [(h0, .inr (7, [.ref r1, .int (zI un)]))] t.heap ∧ va_D (va_A [(h0, .inr (7, [.ref r1, .int (zI n)]))] sz) [(h0, .inr (7, [.ref r1, .int (zI un)]))]) (va_A [(h0, .inr (7, [.ref r1, .int (zI n)]))] sz)) 0 0 (va_A [(h0, .inr (7, [.ref r1, .int (zI n)]))] sz) := by
  refine Met.ofW (cc := cX7_drop) (maxL := 2) (ret := (some .boolean)) (by decide) rfl ?_
  intro p e s m args below meth c s₁ B hml hv
  obtain ⟨rfl, hsz, hP, hK, hD0, hN⟩ := hv
  have hx := B.exec
  have hb := B.bytes
  have hr := B.returns
  have hts := atoms_spec (ws := wsX7_drop) B.pre
  have hown : s.vm.findClass RX7 = some m.cls := findClass_of_methodNamed B.named
  have hlocks := B.notSynchronized
  subst hsz
  have hD := hD0.self (sz := s.heap.size)
  generalize hAe : va_A [(h0, .inr (7, [.ref r1, .int (zI n)]))] s.heap.size = A at hD ⊢
  have hA : ∀ q : Nat, s.heap.size ≤ q → A q := fun q h => by rw [← hAe]; exact Or.inr h
  have hS : va_S A s.heap s.heap [] := va_S.rf
  have hP : va_P D vwCl [(h0, .inr (7, [.ref r1, .int (zI n)]))] s.heap := hP
  have hl := lv_entry ([.ref h0, .int (zI x)]) (n := 2) (Nat.le_of_ble_eq_true rfl)
  rw [lg_entry_eq]
  generalize (lg_sl ([.ref h0, .int (zI x)]) ++ List.replicate (2 - (lg_sl ([.ref h0, .int (zI x)])).length) Slot.unset).toArray = ls at hl ⊢
  have hl : lv_has ls 2 [(0, .ref h0), (1, .int (zI x))] := hl
  refine lv_iload_n hx hb dX7_drop_0 rfl (lv_at hl 1 rfl) ?_
  refine lv_iconst (v := zI 0) hx hb dX7_drop_1 rfl ?_
  refine lv_aload_n hx hb dX7_drop_2 rfl (lv_at hl 0 rfl) ?_
  refine va_get (D := D) (ci := 7) (v := .int (zI n)) (C := RX7) (T := TX7) (N := 2) hx hb hts (fun _ h9 => List.mem_cons_of_mem _ (List.mem_append_right _ h9)) hown hK hP 0 rfl rfl 1 (by decide) (hts (.fieldLink RX7 15 "FontRuns$Writing" "count" "I") mw_X7_drop_0) (fun _ h9 => h9) rfl dX7_drop_3 ?_
  refine k_callR (va_runSN (As := [.int (zI x), .int (zI 0), .int (zI n)]) (rest := []) ⟨hx, hb, hml, hown, hts⟩ (c_X8_isWithin l D s.heap.size (v := x) (a := 0) (b := n) q0 (by omega) (by omega)) (⟨va_cnB 3 hts gX7_drop_X8_isWithin_n19 rfl rfl rfl (hN.1 (RX7, 19, yX8_isWithin) (by decide +kernel)) (hts (.initialized RX8) mw_X7_drop_1) (by decide +kernel) ⟨Nat.le_of_ble_eq_true rfl, Nat.le_of_ble_eq_true rfl⟩, (hts (.static yX8_isWithin) mw_X7_drop_2), trivial⟩) (kPreS hP (kD0 hD) hK hN [] [] ax_X7_drop_0 rfl (by decide +kernel)) rfl rfl hl.1 rfl (lv_room (Nat.le_of_ble_eq_true rfl)) dX7_drop_6 ⟨Nat.le_of_ble_eq_true rfl, Nat.le_of_ble_eq_true rfl⟩) ?_
  refine lv_if_ne (tgt := 14) hx hb dX7_drop_9 (by decide) (fun c_1 => ?_) (fun c_1 => ?_)
  · have c_1 : 0 ≤ x ∧ x ≤ n := b01t c_1
    refine lv_aload_n hx hb dX7_drop_14 rfl (lv_at hl 0 rfl) ?_
    refine lv_dup hx hb dX7_drop_15 rfl ?_
    refine va_get (D := D) (ci := 7) (v := .int (zI n)) (C := RX7) (T := TX7) (N := 2) hx hb hts (fun _ h9 => List.mem_cons_of_mem _ (List.mem_append_right _ h9)) hown hK hP 0 rfl rfl 1 (by decide) (hts (.fieldLink RX7 15 "FontRuns$Writing" "count" "I") mw_X7_drop_0) (fun _ h9 => h9) rfl dX7_drop_16 ?_
    refine lv_iload_n hx hb dX7_drop_19 rfl (lv_at hl 1 rfl) ?_
    refine kz_isub hx hb dX7_drop_20 ?_
    refine va_put (D := D) (ci := 7) (v := .int (zI (n - x))) (ty := .int) (C := RX7) (T := TX7) (N := 2) hx hb hts (fun _ h9 => List.mem_cons_of_mem _ (List.mem_append_right _ h9)) tyX7 tyX7_ok nmX7 hown hK hP hD hS 0 rfl rfl 1 (by decide) (hts (.fieldLink RX7 15 "FontRuns$Writing" "count" "I") mw_X7_drop_0) (fun _ h9 => h9) rfl (by decide +kernel) rfl rfl (Nat.le_of_ble_eq_true rfl) dX7_drop_21 (fun H locs hP hD hS => ?_)
    have hP : va_P D vwCl [(h0, .inr (7, [.ref r1, .int (zI (n - x))]))] H := hP
    have hD : va_D A [(h0, .inr (7, [.ref r1, .int (zI (n - x))]))] := hD
    refine lv_iconst (v := zI 1) hx hb dX7_drop_24 rfl ?_
    have hP9 := hP.sub (ws' := [(h0, .inr (7, [.ref r1, .int (zI (n - x))]))]) [0] rfl
    have hD9 := hD.sub (ws' := [(h0, .inr (7, [.ref r1, .int (zI (n - x))]))]) [0] (by decide +kernel) rfl
    exact W.zret (v := (zI 1)) hx hb hr rfl (fun t ht hW => kQS_of (by omega) ⟨(n - x), (by omega), (by omega), by rw [ht]; exact hP9, hD9⟩ (hS.F ht)) hS.2.2 dX7_drop_25
  · have c_1 : ¬ (0 ≤ x ∧ x ≤ n) := b01f c_1
    refine lv_iconst (v := zI 0) hx hb dX7_drop_12 rfl ?_
    have hP9 := hP.sub (ws' := [(h0, .inr (7, [.ref r1, .int (zI n)]))]) [0] rfl
    have hD9 := hD.sub (ws' := [(h0, .inr (7, [.ref r1, .int (zI n)]))]) [0] (by decide +kernel) rfl
    exact W.zret (v := (zI 0)) hx hb hr rfl (fun t ht hW => kQS_of (by omega) ⟨n, q1, (by omega), by rw [ht]; exact hP9, hD9⟩ (hS.F ht)) hS.2.2 dX7_drop_13
theorem dX7_takeFrom_0 : decode cX7_takeFrom 0 = .ok (.aload_n 0, 1) := kqo_2a kbl_X7_takeFrom (pc := 0) rfl
theorem dX7_takeFrom_1 : decode cX7_takeFrom 1 = .ok (.aload_n 1, 1) := kqo_2b kbl_X7_takeFrom (pc := 1) rfl
theorem dX7_takeFrom_2 : decode cX7_takeFrom 2 = .ok (.getfield 15, 3) := kqo_b4 (x1 := 0) (x2 := 15) kbl_X7_takeFrom (pc := 2) rfl rfl
theorem dX7_takeFrom_5 : decode cX7_takeFrom 5 = .ok (.putfield 15, 3) := kqo_b5 (x1 := 0) (x2 := 15) kbl_X7_takeFrom (pc := 5) rfl rfl
theorem dX7_takeFrom_8 : decode cX7_takeFrom 8 = .ok (.iconst 0, 1) := kqo_03 kbl_X7_takeFrom (pc := 8) rfl
theorem dX7_takeFrom_9 : decode cX7_takeFrom 9 = .ok (.istore_n 2, 1) := kqo_3d kbl_X7_takeFrom (pc := 9) rfl
theorem dX7_takeFrom_10 : decode cX7_takeFrom 10 = .ok (.iload_n 2, 1) := kqo_1c kbl_X7_takeFrom (pc := 10) rfl
theorem dX7_takeFrom_11 : decode cX7_takeFrom 11 = .ok (.bipush 24, 2) := kqo_10 (x1 := 24) kbl_X7_takeFrom (pc := 11) rfl rfl
theorem dX7_takeFrom_13 : decode cX7_takeFrom 13 = .ok (.if_icmp .ge 21, 3) := kqo_a2 (x1 := 0) (x2 := 21) kbl_X7_takeFrom (pc := 13) rfl rfl
theorem dX7_takeFrom_16 : decode cX7_takeFrom 16 = .ok (.aload_n 0, 1) := kqo_2a kbl_X7_takeFrom (pc := 16) rfl
theorem dX7_takeFrom_17 : decode cX7_takeFrom 17 = .ok (.getfield 9, 3) := kqo_b4 (x1 := 0) (x2 := 9) kbl_X7_takeFrom (pc := 17) rfl rfl
theorem dX7_takeFrom_20 : decode cX7_takeFrom 20 = .ok (.iload_n 2, 1) := kqo_1c kbl_X7_takeFrom (pc := 20) rfl
theorem dX7_takeFrom_21 : decode cX7_takeFrom 21 = .ok (.aload_n 1, 1) := kqo_2b kbl_X7_takeFrom (pc := 21) rfl
theorem dX7_takeFrom_22 : decode cX7_takeFrom 22 = .ok (.getfield 9, 3) := kqo_b4 (x1 := 0) (x2 := 9) kbl_X7_takeFrom (pc := 22) rfl rfl
theorem dX7_takeFrom_25 : decode cX7_takeFrom 25 = .ok (.iload_n 2, 1) := kqo_1c kbl_X7_takeFrom (pc := 25) rfl
theorem dX7_takeFrom_26 : decode cX7_takeFrom 26 = .ok (.iaload, 1) := kqo_2e kbl_X7_takeFrom (pc := 26) rfl
theorem dX7_takeFrom_27 : decode cX7_takeFrom 27 = .ok (.iastore, 1) := kqo_4f kbl_X7_takeFrom (pc := 27) rfl
theorem dX7_takeFrom_28 : decode cX7_takeFrom 28 = .ok (.iinc 2 1, 3) := kqo_84 (x1 := 2) (x2 := 1) kbl_X7_takeFrom (pc := 28) rfl rfl
theorem dX7_takeFrom_31 : decode cX7_takeFrom 31 = .ok (.goto (-21), 3) := kqo_a7 (x1 := 255) (x2 := 235) kbl_X7_takeFrom (pc := 31) rfl rfl
theorem dX7_takeFrom_34 : decode cX7_takeFrom 34 = .ok (.return_, 1) := kqo_b1 kbl_X7_takeFrom (pc := 34) rfl
set_option maxRecDepth 20000 in
theorem mw_X7_takeFrom_0 : (.fieldLink RX7 15 "FontRuns$Writing" "count" "I" : Cond) ∈ wsX7_takeFrom := List.mem_cons_of_mem _ (List.mem_append_left _ (List.mem_of_getElem? (i := 0) rfl))
set_option maxRecDepth 20000 in
theorem mw_X7_takeFrom_1 : (.fieldLink RX7 9 "FontRuns$Writing" "row" "[I" : Cond) ∈ wsX7_takeFrom := List.mem_cons_of_mem _ (List.mem_append_left _ (List.mem_of_getElem? (i := 1) rfl))
theorem ax_X7_takeFrom_0 {e0 e1 e2 e3 : Nat × va_E} : ([0, 1, 2, 3] : List Nat).map (fun i => ([e0, e1, e2, e3] : va_W)[i]?) = ([e0, e1, e2, e3] : va_W).map some := rfl
set_option maxHeartbeats 4000000 in
set_option maxRecDepth 100000 in
theorem c_X7_takeFrom (l : Launch) (D : va_G) (sz : Nat) (h1 : Nat) (h0 : Nat) (r1 : Nat) (n : Int) (cr1 : ClassId) (fr : Nat → Int32) (r2 : Nat) (n2 : Int) (cr2 : ClassId) (fr2 : Nat → Int32) (q0 : 0 ≤ n2 ∧ n2 ≤ 24) : Met l yX7_takeFrom wsX7_takeFrom ({ frames := 0, cells := 0, slots := 0, locals := 0 }) (kPre [.ref h0, .ref h1] D [(h0, .inr (7, [.ref r1, .int (zI n)])), (r1, .inl (cr1, 24, .inl fr)), (h1, .inr (7, [.ref r2, .int (zI n2)])), (r2, .inl (cr2, 24, .inl fr2))] [(cr1, .int), (cr2, .int)] sz) (kQV (fun t => ∃ (un : Int) (uf : Nat → Int32), (0 ≤ un ∧ un ≤ 24) ∧ va_P D vwCl [(h0, .inr (7, [.ref r1, .int (zI un)])), (r1, .inl (cr1, 24, .inl uf)), (h1, .inr (7, [.ref r2, .int (zI n2)])), (r2, .inl (cr2, 24, .inl fr2))] t.heap ∧ va_D (va_A [(h0, .inr (7, [.ref r1, .int (zI n)])), (r1, .inl (cr1, 24, .inl fr)), (h1, .inr (7, [.ref r2, .int (zI n2)])), (r2, .inl (cr2, 24, .inl fr2))] sz) [(h0, .inr (7, [.ref r1, .int (zI un)])), (r1, .inl (cr1, 24, .inl uf)), (h1, .inr (7, [.ref r2, .int (zI n2)])), (r2, .inl (cr2, 24, .inl fr2))]) (va_A [(h0, .inr (7, [.ref r1, .int (zI n)])), (r1, .inl (cr1, 24, .inl fr)), (h1, .inr (7, [.ref r2, .int (zI n2)])), (r2, .inl (cr2, 24, .inl fr2))] sz)) 0 0 (va_A [(h0, .inr (7, [.ref r1, .int (zI n)])), (r1, .inl (cr1, 24, .inl fr)), (h1, .inr (7, [.ref r2, .int (zI n2)])), (r2, .inl (cr2, 24, .inl fr2))] sz) := by
  refine Met.ofW (cc := cX7_takeFrom) (maxL := 3) (ret := none) (by decide) rfl ?_
  intro p e s m args below meth c s₁ B hml hv
  obtain ⟨rfl, hsz, hP, hK, hD0, hN⟩ := hv
  have hx := B.exec
  have hb := B.bytes
  have hr := B.returns
  have hts := atoms_spec (ws := wsX7_takeFrom) B.pre
  have hown : s.vm.findClass RX7 = some m.cls := findClass_of_methodNamed B.named
  have hlocks := B.notSynchronized
  subst hsz
  have hD := hD0.self (sz := s.heap.size)
  generalize hAe : va_A [(h0, .inr (7, [.ref r1, .int (zI n)])), (r1, .inl (cr1, 24, .inl fr)), (h1, .inr (7, [.ref r2, .int (zI n2)])), (r2, .inl (cr2, 24, .inl fr2))] s.heap.size = A at hD ⊢
  have hA : ∀ q : Nat, s.heap.size ≤ q → A q := fun q h => by rw [← hAe]; exact Or.inr h
  have hS : va_S A s.heap s.heap [] := va_S.rf
  have hP : va_P D vwCl [(h0, .inr (7, [.ref r1, .int (zI n)])), (r1, .inl (cr1, 24, .inl fr)), (h1, .inr (7, [.ref r2, .int (zI n2)])), (r2, .inl (cr2, 24, .inl fr2))] s.heap := hP
  have hl := lv_entry ([.ref h0, .ref h1]) (n := 3) (Nat.le_of_ble_eq_true rfl)
  rw [lg_entry_eq]
  generalize (lg_sl ([.ref h0, .ref h1]) ++ List.replicate (3 - (lg_sl ([.ref h0, .ref h1])).length) Slot.unset).toArray = ls at hl ⊢
  have hl : lv_has ls 3 [(0, .ref h0), (1, .ref h1)] := hl
  refine lv_aload_n hx hb dX7_takeFrom_0 rfl (lv_at hl 0 rfl) ?_
  refine lv_aload_n hx hb dX7_takeFrom_1 rfl (lv_at hl 1 rfl) ?_
  refine va_get (D := D) (ci := 7) (v := .int (zI n2)) (C := RX7) (T := TX7) (N := 2) hx hb hts (fun _ h9 => List.mem_cons_of_mem _ (List.mem_append_right _ h9)) hown hK hP 2 rfl rfl 1 (by decide) (hts (.fieldLink RX7 15 "FontRuns$Writing" "count" "I") mw_X7_takeFrom_0) (fun _ h9 => h9) rfl dX7_takeFrom_2 ?_
  refine va_put (D := D) (ci := 7) (v := .int (zI n2)) (ty := .int) (C := RX7) (T := TX7) (N := 2) hx hb hts (fun _ h9 => List.mem_cons_of_mem _ (List.mem_append_right _ h9)) tyX7 tyX7_ok nmX7 hown hK hP hD hS 0 rfl rfl 1 (by decide) (hts (.fieldLink RX7 15 "FontRuns$Writing" "count" "I") mw_X7_takeFrom_0) (fun _ h9 => h9) rfl (by decide +kernel) rfl rfl (Nat.le_of_ble_eq_true rfl) dX7_takeFrom_5 (fun H locs hP hD hS => ?_)
  have hP : va_P D vwCl [(h0, .inr (7, [.ref r1, .int (zI n2)])), (r1, .inl (cr1, 24, .inl fr)), (h1, .inr (7, [.ref r2, .int (zI n2)])), (r2, .inl (cr2, 24, .inl fr2))] H := hP
  have hD : va_D A [(h0, .inr (7, [.ref r1, .int (zI n2)])), (r1, .inl (cr1, 24, .inl fr)), (h1, .inr (7, [.ref r2, .int (zI n2)])), (r2, .inl (cr2, 24, .inl fr2))] := hD
  refine lv_iconst (v := zI 0) hx hb dX7_takeFrom_8 rfl ?_
  refine lv_istore_n (lv' := [(2, .int (zI 0)), (0, .ref h0), (1, .ref h1)]) hx hb dX7_takeFrom_9 rfl hl (by decide) rfl (fun ls hl => ?_)
  refine k_loopM (I := fun n9 H locs ls => ∃ (jk : Int) (ja : Nat → Int32), n9 = (24 - jk).toNat ∧ (0 ≤ jk ∧ jk ≤ 24) ∧ va_P D vwCl [(h0, .inr (7, [.ref r1, .int (zI n2)])), (r1, .inl (cr1, 24, .inl ja)), (h1, .inr (7, [.ref r2, .int (zI n2)])), (r2, .inl (cr2, 24, .inl fr2))] H ∧ va_D A [(h0, .inr (7, [.ref r1, .int (zI n2)])), (r1, .inl (cr1, 24, .inl ja)), (h1, .inr (7, [.ref r2, .int (zI n2)])), (r2, .inl (cr2, 24, .inl fr2))] ∧ va_S A s.heap H locs ∧ lv_has ls 3 [(2, .int (zI jk)), (0, .ref h0), (1, .ref h1)]) ?_ _ ⟨0, fr, rfl, (by omega), hP, hD, hS, hl⟩
  intro n10 ih10 H locs ls hI
  obtain ⟨jk, ja, en10, v_100, hP, hD, hS, hl⟩ := hI
  refine lv_iload_n hx hb dX7_takeFrom_10 rfl (lv_at hl 0 rfl) ?_
  refine lv_bipush (v := zI 24) hx hb dX7_takeFrom_11 (by decide) ?_
  refine kz_icmp_ge (tgt := 34) hx hb dX7_takeFrom_13 (by decide) (by omega) (by omega) (fun c_1 => ?_) (fun c_1 => ?_)
  · have hP9 := hP.sub (ws' := [(h0, .inr (7, [.ref r1, .int (zI n2)])), (r1, .inl (cr1, 24, .inl ja)), (h1, .inr (7, [.ref r2, .int (zI n2)])), (r2, .inl (cr2, 24, .inl fr2))]) [0, 1, 2, 3] rfl
    have hD9 := hD.sub (ws' := [(h0, .inr (7, [.ref r1, .int (zI n2)])), (r1, .inl (cr1, 24, .inl ja)), (h1, .inr (7, [.ref r2, .int (zI n2)])), (r2, .inl (cr2, 24, .inl fr2))]) [0, 1, 2, 3] (by decide +kernel) rfl
    exact W.vret hx hb hr (fun t ht hW => kQV_of ⟨n2, ja, q0, by rw [ht]; exact hP9, hD9⟩ (hS.F ht)) hS.2.2 dX7_takeFrom_34
  · refine lv_aload_n hx hb dX7_takeFrom_16 rfl (lv_at hl 1 rfl) ?_
    refine va_get (D := D) (ci := 7) (v := .ref r1) (C := RX7) (T := TX7) (N := 2) hx hb hts (fun _ h9 => List.mem_cons_of_mem _ (List.mem_append_right _ h9)) hown hK hP 0 rfl rfl 0 (by decide) (hts (.fieldLink RX7 9 "FontRuns$Writing" "row" "[I") mw_X7_takeFrom_1) (fun _ h9 => h9) rfl dX7_takeFrom_17 ?_
    refine lv_iload_n hx hb dX7_takeFrom_20 rfl (lv_at hl 0 rfl) ?_
    refine lv_aload_n hx hb dX7_takeFrom_21 rfl (lv_at hl 2 rfl) ?_
    refine va_get (D := D) (ci := 7) (v := .ref r2) (C := RX7) (T := TX7) (N := 2) hx hb hts (fun _ h9 => List.mem_cons_of_mem _ (List.mem_append_right _ h9)) hown hK hP 2 rfl rfl 0 (by decide) (hts (.fieldLink RX7 9 "FontRuns$Writing" "row" "[I") mw_X7_takeFrom_1) (fun _ h9 => h9) rfl dX7_takeFrom_22 ?_
    refine lv_iload_n hx hb dX7_takeFrom_25 rfl (lv_at hl 0 rfl) ?_
    refine kz_iald hx hb hK hP 3 1 rfl rfl (by omega) dX7_takeFrom_26 (fun z_2 rz_2 ez_2 => ?_)
    refine kz_iast hx hb hK hP hD hS 1 0 rfl rfl (by omega) dX7_takeFrom_27 (fun H locs hP hD hS => ?_)
    have hP : va_P D vwCl [(h0, .inr (7, [.ref r1, .int (zI n2)])), (r1, .inl (cr1, 24, .inl (upd ja (jk).toNat (zI z_2)))), (h1, .inr (7, [.ref r2, .int (zI n2)])), (r2, .inl (cr2, 24, .inl fr2))] H := hP
    have hD : va_D A [(h0, .inr (7, [.ref r1, .int (zI n2)])), (r1, .inl (cr1, 24, .inl (upd ja (jk).toNat (zI z_2)))), (h1, .inr (7, [.ref r2, .int (zI n2)])), (r2, .inl (cr2, 24, .inl fr2))] := hD
    generalize ef_3 : upd ja (jk).toNat (zI z_2) = f_3 at hP hD
    refine lv_iinc (v := (zI (jk + 1))) (lv' := [(2, .int (zI (jk + 1))), (0, .ref h0), (1, .ref h1)]) hx hb dX7_takeFrom_28 hl (k := 0) rfl (kz_inc _ 1) (by decide) rfl (fun ls hl => ?_)
    refine lv_goto (tgt := 10) hx hb dX7_takeFrom_31 (by decide) ?_
    exact ih10 _ (by omega) _ _ _ ⟨(jk + 1), f_3, rfl, (by omega), hP, hD, hS, lv_sub hl [0, 1, 2] rfl⟩
theorem dX5_begin_0 : decode cX5_begin 0 = .ok (.iconst 0, 1) := kqo_03 kbl_X5_begin (pc := 0) rfl
theorem dX5_begin_1 : decode cX5_begin 1 = .ok (.istore_n 3, 1) := kqo_3e kbl_X5_begin (pc := 1) rfl
theorem dX5_begin_2 : decode cX5_begin 2 = .ok (.iload_n 3, 1) := kqo_1d kbl_X5_begin (pc := 2) rfl
theorem dX5_begin_3 : decode cX5_begin 3 = .ok (.bipush 60, 2) := kqo_10 (x1 := 60) kbl_X5_begin (pc := 3) rfl rfl
theorem dX5_begin_5 : decode cX5_begin 5 = .ok (.if_icmp .ge 16, 3) := kqo_a2 (x1 := 0) (x2 := 16) kbl_X5_begin (pc := 5) rfl rfl
theorem dX5_begin_8 : decode cX5_begin 8 = .ok (.aload_n 0, 1) := kqo_2a kbl_X5_begin (pc := 8) rfl
theorem dX5_begin_9 : decode cX5_begin 9 = .ok (.getfield 9, 3) := kqo_b4 (x1 := 0) (x2 := 9) kbl_X5_begin (pc := 9) rfl rfl
theorem dX5_begin_12 : decode cX5_begin 12 = .ok (.iload_n 3, 1) := kqo_1d kbl_X5_begin (pc := 12) rfl
theorem dX5_begin_13 : decode cX5_begin 13 = .ok (.iconst 0, 1) := kqo_03 kbl_X5_begin (pc := 13) rfl
theorem dX5_begin_14 : decode cX5_begin 14 = .ok (.iastore, 1) := kqo_4f kbl_X5_begin (pc := 14) rfl
theorem dX5_begin_15 : decode cX5_begin 15 = .ok (.iinc 3 1, 3) := kqo_84 (x1 := 3) (x2 := 1) kbl_X5_begin (pc := 15) rfl rfl
theorem dX5_begin_18 : decode cX5_begin 18 = .ok (.goto (-16), 3) := kqo_a7 (x1 := 255) (x2 := 240) kbl_X5_begin (pc := 18) rfl rfl
theorem dX5_begin_21 : decode cX5_begin 21 = .ok (.aload_n 0, 1) := kqo_2a kbl_X5_begin (pc := 21) rfl
theorem dX5_begin_22 : decode cX5_begin 22 = .ok (.iconst 1, 1) := kqo_04 kbl_X5_begin (pc := 22) rfl
theorem dX5_begin_23 : decode cX5_begin 23 = .ok (.putfield 15, 3) := kqo_b5 (x1 := 0) (x2 := 15) kbl_X5_begin (pc := 23) rfl rfl
theorem dX5_begin_26 : decode cX5_begin 26 = .ok (.aload_n 0, 1) := kqo_2a kbl_X5_begin (pc := 26) rfl
theorem dX5_begin_27 : decode cX5_begin 27 = .ok (.iload_n 1, 1) := kqo_1b kbl_X5_begin (pc := 27) rfl
theorem dX5_begin_28 : decode cX5_begin 28 = .ok (.putfield 19, 3) := kqo_b5 (x1 := 0) (x2 := 19) kbl_X5_begin (pc := 28) rfl rfl
theorem dX5_begin_31 : decode cX5_begin 31 = .ok (.aload_n 0, 1) := kqo_2a kbl_X5_begin (pc := 31) rfl
theorem dX5_begin_32 : decode cX5_begin 32 = .ok (.iload_n 2, 1) := kqo_1c kbl_X5_begin (pc := 32) rfl
theorem dX5_begin_33 : decode cX5_begin 33 = .ok (.putfield 23, 3) := kqo_b5 (x1 := 0) (x2 := 23) kbl_X5_begin (pc := 33) rfl rfl
theorem dX5_begin_36 : decode cX5_begin 36 = .ok (.return_, 1) := kqo_b1 kbl_X5_begin (pc := 36) rfl
set_option maxRecDepth 20000 in
theorem mw_X5_begin_0 : (.fieldLink RX5 15 "FontRuns$Sheet" "isThere" "Z" : Cond) ∈ wsX5_begin := List.mem_cons_of_mem _ (List.mem_append_left _ (List.mem_of_getElem? (i := 1) rfl))
set_option maxRecDepth 20000 in
theorem mw_X5_begin_1 : (.fieldLink RX5 19 "FontRuns$Sheet" "lane" "I" : Cond) ∈ wsX5_begin := List.mem_cons_of_mem _ (List.mem_append_left _ (List.mem_of_getElem? (i := 2) rfl))
set_option maxRecDepth 20000 in
theorem mw_X5_begin_2 : (.fieldLink RX5 23 "FontRuns$Sheet" "size" "I" : Cond) ∈ wsX5_begin := List.mem_cons_of_mem _ (List.mem_append_left _ (List.mem_of_getElem? (i := 3) rfl))
set_option maxRecDepth 20000 in
theorem mw_X5_begin_3 : (.fieldLink RX5 9 "FontRuns$Sheet" "cells" "[I" : Cond) ∈ wsX5_begin := List.mem_cons_of_mem _ (List.mem_append_left _ (List.mem_of_getElem? (i := 0) rfl))
theorem ax_X5_begin_0 {e0 e1 : Nat × va_E} : ([0, 1] : List Nat).map (fun i => ([e0, e1] : va_W)[i]?) = ([e0, e1] : va_W).map some := rfl
set_option maxHeartbeats 4000000 in
set_option maxRecDepth 100000 in
theorem c_X5_begin (l : Launch) (D : va_G) (sz : Nat) (x : Int) (y : Int) (h0 : Nat) (r1 : Nat) (th : Int) (la : Int) (n : Int) (cr1 : ClassId) (fr : Nat → Int32) (q0 : rg x) (q1 : 0 ≤ y ∧ y ≤ 60) : Met l yX5_begin wsX5_begin ({ frames := 0, cells := 0, slots := 0, locals := 0 }) (kPre [.ref h0, .int (zI x), .int (zI y)] D [(h0, .inr (5, [.ref r1, .int (zI th), .int (zI la), .int (zI n)])), (r1, .inl (cr1, 60, .inl fr))] [(cr1, .int)] sz) (kQV (fun t => ∃ (uf : Nat → Int32), va_P D vwCl [(h0, .inr (5, [.ref r1, .int (zI 1), .int (zI x), .int (zI y)])), (r1, .inl (cr1, 60, .inl uf))] t.heap ∧ va_D (va_A [(h0, .inr (5, [.ref r1, .int (zI th), .int (zI la), .int (zI n)])), (r1, .inl (cr1, 60, .inl fr))] sz) [(h0, .inr (5, [.ref r1, .int (zI 1), .int (zI x), .int (zI y)])), (r1, .inl (cr1, 60, .inl uf))]) (va_A [(h0, .inr (5, [.ref r1, .int (zI th), .int (zI la), .int (zI n)])), (r1, .inl (cr1, 60, .inl fr))] sz)) 0 0 (va_A [(h0, .inr (5, [.ref r1, .int (zI th), .int (zI la), .int (zI n)])), (r1, .inl (cr1, 60, .inl fr))] sz) := by
  refine Met.ofW (cc := cX5_begin) (maxL := 4) (ret := none) (by decide) rfl ?_
  intro p e s m args below meth c s₁ B hml hv
  obtain ⟨rfl, hsz, hP, hK, hD0, hN⟩ := hv
  have hx := B.exec
  have hb := B.bytes
  have hr := B.returns
  have hts := atoms_spec (ws := wsX5_begin) B.pre
  have hown : s.vm.findClass RX5 = some m.cls := findClass_of_methodNamed B.named
  have hlocks := B.notSynchronized
  subst hsz
  have hD := hD0.self (sz := s.heap.size)
  generalize hAe : va_A [(h0, .inr (5, [.ref r1, .int (zI th), .int (zI la), .int (zI n)])), (r1, .inl (cr1, 60, .inl fr))] s.heap.size = A at hD ⊢
  have hA : ∀ q : Nat, s.heap.size ≤ q → A q := fun q h => by rw [← hAe]; exact Or.inr h
  have hS : va_S A s.heap s.heap [] := va_S.rf
  have hP : va_P D vwCl [(h0, .inr (5, [.ref r1, .int (zI th), .int (zI la), .int (zI n)])), (r1, .inl (cr1, 60, .inl fr))] s.heap := hP
  have hl := lv_entry ([.ref h0, .int (zI x), .int (zI y)]) (n := 4) (Nat.le_of_ble_eq_true rfl)
  rw [lg_entry_eq]
  generalize (lg_sl ([.ref h0, .int (zI x), .int (zI y)]) ++ List.replicate (4 - (lg_sl ([.ref h0, .int (zI x), .int (zI y)])).length) Slot.unset).toArray = ls at hl ⊢
  have hl : lv_has ls 4 [(0, .ref h0), (1, .int (zI x)), (2, .int (zI y))] := hl
  refine lv_iconst (v := zI 0) hx hb dX5_begin_0 rfl ?_
  refine lv_istore_n (lv' := [(3, .int (zI 0)), (0, .ref h0), (1, .int (zI x)), (2, .int (zI y))]) hx hb dX5_begin_1 rfl hl (by decide) rfl (fun ls hl => ?_)
  refine k_loopM (I := fun n9 H locs ls => ∃ (jk : Int) (ja : Nat → Int32), n9 = (60 - jk).toNat ∧ (0 ≤ jk ∧ jk ≤ 60) ∧ va_P D vwCl [(h0, .inr (5, [.ref r1, .int (zI th), .int (zI la), .int (zI n)])), (r1, .inl (cr1, 60, .inl ja))] H ∧ va_D A [(h0, .inr (5, [.ref r1, .int (zI th), .int (zI la), .int (zI n)])), (r1, .inl (cr1, 60, .inl ja))] ∧ va_S A s.heap H locs ∧ lv_has ls 4 [(3, .int (zI jk)), (0, .ref h0), (1, .int (zI x)), (2, .int (zI y))]) ?_ _ ⟨0, fr, rfl, (by omega), hP, hD, hS, hl⟩
  intro n2 ih2 H locs ls hI
  obtain ⟨jk, ja, en2, v_20, hP, hD, hS, hl⟩ := hI
  refine lv_iload_n hx hb dX5_begin_2 rfl (lv_at hl 0 rfl) ?_
  refine lv_bipush (v := zI 60) hx hb dX5_begin_3 (by decide) ?_
  refine kz_icmp_ge (tgt := 21) hx hb dX5_begin_5 (by decide) (by omega) (by omega) (fun c_1 => ?_) (fun c_1 => ?_)
  · refine lv_aload_n hx hb dX5_begin_21 rfl (lv_at hl 1 rfl) ?_
    refine lv_iconst (v := zI 1) hx hb dX5_begin_22 rfl ?_
    refine va_put (D := D) (ci := 5) (v := .int (zI 1)) (ty := .boolean) (C := RX5) (T := TX5) (N := 4) hx hb hts (fun _ h9 => List.mem_cons_of_mem _ (List.mem_append_right _ h9)) tyX5 tyX5_ok nmX5 hown hK hP hD hS 0 rfl rfl 1 (by decide) (hts (.fieldLink RX5 15 "FontRuns$Sheet" "isThere" "Z") mw_X5_begin_0) (fun _ h9 => h9) rfl (by decide +kernel) rfl rfl (Nat.le_of_ble_eq_true rfl) dX5_begin_23 (fun H locs hP hD hS => ?_)
    have hP : va_P D vwCl [(h0, .inr (5, [.ref r1, .int (zI 1), .int (zI la), .int (zI n)])), (r1, .inl (cr1, 60, .inl ja))] H := hP
    have hD : va_D A [(h0, .inr (5, [.ref r1, .int (zI 1), .int (zI la), .int (zI n)])), (r1, .inl (cr1, 60, .inl ja))] := hD
    refine lv_aload_n hx hb dX5_begin_26 rfl (lv_at hl 1 rfl) ?_
    refine lv_iload_n hx hb dX5_begin_27 rfl (lv_at hl 2 rfl) ?_
    refine va_put (D := D) (ci := 5) (v := .int (zI x)) (ty := .int) (C := RX5) (T := TX5) (N := 4) hx hb hts (fun _ h9 => List.mem_cons_of_mem _ (List.mem_append_right _ h9)) tyX5 tyX5_ok nmX5 hown hK hP hD hS 0 rfl rfl 2 (by decide) (hts (.fieldLink RX5 19 "FontRuns$Sheet" "lane" "I") mw_X5_begin_1) (fun _ h9 => h9) rfl (by decide +kernel) rfl rfl (Nat.le_of_ble_eq_true rfl) dX5_begin_28 (fun H locs hP hD hS => ?_)
    have hP : va_P D vwCl [(h0, .inr (5, [.ref r1, .int (zI 1), .int (zI x), .int (zI n)])), (r1, .inl (cr1, 60, .inl ja))] H := hP
    have hD : va_D A [(h0, .inr (5, [.ref r1, .int (zI 1), .int (zI x), .int (zI n)])), (r1, .inl (cr1, 60, .inl ja))] := hD
    refine lv_aload_n hx hb dX5_begin_31 rfl (lv_at hl 1 rfl) ?_
    refine lv_iload_n hx hb dX5_begin_32 rfl (lv_at hl 3 rfl) ?_
    refine va_put (D := D) (ci := 5) (v := .int (zI y)) (ty := .int) (C := RX5) (T := TX5) (N := 4) hx hb hts (fun _ h9 => List.mem_cons_of_mem _ (List.mem_append_right _ h9)) tyX5 tyX5_ok nmX5 hown hK hP hD hS 0 rfl rfl 3 (by decide) (hts (.fieldLink RX5 23 "FontRuns$Sheet" "size" "I") mw_X5_begin_2) (fun _ h9 => h9) rfl (by decide +kernel) rfl rfl (Nat.le_of_ble_eq_true rfl) dX5_begin_33 (fun H locs hP hD hS => ?_)
    have hP : va_P D vwCl [(h0, .inr (5, [.ref r1, .int (zI 1), .int (zI x), .int (zI y)])), (r1, .inl (cr1, 60, .inl ja))] H := hP
    have hD : va_D A [(h0, .inr (5, [.ref r1, .int (zI 1), .int (zI x), .int (zI y)])), (r1, .inl (cr1, 60, .inl ja))] := hD
    have hP9 := hP.sub (ws' := [(h0, .inr (5, [.ref r1, .int (zI 1), .int (zI x), .int (zI y)])), (r1, .inl (cr1, 60, .inl ja))]) [0, 1] rfl
    have hD9 := hD.sub (ws' := [(h0, .inr (5, [.ref r1, .int (zI 1), .int (zI x), .int (zI y)])), (r1, .inl (cr1, 60, .inl ja))]) [0, 1] (by decide +kernel) rfl
    exact W.vret hx hb hr (fun t ht hW => kQV_of ⟨ja, by rw [ht]; exact hP9, hD9⟩ (hS.F ht)) hS.2.2 dX5_begin_36
  · refine lv_aload_n hx hb dX5_begin_8 rfl (lv_at hl 1 rfl) ?_
    refine va_get (D := D) (ci := 5) (v := .ref r1) (C := RX5) (T := TX5) (N := 4) hx hb hts (fun _ h9 => List.mem_cons_of_mem _ (List.mem_append_right _ h9)) hown hK hP 0 rfl rfl 0 (by decide) (hts (.fieldLink RX5 9 "FontRuns$Sheet" "cells" "[I") mw_X5_begin_3) (fun _ h9 => h9) rfl dX5_begin_9 ?_
    refine lv_iload_n hx hb dX5_begin_12 rfl (lv_at hl 0 rfl) ?_
    refine lv_iconst (v := zI 0) hx hb dX5_begin_13 rfl ?_
    refine kz_iast hx hb hK hP hD hS 1 0 rfl rfl (by omega) dX5_begin_14 (fun H locs hP hD hS => ?_)
    have hP : va_P D vwCl [(h0, .inr (5, [.ref r1, .int (zI th), .int (zI la), .int (zI n)])), (r1, .inl (cr1, 60, .inl (upd ja (jk).toNat (zI 0))))] H := hP
    have hD : va_D A [(h0, .inr (5, [.ref r1, .int (zI th), .int (zI la), .int (zI n)])), (r1, .inl (cr1, 60, .inl (upd ja (jk).toNat (zI 0))))] := hD
    generalize ef_2 : upd ja (jk).toNat (zI 0) = f_2 at hP hD
    refine lv_iinc (v := (zI (jk + 1))) (lv' := [(3, .int (zI (jk + 1))), (0, .ref h0), (1, .int (zI x)), (2, .int (zI y))]) hx hb dX5_begin_15 hl (k := 0) rfl (kz_inc _ 1) (by decide) rfl (fun ls hl => ?_)
    refine lv_goto (tgt := 2) hx hb dX5_begin_18 (by decide) ?_
    exact ih2 _ (by omega) _ _ _ ⟨(jk + 1), f_2, rfl, (by omega), hP, hD, hS, lv_sub hl [0, 1, 2, 3] rfl⟩
theorem dX5_hasCell_0 : decode cX5_hasCell 0 = .ok (.aload_n 0, 1) := kqo_2a kbl_X5_hasCell (pc := 0) rfl
theorem dX5_hasCell_1 : decode cX5_hasCell 1 = .ok (.getfield 15, 3) := kqo_b4 (x1 := 0) (x2 := 15) kbl_X5_hasCell (pc := 1) rfl rfl
theorem dX5_hasCell_4 : decode cX5_hasCell 4 = .ok (.ifCond .eq 21, 3) := kqo_99 (x1 := 0) (x2 := 21) kbl_X5_hasCell (pc := 4) rfl rfl
theorem dX5_hasCell_7 : decode cX5_hasCell 7 = .ok (.iload_n 1, 1) := kqo_1b kbl_X5_hasCell (pc := 7) rfl
theorem dX5_hasCell_8 : decode cX5_hasCell 8 = .ok (.iconst 0, 1) := kqo_03 kbl_X5_hasCell (pc := 8) rfl
theorem dX5_hasCell_9 : decode cX5_hasCell 9 = .ok (.aload_n 0, 1) := kqo_2a kbl_X5_hasCell (pc := 9) rfl
theorem dX5_hasCell_10 : decode cX5_hasCell 10 = .ok (.getfield 23, 3) := kqo_b4 (x1 := 0) (x2 := 23) kbl_X5_hasCell (pc := 10) rfl rfl
theorem dX5_hasCell_13 : decode cX5_hasCell 13 = .ok (.iconst 1, 1) := kqo_04 kbl_X5_hasCell (pc := 13) rfl
theorem dX5_hasCell_14 : decode cX5_hasCell 14 = .ok (.isub, 1) := kqo_64 kbl_X5_hasCell (pc := 14) rfl
theorem dX5_hasCell_15 : decode cX5_hasCell 15 = .ok (.invokestatic 26, 3) := kqo_b8 (x1 := 0) (x2 := 26) kbl_X5_hasCell (pc := 15) rfl rfl
theorem dX5_hasCell_18 : decode cX5_hasCell 18 = .ok (.ifCond .eq 7, 3) := kqo_99 (x1 := 0) (x2 := 7) kbl_X5_hasCell (pc := 18) rfl rfl
theorem dX5_hasCell_21 : decode cX5_hasCell 21 = .ok (.iconst 1, 1) := kqo_04 kbl_X5_hasCell (pc := 21) rfl
theorem dX5_hasCell_22 : decode cX5_hasCell 22 = .ok (.goto 4, 3) := kqo_a7 (x1 := 0) (x2 := 4) kbl_X5_hasCell (pc := 22) rfl rfl
theorem dX5_hasCell_25 : decode cX5_hasCell 25 = .ok (.iconst 0, 1) := kqo_03 kbl_X5_hasCell (pc := 25) rfl
theorem dX5_hasCell_26 : decode cX5_hasCell 26 = .ok (.ireturn, 1) := kqo_ac kbl_X5_hasCell (pc := 26) rfl
set_option maxRecDepth 20000 in
theorem ggX5_hasCell_X8_isWithin : GoodIn wsX5_hasCell wsX8_isWithin := goodIn_4 _ (List.forall_mem_cons.mpr ⟨List.mem_cons_of_mem _ (List.mem_append_left _ (List.mem_of_getElem? (i := 4) rfl)), fun _ h9 => absurd h9 List.not_mem_nil⟩) (by decide +kernel)
set_option maxRecDepth 20000 in
theorem gX5_hasCell_X8_isWithin_n26 : GoodIn wsX5_hasCell (wsX8_isWithin) := ggX5_hasCell_X8_isWithin
set_option maxRecDepth 20000 in
theorem mw_X5_hasCell_0 : (.fieldLink RX5 15 "FontRuns$Sheet" "isThere" "Z" : Cond) ∈ wsX5_hasCell := List.mem_cons_of_mem _ (List.mem_append_left _ (List.mem_of_getElem? (i := 0) rfl))
set_option maxRecDepth 20000 in
theorem mw_X5_hasCell_1 : (.fieldLink RX5 23 "FontRuns$Sheet" "size" "I" : Cond) ∈ wsX5_hasCell := List.mem_cons_of_mem _ (List.mem_append_left _ (List.mem_of_getElem? (i := 1) rfl))
set_option maxRecDepth 20000 in
theorem mw_X5_hasCell_2 : (.initialized RX8 : Cond) ∈ wsX5_hasCell := List.mem_cons_of_mem _ (List.mem_append_left _ (List.mem_of_getElem? (i := 3) rfl))
set_option maxRecDepth 20000 in
theorem mw_X5_hasCell_3 : (.static yX8_isWithin : Cond) ∈ wsX5_hasCell := List.mem_cons_of_mem _ (List.mem_append_left _ (List.mem_of_getElem? (i := 2) rfl))
theorem ax_X5_hasCell_0 {e0 : Nat × va_E} : ([] : List Nat).map (fun i => ([e0] : va_W)[i]?) = ([] : va_W).map some := rfl
set_option maxHeartbeats 4000000 in
set_option maxRecDepth 100000 in
theorem c_X5_hasCell (l : Launch) (D : va_G) (sz : Nat) (i : Int) (h0 : Nat) (r1 : Nat) (th : Int) (la : Int) (n : Int) (q0 : rg i) (q1 : th = 0 ∨ th = 1) (q2 : rg la) (q3 : 0 ≤ n ∧ n ≤ 60) : Met l yX5_hasCell wsX5_hasCell ({ frames := 1, cells := 0, slots := 0, locals := 22 }) (kPre [.ref h0, .int (zI i)] D [(h0, .inr (5, [.ref r1, .int (zI th), .int (zI la), .int (zI n)]))] [] sz) (QcRead (if th = 1 ∧ 0 ≤ i ∧ i ≤ n - 1 then 1 else 0)) 0 0 (fun _ => False) := by
  refine Met.ofW (cc := cX5_hasCell) (maxL := 2) (ret := (some .boolean)) (by decide) rfl ?_
  intro p e s m args below meth c s₁ B hml hv
  obtain ⟨rfl, hsz, hP, hK, hD0, hN⟩ := hv
  have hx := B.exec
  have hb := B.bytes
  have hr := B.returns
  have hts := atoms_spec (ws := wsX5_hasCell) B.pre
  have hown : s.vm.findClass RX5 = some m.cls := findClass_of_methodNamed B.named
  have hlocks := B.notSynchronized
  subst hsz
  have hD := hD0
  have hP : va_P D vwCl [(h0, .inr (5, [.ref r1, .int (zI th), .int (zI la), .int (zI n)]))] s.heap := hP
  have hl := lv_entry ([.ref h0, .int (zI i)]) (n := 2) (Nat.le_of_ble_eq_true rfl)
  rw [lg_entry_eq]
  generalize (lg_sl ([.ref h0, .int (zI i)]) ++ List.replicate (2 - (lg_sl ([.ref h0, .int (zI i)])).length) Slot.unset).toArray = ls at hl ⊢
  have hl : lv_has ls 2 [(0, .ref h0), (1, .int (zI i))] := hl
  refine lv_aload_n hx hb dX5_hasCell_0 rfl (lv_at hl 0 rfl) ?_
  refine va_get (D := D) (ci := 5) (v := .int (zI th)) (C := RX5) (T := TX5) (N := 4) hx hb hts (fun _ h9 => List.mem_cons_of_mem _ (List.mem_append_right _ h9)) hown hK hP 0 rfl rfl 1 (by decide) (hts (.fieldLink RX5 15 "FontRuns$Sheet" "isThere" "Z") mw_X5_hasCell_0) (fun _ h9 => h9) rfl dX5_hasCell_1 ?_
  refine kz_if_eq (tgt := 25) hx hb dX5_hasCell_4 (by decide) (by omega) (fun c_1 => ?_) (fun c_1 => ?_)
  · refine lv_iconst (v := zI 0) hx hb dX5_hasCell_25 rfl ?_
    exact W.zret (v := (zI 0)) hx hb hr rfl (fun t ht hW => kRd (kb0 (by omega)) ht) (fun _ h9 => by cases h9) dX5_hasCell_26
  · refine lv_iload_n hx hb dX5_hasCell_7 rfl (lv_at hl 1 rfl) ?_
    refine lv_iconst (v := zI 0) hx hb dX5_hasCell_8 rfl ?_
    refine lv_aload_n hx hb dX5_hasCell_9 rfl (lv_at hl 0 rfl) ?_
    refine va_get (D := D) (ci := 5) (v := .int (zI n)) (C := RX5) (T := TX5) (N := 4) hx hb hts (fun _ h9 => List.mem_cons_of_mem _ (List.mem_append_right _ h9)) hown hK hP 0 rfl rfl 3 (by decide) (hts (.fieldLink RX5 23 "FontRuns$Sheet" "size" "I") mw_X5_hasCell_1) (fun _ h9 => h9) rfl dX5_hasCell_10 ?_
    refine lv_iconst (v := zI 1) hx hb dX5_hasCell_13 rfl ?_
    refine kz_isub hx hb dX5_hasCell_14 ?_
    refine k_callR (va_runSN (As := [.int (zI i), .int (zI 0), .int (zI (n - 1))]) (rest := []) ⟨hx, hb, hml, hown, hts⟩ (c_X8_isWithin l D s.heap.size (v := i) (a := 0) (b := (n - 1)) q0 (by omega) (by omega)) (⟨va_cnB 3 hts gX5_hasCell_X8_isWithin_n26 rfl rfl rfl (hN.1 (RX5, 26, yX8_isWithin) (by decide +kernel)) (hts (.initialized RX8) mw_X5_hasCell_2) (by decide +kernel) ⟨Nat.le_of_ble_eq_true rfl, Nat.le_of_ble_eq_true rfl⟩, (hts (.static yX8_isWithin) mw_X5_hasCell_3), trivial⟩) (kPreS hP (kD0 hD) hK hN [] [] ax_X5_hasCell_0 rfl (by decide +kernel)) rfl rfl hl.1 rfl (lv_room (Nat.le_of_ble_eq_true rfl)) dX5_hasCell_15 ⟨Nat.le_of_ble_eq_true rfl, Nat.le_of_ble_eq_true rfl⟩) ?_
    refine lv_if_eq (tgt := 25) hx hb dX5_hasCell_18 (by decide) (fun c_2 => ?_) (fun c_2 => ?_)
    · have c_2 : ¬ (0 ≤ i ∧ i ≤ (n - 1)) := b01f c_2
      refine lv_iconst (v := zI 0) hx hb dX5_hasCell_25 rfl ?_
      exact W.zret (v := (zI 0)) hx hb hr rfl (fun t ht hW => kRd (kb0 (by omega)) ht) (fun _ h9 => by cases h9) dX5_hasCell_26
    · have c_2 : 0 ≤ i ∧ i ≤ (n - 1) := b01t c_2
      refine lv_iconst (v := zI 1) hx hb dX5_hasCell_21 rfl ?_
      refine lv_goto (tgt := 26) hx hb dX5_hasCell_22 (by decide) ?_
      exact W.zret (v := (zI 1)) hx hb hr rfl (fun t ht hW => kRd (kb1 (by omega)) ht) (fun _ h9 => by cases h9) dX5_hasCell_26
theorem dX5_hasCells_0 : decode cX5_hasCells 0 = .ok (.aload_n 0, 1) := kqo_2a kbl_X5_hasCells (pc := 0) rfl
theorem dX5_hasCells_1 : decode cX5_hasCells 1 = .ok (.getfield 15, 3) := kqo_b4 (x1 := 0) (x2 := 15) kbl_X5_hasCells (pc := 1) rfl rfl
theorem dX5_hasCells_4 : decode cX5_hasCells 4 = .ok (.ifCond .eq 33, 3) := kqo_99 (x1 := 0) (x2 := 33) kbl_X5_hasCells (pc := 4) rfl rfl
theorem dX5_hasCells_7 : decode cX5_hasCells 7 = .ok (.iload_n 1, 1) := kqo_1b kbl_X5_hasCells (pc := 7) rfl
theorem dX5_hasCells_8 : decode cX5_hasCells 8 = .ok (.iconst 0, 1) := kqo_03 kbl_X5_hasCells (pc := 8) rfl
theorem dX5_hasCells_9 : decode cX5_hasCells 9 = .ok (.aload_n 0, 1) := kqo_2a kbl_X5_hasCells (pc := 9) rfl
theorem dX5_hasCells_10 : decode cX5_hasCells 10 = .ok (.getfield 23, 3) := kqo_b4 (x1 := 0) (x2 := 23) kbl_X5_hasCells (pc := 10) rfl rfl
theorem dX5_hasCells_13 : decode cX5_hasCells 13 = .ok (.invokestatic 26, 3) := kqo_b8 (x1 := 0) (x2 := 26) kbl_X5_hasCells (pc := 13) rfl rfl
theorem dX5_hasCells_16 : decode cX5_hasCells 16 = .ok (.ifCond .eq 21, 3) := kqo_99 (x1 := 0) (x2 := 21) kbl_X5_hasCells (pc := 16) rfl rfl
theorem dX5_hasCells_19 : decode cX5_hasCells 19 = .ok (.iload_n 2, 1) := kqo_1c kbl_X5_hasCells (pc := 19) rfl
theorem dX5_hasCells_20 : decode cX5_hasCells 20 = .ok (.iconst 0, 1) := kqo_03 kbl_X5_hasCells (pc := 20) rfl
theorem dX5_hasCells_21 : decode cX5_hasCells 21 = .ok (.aload_n 0, 1) := kqo_2a kbl_X5_hasCells (pc := 21) rfl
theorem dX5_hasCells_22 : decode cX5_hasCells 22 = .ok (.getfield 23, 3) := kqo_b4 (x1 := 0) (x2 := 23) kbl_X5_hasCells (pc := 22) rfl rfl
theorem dX5_hasCells_25 : decode cX5_hasCells 25 = .ok (.iload_n 1, 1) := kqo_1b kbl_X5_hasCells (pc := 25) rfl
theorem dX5_hasCells_26 : decode cX5_hasCells 26 = .ok (.isub, 1) := kqo_64 kbl_X5_hasCells (pc := 26) rfl
theorem dX5_hasCells_27 : decode cX5_hasCells 27 = .ok (.invokestatic 26, 3) := kqo_b8 (x1 := 0) (x2 := 26) kbl_X5_hasCells (pc := 27) rfl rfl
theorem dX5_hasCells_30 : decode cX5_hasCells 30 = .ok (.ifCond .eq 7, 3) := kqo_99 (x1 := 0) (x2 := 7) kbl_X5_hasCells (pc := 30) rfl rfl
theorem dX5_hasCells_33 : decode cX5_hasCells 33 = .ok (.iconst 1, 1) := kqo_04 kbl_X5_hasCells (pc := 33) rfl
theorem dX5_hasCells_34 : decode cX5_hasCells 34 = .ok (.goto 4, 3) := kqo_a7 (x1 := 0) (x2 := 4) kbl_X5_hasCells (pc := 34) rfl rfl
theorem dX5_hasCells_37 : decode cX5_hasCells 37 = .ok (.iconst 0, 1) := kqo_03 kbl_X5_hasCells (pc := 37) rfl
theorem dX5_hasCells_38 : decode cX5_hasCells 38 = .ok (.ireturn, 1) := kqo_ac kbl_X5_hasCells (pc := 38) rfl
set_option maxRecDepth 20000 in
theorem ggX5_hasCells_X8_isWithin : GoodIn wsX5_hasCells wsX8_isWithin := goodIn_4 _ (List.forall_mem_cons.mpr ⟨List.mem_cons_of_mem _ (List.mem_append_left _ (List.mem_of_getElem? (i := 4) rfl)), fun _ h9 => absurd h9 List.not_mem_nil⟩) (by decide +kernel)
set_option maxRecDepth 20000 in
theorem gX5_hasCells_X8_isWithin_n26 : GoodIn wsX5_hasCells (wsX8_isWithin) := ggX5_hasCells_X8_isWithin
set_option maxRecDepth 20000 in
theorem mw_X5_hasCells_0 : (.fieldLink RX5 15 "FontRuns$Sheet" "isThere" "Z" : Cond) ∈ wsX5_hasCells := List.mem_cons_of_mem _ (List.mem_append_left _ (List.mem_of_getElem? (i := 0) rfl))
set_option maxRecDepth 20000 in
theorem mw_X5_hasCells_1 : (.fieldLink RX5 23 "FontRuns$Sheet" "size" "I" : Cond) ∈ wsX5_hasCells := List.mem_cons_of_mem _ (List.mem_append_left _ (List.mem_of_getElem? (i := 1) rfl))
set_option maxRecDepth 20000 in
theorem mw_X5_hasCells_2 : (.initialized RX8 : Cond) ∈ wsX5_hasCells := List.mem_cons_of_mem _ (List.mem_append_left _ (List.mem_of_getElem? (i := 3) rfl))
set_option maxRecDepth 20000 in
theorem mw_X5_hasCells_3 : (.static yX8_isWithin : Cond) ∈ wsX5_hasCells := List.mem_cons_of_mem _ (List.mem_append_left _ (List.mem_of_getElem? (i := 2) rfl))
theorem ax_X5_hasCells_0 {e0 : Nat × va_E} : ([] : List Nat).map (fun i => ([e0] : va_W)[i]?) = ([] : va_W).map some := rfl
set_option maxHeartbeats 4000000 in
set_option maxRecDepth 100000 in
theorem c_X5_hasCells (l : Launch) (D : va_G) (sz : Nat) (i : Int) (k : Int) (h0 : Nat) (r1 : Nat) (th : Int) (la : Int) (n : Int) (q0 : rg i) (q1 : rg k) (q2 : th = 0 ∨ th = 1) (q3 : rg la) (q4 : 0 ≤ n ∧ n ≤ 60) : Met l yX5_hasCells wsX5_hasCells ({ frames := 1, cells := 0, slots := 0, locals := 22 }) (kPre [.ref h0, .int (zI i), .int (zI k)] D [(h0, .inr (5, [.ref r1, .int (zI th), .int (zI la), .int (zI n)]))] [] sz) (QcRead (if th = 1 ∧ (0 ≤ i ∧ i ≤ n) ∧ (0 ≤ k ∧ k ≤ n - i) then 1 else 0)) 0 0 (fun _ => False) := by
  refine Met.ofW (cc := cX5_hasCells) (maxL := 3) (ret := (some .boolean)) (by decide) rfl ?_
  intro p e s m args below meth c s₁ B hml hv
  obtain ⟨rfl, hsz, hP, hK, hD0, hN⟩ := hv
  have hx := B.exec
  have hb := B.bytes
  have hr := B.returns
  have hts := atoms_spec (ws := wsX5_hasCells) B.pre
  have hown : s.vm.findClass RX5 = some m.cls := findClass_of_methodNamed B.named
  have hlocks := B.notSynchronized
  subst hsz
  have hD := hD0
  have hP : va_P D vwCl [(h0, .inr (5, [.ref r1, .int (zI th), .int (zI la), .int (zI n)]))] s.heap := hP
  have hl := lv_entry ([.ref h0, .int (zI i), .int (zI k)]) (n := 3) (Nat.le_of_ble_eq_true rfl)
  rw [lg_entry_eq]
  generalize (lg_sl ([.ref h0, .int (zI i), .int (zI k)]) ++ List.replicate (3 - (lg_sl ([.ref h0, .int (zI i), .int (zI k)])).length) Slot.unset).toArray = ls at hl ⊢
  have hl : lv_has ls 3 [(0, .ref h0), (1, .int (zI i)), (2, .int (zI k))] := hl
  refine lv_aload_n hx hb dX5_hasCells_0 rfl (lv_at hl 0 rfl) ?_
  refine va_get (D := D) (ci := 5) (v := .int (zI th)) (C := RX5) (T := TX5) (N := 4) hx hb hts (fun _ h9 => List.mem_cons_of_mem _ (List.mem_append_right _ h9)) hown hK hP 0 rfl rfl 1 (by decide) (hts (.fieldLink RX5 15 "FontRuns$Sheet" "isThere" "Z") mw_X5_hasCells_0) (fun _ h9 => h9) rfl dX5_hasCells_1 ?_
  refine kz_if_eq (tgt := 37) hx hb dX5_hasCells_4 (by decide) (by omega) (fun c_1 => ?_) (fun c_1 => ?_)
  · refine lv_iconst (v := zI 0) hx hb dX5_hasCells_37 rfl ?_
    exact W.zret (v := (zI 0)) hx hb hr rfl (fun t ht hW => kRd (kb0 (by omega)) ht) (fun _ h9 => by cases h9) dX5_hasCells_38
  · refine lv_iload_n hx hb dX5_hasCells_7 rfl (lv_at hl 1 rfl) ?_
    refine lv_iconst (v := zI 0) hx hb dX5_hasCells_8 rfl ?_
    refine lv_aload_n hx hb dX5_hasCells_9 rfl (lv_at hl 0 rfl) ?_
    refine va_get (D := D) (ci := 5) (v := .int (zI n)) (C := RX5) (T := TX5) (N := 4) hx hb hts (fun _ h9 => List.mem_cons_of_mem _ (List.mem_append_right _ h9)) hown hK hP 0 rfl rfl 3 (by decide) (hts (.fieldLink RX5 23 "FontRuns$Sheet" "size" "I") mw_X5_hasCells_1) (fun _ h9 => h9) rfl dX5_hasCells_10 ?_
    refine k_callR (va_runSN (As := [.int (zI i), .int (zI 0), .int (zI n)]) (rest := []) ⟨hx, hb, hml, hown, hts⟩ (c_X8_isWithin l D s.heap.size (v := i) (a := 0) (b := n) q0 (by omega) (by omega)) (⟨va_cnB 3 hts gX5_hasCells_X8_isWithin_n26 rfl rfl rfl (hN.1 (RX5, 26, yX8_isWithin) (by decide +kernel)) (hts (.initialized RX8) mw_X5_hasCells_2) (by decide +kernel) ⟨Nat.le_of_ble_eq_true rfl, Nat.le_of_ble_eq_true rfl⟩, (hts (.static yX8_isWithin) mw_X5_hasCells_3), trivial⟩) (kPreS hP (kD0 hD) hK hN [] [] ax_X5_hasCells_0 rfl (by decide +kernel)) rfl rfl hl.1 rfl (lv_room (Nat.le_of_ble_eq_true rfl)) dX5_hasCells_13 ⟨Nat.le_of_ble_eq_true rfl, Nat.le_of_ble_eq_true rfl⟩) ?_
    refine lv_if_eq (tgt := 37) hx hb dX5_hasCells_16 (by decide) (fun c_2 => ?_) (fun c_2 => ?_)
    · have c_2 : ¬ (0 ≤ i ∧ i ≤ n) := b01f c_2
      refine lv_iconst (v := zI 0) hx hb dX5_hasCells_37 rfl ?_
      exact W.zret (v := (zI 0)) hx hb hr rfl (fun t ht hW => kRd (kb0 (by omega)) ht) (fun _ h9 => by cases h9) dX5_hasCells_38
    · have c_2 : 0 ≤ i ∧ i ≤ n := b01t c_2
      refine lv_iload_n hx hb dX5_hasCells_19 rfl (lv_at hl 2 rfl) ?_
      refine lv_iconst (v := zI 0) hx hb dX5_hasCells_20 rfl ?_
      refine lv_aload_n hx hb dX5_hasCells_21 rfl (lv_at hl 0 rfl) ?_
      refine va_get (D := D) (ci := 5) (v := .int (zI n)) (C := RX5) (T := TX5) (N := 4) hx hb hts (fun _ h9 => List.mem_cons_of_mem _ (List.mem_append_right _ h9)) hown hK hP 0 rfl rfl 3 (by decide) (hts (.fieldLink RX5 23 "FontRuns$Sheet" "size" "I") mw_X5_hasCells_1) (fun _ h9 => h9) rfl dX5_hasCells_22 ?_
      refine lv_iload_n hx hb dX5_hasCells_25 rfl (lv_at hl 1 rfl) ?_
      refine kz_isub hx hb dX5_hasCells_26 ?_
      refine k_callR (va_runSN (As := [.int (zI k), .int (zI 0), .int (zI (n - i))]) (rest := []) ⟨hx, hb, hml, hown, hts⟩ (c_X8_isWithin l D s.heap.size (v := k) (a := 0) (b := (n - i)) q1 (by omega) (by omega)) (⟨va_cnB 3 hts gX5_hasCells_X8_isWithin_n26 rfl rfl rfl (hN.1 (RX5, 26, yX8_isWithin) (by decide +kernel)) (hts (.initialized RX8) mw_X5_hasCells_2) (by decide +kernel) ⟨Nat.le_of_ble_eq_true rfl, Nat.le_of_ble_eq_true rfl⟩, (hts (.static yX8_isWithin) mw_X5_hasCells_3), trivial⟩) (kPreS hP (kD0 hD) hK hN [] [] ax_X5_hasCells_0 rfl (by decide +kernel)) rfl rfl hl.1 rfl (lv_room (Nat.le_of_ble_eq_true rfl)) dX5_hasCells_27 ⟨Nat.le_of_ble_eq_true rfl, Nat.le_of_ble_eq_true rfl⟩) ?_
      refine lv_if_eq (tgt := 37) hx hb dX5_hasCells_30 (by decide) (fun c_3 => ?_) (fun c_3 => ?_)
      · have c_3 : ¬ (0 ≤ k ∧ k ≤ (n - i)) := b01f c_3
        refine lv_iconst (v := zI 0) hx hb dX5_hasCells_37 rfl ?_
        exact W.zret (v := (zI 0)) hx hb hr rfl (fun t ht hW => kRd (kb0 (by omega)) ht) (fun _ h9 => by cases h9) dX5_hasCells_38
      · have c_3 : 0 ≤ k ∧ k ≤ (n - i) := b01t c_3
        refine lv_iconst (v := zI 1) hx hb dX5_hasCells_33 rfl ?_
        refine lv_goto (tgt := 38) hx hb dX5_hasCells_34 (by decide) ?_
        exact W.zret (v := (zI 1)) hx hb hr rfl (fun t ht hW => kRd (kb1 (by omega)) ht) (fun _ h9 => by cases h9) dX5_hasCells_38
theorem dX5_at_0 : decode cX5_at 0 = .ok (.aload_n 0, 1) := kqo_2a kbl_X5_at (pc := 0) rfl
theorem dX5_at_1 : decode cX5_at 1 = .ok (.iload_n 1, 1) := kqo_1b kbl_X5_at (pc := 1) rfl
theorem dX5_at_2 : decode cX5_at 2 = .ok (.invokevirtual 30, 3) := kqo_b6 (x1 := 0) (x2 := 30) kbl_X5_at (pc := 2) rfl rfl
theorem dX5_at_5 : decode cX5_at 5 = .ok (.ifCond .eq 12, 3) := kqo_99 (x1 := 0) (x2 := 12) kbl_X5_at (pc := 5) rfl rfl
theorem dX5_at_8 : decode cX5_at 8 = .ok (.aload_n 0, 1) := kqo_2a kbl_X5_at (pc := 8) rfl
theorem dX5_at_9 : decode cX5_at 9 = .ok (.getfield 9, 3) := kqo_b4 (x1 := 0) (x2 := 9) kbl_X5_at (pc := 9) rfl rfl
theorem dX5_at_12 : decode cX5_at 12 = .ok (.iload_n 1, 1) := kqo_1b kbl_X5_at (pc := 12) rfl
theorem dX5_at_13 : decode cX5_at 13 = .ok (.iaload, 1) := kqo_2e kbl_X5_at (pc := 13) rfl
theorem dX5_at_14 : decode cX5_at 14 = .ok (.goto 4, 3) := kqo_a7 (x1 := 0) (x2 := 4) kbl_X5_at (pc := 14) rfl rfl
theorem dX5_at_17 : decode cX5_at 17 = .ok (.iconst 0, 1) := kqo_03 kbl_X5_at (pc := 17) rfl
theorem dX5_at_18 : decode cX5_at 18 = .ok (.ireturn, 1) := kqo_ac kbl_X5_at (pc := 18) rfl
set_option maxRecDepth 20000 in
theorem ggX5_at_X5_hasCell : GoodIn wsX5_at wsX5_hasCell := goodIn_4 _ (List.forall_mem_cons.mpr ⟨List.mem_cons_of_mem _ (List.mem_append_left _ (List.mem_of_getElem? (i := 5) rfl)), List.forall_mem_append.mpr ⟨List.forall_mem_cons.mpr ⟨List.mem_cons_of_mem _ (List.mem_append_left _ (List.mem_of_getElem? (i := 6) rfl)), List.forall_mem_cons.mpr ⟨List.mem_cons_of_mem _ (List.mem_append_left _ (List.mem_of_getElem? (i := 7) rfl)), List.forall_mem_cons.mpr ⟨List.mem_cons_of_mem _ (List.mem_append_left _ (List.mem_of_getElem? (i := 8) rfl)), List.forall_mem_cons.mpr ⟨List.mem_cons_of_mem _ (List.mem_append_left _ (List.mem_of_getElem? (i := 9) rfl)), List.forall_mem_cons.mpr ⟨List.mem_cons_of_mem _ (List.mem_append_left _ (List.mem_of_getElem? (i := 10) rfl)), fun _ h9 => absurd h9 List.not_mem_nil⟩⟩⟩⟩⟩, fun w h9 => List.mem_cons_of_mem _ (List.mem_append_right _ (h9))⟩⟩) (by decide +kernel)
set_option maxRecDepth 20000 in
theorem gX5_at_X5_hasCell : GoodIn wsX5_at (wsV RX5 30 RX5 yX5_hasCell wsX5_hasCell) := goodIn_app (goodIn_4 _ (List.forall_mem_cons.mpr ⟨List.mem_cons_of_mem _ (List.mem_append_left _ (List.mem_of_getElem? (i := 1) rfl)), List.forall_mem_cons.mpr ⟨List.mem_cons_of_mem _ (List.mem_append_left _ (List.mem_of_getElem? (i := 2) rfl)), List.forall_mem_cons.mpr ⟨List.mem_cons_of_mem _ (List.mem_append_left _ (List.mem_of_getElem? (i := 3) rfl)), List.forall_mem_cons.mpr ⟨List.mem_cons_of_mem _ (List.mem_append_left _ (List.mem_of_getElem? (i := 4) rfl)), fun _ h9 => absurd h9 List.not_mem_nil⟩⟩⟩⟩) (by decide +kernel)) ggX5_at_X5_hasCell
set_option maxRecDepth 20000 in
theorem mw_X5_at_0 : (.fieldLink RX5 9 "FontRuns$Sheet" "cells" "[I" : Cond) ∈ wsX5_at := List.mem_cons_of_mem _ (List.mem_append_left _ (List.mem_of_getElem? (i := 0) rfl))
theorem ax_X5_at_0 {e0 e1 : Nat × va_E} : ([0] : List Nat).map (fun i => ([e0, e1] : va_W)[i]?) = ([e0] : va_W).map some := rfl
set_option maxHeartbeats 4000000 in
set_option maxRecDepth 100000 in
theorem c_X5_at (l : Launch) (D : va_G) (sz : Nat) (i : Int) (h0 : Nat) (r1 : Nat) (th : Int) (la : Int) (n : Int) (cr1 : ClassId) (fr : Nat → Int32) (q0 : rg i) (q1 : th = 0 ∨ th = 1) (q2 : rg la) (q3 : 0 ≤ n ∧ n ≤ 60) : Met l yX5_at wsX5_at ({ frames := 2, cells := 0, slots := 0, locals := 43 }) (kPre [.ref h0, .int (zI i)] D [(h0, .inr (5, [.ref r1, .int (zI th), .int (zI la), .int (zI n)])), (r1, .inl (cr1, 60, .inl fr))] [(cr1, .int)] sz) (QcP (fun rz => True)) 0 0 (fun _ => False) := by
  refine Met.ofW (cc := cX5_at) (maxL := 2) (ret := (some .int)) (by decide) rfl ?_
  intro p e s m args below meth c s₁ B hml hv
  obtain ⟨rfl, hsz, hP, hK, hD0, hN⟩ := hv
  have hx := B.exec
  have hb := B.bytes
  have hr := B.returns
  have hts := atoms_spec (ws := wsX5_at) B.pre
  have hown : s.vm.findClass RX5 = some m.cls := findClass_of_methodNamed B.named
  have hlocks := B.notSynchronized
  subst hsz
  have hD := hD0
  have hP : va_P D vwCl [(h0, .inr (5, [.ref r1, .int (zI th), .int (zI la), .int (zI n)])), (r1, .inl (cr1, 60, .inl fr))] s.heap := hP
  have hl := lv_entry ([.ref h0, .int (zI i)]) (n := 2) (Nat.le_of_ble_eq_true rfl)
  rw [lg_entry_eq]
  generalize (lg_sl ([.ref h0, .int (zI i)]) ++ List.replicate (2 - (lg_sl ([.ref h0, .int (zI i)])).length) Slot.unset).toArray = ls at hl ⊢
  have hl : lv_has ls 2 [(0, .ref h0), (1, .int (zI i))] := hl
  refine lv_aload_n hx hb dX5_at_0 rfl (lv_at hl 0 rfl) ?_
  refine lv_iload_n hx hb dX5_at_1 rfl (lv_at hl 1 rfl) ?_
  refine k_callR (va_runV (As := [.int (zI i)]) (rest := []) ⟨hx, hb, hml, hown, hts⟩ (c_X5_hasCell l D s.heap.size (i := i) (h0 := h0) (r1 := r1) (th := th) (la := la) (n := n) q0 q1 q2 q3) (cwV 1 hts gX5_at_X5_hasCell rfl rfl rfl (by decide +kernel) ⟨Nat.le_of_ble_eq_true rfl, Nat.le_of_ble_eq_true rfl⟩) (kPreV hP (kD0 hD) hK hN [0] [] ax_X5_at_0 rfl (by decide +kernel) 0 5 rfl rfl) rfl rfl hl.1 rfl (lv_room (Nat.le_of_ble_eq_true rfl)) dX5_at_2 ⟨Nat.le_of_ble_eq_true rfl, Nat.le_of_ble_eq_true rfl⟩) ?_
  refine lv_if_eq (tgt := 17) hx hb dX5_at_5 (by decide) (fun c_1 => ?_) (fun c_1 => ?_)
  · have c_1 : ¬ (th = 1 ∧ 0 ≤ i ∧ i ≤ n - 1) := b01f c_1
    refine lv_iconst (v := zI 0) hx hb dX5_at_17 rfl ?_
    exact W.iret (v := (zI 0)) hx hb hr (fun t ht hW => QcP_of (by omega) trivial ht) (fun _ h9 => by cases h9) dX5_at_18
  · have c_1 : th = 1 ∧ 0 ≤ i ∧ i ≤ n - 1 := b01t c_1
    refine lv_aload_n hx hb dX5_at_8 rfl (lv_at hl 0 rfl) ?_
    refine va_get (D := D) (ci := 5) (v := .ref r1) (C := RX5) (T := TX5) (N := 4) hx hb hts (fun _ h9 => List.mem_cons_of_mem _ (List.mem_append_right _ h9)) hown hK hP 0 rfl rfl 0 (by decide) (hts (.fieldLink RX5 9 "FontRuns$Sheet" "cells" "[I") mw_X5_at_0) (fun _ h9 => h9) rfl dX5_at_9 ?_
    refine lv_iload_n hx hb dX5_at_12 rfl (lv_at hl 1 rfl) ?_
    refine kz_iald hx hb hK hP 1 0 rfl rfl (by omega) dX5_at_13 (fun z_2 rz_2 ez_2 => ?_)
    refine lv_goto (tgt := 18) hx hb dX5_at_14 (by decide) ?_
    exact W.iret (v := (zI z_2)) hx hb hr (fun t ht hW => QcP_of (by omega) trivial ht) (fun _ h9 => by cases h9) dX5_at_18
theorem dX5_cut_0 : decode cX5_cut 0 = .ok (.aload_n 0, 1) := kqo_2a kbl_X5_cut (pc := 0) rfl
theorem dX5_cut_1 : decode cX5_cut 1 = .ok (.getfield 19, 3) := kqo_b4 (x1 := 0) (x2 := 19) kbl_X5_cut (pc := 1) rfl rfl
theorem dX5_cut_4 : decode cX5_cut 4 = .ok (.lookupswitch 34 #[(0, 28), (1, 31)], 28) := by decide +kernel
theorem dX5_cut_32 : decode cX5_cut 32 = .ok (.iload_n 1, 1) := kqo_1b kbl_X5_cut (pc := 32) rfl
theorem dX5_cut_33 : decode cX5_cut 33 = .ok (.i2b, 1) := kqo_91 kbl_X5_cut (pc := 33) rfl
theorem dX5_cut_34 : decode cX5_cut 34 = .ok (.ireturn, 1) := kqo_ac kbl_X5_cut (pc := 34) rfl
theorem dX5_cut_35 : decode cX5_cut 35 = .ok (.iload_n 1, 1) := kqo_1b kbl_X5_cut (pc := 35) rfl
theorem dX5_cut_36 : decode cX5_cut 36 = .ok (.i2s, 1) := kqo_93 kbl_X5_cut (pc := 36) rfl
theorem dX5_cut_37 : decode cX5_cut 37 = .ok (.ireturn, 1) := kqo_ac kbl_X5_cut (pc := 37) rfl
theorem dX5_cut_38 : decode cX5_cut 38 = .ok (.iload_n 1, 1) := kqo_1b kbl_X5_cut (pc := 38) rfl
theorem dX5_cut_39 : decode cX5_cut 39 = .ok (.ireturn, 1) := kqo_ac kbl_X5_cut (pc := 39) rfl
set_option maxRecDepth 20000 in
theorem mw_X5_cut_0 : (.fieldLink RX5 19 "FontRuns$Sheet" "lane" "I" : Cond) ∈ wsX5_cut := List.mem_cons_of_mem _ (List.mem_append_left _ (List.mem_of_getElem? (i := 0) rfl))
set_option maxHeartbeats 4000000 in
set_option maxRecDepth 100000 in
theorem c_X5_cut (l : Launch) (D : va_G) (sz : Nat) (x : Int) (h0 : Nat) (r1 : Nat) (th : Int) (la : Int) (n : Int) (q0 : rg x) (q1 : th = 0 ∨ th = 1) (q2 : rg la) (q3 : 0 ≤ n ∧ n ≤ 60) : Met l yX5_cut wsX5_cut ({ frames := 0, cells := 0, slots := 0, locals := 0 }) (kPre [.ref h0, .int (zI x)] D [(h0, .inr (5, [.ref r1, .int (zI th), .int (zI la), .int (zI n)]))] [] sz) (QcP (fun rz => True)) 0 0 (fun _ => False) := by
  refine Met.ofW (cc := cX5_cut) (maxL := 2) (ret := (some .int)) (by decide) rfl ?_
  intro p e s m args below meth c s₁ B hml hv
  obtain ⟨rfl, hsz, hP, hK, hD0, hN⟩ := hv
  have hx := B.exec
  have hb := B.bytes
  have hr := B.returns
  have hts := atoms_spec (ws := wsX5_cut) B.pre
  have hown : s.vm.findClass RX5 = some m.cls := findClass_of_methodNamed B.named
  have hlocks := B.notSynchronized
  subst hsz
  have hD := hD0
  have hP : va_P D vwCl [(h0, .inr (5, [.ref r1, .int (zI th), .int (zI la), .int (zI n)]))] s.heap := hP
  have hl := lv_entry ([.ref h0, .int (zI x)]) (n := 2) (Nat.le_of_ble_eq_true rfl)
  rw [lg_entry_eq]
  generalize (lg_sl ([.ref h0, .int (zI x)]) ++ List.replicate (2 - (lg_sl ([.ref h0, .int (zI x)])).length) Slot.unset).toArray = ls at hl ⊢
  have hl : lv_has ls 2 [(0, .ref h0), (1, .int (zI x))] := hl
  refine lv_aload_n hx hb dX5_cut_0 rfl (lv_at hl 0 rfl) ?_
  refine va_get (D := D) (ci := 5) (v := .int (zI la)) (C := RX5) (T := TX5) (N := 4) hx hb hts (fun _ h9 => List.mem_cons_of_mem _ (List.mem_append_right _ h9)) hown hK hP 0 rfl rfl 2 (by decide) (hts (.fieldLink RX5 19 "FontRuns$Sheet" "lane" "I") mw_X5_cut_0) (fun _ h9 => h9) rfl dX5_cut_1 ?_
  rcases (show la = 0 ∨ la = 1 ∨ (¬ la = 0 ∧ ¬ la = 1) from by omega) with c_1 | c_1 | c_1
  · refine kz_look (tgt := 32) (off := 28) hx hb dX5_cut_4 (by decide) (by omega) (by show Op.lookupswitch.offset [(0, 28), (1, 31)] 34 la = 28; rw [Op.lookupswitch.offset_cons, Op.lookupswitch.offset_cons, Op.lookupswitch.offset_nil]; (repeat' split) <;> omega) (by decide) ?_
    refine lv_iload_n hx hb dX5_cut_32 rfl (lv_at hl 1 rfl) ?_
    refine lv_i2b (v := (zI x).toInt8.toInt32) hx hb dX5_cut_33 rfl ?_
    refine kz_any (fun z_2 rz_2 ez_2 => ?_)
    exact W.iret (v := (zI z_2)) hx hb hr (fun t ht hW => QcP_of (by omega) trivial ht) (fun _ h9 => by cases h9) dX5_cut_34
  · refine kz_look (tgt := 35) (off := 31) hx hb dX5_cut_4 (by decide) (by omega) (by show Op.lookupswitch.offset [(0, 28), (1, 31)] 34 la = 31; rw [Op.lookupswitch.offset_cons, Op.lookupswitch.offset_cons, Op.lookupswitch.offset_nil]; (repeat' split) <;> omega) (by decide) ?_
    refine lv_iload_n hx hb dX5_cut_35 rfl (lv_at hl 1 rfl) ?_
    refine lv_i2s (v := (zI x).toInt16.toInt32) hx hb dX5_cut_36 rfl ?_
    refine kz_any (fun z_3 rz_3 ez_3 => ?_)
    exact W.iret (v := (zI z_3)) hx hb hr (fun t ht hW => QcP_of (by omega) trivial ht) (fun _ h9 => by cases h9) dX5_cut_37
  · refine kz_look (tgt := 38) (off := 34) hx hb dX5_cut_4 (by decide) (by omega) (by show Op.lookupswitch.offset [(0, 28), (1, 31)] 34 la = 34; rw [Op.lookupswitch.offset_cons, Op.lookupswitch.offset_cons, Op.lookupswitch.offset_nil]; (repeat' split) <;> omega) (by decide) ?_
    refine lv_iload_n hx hb dX5_cut_38 rfl (lv_at hl 1 rfl) ?_
    exact W.iret (v := (zI x)) hx hb hr (fun t ht hW => QcP_of (by omega) trivial ht) (fun _ h9 => by cases h9) dX5_cut_39
theorem dJ6_bitCount_0f7a4_0 : decode cJ6_bitCount_0f7a4 0 = .ok (.iload_n 0, 1) := kqo_1a kbl_J6_bitCount_0f7a4 (pc := 0) rfl
theorem dJ6_bitCount_0f7a4_1 : decode cJ6_bitCount_0f7a4 1 = .ok (.iload_n 0, 1) := kqo_1a kbl_J6_bitCount_0f7a4 (pc := 1) rfl
theorem dJ6_bitCount_0f7a4_2 : decode cJ6_bitCount_0f7a4 2 = .ok (.iconst 1, 1) := kqo_04 kbl_J6_bitCount_0f7a4 (pc := 2) rfl
theorem dJ6_bitCount_0f7a4_3 : decode cJ6_bitCount_0f7a4 3 = .ok (.iushr, 1) := kqo_7c kbl_J6_bitCount_0f7a4 (pc := 3) rfl
theorem dJ6_bitCount_0f7a4_4 : decode cJ6_bitCount_0f7a4 4 = .ok (.ldc_w 265, 3) := kqo_13 (x1 := 1) (x2 := 9) kbl_J6_bitCount_0f7a4 (pc := 4) rfl rfl
theorem dJ6_bitCount_0f7a4_7 : decode cJ6_bitCount_0f7a4 7 = .ok (.iand, 1) := kqo_7e kbl_J6_bitCount_0f7a4 (pc := 7) rfl
theorem dJ6_bitCount_0f7a4_8 : decode cJ6_bitCount_0f7a4 8 = .ok (.isub, 1) := kqo_64 kbl_J6_bitCount_0f7a4 (pc := 8) rfl
theorem dJ6_bitCount_0f7a4_9 : decode cJ6_bitCount_0f7a4 9 = .ok (.istore_n 0, 1) := kqo_3b kbl_J6_bitCount_0f7a4 (pc := 9) rfl
theorem dJ6_bitCount_0f7a4_10 : decode cJ6_bitCount_0f7a4 10 = .ok (.iload_n 0, 1) := kqo_1a kbl_J6_bitCount_0f7a4 (pc := 10) rfl
theorem dJ6_bitCount_0f7a4_11 : decode cJ6_bitCount_0f7a4 11 = .ok (.ldc_w 266, 3) := kqo_13 (x1 := 1) (x2 := 10) kbl_J6_bitCount_0f7a4 (pc := 11) rfl rfl
theorem dJ6_bitCount_0f7a4_14 : decode cJ6_bitCount_0f7a4 14 = .ok (.iand, 1) := kqo_7e kbl_J6_bitCount_0f7a4 (pc := 14) rfl
theorem dJ6_bitCount_0f7a4_15 : decode cJ6_bitCount_0f7a4 15 = .ok (.iload_n 0, 1) := kqo_1a kbl_J6_bitCount_0f7a4 (pc := 15) rfl
theorem dJ6_bitCount_0f7a4_16 : decode cJ6_bitCount_0f7a4 16 = .ok (.iconst 2, 1) := kqo_05 kbl_J6_bitCount_0f7a4 (pc := 16) rfl
theorem dJ6_bitCount_0f7a4_17 : decode cJ6_bitCount_0f7a4 17 = .ok (.iushr, 1) := kqo_7c kbl_J6_bitCount_0f7a4 (pc := 17) rfl
theorem dJ6_bitCount_0f7a4_18 : decode cJ6_bitCount_0f7a4 18 = .ok (.ldc_w 266, 3) := kqo_13 (x1 := 1) (x2 := 10) kbl_J6_bitCount_0f7a4 (pc := 18) rfl rfl
theorem dJ6_bitCount_0f7a4_21 : decode cJ6_bitCount_0f7a4 21 = .ok (.iand, 1) := kqo_7e kbl_J6_bitCount_0f7a4 (pc := 21) rfl
theorem dJ6_bitCount_0f7a4_22 : decode cJ6_bitCount_0f7a4 22 = .ok (.iadd, 1) := kqo_60 kbl_J6_bitCount_0f7a4 (pc := 22) rfl
theorem dJ6_bitCount_0f7a4_23 : decode cJ6_bitCount_0f7a4 23 = .ok (.istore_n 0, 1) := kqo_3b kbl_J6_bitCount_0f7a4 (pc := 23) rfl
theorem dJ6_bitCount_0f7a4_24 : decode cJ6_bitCount_0f7a4 24 = .ok (.iload_n 0, 1) := kqo_1a kbl_J6_bitCount_0f7a4 (pc := 24) rfl
theorem dJ6_bitCount_0f7a4_25 : decode cJ6_bitCount_0f7a4 25 = .ok (.iload_n 0, 1) := kqo_1a kbl_J6_bitCount_0f7a4 (pc := 25) rfl
theorem dJ6_bitCount_0f7a4_26 : decode cJ6_bitCount_0f7a4 26 = .ok (.iconst 4, 1) := kqo_07 kbl_J6_bitCount_0f7a4 (pc := 26) rfl
theorem dJ6_bitCount_0f7a4_27 : decode cJ6_bitCount_0f7a4 27 = .ok (.iushr, 1) := kqo_7c kbl_J6_bitCount_0f7a4 (pc := 27) rfl
theorem dJ6_bitCount_0f7a4_28 : decode cJ6_bitCount_0f7a4 28 = .ok (.iadd, 1) := kqo_60 kbl_J6_bitCount_0f7a4 (pc := 28) rfl
theorem dJ6_bitCount_0f7a4_29 : decode cJ6_bitCount_0f7a4 29 = .ok (.ldc_w 267, 3) := kqo_13 (x1 := 1) (x2 := 11) kbl_J6_bitCount_0f7a4 (pc := 29) rfl rfl
theorem dJ6_bitCount_0f7a4_32 : decode cJ6_bitCount_0f7a4 32 = .ok (.iand, 1) := kqo_7e kbl_J6_bitCount_0f7a4 (pc := 32) rfl
theorem dJ6_bitCount_0f7a4_33 : decode cJ6_bitCount_0f7a4 33 = .ok (.istore_n 0, 1) := kqo_3b kbl_J6_bitCount_0f7a4 (pc := 33) rfl
theorem dJ6_bitCount_0f7a4_34 : decode cJ6_bitCount_0f7a4 34 = .ok (.iload_n 0, 1) := kqo_1a kbl_J6_bitCount_0f7a4 (pc := 34) rfl
theorem dJ6_bitCount_0f7a4_35 : decode cJ6_bitCount_0f7a4 35 = .ok (.iload_n 0, 1) := kqo_1a kbl_J6_bitCount_0f7a4 (pc := 35) rfl
theorem dJ6_bitCount_0f7a4_36 : decode cJ6_bitCount_0f7a4 36 = .ok (.bipush 8, 2) := kqo_10 (x1 := 8) kbl_J6_bitCount_0f7a4 (pc := 36) rfl rfl
theorem dJ6_bitCount_0f7a4_38 : decode cJ6_bitCount_0f7a4 38 = .ok (.iushr, 1) := kqo_7c kbl_J6_bitCount_0f7a4 (pc := 38) rfl
theorem dJ6_bitCount_0f7a4_39 : decode cJ6_bitCount_0f7a4 39 = .ok (.iadd, 1) := kqo_60 kbl_J6_bitCount_0f7a4 (pc := 39) rfl
theorem dJ6_bitCount_0f7a4_40 : decode cJ6_bitCount_0f7a4 40 = .ok (.istore_n 0, 1) := kqo_3b kbl_J6_bitCount_0f7a4 (pc := 40) rfl
theorem dJ6_bitCount_0f7a4_41 : decode cJ6_bitCount_0f7a4 41 = .ok (.iload_n 0, 1) := kqo_1a kbl_J6_bitCount_0f7a4 (pc := 41) rfl
theorem dJ6_bitCount_0f7a4_42 : decode cJ6_bitCount_0f7a4 42 = .ok (.iload_n 0, 1) := kqo_1a kbl_J6_bitCount_0f7a4 (pc := 42) rfl
theorem dJ6_bitCount_0f7a4_43 : decode cJ6_bitCount_0f7a4 43 = .ok (.bipush 16, 2) := kqo_10 (x1 := 16) kbl_J6_bitCount_0f7a4 (pc := 43) rfl rfl
theorem dJ6_bitCount_0f7a4_45 : decode cJ6_bitCount_0f7a4 45 = .ok (.iushr, 1) := kqo_7c kbl_J6_bitCount_0f7a4 (pc := 45) rfl
theorem dJ6_bitCount_0f7a4_46 : decode cJ6_bitCount_0f7a4 46 = .ok (.iadd, 1) := kqo_60 kbl_J6_bitCount_0f7a4 (pc := 46) rfl
theorem dJ6_bitCount_0f7a4_47 : decode cJ6_bitCount_0f7a4 47 = .ok (.istore_n 0, 1) := kqo_3b kbl_J6_bitCount_0f7a4 (pc := 47) rfl
theorem dJ6_bitCount_0f7a4_48 : decode cJ6_bitCount_0f7a4 48 = .ok (.iload_n 0, 1) := kqo_1a kbl_J6_bitCount_0f7a4 (pc := 48) rfl
theorem dJ6_bitCount_0f7a4_49 : decode cJ6_bitCount_0f7a4 49 = .ok (.bipush 63, 2) := kqo_10 (x1 := 63) kbl_J6_bitCount_0f7a4 (pc := 49) rfl rfl
theorem dJ6_bitCount_0f7a4_51 : decode cJ6_bitCount_0f7a4 51 = .ok (.iand, 1) := kqo_7e kbl_J6_bitCount_0f7a4 (pc := 51) rfl
theorem dJ6_bitCount_0f7a4_52 : decode cJ6_bitCount_0f7a4 52 = .ok (.ireturn, 1) := kqo_ac kbl_J6_bitCount_0f7a4 (pc := 52) rfl
set_option maxRecDepth 20000 in
theorem mw_J6_bitCount_0f7a4_0 : (.constant RJ6 265 (1431655765) : Cond) ∈ wsJ6_bitCount_0f7a4 := List.mem_cons_of_mem _ (List.mem_of_getElem? (i := 0) rfl)
set_option maxRecDepth 20000 in
theorem mw_J6_bitCount_0f7a4_1 : (.constant RJ6 266 (858993459) : Cond) ∈ wsJ6_bitCount_0f7a4 := List.mem_cons_of_mem _ (List.mem_of_getElem? (i := 1) rfl)
set_option maxRecDepth 20000 in
theorem mw_J6_bitCount_0f7a4_2 : (.constant RJ6 267 (252645135) : Cond) ∈ wsJ6_bitCount_0f7a4 := List.mem_cons_of_mem _ (List.mem_of_getElem? (i := 2) rfl)
set_option maxHeartbeats 4000000 in
set_option maxRecDepth 100000 in
theorem c_J6_bitCount_0f7a4 (l : Launch) (D : va_G) (sz : Nat) (x : Int) (q0 : rg x) : Met l yJ6_bitCount_0f7a4 wsJ6_bitCount_0f7a4 ({ frames := 0, cells := 0, slots := 0, locals := 0 }) (kPre [.int (zI x)] D [] [] sz) (QcP (fun rz => True)) 0 0 (fun _ => False) := by
  refine Met.ofW (cc := cJ6_bitCount_0f7a4) (maxL := 1) (ret := (some .int)) (by decide) rfl ?_
  intro p e s m args below meth c s₁ B hml hv
  obtain ⟨rfl, hsz, hP, hK, hD0, hN⟩ := hv
  have hx := B.exec
  have hb := B.bytes
  have hr := B.returns
  have hts := atoms_spec (ws := wsJ6_bitCount_0f7a4) B.pre
  have hown : s.vm.findClass RJ6 = some m.cls := findClass_of_methodNamed B.named
  have hlocks := B.notSynchronized
  subst hsz
  have hD := hD0
  have hP : va_P D vwCl [] s.heap := hP
  have hl := lv_entry ([.int (zI x)]) (n := 1) (Nat.le_of_ble_eq_true rfl)
  rw [lg_entry_eq]
  generalize (lg_sl ([.int (zI x)]) ++ List.replicate (1 - (lg_sl ([.int (zI x)])).length) Slot.unset).toArray = ls at hl ⊢
  have hl : lv_has ls 1 [(0, .int (zI x))] := hl
  refine lv_iload_n hx hb dJ6_bitCount_0f7a4_0 rfl (lv_at hl 0 rfl) ?_
  refine lv_iload_n hx hb dJ6_bitCount_0f7a4_1 rfl (lv_at hl 0 rfl) ?_
  refine lv_iconst (v := zI 1) hx hb dJ6_bitCount_0f7a4_2 rfl ?_
  refine lv_iushr hx hb dJ6_bitCount_0f7a4_3 rfl ?_
  refine kz_any (fun z_1 rz_1 ez_1 => ?_)
  refine lv_ldcw (v := zI 1431655765) hx hb hown (show (Cond.constant RJ6 265 (zI 1431655765)).before _ s = true from (hts (.constant RJ6 265 (1431655765)) mw_J6_bitCount_0f7a4_0)) dJ6_bitCount_0f7a4_4 ?_
  refine lv_iand hx hb dJ6_bitCount_0f7a4_7 ?_
  refine kz_any (fun z_2 rz_2 ez_2 => ?_)
  refine kz_isub hx hb dJ6_bitCount_0f7a4_8 ?_
  refine kz_any (fun z_3 rz_3 ez_3 => ?_)
  refine lv_istore_n (lv' := [(0, .int (zI z_3))]) hx hb dJ6_bitCount_0f7a4_9 rfl hl (by decide) rfl (fun ls hl => ?_)
  refine lv_iload_n hx hb dJ6_bitCount_0f7a4_10 rfl (lv_at hl 0 rfl) ?_
  refine lv_ldcw (v := zI 858993459) hx hb hown (show (Cond.constant RJ6 266 (zI 858993459)).before _ s = true from (hts (.constant RJ6 266 (858993459)) mw_J6_bitCount_0f7a4_1)) dJ6_bitCount_0f7a4_11 ?_
  refine lv_iand hx hb dJ6_bitCount_0f7a4_14 ?_
  refine kz_any (fun z_4 rz_4 ez_4 => ?_)
  refine lv_iload_n hx hb dJ6_bitCount_0f7a4_15 rfl (lv_at hl 0 rfl) ?_
  refine lv_iconst (v := zI 2) hx hb dJ6_bitCount_0f7a4_16 rfl ?_
  refine lv_iushr hx hb dJ6_bitCount_0f7a4_17 rfl ?_
  refine kz_any (fun z_5 rz_5 ez_5 => ?_)
  refine lv_ldcw (v := zI 858993459) hx hb hown (show (Cond.constant RJ6 266 (zI 858993459)).before _ s = true from (hts (.constant RJ6 266 (858993459)) mw_J6_bitCount_0f7a4_1)) dJ6_bitCount_0f7a4_18 ?_
  refine lv_iand hx hb dJ6_bitCount_0f7a4_21 ?_
  refine kz_any (fun z_6 rz_6 ez_6 => ?_)
  refine kz_iadd hx hb dJ6_bitCount_0f7a4_22 ?_
  refine kz_any (fun z_7 rz_7 ez_7 => ?_)
  refine lv_istore_n (lv' := [(0, .int (zI z_7))]) hx hb dJ6_bitCount_0f7a4_23 rfl hl (by decide) rfl (fun ls hl => ?_)
  refine lv_iload_n hx hb dJ6_bitCount_0f7a4_24 rfl (lv_at hl 0 rfl) ?_
  refine lv_iload_n hx hb dJ6_bitCount_0f7a4_25 rfl (lv_at hl 0 rfl) ?_
  refine lv_iconst (v := zI 4) hx hb dJ6_bitCount_0f7a4_26 rfl ?_
  refine lv_iushr hx hb dJ6_bitCount_0f7a4_27 rfl ?_
  refine kz_any (fun z_8 rz_8 ez_8 => ?_)
  refine kz_iadd hx hb dJ6_bitCount_0f7a4_28 ?_
  refine lv_ldcw (v := zI 252645135) hx hb hown (show (Cond.constant RJ6 267 (zI 252645135)).before _ s = true from (hts (.constant RJ6 267 (252645135)) mw_J6_bitCount_0f7a4_2)) dJ6_bitCount_0f7a4_29 ?_
  refine lv_iand hx hb dJ6_bitCount_0f7a4_32 ?_
  refine kz_any (fun z_9 rz_9 ez_9 => ?_)
  refine kz_any (fun z_10 rz_10 ez_10 => ?_)
  refine lv_istore_n (lv' := [(0, .int (zI z_10))]) hx hb dJ6_bitCount_0f7a4_33 rfl hl (by decide) rfl (fun ls hl => ?_)
  refine lv_iload_n hx hb dJ6_bitCount_0f7a4_34 rfl (lv_at hl 0 rfl) ?_
  refine lv_iload_n hx hb dJ6_bitCount_0f7a4_35 rfl (lv_at hl 0 rfl) ?_
  refine lv_bipush (v := zI 8) hx hb dJ6_bitCount_0f7a4_36 (by decide) ?_
  refine lv_iushr hx hb dJ6_bitCount_0f7a4_38 rfl ?_
  refine kz_any (fun z_11 rz_11 ez_11 => ?_)
  refine kz_iadd hx hb dJ6_bitCount_0f7a4_39 ?_
  refine kz_any (fun z_12 rz_12 ez_12 => ?_)
  refine lv_istore_n (lv' := [(0, .int (zI z_12))]) hx hb dJ6_bitCount_0f7a4_40 rfl hl (by decide) rfl (fun ls hl => ?_)
  refine lv_iload_n hx hb dJ6_bitCount_0f7a4_41 rfl (lv_at hl 0 rfl) ?_
  refine lv_iload_n hx hb dJ6_bitCount_0f7a4_42 rfl (lv_at hl 0 rfl) ?_
  refine lv_bipush (v := zI 16) hx hb dJ6_bitCount_0f7a4_43 (by decide) ?_
  refine lv_iushr hx hb dJ6_bitCount_0f7a4_45 rfl ?_
  refine kz_any (fun z_13 rz_13 ez_13 => ?_)
  refine kz_iadd hx hb dJ6_bitCount_0f7a4_46 ?_
  refine kz_any (fun z_14 rz_14 ez_14 => ?_)
  refine lv_istore_n (lv' := [(0, .int (zI z_14))]) hx hb dJ6_bitCount_0f7a4_47 rfl hl (by decide) rfl (fun ls hl => ?_)
  refine lv_iload_n hx hb dJ6_bitCount_0f7a4_48 rfl (lv_at hl 0 rfl) ?_
  refine lv_bipush (v := zI 63) hx hb dJ6_bitCount_0f7a4_49 (by decide) ?_
  refine lv_iand hx hb dJ6_bitCount_0f7a4_51 ?_
  refine kz_any (fun z_15 rz_15 ez_15 => ?_)
  exact W.iret (v := (zI z_15)) hx hb hr (fun t ht hW => QcP_of (by omega) trivial ht) (fun _ h9 => by cases h9) dJ6_bitCount_0f7a4_52
