/-! ===== Int32 by its bits: bt x i ===== -/
def bt (x : Int32) (i : Nat) : Bool := x.toBitVec.getLsbD i
theorem b_ext {x y : Int32} (h : ∀ i, i < 32 → bt x i = bt y i) : x = y := Int32.toBitVec_inj.mp (BitVec.eq_of_getLsbD_eq (fun i hi => h i hi))
theorem b_or (x y : Int32) (i : Nat) : bt (x ||| y) i = (bt x i || bt y i) := by unfold bt; rw [Int32.toBitVec_or, BitVec.getLsbD_or]
theorem b_and (x y : Int32) (i : Nat) : bt (x &&& y) i = (bt x i && bt y i) := by unfold bt; rw [Int32.toBitVec_and, BitVec.getLsbD_and]
theorem b_xor (x y : Int32) (i : Nat) : bt (x ^^^ y) i = (bt x i ^^ bt y i) := by unfold bt; rw [Int32.toBitVec_xor, BitVec.getLsbD_xor]
theorem b_big {x : Int32} {i : Nat} (h : 32 ≤ i) : bt x i = false := BitVec.getLsbD_of_ge _ _ h
theorem b_255 (i : Nat) : bt 255 i = decide (i < 8) := by
  rcases Nat.lt_or_ge i 32 with h | h
  · exact (by decide +kernel : ∀ i, i < 32 → bt 255 i = decide (i < 8)) i h
  · rw [b_big h, decide_eq_false (by omega)]
theorem b_65535 (i : Nat) : bt 65535 i = decide (i < 16) := by
  rcases Nat.lt_or_ge i 32 with h | h
  · exact (by decide +kernel : ∀ i, i < 32 → bt 65535 i = decide (i < 16)) i h
  · rw [b_big h, decide_eq_false (by omega)]
theorem b_m1 : ∀ i, i < 32 → bt (-1) i = true := by decide +kernel
theorem b_0 (i : Nat) : bt 0 i = false := BitVec.getLsbD_zero
theorem s_l : ∀ n, n < 32 → ((nI n &&& 31).toBitVec.smod 32).toNat = n := by decide +kernel
theorem s_u : ∀ n, n < 32 → (((nI n).toUInt32 &&& Int32.toUInt32 31).toBitVec % 32).toNat = n := by decide +kernel
theorem b_shl (n : Nat) (hn : n < 32) (x : Int32) {i : Nat} (hi : i < 32) : bt (x <<< (nI n &&& 31)) i = (decide (n ≤ i) && bt x (i - n)) := by
  unfold bt
  rw [Int32.toBitVec_shiftLeft]
  show (x.toBitVec <<< ((nI n &&& 31).toBitVec.smod 32).toNat).getLsbD i = _
  rw [s_l n hn, BitVec.getLsbD_shiftLeft]
  rcases Nat.lt_or_ge i n with h | h
  · simp [h, Nat.not_le.mpr h]
  · simp [hi, h, Nat.not_lt.mpr h]
theorem b_ushr (n : Nat) (hn : n < 32) (x : Int32) (i : Nat) : bt ((x.toUInt32 >>> ((nI n).toUInt32 &&& Int32.toUInt32 31)).toInt32) i = bt x (n + i) := by
  show (x.toUInt32 >>> ((nI n).toUInt32 &&& Int32.toUInt32 31)).toBitVec.getLsbD i = x.toUInt32.toBitVec.getLsbD (n + i)
  rw [UInt32.toBitVec_shiftRight]
  show (x.toUInt32.toBitVec >>> (((nI n).toUInt32 &&& Int32.toUInt32 31).toBitVec % 32).toNat).getLsbD i = _
  rw [s_u n hn, BitVec.getLsbD_ushiftRight]
theorem b_sshr (n : Nat) (hn : n < 32) (x : Int32) {i : Nat} (hi : i < 32) : bt (x >>> (nI n &&& 31)) i = if n + i < 32 then bt x (n + i) else bt x 31 := by
  unfold bt
  rw [Int32.toBitVec_shiftRight]
  show (x.toBitVec.sshiftRight ((nI n &&& 31).toBitVec.smod 32).toNat).getLsbD i = _
  rw [s_l n hn, BitVec.getLsbD_sshiftRight, BitVec.msb_eq_getLsbD_last]
  simp [hi]
theorem kb_one (y : Int32) : (y &&& 1 = 1) ↔ bt y 0 = true := by
  have o1 : ∀ i, i < 32 → bt 1 i = decide (i = 0) := by decide +kernel
  constructor
  · intro h
    have q := congrArg (fun z => bt z 0) h
    simp only [b_and, o1 0 (by omega)] at q
    simpa using q
  · intro h
    apply b_ext
    intro i hi
    rw [b_and, o1 i hi]
    by_cases e : i = 0
    · subst e
      simp [h]
    · simp [e]
theorem kb_bit {x : Int32} {f : Int} (hf : 0 ≤ f ∧ f < 32) : ((x >>> (zI f &&& 31)) &&& 1 = 1) ↔ bt x f.toNat = true := by
  obtain ⟨n, rfl⟩ := Int.eq_ofNat_of_zero_le hf.1
  rw [kb_one]
  have q := b_sshr n (by omega) x (i := 0) (by omega)
  rw [if_pos (by omega)] at q
  have q2 : bt (x >>> (zI (n : Int) &&& 31)) 0 = bt x (n + 0) := q
  rw [q2]
  simp
theorem kb_or {x y : Int32} {f wo : Int} (hf : 0 ≤ f ∧ f < 32) (hx : ¬ x = 0) (h : kCan x f wo) : kCan (x ||| y) f wo := by
  refine ⟨h.1, Or.inr ?_⟩
  rcases h.2 with e | e
  · exact absurd e hx
  · rw [kb_bit hf] at e ⊢
    rw [b_or, e, Bool.true_or]
theorem kb_set {x : Int32} {f wo : Int} (hf : 0 ≤ f ∧ f < 32) (hw : ¬ f = wo) : kCan (x ||| (zI 1 <<< (zI f &&& 31))) f wo := by
  refine ⟨hw, Or.inr ?_⟩
  rw [kb_bit hf, b_or]
  obtain ⟨n, rfl⟩ := Int.eq_ofNat_of_zero_le hf.1
  have q := b_shl n (by omega) (1 : Int32) (i := n) (by omega)
  have q2 : bt (zI 1 <<< (zI (n : Int) &&& 31)) n = (decide (n ≤ n) && bt 1 (n - n)) := q
  have q3 : ((n : Int)).toNat = n := by omega
  rw [q3, q2, Nat.sub_self, show bt 1 0 = true from by decide +kernel]
  simp
theorem kb_o0 (x : Int32) : x ||| zI 0 = x := by
  apply b_ext
  intro i hi
  rw [b_or, show bt (zI 0) i = false from b_0 i, Bool.or_false]
theorem kcan1 {x : Int32} {z f wo : Int} (e : x = zI z) (h1 : ¬ f = wo) (h : z = 0 ∨ (zI z >>> (zI f &&& 31)) &&& 1 = 1) : kCan x f wo := by
  refine ⟨h1, ?_⟩
  rcases h with h | h
  · left
    rw [e, h]
    rfl
  · right
    rw [e]
    exact h
theorem kcan0 {x : Int32} {z f wo : Int} (e : x = zI z) (hz : rg z) (h : f = wo ∨ (¬ z = 0 ∧ ¬ (zI z >>> (zI f &&& 31)) &&& 1 = 1)) : ¬ kCan x f wo := by
  rintro ⟨h1, h2⟩
  rcases h with h | ⟨h3, h4⟩
  · exact h1 h
  · rw [e] at h2
    rcases h2 with h2 | h2
    · exact h3 ((zI_eq hz (by omega)).mp h2)
    · exact h4 h2
