/-! PHASE B, a draft: clusters as a fold over the letters: how many, where each begins -/
theorem kNp {jk : Int} (h : 0 ≤ jk) : kNa (jk + 1) = kNa jk + 1 := by show (jk + 1).toNat = jk.toNat + 1; omega
theorem kNc {jk : Int} (h : 0 ≤ jk) : ((kNa jk : Nat) : Int) = jk := by show ((jk.toNat : Nat) : Int) = jk; omega
def kCt (w : Nat → Int32) : Nat → Nat × (Nat → Nat)
  | 0 => (0, fun _ => 0)
  | k + 1 => if k = 0 ∨ (w k).toInt < 12 then ((kCt w k).1 + 1, fun i => if i = (kCt w k).1 then k else (kCt w k).2 i) else kCt w k
def kEn (w : Nat → Int32) (k i : Nat) : Nat := if i + 1 < (kCt w k).1 then (kCt w k).2 (i + 1) else k
theorem kCt_y {w : Nat → Int32} {k : Nat} (h : k = 0 ∨ (w k).toInt < 12) : kCt w (k + 1) = ((kCt w k).1 + 1, fun i => if i = (kCt w k).1 then k else (kCt w k).2 i) := by
  show (if k = 0 ∨ (w k).toInt < 12 then _ else _) = _
  rw [if_pos h]
theorem kCt_n {w : Nat → Int32} {k : Nat} (h : ¬ (k = 0 ∨ (w k).toInt < 12)) : kCt w (k + 1) = kCt w k := by
  show (if k = 0 ∨ (w k).toInt < 12 then _ else _) = _
  rw [if_neg h]
/-- every start lies below k, they rise, and there is one as soon as there is a letter -/
theorem kCt_b {w : Nat → Int32} : ∀ k : Nat, (kCt w k).1 ≤ k ∧ (0 < k → 0 < (kCt w k).1) ∧ (∀ i, i < (kCt w k).1 → (kCt w k).2 i < k) ∧ (∀ i, i + 1 < (kCt w k).1 → (kCt w k).2 i < (kCt w k).2 (i + 1))
  | 0 => ⟨Nat.le_refl 0, fun h => absurd h (Nat.lt_irrefl 0), fun i h => absurd h (Nat.not_lt_zero i), fun i h => absurd h (Nat.not_lt_zero _)⟩
  | k + 1 => by
    obtain ⟨h1, h2, h3, h4⟩ := kCt_b (w := w) k
    by_cases c : k = 0 ∨ (w k).toInt < 12
    · rw [kCt_y c]
      refine ⟨by dsimp only; omega, fun _ => by dsimp only; omega, fun i hi => ?_, fun i hi => ?_⟩
      · dsimp only at hi ⊢
        by_cases q : i = (kCt w k).1
        · rw [if_pos q]
          omega
        · rw [if_neg q]
          have := h3 i (by omega)
          omega
      · dsimp only at hi ⊢
        rw [if_neg (show ¬ i = (kCt w k).1 by omega)]
        by_cases q : i + 1 = (kCt w k).1
        · rw [if_pos q]
          exact h3 i (by omega)
        · rw [if_neg q]
          exact h4 i (by omega)
    · rw [kCt_n c]
      refine ⟨by omega, fun _ => h2 (by omega), fun i hi => ?_, h4⟩
      have := h3 i hi
      omega
/-- the letters of a stretch, as a set -/
def kOr (w : Nat → Int32) (a : Nat) : Nat → Int32
  | 0 => 0
  | m + 1 => kOr w a m ||| (zI 1 <<< (w (a + m) &&& 31))
/-- what the class's cut has made of the first k letters -/
def kCu (w : Nat → Int32) (k : Nat) (c : Int) (F N L : Nat → Int32) : Prop := c = ((kCt w k).1 : Nat) ∧ ∀ i, i < (kCt w k).1 → F i = zI ((kCt w k).2 i : Nat) ∧ N i = zI ((kEn w k i : Nat) - ((kCt w k).2 i : Nat) : Int) ∧ L i = kOr w ((kCt w k).2 i) (kEn w k i - (kCt w k).2 i)
/-- the reference's starts -/
def kSa (w : Nat → Int32) (k : Nat) (c : Int) (F : Nat → Int32) : Prop := c = ((kCt w k).1 : Nat) ∧ ∀ i, i < (kCt w k).1 → F i = zI ((kCt w k).2 i : Nat)
theorem kEn_new {w : Nat → Int32} {k i : Nat} (c : k = 0 ∨ (w k).toInt < 12) (hi : i < (kCt w k).1) : kEn w (k + 1) i = kEn w k i := by
  unfold kEn
  rw [kCt_y c]
  dsimp only
  by_cases q : i + 1 < (kCt w k).1
  · rw [if_pos (by omega), if_neg (by omega), if_pos q]
  · rw [if_pos (by omega), if_pos (by omega), if_neg q]
theorem kEn_last {w : Nat → Int32} {k i : Nat} (h : i + 1 = (kCt w k).1) : kEn w k i = k := by
  unfold kEn
  rw [if_neg (by omega)]
theorem kEn_old {w : Nat → Int32} {k i : Nat} (c : ¬ (k = 0 ∨ (w k).toInt < 12)) (hi : i + 1 < (kCt w k).1) : kEn w (k + 1) i = kEn w k i := by
  unfold kEn
  rw [kCt_n c, if_pos hi, if_pos hi]
/-! one letter more -/
section
variable {w F N L F2 N1 N2 L1 L2 : Nat → Int32} {jk c l z1 z2 z3 z4 : Int}
theorem kSa_0 : kSa w 0 0 F := ⟨rfl, fun i h => absurd h (Nat.not_lt_zero i)⟩
theorem kCu_0 : kCu w 0 0 F N L := ⟨rfl, fun i h => absurd h (Nat.not_lt_zero i)⟩
theorem kSa_y (h : kSa w (kNa jk) c F) (h0 : 0 ≤ jk) (hc : jk = 0 ∨ l < 12) (rl : rg l) (el : w jk.toNat = zI l) (e : upd F c.toNat (zI jk) = F2) : kSa w (kNa (jk + 1)) (c + 1) F2 := by
  obtain ⟨h1, h2⟩ := h
  have cc : kNa jk = 0 ∨ (w (kNa jk)).toInt < 12 := by
    rcases hc with q | q
    · left; show jk.toNat = 0; omega
    · right; rw [show w (kNa jk) = zI l from el, zI_toInt rl]; exact q
  rw [kNp h0]
  unfold kSa
  rw [kCt_y cc]
  refine ⟨by dsimp only; omega, fun i hi => ?_⟩
  dsimp only at hi ⊢
  rw [← e]
  by_cases q : i = (kCt w (kNa jk)).1
  · rw [if_pos q, show i = c.toNat by omega, pk_us, show ((kNa jk : Nat) : Int) = jk by show ((jk.toNat : Nat) : Int) = jk; omega]
  · rw [if_neg q, pk_un (by omega)]
    exact h2 i (by omega)
theorem kSa_n (h : kSa w (kNa jk) c F) (h0 : 0 ≤ jk) (hc : ¬ (jk = 0 ∨ l < 12)) (rl : rg l) (el : w jk.toNat = zI l) : kSa w (kNa (jk + 1)) c F := by
  have cc : ¬ (kNa jk = 0 ∨ (w (kNa jk)).toInt < 12) := by
    intro q
    rcases q with q | q
    · have q2 : jk.toNat = 0 := q
      omega
    · rw [show w (kNa jk) = zI l from el, zI_toInt rl] at q
      omega
  rw [kNp h0]
  unfold kSa
  rw [kCt_n cc]
  exact h
theorem kCt_c (hc : jk = 0 ∨ l < 12) (rl : rg l) (el : w jk.toNat = zI l) : kNa jk = 0 ∨ (w (kNa jk)).toInt < 12 := by
  rcases hc with q | q
  · left; show jk.toNat = 0; omega
  · right; rw [show w (kNa jk) = zI l from el, zI_toInt rl]; exact q
theorem kCt_d (h0 : 0 ≤ jk) (hc : ¬ (jk = 0 ∨ l < 12)) (rl : rg l) (el : w jk.toNat = zI l) : ¬ (kNa jk = 0 ∨ (w (kNa jk)).toInt < 12) := by
  intro q
  rcases q with q | q
  · have q2 : jk.toNat = 0 := q
    omega
  · rw [show w (kNa jk) = zI l from el, zI_toInt rl] at q
    omega
theorem kCu_y (h : kCu w (kNa jk) c F N L) (h0 : 0 ≤ jk) (hc : jk = 0 ∨ l < 12) (rl : rg l) (el : w jk.toNat = zI l) (e1 : upd F c.toNat (zI jk) = F2) (e2 : upd N c.toNat (zI 0) = N1) (l1 : N1 (c + 1 - 1).toNat = zI z1) (e3 : upd N1 (c + 1 - 1).toNat (zI (z1 + 1)) = N2) (e4 : upd L c.toNat (zI 0) = L1) (l2 : L1 (c + 1 - 1).toNat = zI z2) (x3 : zI 1 <<< (zI l &&& 31) = zI z3) (x4 : zI z2 ||| zI z3 = zI z4) (e5 : upd L1 (c + 1 - 1).toNat (zI z4) = L2) : kCu w (kNa (jk + 1)) (c + 1) F2 N2 L2 := by
  obtain ⟨h1, h2⟩ := h
  have cc := kCt_c hc rl el
  have cN : c.toNat = (kCt w (kNa jk)).1 := by omega
  have cM : (c + 1 - 1).toNat = (kCt w (kNa jk)).1 := by omega
  rw [cN] at e1 e2 e4
  rw [cM] at l1 e3 l2 e5
  have jn : ((kNa jk : Nat) : Int) = jk := by show ((jk.toNat : Nat) : Int) = jk; omega
  rw [kNp h0]
  unfold kCu
  refine ⟨by rw [kCt_y cc]; dsimp only; omega, fun i hi => ?_⟩
  have hi2 : i < (kCt w (kNa jk)).1 + 1 := by rw [kCt_y cc] at hi; exact hi
  by_cases q : i = (kCt w (kNa jk)).1
  · have s1 : (kCt w (kNa jk + 1)).2 i = kNa jk := by rw [kCt_y cc]; exact if_pos q
    have s2 : kEn w (kNa jk + 1) i = kNa jk + 1 := kEn_last (by rw [kCt_y cc]; show i + 1 = _ + 1; rw [q])
    rw [s1, s2, show kNa jk + 1 - kNa jk = 1 by omega, q]
    refine ⟨by rw [← e1, pk_us, jn], ?_, ?_⟩
    · rw [← e3, pk_us, ← zI_add, ← l1, ← e2, pk_us, zI_add]
      congr 1
      omega
    · rw [← e5, pk_us, ← x4, ← l2, ← e4, pk_us, ← x3]
      show _ = (0 : Int32) ||| (zI 1 <<< (w (kNa jk + 0) &&& 31))
      rw [show w (kNa jk + 0) = zI l from el]
      rfl
  · have s1 : (kCt w (kNa jk + 1)).2 i = (kCt w (kNa jk)).2 i := by rw [kCt_y cc]; exact if_neg q
    rw [s1, kEn_new cc (by omega), ← e1, ← e3, ← e2, ← e5, ← e4, pk_un q, pk_un q, pk_un q, pk_un q, pk_un q]
    exact h2 i (by omega)
theorem kCu_n (h : kCu w (kNa jk) c F N L) (h0 : 0 ≤ jk) (hp : 1 ≤ c) (hc : ¬ (jk = 0 ∨ l < 12)) (rl : rg l) (el : w jk.toNat = zI l) (l1 : N (c - 1).toNat = zI z1) (e3 : upd N (c - 1).toNat (zI (z1 + 1)) = N2) (l2 : L (c - 1).toNat = zI z2) (x3 : zI 1 <<< (zI l &&& 31) = zI z3) (x4 : zI z2 ||| zI z3 = zI z4) (e5 : upd L (c - 1).toNat (zI z4) = L2) : kCu w (kNa (jk + 1)) c F N2 L2 := by
  obtain ⟨h1, h2⟩ := h
  have cc := kCt_d h0 hc rl el
  obtain ⟨b1, b2, b3, b4⟩ := kCt_b (w := w) (kNa jk)
  have cM : (c - 1).toNat = (kCt w (kNa jk)).1 - 1 := by omega
  rw [cM] at l1 e3 l2 e5
  rw [kNp h0]
  unfold kCu
  rw [kCt_n cc]
  refine ⟨h1, fun i hi => ?_⟩
  obtain ⟨t1, t2, t3⟩ := h2 i hi
  by_cases q : i = (kCt w (kNa jk)).1 - 1
  · have s0 : kEn w (kNa jk) i = kNa jk := kEn_last (by omega)
    have s2 : kEn w (kNa jk + 1) i = kNa jk + 1 := kEn_last (by rw [kCt_n cc]; omega)
    have s3 := b3 i hi
    rw [s0] at t2 t3
    rw [s2]
    refine ⟨t1, ?_, ?_⟩
    · rw [← e3, q, pk_us, ← zI_add, ← l1, ← q, t2, zI_add]
      congr 1
      omega
    · rw [← e5, q, pk_us, ← x4, ← l2, ← q, t3, ← x3, show kNa jk + 1 - (kCt w (kNa jk)).2 i = (kNa jk - (kCt w (kNa jk)).2 i) + 1 by omega]
      show _ = kOr w _ _ ||| (zI 1 <<< (w ((kCt w (kNa jk)).2 i + (kNa jk - (kCt w (kNa jk)).2 i)) &&& 31))
      rw [show (kCt w (kNa jk)).2 i + (kNa jk - (kCt w (kNa jk)).2 i) = kNa jk by omega, show w (kNa jk) = zI l from el]
  · rw [kEn_old cc (by omega), ← e3, ← e5, pk_un q, pk_un q]
    exact ⟨t1, t2, t3⟩
end
