/-! the JDK's bitCount of sixteen bits, byte by byte -/
theorem kA256 (x y : Nat) : x &&& y = 256 * ((x / 256) &&& (y / 256)) + ((x % 256) &&& (y % 256)) := by
  have h1 : (x &&& y) / 2 ^ 8 = x / 2 ^ 8 &&& y / 2 ^ 8 := Nat.and_div_two_pow
  have h2 : (x &&& y) % 2 ^ 8 = (x % 2 ^ 8) &&& (y % 2 ^ 8) := Nat.and_mod_two_pow
  have h3 := Nat.div_add_mod (x &&& y) (2 ^ 8)
  rw [h1, h2] at h3
  exact h3.symm
theorem kAlow {m M : Nat} (h : m < 256) : m &&& M = m &&& (M % 256) := by
  rw [kA256 m M, Nat.div_eq_of_lt h, Nat.zero_and, Nat.mod_eq_of_lt h, Nat.mul_zero, Nat.zero_add]
def kby1 (x : Nat) : Nat := x - (x / 2 &&& 85)
def kby2 (x : Nat) : Nat := (x &&& 51) + (x / 4 &&& 51)
def kby3 (x : Nat) : Nat := (x + x / 16) &&& 15
theorem kby_all : ∀ x, x < 256 → (x / 2 &&& 85) ≤ x ∧ kby1 x < 256 ∧ kby2 (kby1 x) ≤ 68 ∧ kby2 (kby1 x) % 16 ≤ 4 ∧ kby3 (kby2 (kby1 x)) = kPc 8 x ∧ kPc 8 x ≤ 8 := by decide +kernel
theorem kl1 : ∀ a, a < 2 → ∀ m, m < 128 → (128 * a + m) &&& 85 = m &&& 85 := by decide +kernel
theorem kl2 : ∀ a, a < 4 → ∀ m, m < 64 → (64 * a + m) &&& 51 = m &&& 51 := by decide +kernel
theorem kl3 : ∀ a, a < 5 → ∀ m, m < 73 → (16 * a + m) &&& 15 = m &&& 15 := by decide +kernel
theorem ks1 {h l : Nat} (hh : h < 256) (hl : l < 256) : (256 * h + l) / 2 &&& 1431655765 = 256 * (h / 2 &&& 85) + (l / 2 &&& 85) := by
  rw [kA256 ((256 * h + l) / 2) 1431655765, show (256 * h + l) / 2 / 256 = h / 2 by omega, show (256 * h + l) / 2 % 256 = 128 * (h % 2) + l / 2 by omega, show 1431655765 % 256 = 85 by decide, kl1 (h % 2) (by omega) (l / 2) (by omega), kAlow (m := h / 2) (by omega), show 1431655765 / 256 % 256 = 85 by decide]
theorem ks2 {h l : Nat} (hh : h < 256) (hl : l < 256) : (256 * h + l) &&& 858993459 = 256 * (h &&& 51) + (l &&& 51) := by
  rw [kA256 (256 * h + l) 858993459, show (256 * h + l) / 256 = h by omega, show (256 * h + l) % 256 = l by omega, show 858993459 % 256 = 51 by decide, kAlow (m := h) hh, show 858993459 / 256 % 256 = 51 by decide]
theorem ks3 {h l : Nat} (hh : h < 256) (hl : l < 256) : (256 * h + l) / 4 &&& 858993459 = 256 * (h / 4 &&& 51) + (l / 4 &&& 51) := by
  rw [kA256 ((256 * h + l) / 4) 858993459, show (256 * h + l) / 4 / 256 = h / 4 by omega, show (256 * h + l) / 4 % 256 = 64 * (h % 4) + l / 4 by omega, show 858993459 % 256 = 51 by decide, kl2 (h % 4) (by omega) (l / 4) (by omega), kAlow (m := h / 4) (by omega), show 858993459 / 256 % 256 = 51 by decide]
theorem ks4 {h l : Nat} (hh : h ≤ 68 ∧ h % 16 ≤ 4) (hl : l ≤ 68) : (256 * h + l + (256 * h + l) / 16) &&& 252645135 = 256 * kby3 h + kby3 l := by
  unfold kby3
  rw [kA256 (256 * h + l + (256 * h + l) / 16) 252645135, show (256 * h + l + (256 * h + l) / 16) / 256 = h + h / 16 by omega, show (256 * h + l + (256 * h + l) / 16) % 256 = 16 * (h % 16) + (l + l / 16) by omega, show 252645135 % 256 = 15 by decide, kl3 (h % 16) (by omega) (l + l / 16) (by omega), kAlow (m := h + h / 16) (by omega), show 252645135 / 256 % 256 = 15 by decide]
theorem kNand (a b : Nat) : nI a &&& nI b = nI (a &&& b) := by
  apply Int32.toBitVec_inj.mp
  rw [Int32.toBitVec_and]
  exact (BitVec.ofNat_and (w := 32) (x := a) (y := b)).symm
theorem kU_N {n : Nat} (hn : n < 2 ^ 32) {k : Nat} (z : Int) (hs : (((zI z).toUInt32 &&& Int32.toUInt32 31).toBitVec % 32).toNat = k) : kU (nI n) z = nI (n / 2 ^ k) := pk_ushrN hn (zI z) k hs
theorem kPc_add : ∀ (f g l h : Nat), l < 2 ^ f → kPc (f + g) (2 ^ f * h + l) = kPc f l + kPc g h
  | 0, g, l, h, hl => by
    have e : l = 0 := by omega
    subst e
    rw [Nat.zero_add, Nat.pow_zero, Nat.one_mul, Nat.add_zero]
    show kPc g h = 0 + kPc g h
    omega
  | f + 1, g, l, h, hl => by
    rw [show f + 1 + g = (f + g) + 1 by omega]
    rw [Nat.pow_succ] at hl ⊢
    show (2 ^ f * 2 * h + l) % 2 + kPc (f + g) ((2 ^ f * 2 * h + l) / 2) = l % 2 + kPc f (l / 2) + kPc g h
    have e1 : 2 ^ f * 2 * h = 2 * (2 ^ f * h) := by rw [Nat.mul_comm (2 ^ f) 2, Nat.mul_assoc]
    rw [e1, show (2 * (2 ^ f * h) + l) % 2 = l % 2 by omega, show (2 * (2 ^ f * h) + l) / 2 = 2 ^ f * h + l / 2 by omega, kPc_add f g (l / 2) h (by omega)]
    omega
theorem kBc_N {h l : Nat} (hh : h < 256) (hl : l < 256) : kBc (nI (256 * h + l)) = nI (kPc 8 l + kPc 8 h) := by
  obtain ⟨a1, a2, a3, a4, a5, a6⟩ := kby_all h hh
  obtain ⟨b1, b2, b3, b4, b5, b6⟩ := kby_all l hl
  have s1 : kB1 (nI (256 * h + l)) = nI (256 * kby1 h + kby1 l) := by
    unfold kB1
    rw [kU_N (by omega) 1 (k := 1) (by decide), show zI 1431655765 = nI 1431655765 from rfl, kNand, show 2 ^ 1 = 2 from rfl, ks1 hh hl, pk_sub (by omega)]
    unfold kby1
    congr 1
    omega
  have s2 : kB2 (nI (256 * kby1 h + kby1 l)) = nI (256 * kby2 (kby1 h) + kby2 (kby1 l)) := by
    unfold kB2
    rw [kU_N (by omega) 2 (k := 2) (by decide), show zI 858993459 = nI 858993459 from rfl, kNand, kNand, show 2 ^ 2 = 4 from rfl, ks2 a2 b2, ks3 a2 b2, nI_add]
    unfold kby2
    congr 1
    omega
  have s3 : kB3 (nI (256 * kby2 (kby1 h) + kby2 (kby1 l))) = nI (256 * kPc 8 h + kPc 8 l) := by
    unfold kB3
    rw [kU_N (by omega) 4 (k := 4) (by decide), show zI 252645135 = nI 252645135 from rfl, nI_add, kNand, show 2 ^ 4 = 16 from rfl, ks4 ⟨a3, a4⟩ b3, a5, b5]
  have s4 : kB4 (nI (256 * kPc 8 h + kPc 8 l)) = nI (256 * kPc 8 h + (kPc 8 l + kPc 8 h)) := by
    unfold kB4
    rw [kU_N (by omega) 8 (k := 8) (by decide), nI_add]
    congr 1
    omega
  have s5 : kB5 (nI (256 * kPc 8 h + (kPc 8 l + kPc 8 h))) = nI (256 * kPc 8 h + (kPc 8 l + kPc 8 h)) := by
    unfold kB5
    rw [kU_N (by omega) 16 (k := 16) (by decide), nI_add]
    congr 1
    omega
  unfold kBc
  rw [s1, s2, s3, s4, s5, pk_andN (by omega) 6 (by decide)]
  congr 1
  omega
theorem kBc_pop {x z : Int} (h : 0 ≤ x ∧ x < 65536) (hz : rg z) (e : kBc (zI x) = zI z) : z = kPop x := by
  obtain ⟨n, rfl⟩ := Int.eq_ofNat_of_zero_le h.1
  have q := kBc_N (h := n / 256) (l := n % 256) (by omega) (by omega)
  rw [show 256 * (n / 256) + n % 256 = n by omega] at q
  have p := kPc_add 8 8 (n % 256) (n / 256) (by omega)
  rw [show 2 ^ 8 * (n / 256) + n % 256 = n by omega] at p
  rw [← p] at q
  have q2 : kBc (zI (n : Int)) = zI ((kPc 16 n : Nat) : Int) := q
  rw [e] at q2
  have b := kPc_le 16 n
  have q3 := (zI_eq hz (by omega)).mp q2
  have h4 : ((n : Int)).toNat = n := by omega
  unfold kPop
  rw [h4]
  exact q3
