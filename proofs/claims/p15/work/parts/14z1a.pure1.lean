/-! how many of sixteen bits -/
def kPc : Nat → Nat → Nat
  | 0, _ => 0
  | f + 1, n => n % 2 + kPc f (n / 2)
theorem kPc_top : ∀ (f n : Nat), n < 2 ^ f → kPc (f + 1) n = kPc f n
  | 0, n, h => by
    have e : n = 0 := by omega
    subst e
    rfl
  | f + 1, n, h => by
    show n % 2 + kPc (f + 1) (n / 2) = n % 2 + kPc f (n / 2)
    rw [kPc_top f (n / 2) (by rw [Nat.pow_succ] at h; omega)]
theorem kPc_le : ∀ (f n : Nat), kPc f n ≤ f
  | 0, _ => Nat.le_refl 0
  | f + 1, n => by
    have h := kPc_le f (n / 2)
    show n % 2 + kPc f (n / 2) ≤ f + 1
    omega
def kPop (x : Int) : Int := (kPc 16 x.toNat : Nat)
theorem kPop_0 : kPop 0 = 0 := rfl
theorem kPop_b (x : Int) : 0 ≤ kPop x ∧ kPop x ≤ 16 := by
  have h := kPc_le 16 x.toNat
  unfold kPop
  omega
theorem kPop_half {x : Int} (h : 0 ≤ x ∧ x < 65536) : kPop x = x % 2 + kPop (x / 2) := by
  obtain ⟨n, rfl⟩ := Int.eq_ofNat_of_zero_le h.1
  unfold kPop
  have h1 : ((n : Int) / 2).toNat = n / 2 := by omega
  have h2 : kPc 16 n = n % 2 + kPc 15 (n / 2) := rfl
  have h3 : kPc 16 (n / 2) = kPc 15 (n / 2) := kPc_top 15 (n / 2) (by omega)
  have h4 : ((n : Int)).toNat = n := by omega
  rw [h1, h3, h4, h2]
  omega
theorem kand1 {x z : Int} (h : 0 ≤ x ∧ x < 2147483648) (hz : rg z) (e : zI x &&& zI 1 = zI z) : z = x % 2 := by
  obtain ⟨n, rfl⟩ := Int.eq_ofNat_of_zero_le h.1
  have q : nI n &&& (1 : Int32) = nI (n % 2 ^ 1) := pk_andN (n := n) (by omega) 1 (by decide)
  have q2 : zI (n : Int) &&& zI 1 = zI ((n % 2 ^ 1 : Nat) : Int) := q
  rw [e] at q2
  have := (zI_eq hz (by omega)).mp q2
  omega
def kSz (x js jl : Int) : Prop := (0 ≤ x ∧ x < 65536) → (0 ≤ jl ∧ jl < 65536) ∧ 0 ≤ js ∧ js + kPop jl = kPop x
theorem kSz_0 {x : Int} : kSz x 0 x := fun h => ⟨h, by omega, by omega⟩
theorem kSz_s {x js jl b z z2 : Int} (h : kSz x js jl) (h0 : 0 < jl) (rb : rg b) (eb : zI jl &&& zI 1 = zI b) (rz : rg z) (ez : zI (js + b) = zI z) (e2 : z2 = jl / 2) : kSz x z z2 := by
  intro hx
  obtain ⟨h1, h2, h3⟩ := h hx
  have q := kand1 (by omega) rb eb
  have p := kPop_half h1
  have pb := kPop_b x
  have pj := kPop_b jl
  have pc := kPop_b (jl / 2)
  have e := (zI_eq (by omega) rz).mp ez
  subst e2
  refine ⟨by omega, by omega, ?_⟩
  omega
theorem kSz_e {x js jl : Int} (h : kSz x js jl) (h0 : jl ≤ 0) : (0 ≤ x ∧ x < 65536) → js = kPop x := by
  intro hx
  obtain ⟨h1, h2, h3⟩ := h hx
  have e : jl = 0 := by omega
  subst e
  rw [kPop_0] at h3
  omega
/-! the JDK's bitCount -/
def kU (x : Int32) (k : Int) : Int32 := (x.toUInt32 >>> ((zI k).toUInt32 &&& Int32.toUInt32 31)).toInt32
def kB1 (x : Int32) : Int32 := x - (kU x 1 &&& zI 1431655765)
def kB2 (x : Int32) : Int32 := (x &&& zI 858993459) + (kU x 2 &&& zI 858993459)
def kB3 (x : Int32) : Int32 := (x + kU x 4) &&& zI 252645135
def kB4 (x : Int32) : Int32 := x + kU x 8
def kB5 (x : Int32) : Int32 := x + kU x 16
def kBc (x : Int32) : Int32 := kB5 (kB4 (kB3 (kB2 (kB1 x)))) &&& zI 63
