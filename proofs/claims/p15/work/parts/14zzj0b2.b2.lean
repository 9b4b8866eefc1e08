/-! who fits: a set of FONTS as bits, FONT by FONT -/
def kFb (b : Nat → Bool) : Nat → Int32
  | 0 => 0
  | f + 1 => kFb b f ||| (if b f then zI 1 <<< (zI (f : Int) &&& 31) else zI 0)
def kHx (has : Nat → Int32) (x : Int32) : Nat → Bool := fun f => decide (has f &&& x = x)
def kHm (has : Nat → Int32) (wo : Int) (x : Int32) : Nat → Bool := fun f => decide (¬ (f : Int) = wo ∧ x &&& (has f ^^^ zI (-1)) = zI 0)
theorem kFb_cong {b b2 : Nat → Bool} : ∀ n : Nat, (∀ i, i < n → b i = b2 i) → kFb b n = kFb b2 n
  | 0, _ => rfl
  | n + 1, h => by
    show kFb b n ||| _ = kFb b2 n ||| _
    rw [kFb_cong n (fun i hi => h i (by omega)), h n (by omega)]
section
variable {b : Nat → Bool} {js jk z1 z2 z3 le x : Int} {has : Nat → Int32}
theorem kFb_y (h : zI js = kFb b (kNa jk)) (h0 : 0 ≤ jk) (hb : b (kNa jk) = true) (e1 : zI 1 <<< (zI jk &&& 31) = zI z1) (e2 : zI js ||| zI z1 = zI z2) : zI z2 = kFb b (kNa (jk + 1)) := by
  rw [kNp h0]
  show zI z2 = kFb b (kNa jk) ||| (if b (kNa jk) then zI 1 <<< (zI ((kNa jk : Nat) : Int) &&& 31) else zI 0)
  rw [hb, if_pos rfl, ← h, kNc h0, e1, e2]
theorem kFb_n (h : zI js = kFb b (kNa jk)) (h0 : 0 ≤ jk) (hb : b (kNa jk) = false) : zI js = kFb b (kNa (jk + 1)) := by
  rw [kNp h0]
  show zI js = kFb b (kNa jk) ||| (if b (kNa jk) then zI 1 <<< (zI ((kNa jk : Nat) : Int) &&& 31) else zI 0)
  rw [hb, if_neg (by decide), ← h, kb_o0]
theorem kHx_y (e : has jk.toNat = zI z1) (e2 : zI z1 &&& zI le = zI z2) (h : z2 = le) : kHx has (zI le) (kNa jk) = true := by
  show decide (has jk.toNat &&& zI le = zI le) = true
  rw [e, e2, h]
  exact decide_eq_true rfl
theorem kHx_n (e : has jk.toNat = zI z1) (e2 : zI z1 &&& zI le = zI z2) (r2 : rg z2) (rl : rg le) (h : ¬ z2 = le) : kHx has (zI le) (kNa jk) = false := by
  show decide (has jk.toNat &&& zI le = zI le) = false
  rw [e, e2]
  exact decide_eq_false (fun q => h ((zI_eq r2 rl).mp q))
theorem kHm_y {wo : Int} (h0 : 0 ≤ jk) (hw : ¬ jk = wo) (e : has jk.toNat = zI z1) (e2 : zI z1 ^^^ zI (-1) = zI z2) (e3 : zI x &&& zI z2 = zI z3) (h : z3 = 0) : kHm has wo (zI x) (kNa jk) = true := by
  show decide (¬ ((kNa jk : Nat) : Int) = wo ∧ zI x &&& (has jk.toNat ^^^ zI (-1)) = zI 0) = true
  rw [e, e2, e3, h, kNc h0]
  exact decide_eq_true ⟨hw, rfl⟩
theorem kHm_w {wo : Int} (h0 : 0 ≤ jk) (hw : jk = wo) : kHm has wo (zI x) (kNa jk) = false := by
  show decide (¬ ((kNa jk : Nat) : Int) = wo ∧ _) = false
  rw [kNc h0]
  exact decide_eq_false (fun q => q.1 hw)
theorem kHm_n {wo : Int} (e : has jk.toNat = zI z1) (e2 : zI z1 ^^^ zI (-1) = zI z2) (e3 : zI x &&& zI z2 = zI z3) (r3 : rg z3) (h : ¬ z3 = 0) : kHm has wo (zI x) (kNa jk) = false := by
  show decide (¬ ((kNa jk : Nat) : Int) = wo ∧ zI x &&& (has jk.toNat ^^^ zI (-1)) = zI 0) = false
  rw [e, e2, e3]
  exact decide_eq_false (fun q => h ((zI_eq r3 (by omega)).mp q.2))
end
/-- having all of a set, in the class's words and in the reference's -/
theorem kHas_iff (h x : Int32) : (h &&& x = x) ↔ (x &&& (h ^^^ zI (-1)) = zI 0) := by
  have m1 : ∀ i, i < 32 → bt (zI (-1)) i = true := by decide +kernel
  constructor
  · intro q
    apply b_ext
    intro i hi
    have q2 := congrArg (fun z => bt z i) q
    simp only [b_and] at q2
    rw [b_and, b_xor, m1 i hi, show bt (zI 0) i = false from b_0 i]
    revert q2
    cases bt h i <;> cases bt x i <;> decide
  · intro q
    apply b_ext
    intro i hi
    have q2 := congrArg (fun z => bt z i) q
    simp only [b_and, b_xor] at q2
    rw [m1 i hi, show bt (zI 0) i = false from b_0 i] at q2
    rw [b_and]
    revert q2
    cases bt h i <;> cases bt x i <;> decide
/-- all FONTS; all but one -/
def kAl (n : Int) : Int32 := (zI 1 <<< (zI n &&& 31)) - zI 1
def kAw (n wo : Int) : Int32 := if 0 ≤ wo then kAl n &&& ((zI 1 <<< (zI wo &&& 31)) ^^^ zI (-1)) else kAl n
def kQ4 (c : Bool × Bool × Bool × Bool) : Nat → Bool
  | 0 => c.1
  | 1 => c.2.1
  | 2 => c.2.2.1
  | _ => c.2.2.2
theorem kQ4_eq (b : Nat → Bool) : ∀ i, i < 4 → b i = kQ4 (b 0, b 1, b 2, b 3) i
  | 0, _ => rfl
  | 1, _ => rfl
  | 2, _ => rfl
  | 3, _ => rfl
  | i + 4, h => by omega
theorem kFb_to {b : Nat → Bool} {n : Nat} (hn : n ≤ 4) : kFb b n = kFb (kQ4 (b 0, b 1, b 2, b 3)) n := kFb_cong n (fun i hi => kQ4_eq b i (by omega))
def kXb (b : Nat → Bool) (wo : Int) : Nat → Bool := fun f => b f && !decide ((f : Int) = wo)
theorem kFa_all : ∀ n : Fin 5, ∀ a b c d : Bool, kFb (kQ4 (a, b, c, d)) n.val &&& kAl (n.val : Int) = kFb (kQ4 (a, b, c, d)) n.val := by decide +kernel
theorem kFa_wo : ∀ n : Fin 5, ∀ w : Fin 4, ∀ a b c d : Bool, kFb (kQ4 (a, b, c, d)) n.val &&& (kAl (n.val : Int) &&& ((zI 1 <<< (zI (w.val : Int) &&& 31)) ^^^ zI (-1))) = kFb (kXb (kQ4 (a, b, c, d)) (w.val : Int)) n.val := by decide +kernel
/-- who fits without the one left out: the class's and the reference's -/
theorem kFb_aw {b : Nat → Bool} {n wo : Int} (hn : 0 ≤ n ∧ n ≤ 4) (hw : wo = -9 ∨ (0 ≤ wo ∧ wo ≤ 3)) : kFb b (kNa n) &&& kAw n wo = kFb (kXb b wo) (kNa n) := by
  have e4 : kFb (kXb b wo) (kNa n) = kFb (kXb (kQ4 (b 0, b 1, b 2, b 3)) wo) (kNa n) := kFb_cong _ (fun i hi => by
    have : (kNa n) ≤ 4 := by show n.toNat ≤ 4; omega
    show (b i && _) = (kQ4 _ i && _)
    rw [kQ4_eq b i (by omega)])
  rw [e4, kFb_to (b := b) (by show n.toNat ≤ 4; omega)]
  have nn : n = ((kNa n : Nat) : Int) := (kNc hn.1).symm
  unfold kAw
  rcases hw with w | w
  · rw [if_neg (by omega), w]
    have q := kFa_all ⟨kNa n, by show n.toNat < 5; omega⟩ (b 0) (b 1) (b 2) (b 3)
    dsimp only at q
    rw [← nn] at q
    rw [q]
    refine kFb_cong _ (fun i hi => ?_)
    show _ = (_ && !decide ((i : Int) = -9))
    rw [decide_eq_false (by omega)]
    simp
  · rw [if_pos w.1]
    have q := kFa_wo ⟨kNa n, by show n.toNat < 5; omega⟩ ⟨kNa wo, by show wo.toNat < 4; omega⟩ (b 0) (b 1) (b 2) (b 3)
    dsimp only at q
    rw [← nn, kNc w.1] at q
    exact q
theorem kXb_hm {has : Nat → Int32} {wo : Int} {x : Int32} (i : Nat) : kXb (kHx has x) wo i = kHm has wo x i := by
  show (decide (has i &&& x = x) && !decide ((i : Int) = wo)) = decide (¬ (i : Int) = wo ∧ x &&& (has i ^^^ zI (-1)) = zI 0)
  by_cases a : (i : Int) = wo <;> by_cases c : has i &&& x = x
  · rw [decide_eq_true a, decide_eq_false (p := ¬ (i : Int) = wo ∧ _) (fun q => q.1 a)]; simp
  · rw [decide_eq_true a, decide_eq_false (p := ¬ (i : Int) = wo ∧ _) (fun q => q.1 a)]; simp
  · rw [decide_eq_true c, decide_eq_false a, decide_eq_true ⟨a, (kHas_iff _ _).mp c⟩]; rfl
  · rw [decide_eq_false c, decide_eq_false (p := ¬ (i : Int) = wo ∧ _) (fun q => c ((kHas_iff _ _).mpr q.2))]; rfl
/-- which bits are open: those of the set, or of all that are allowed if the set is empty -/
def kOx (x al : Int32) : Int32 := if x = 0 then al else x
def kOp (x al : Int32) (f : Int) : Prop := (kOx x al >>> (zI f &&& 31)) &&& 1 = 1
theorem kOp_all : ∀ n : Fin 5, ∀ f : Fin 4, (((kAl (n.val : Int)) >>> (zI (f.val : Int) &&& 31)) &&& 1 = 1) ↔ f.val < n.val := by decide +kernel
theorem kOp_wo : ∀ n : Fin 5, ∀ w : Fin 4, ∀ f : Fin 4, ((kAl (n.val : Int) &&& ((zI 1 <<< (zI (w.val : Int) &&& 31)) ^^^ zI (-1))) >>> (zI (f.val : Int) &&& 31)) &&& 1 = 1 ↔ (f.val < n.val ∧ ¬ f.val = w.val) := by decide +kernel
theorem kOp_aw {n wo f : Int} (hn : 0 ≤ n ∧ n ≤ 4) (hw : wo = -9 ∨ (0 ≤ wo ∧ wo ≤ 3)) (hf : 0 ≤ f ∧ f < 4) : ((kAw n wo >>> (zI f &&& 31)) &&& 1 = 1) ↔ (f < n ∧ ¬ f = wo) := by
  have nn : n = ((kNa n : Nat) : Int) := (kNc hn.1).symm
  have ff : f = ((kNa f : Nat) : Int) := (kNc hf.1).symm
  unfold kAw
  rcases hw with w | w
  · rw [if_neg (by omega)]
    have q := kOp_all ⟨kNa n, by show n.toNat < 5; omega⟩ ⟨kNa f, by show f.toNat < 4; omega⟩
    dsimp only at q
    rw [← nn, ← ff] at q
    rw [q]
    constructor <;> intro h <;> omega
  · rw [if_pos w.1]
    have q := kOp_wo ⟨kNa n, by show n.toNat < 5; omega⟩ ⟨kNa wo, by show wo.toNat < 4; omega⟩ ⟨kNa f, by show f.toNat < 4; omega⟩
    dsimp only at q
    rw [← nn, ← ff, kNc w.1] at q
    rw [q]
    have w2 := kNc w.1
    constructor <;> intro h <;> omega
theorem kFb_bit4 : ∀ n : Fin 5, ∀ f : Fin 4, ∀ a b c d : Bool, ((kFb (kQ4 (a, b, c, d)) n.val) >>> (zI (f.val : Int) &&& 31)) &&& 1 = 1 → (f.val < n.val ∧ kQ4 (a, b, c, d) f.val = true) := by decide +kernel
theorem kFb_bit {b : Nat → Bool} {n f : Int} (hn : 0 ≤ n ∧ n ≤ 4) (hf : 0 ≤ f ∧ f < 4) (h : ((kFb b (kNa n)) >>> (zI f &&& 31)) &&& 1 = 1) : f < n ∧ b (kNa f) = true := by
  have ff : f = ((kNa f : Nat) : Int) := (kNc hf.1).symm
  have f4 : kNa f < 4 := by show f.toNat < 4; omega
  rw [kFb_to (b := b) (by show n.toNat ≤ 4; omega), ff] at h
  have q := kFb_bit4 ⟨kNa n, by show n.toNat < 5; omega⟩ ⟨kNa f, f4⟩ (b 0) (b 1) (b 2) (b 3) h
  dsimp only at q
  rw [← kQ4_eq b _ f4] at q
  have nn := kNc hn.1
  exact ⟨by omega, q.2⟩
/-- the class's open FONTS are those that the reference can set -/
theorem kOp_can {has : Nat → Int32} {x : Int32} {n wo f : Int} (hn : 0 ≤ n ∧ n ≤ 4) (hw : wo = -9 ∨ (0 ≤ wo ∧ wo ≤ 3)) (hf : 0 ≤ f ∧ f < 4) : kOp (kFb (kHm has wo x) (kNa n)) (kAw n wo) f ↔ (f < n ∧ kCan (kFb (kHm has wo x) (kNa n)) f wo) := by
  unfold kOp kOx
  by_cases e : kFb (kHm has wo x) (kNa n) = 0
  · rw [if_pos e, kOp_aw hn hw hf]
    constructor
    · intro q
      exact ⟨q.1, q.2, Or.inl e⟩
    · intro q
      exact ⟨q.1, q.2.1⟩
  · rw [if_neg e]
    constructor
    · intro q
      have q2 := kFb_bit hn hf q
      refine ⟨q2.1, ?_, Or.inr q⟩
      intro w
      have q3 := q2.2
      rw [kHm_w (x := x.toInt) hf.1 w |> (show kHm has wo (zI x.toInt) (kNa f) = false → kHm has wo x (kNa f) = false from fun t => by rw [zI_of] at t; exact t)] at q3
      cases q3
    · intro q
      rcases q.2.2 with q2 | q2
      · exact absurd q2 e
      · exact q2
/-! boxes -/
def kBx (f : Nat → Int32) : Nat → Int
  | 0 => 0
  | n + 1 => kBx f n + (if f n = 0 then 1 else 0)
theorem kBx_cong {f g : Nat → Int32} : ∀ n : Nat, (∀ i, i < n → f i = g i) → kBx f n = kBx g n
  | 0, _ => rfl
  | n + 1, h => by
    show kBx f n + _ = kBx g n + _
    rw [kBx_cong n (fun i hi => h i (by omega)), h n (by omega)]
theorem kBx_y {f F : Nat → Int32} {k b z : Int} {x : Int32} (h : b = kBx f (kNa k)) (h0 : 0 ≤ k) (e : upd f k.toNat x = F) (l : F k.toNat = zI z) (hz : z = 0) : b + 1 = kBx F (kNa (k + 1)) := by
  rw [kNp h0]
  show b + 1 = kBx F (kNa k) + (if F k.toNat = 0 then 1 else 0)
  rw [l, hz, if_pos (by rfl), h, kBx_cong (f := F) (g := f) _ (fun i hi => by rw [← e, pk_un (show ¬ i = k.toNat from by have : i < k.toNat := hi; omega)])]
theorem kBx_n {f F : Nat → Int32} {k b z : Int} {x : Int32} (h : b = kBx f (kNa k)) (h0 : 0 ≤ k) (e : upd f k.toNat x = F) (l : F k.toNat = zI z) (rz : rg z) (hz : ¬ z = 0) : b = kBx F (kNa (k + 1)) := by
  rw [kNp h0]
  show b = kBx F (kNa k) + (if F k.toNat = 0 then 1 else 0)
  rw [l, if_neg (show ¬ zI z = 0 from fun q => hz ((zI_eq rz (by omega)).mp q)), h, kBx_cong (f := F) (g := f) _ (fun i hi => by rw [← e, pk_un (show ¬ i = k.toNat from by have : i < k.toNat := hi; omega)])]
  omega
theorem kBx_b (f : Nat → Int32) : ∀ n : Nat, 0 ≤ kBx f n ∧ kBx f n ≤ n
  | 0 => ⟨by show (0 : Int) ≤ 0; omega, by show (0 : Int) ≤ 0; omega⟩
  | n + 1 => by
    have := kBx_b f n
    show 0 ≤ kBx f n + _ ∧ kBx f n + _ ≤ _
    split <;> omega
/-- what the class's findFitting has made of the first j CLUSTERS -/
def kFz (F L has : Nat → Int32) (n al : Int) (j : Int) : Prop := ∀ i : Nat, (i : Int) < j → F i = kFb (kHx has (L i)) (kNa n) &&& zI al
theorem kFz_0 {F L has : Nat → Int32} {n al : Int} : kFz F L has n al 0 := fun i h => by omega
theorem kFz_s {F L has G : Nat → Int32} {n al k z1 z2 z3 : Int} (h : kFz F L has n al k) (h0 : 0 ≤ k) (l : L k.toNat = zI z1) (f : zI z2 = kFb (kHx has (zI z1)) (kNa n)) (e2 : zI z2 &&& zI al = zI z3) (e : upd F k.toNat (zI z3) = G) : kFz G L has n al (k + 1) := by
  intro i hi
  rw [← e]
  by_cases q : i = k.toNat
  · rw [q, pk_us, ← e2, f, ← l]
  · rw [pk_un q]
    exact h i (by omega)
theorem kFz_le {F L has : Nat → Int32} {n al j k : Int} (h : kFz F L has n al j) (e : k ≤ j) : kFz F L has n al k := fun i hi => h i (by omega)
