/-! sixteen bits -/
theorem k16i {x : Int32} (h : 0 ≤ x.toInt ∧ x.toInt < 65536) : x &&& 65535 = x := by
  obtain ⟨z, hz, rfl⟩ := zI_ex x
  rw [zI_toInt hz] at h
  obtain ⟨n, rfl⟩ := Int.eq_ofNat_of_zero_le h.1
  have q : nI n &&& (65535 : Int32) = nI (n % 2 ^ 16) := pk_andN (n := n) (by omega) 16 (by decide)
  rw [show n % 2 ^ 16 = n from Nat.mod_eq_of_lt (by omega)] at q
  exact q
theorem k16o {x : Int32} (h : x &&& 65535 = x) : 0 ≤ x.toInt ∧ x.toInt < 65536 := by
  obtain ⟨j, hj, e⟩ := pk_andE x (m := 65535) 16 (by decide)
  rw [h] at e
  have e2 : x = zI (j : Int) := e
  rw [e2, zI_toInt (by omega)]
  omega
theorem k16or {x y : Int32} (hx : x &&& 65535 = x) (hy : y &&& 65535 = y) : (x ||| y) &&& 65535 = x ||| y := by
  apply b_ext
  intro i hi
  have a := congrArg (fun z => bt z i) hx
  have b := congrArg (fun z => bt z i) hy
  simp only [b_and] at a b
  rw [b_and, b_or]
  cases p : bt x i <;> cases q : bt y i <;> cases r : bt 65535 i <;> simp_all
theorem k16bit {k : Int} (h : 0 ≤ k ∧ k < 16) : (zI 1 <<< (zI k &&& 31)) &&& 65535 = zI 1 <<< (zI k &&& 31) := by
  have a : ∀ n : Nat, n < 16 → (zI 1 <<< (zI (n : Int) &&& 31)) &&& 65535 = zI 1 <<< (zI (n : Int) &&& 31) := by decide +kernel
  obtain ⟨n, rfl⟩ := Int.eq_ofNat_of_zero_le h.1
  exact a n (by omega)
theorem k16 {h k z : Int} (hh : 0 ≤ h ∧ h < 65536) (hk : 0 ≤ k ∧ k < 16) (hz : rg z) (e : zI h ||| (zI 1 <<< (zI k &&& 31)) = zI z) : 0 ≤ z ∧ z < 65536 := by
  have q := k16o (k16or (k16i (x := zI h) (by rw [zI_toInt (by omega)]; exact hh)) (k16bit hk))
  rw [e, zI_toInt hz] at q
  exact q
theorem kb1x {k : Nat} (hk : k < 32) {i : Nat} (hi : i < 32) : bt (zI 1 <<< (zI (k : Int) &&& 31)) i = decide (i = k) := by
  have q : bt (zI 1 <<< (zI (k : Int) &&& 31)) i = (decide (k ≤ i) && bt 1 (i - k)) := b_shl k hk (1 : Int32) hi
  rw [q]
  have o1 : ∀ j, j < 32 → bt 1 j = decide (j = 0) := by decide +kernel
  rw [o1 (i - k) (by omega)]
  by_cases c : i = k
  · subst c
    simp
  · by_cases c2 : k ≤ i
    · have c3 : ¬ i - k = 0 := by omega
      simp [c, c3]
    · simp [c, c2]
/-- the bit is not in the set -/
theorem kbt0 {h k a : Int} (hk : 0 ≤ k ∧ k < 32) (ha : rg a) (e : zI h &&& (zI 1 <<< (zI k &&& 31)) = zI a) : a = 0 ↔ bt (zI h) k.toNat = false := by
  obtain ⟨n, rfl⟩ := Int.eq_ofNat_of_zero_le hk.1
  have q3 : ((n : Int)).toNat = n := by omega
  rw [q3]
  constructor
  · intro c
    rw [c] at e
    have q := congrArg (fun z => bt z n) e
    simp only [b_and] at q
    rw [kb1x (by omega) (by omega), show bt (zI 0) n = false from b_0 n] at q
    simpa using q
  · intro c
    have q : zI h &&& (zI 1 <<< (zI (n : Int) &&& 31)) = zI 0 := by
      apply b_ext
      intro i hi
      rw [b_and, kb1x (by omega) hi, show bt (zI 0) i = false from b_0 i]
      by_cases d : i = n
      · subst d
        rw [c]
        rfl
      · simp [d]
    rw [e] at q
    exact (zI_eq ha (by omega)).mp q
theorem kor_ne {h k z : Int} (hk : 0 ≤ k ∧ k < 32) (e : zI h ||| (zI 1 <<< (zI k &&& 31)) = zI z) : ¬ z = 0 := by
  obtain ⟨n, rfl⟩ := Int.eq_ofNat_of_zero_le hk.1
  intro c
  rw [c] at e
  have q := congrArg (fun z => bt z n) e
  simp only [b_or] at q
  rw [kb1x (by omega) (by omega), show bt (zI 0) n = false from b_0 n] at q
  simp at q
theorem kupd2 {f : Nat → Int32} {k : Nat} {x y : Int32} : upd (upd f k x) k y = upd f k y := by
  funext i
  by_cases c : i = k
  · subst c
    rw [pk_us, pk_us]
  · rw [pk_un c, pk_un c, pk_un c]
/-! codes: the cells of a SHEET from a place on -/
def kCd (f : Nat → Int32) (o : Int) : Nat → Int32 := fun j => f (o + (j : Int)).toNat
theorem kCd_at {f : Nat → Int32} {o j : Int} (h : o ≤ j) : kCd f o (j - o).toNat = f j.toNat := by
  show f (o + ((j - o).toNat : Int)).toNat = _
  rw [show o + ((j - o).toNat : Int) = j by omega]
theorem kCd_z {f : Nat → Int32} {o j z : Int} (h : 0 ≤ j) (hz : rg z) (e : f (o + j).toNat = zI z) : (kCd f o j.toNat).toInt = z := by
  show (f (o + (j.toNat : Int)).toNat).toInt = z
  rw [show o + (j.toNat : Int) = o + j by omega, e, zI_toInt hz]
theorem kAt_in {th n i : Int} {f : Nat → Int32} (h : th = 1 ∧ 0 ≤ i ∧ i ≤ n - 1) : kAt th n i f = f i.toNat := by
  unfold kAt
  rw [if_pos h]
/-! reading a TEXT code by code: what is due, how many FONTS, their kinds, widths, letters -/
abbrev kPT : Type := Int × Int × (Nat → Int32) × (Nat → Int32) × (Nat → Int32)
def kSgC (n : Int) (C : Nat → Int32) (x : Int) : Option (Nat → Int32) := if x = 59 ∧ n < 4 then some (upd C n.toNat (zI 0)) else none
def kLtC (n : Int) (C : Nat → Int32) (x : Int) : Option (Nat → Int32) := if 1 ≤ n ∧ (97 ≤ x ∧ x ≤ 112) ∧ bt (C (n - 1).toNat) (x - 97).toNat = false ∧ kPop (C (n - 1).toNat).toInt < 8 then some (upd C (n - 1).toNat (C (n - 1).toNat ||| (zI 1 <<< (zI (x - 97) &&& 31)))) else none
def kSgn (n : Int) (A B C : Nat → Int32) (x : Int) : Option kPT := match kSgC n C x with
  | none => none
  | some c => some (2, n + 1, A, B, c)
def kLtr (n : Int) (A B C : Nat → Int32) (x : Int) : Option kPT := match kLtC n C x with
  | none => none
  | some c => some (5, n, A, B, c)
def kKnd (n : Int) (A B C : Nat → Int32) (x : Int) : Option kPT := if 1 ≤ n ∧ 65 ≤ x ∧ x ≤ 67 then some (3, n, upd A (n - 1).toNat (zI (x - 65)), B, C) else none
def kBrd (n : Int) (A B C : Nat → Int32) (x : Int) : Option kPT := if 1 ≤ n ∧ 49 ≤ x ∧ x ≤ 57 then some (4, n, A, upd B (n - 1).toNat (zI (x - 48)), C) else none
def kStp (d n : Int) (A B C : Nat → Int32) (x : Int) : Option kPT :=
  if d = 0 then (if x = 102 then some (1, n, A, B, C) else none)
  else if d = 1 then kSgn n A B C x
  else if d = 2 then kKnd n A B C x
  else if d = 3 then kBrd n A B C x
  else if d = 4 then kLtr n A B C x
  else if x = 59 then kSgn n A B C x else kLtr n A B C x
section
variable {d n x : Int} {A B C c : Nat → Int32}
theorem kSgn_s (h : kSgC n C x = some c) : kSgn n A B C x = some (2, n + 1, A, B, c) := by unfold kSgn; rw [h]
theorem kSgn_n (h : kSgC n C x = none) : kSgn n A B C x = none := by unfold kSgn; rw [h]
theorem kLtr_s (h : kLtC n C x = some c) : kLtr n A B C x = some (5, n, A, B, c) := by unfold kLtr; rw [h]
theorem kLtr_n (h : kLtC n C x = none) : kLtr n A B C x = none := by unfold kLtr; rw [h]
theorem kStp_0 (h : d = 0) : kStp d n A B C x = if x = 102 then some (1, n, A, B, C) else none := by unfold kStp; rw [if_pos h]
theorem kStp_0y (h : d = 0) (hx : x = 102) : kStp d n A B C x = some (1, n, A, B, C) := by rw [kStp_0 h, if_pos hx]
theorem kStp_0n (h : d = 0) (hx : ¬ x = 102) : kStp d n A B C x = none := by rw [kStp_0 h, if_neg hx]
theorem kStp_1 (h : d = 1) : kStp d n A B C x = kSgn n A B C x := by unfold kStp; rw [if_neg (by omega), if_pos h]
theorem kStp_2 (h : d = 2) : kStp d n A B C x = kKnd n A B C x := by unfold kStp; rw [if_neg (by omega), if_neg (by omega), if_pos h]
theorem kStp_3 (h : d = 3) : kStp d n A B C x = kBrd n A B C x := by unfold kStp; rw [if_neg (by omega), if_neg (by omega), if_neg (by omega), if_pos h]
theorem kStp_4 (h : d = 4) : kStp d n A B C x = kLtr n A B C x := by unfold kStp; rw [if_neg (by omega), if_neg (by omega), if_neg (by omega), if_neg (by omega), if_pos h]
theorem kStp_5s (h : d = 5) (hx : x = 59) : kStp d n A B C x = kSgn n A B C x := by unfold kStp; rw [if_neg (by omega), if_neg (by omega), if_neg (by omega), if_neg (by omega), if_neg (by omega), if_pos hx]
theorem kStp_5l (h : d = 5) (hx : ¬ x = 59) : kStp d n A B C x = kLtr n A B C x := by unfold kStp; rw [if_neg (by omega), if_neg (by omega), if_neg (by omega), if_neg (by omega), if_neg (by omega), if_neg hx]
theorem kSgC_y (h : x = 59 ∧ n < 4) : kSgC n C x = some (upd C n.toNat (zI 0)) := by unfold kSgC; rw [if_pos h]
theorem kSgC_n (h : ¬ (x = 59 ∧ n < 4)) : kSgC n C x = none := by unfold kSgC; rw [if_neg h]
theorem kKnd_y (h : 1 ≤ n ∧ 65 ≤ x ∧ x ≤ 67) : kKnd n A B C x = some (3, n, upd A (n - 1).toNat (zI (x - 65)), B, C) := by unfold kKnd; rw [if_pos h]
theorem kKnd_n (h : ¬ (1 ≤ n ∧ 65 ≤ x ∧ x ≤ 67)) : kKnd n A B C x = none := by unfold kKnd; rw [if_neg h]
theorem kBrd_y (h : 1 ≤ n ∧ 49 ≤ x ∧ x ≤ 57) : kBrd n A B C x = some (4, n, A, upd B (n - 1).toNat (zI (x - 48)), C) := by unfold kBrd; rw [if_pos h]
theorem kBrd_n (h : ¬ (1 ≤ n ∧ 49 ≤ x ∧ x ≤ 57)) : kBrd n A B C x = none := by unfold kBrd; rw [if_neg h]
theorem kLtC_n (q : ¬ (1 ≤ n ∧ (97 ≤ x ∧ x ≤ 112))) : kLtC n C x = none := by
  unfold kLtC
  rw [if_neg (fun p => q ⟨p.1, p.2.1⟩)]
theorem kLtC_b (q : bt (C (n - 1).toNat) (x - 97).toNat = true) : kLtC n C x = none := by
  unfold kLtC
  rw [if_neg (fun p => by have := p.2.2.1; rw [q] at this; cases this)]
theorem kLtC_8 (q : 8 ≤ kPop (C (n - 1).toNat).toInt) : kLtC n C x = none := by
  unfold kLtC
  rw [if_neg (fun p => by have := p.2.2.2; omega)]
theorem kLtC_y (h1 : 1 ≤ n) (h2 : 97 ≤ x ∧ x ≤ 112) (h3 : bt (C (n - 1).toNat) (x - 97).toNat = false) (h4 : kPop (C (n - 1).toNat).toInt < 8) : kLtC n C x = some (upd C (n - 1).toNat (C (n - 1).toNat ||| (zI 1 <<< (zI (x - 97) &&& 31)))) := by
  unfold kLtC
  rw [if_pos ⟨h1, h2, h3, h4⟩]
end
def kGo (cd : Nat → Int32) (A B C : Nat → Int32) : Nat → Option kPT
  | 0 => some (0, 0, A, B, C)
  | k + 1 => match kGo cd A B C k with
    | none => none
    | some s => kStp s.1 s.2.1 s.2.2.1 s.2.2.2.1 s.2.2.2.2 (cd k).toInt
section
variable {cd A B C : Nat → Int32} {k : Nat} {d n : Int} {a b c : Nat → Int32}
theorem kGo_s (h : kGo cd A B C k = some (d, n, a, b, c)) : kGo cd A B C (k + 1) = kStp d n a b c (cd k).toInt := by
  show (match kGo cd A B C k with | none => none | some s => kStp s.1 s.2.1 s.2.2.1 s.2.2.2.1 s.2.2.2.2 (cd k).toInt) = _
  rw [h]
theorem kGo_n (h : kGo cd A B C k = none) : kGo cd A B C (k + 1) = none := by
  show (match kGo cd A B C k with | none => none | some s => kStp s.1 s.2.1 s.2.2.1 s.2.2.2.1 s.2.2.2.2 (cd k).toInt) = _
  rw [h]
theorem kGo_none (h : kGo cd A B C k = none) : ∀ j : Nat, kGo cd A B C (k + j) = none
  | 0 => h
  | j + 1 => kGo_n (k := k + j) (kGo_none h j)
theorem kGo_cong {cd2 : Nat → Int32} : ∀ k : Nat, (∀ i, i < k → cd i = cd2 i) → kGo cd A B C k = kGo cd2 A B C k
  | 0, _ => rfl
  | k + 1, h => by
    show (match kGo cd A B C k with | none => none | some s => kStp s.1 s.2.1 s.2.2.1 s.2.2.2.1 s.2.2.2.2 (cd k).toInt) = (match kGo cd2 A B C k with | none => none | some s => kStp s.1 s.2.1 s.2.2.1 s.2.2.2.1 s.2.2.2.2 (cd2 k).toInt)
    rw [kGo_cong k (fun i hi => h i (by omega)), h k (by omega)]
end
/-- where the reading fails at k: it came so far, and the code there is wrong -/
def kBad (cd A B C : Nat → Int32) (N k : Nat) : Prop := ∃ d n a b c, kGo cd A B C k = some (d, n, a, b, c) ∧ ((k < N ∧ kStp d n a b c (cd k).toInt = none) ∨ (k = N ∧ ¬ d = 5))
theorem kBad_go {cd A B C : Nat → Int32} {N k : Nat} (h : kBad cd A B C N k) (hk : k < N) : ∀ j, k < j → kGo cd A B C j = none := by
  obtain ⟨d, n, a, b, c, h1, h2⟩ := h
  intro j hj
  have h3 : kGo cd A B C (k + 1) = none := by
    rw [kGo_s h1]
    rcases h2 with ⟨-, q⟩ | ⟨q, -⟩
    · exact q
    · omega
  have h4 := kGo_none h3 (j - (k + 1))
  rw [show k + 1 + (j - (k + 1)) = j by omega] at h4
  exact h4
theorem kBad_le {cd A B C : Nat → Int32} {N k : Nat} (h : kBad cd A B C N k) : k ≤ N := by
  obtain ⟨d, n, a, b, c, h1, h2⟩ := h
  omega
theorem kBad_uniq {cd A B C : Nat → Int32} {N k j : Nat} (h : kBad cd A B C N k) (h2 : kBad cd A B C N j) : k = j := by
  have l1 := kBad_le h
  have l2 := kBad_le h2
  rcases Nat.lt_trichotomy k j with q | q | q
  · have g := kBad_go h (by omega) j q
    obtain ⟨d, n, a, b, c, g1, -⟩ := h2
    rw [g] at g1
    cases g1
  · exact q
  · have g := kBad_go h2 (by omega) k q
    obtain ⟨d, n, a, b, c, g1, -⟩ := h
    rw [g] at g1
    cases g1
theorem kBad_not {cd A B C : Nat → Int32} {N k : Nat} {n : Int} {a b c : Nat → Int32} (h : kBad cd A B C N k) (h2 : kGo cd A B C N = some (5, n, a, b, c)) : False := by
  have l1 := kBad_le h
  by_cases q : k < N
  · rw [kBad_go h q N q] at h2
    cases h2
  · obtain ⟨d, n2, a2, b2, c2, g1, g2⟩ := h
    have e : k = N := by omega
    subst e
    rw [g1] at h2
    cases h2
    rcases g2 with ⟨q2, -⟩ | ⟨-, q2⟩
    · omega
    · exact q2 rfl
theorem kBad_cong {cd cd2 A B C : Nat → Int32} {N k : Nat} (h : kBad cd A B C N k) (e : ∀ i, i < N → cd i = cd2 i) : kBad cd2 A B C N k := by
  have l1 := kBad_le h
  obtain ⟨d, n, a, b, c, h1, h2⟩ := h
  refine ⟨d, n, a, b, c, ?_, ?_⟩
  · rw [← kGo_cong k (fun i hi => e i (by omega))]
    exact h1
  · rcases h2 with ⟨q1, q2⟩ | q
    · left
      refine ⟨q1, ?_⟩
      rw [← e k q1]
      exact q2
    · exact Or.inr q
/-! what every state of the reading has -/
def kOk (s : kPT) : Prop := (0 ≤ s.1 ∧ s.1 ≤ 5) ∧ (0 ≤ s.2.1 ∧ s.2.1 ≤ 4) ∧ (2 ≤ s.1 → 1 ≤ s.2.1) ∧ (s.1 ≤ 1 → s.2.1 = 0) ∧ (∀ i : Nat, (i : Int) < s.2.1 → (0 ≤ (s.2.2.2.2 i).toInt ∧ (s.2.2.2.2 i).toInt < 65536)) ∧ (∀ i : Nat, (i : Int) < s.2.1 - 1 → (0 ≤ (s.2.2.1 i).toInt ∧ (s.2.2.1 i).toInt ≤ 2)) ∧ (3 ≤ s.1 → (0 ≤ (s.2.2.1 (s.2.1 - 1).toNat).toInt ∧ (s.2.2.1 (s.2.1 - 1).toNat).toInt ≤ 2))
theorem kOk_sg {d n x : Int} {a b c : Nat → Int32} {t : kPT} (h : kOk (d, n, a, b, c)) (hd : d = 1 ∨ d = 5) (e : kSgn n a b c x = some t) : kOk t := by
  obtain ⟨h1, h2, h3, h4, h5, h6, h7⟩ := h
  dsimp only at h1 h2 h3 h4 h5 h6 h7
  by_cases q : x = 59 ∧ n < 4
  · rw [kSgn_s (kSgC_y q)] at e
    cases e
    refine ⟨by dsimp only; omega, by dsimp only; omega, fun _ => by dsimp only; omega, fun p => absurd p (by dsimp only; omega), ?_, ?_, fun p => absurd p (by dsimp only; omega)⟩
    · intro i hi
      dsimp only at hi ⊢
      by_cases c1 : i = n.toNat
      · subst c1
        rw [pk_us, zI_toInt (by omega)]
        omega
      · rw [pk_un c1]
        exact h5 i (by omega)
    · intro i hi
      dsimp only at hi ⊢
      by_cases c1 : (i : Int) < n - 1
      · exact h6 i c1
      · have c2 : (n - 1).toNat = i := by omega
        rw [← c2]
        exact h7 (by omega)
  · rw [kSgn_n (kSgC_n q)] at e
    cases e
theorem kOk_lt {d n x : Int} {a b c : Nat → Int32} {t : kPT} (h : kOk (d, n, a, b, c)) (hd : 4 ≤ d) (e : kLtr n a b c x = some t) : kOk t := by
  obtain ⟨h1, h2, h3, h4, h5, h6, h7⟩ := h
  dsimp only at h1 h2 h3 h4 h5 h6 h7
  by_cases q : 1 ≤ n ∧ (97 ≤ x ∧ x ≤ 112) ∧ bt (c (n - 1).toNat) (x - 97).toNat = false ∧ kPop (c (n - 1).toNat).toInt < 8
  · rw [kLtr_s (kLtC_y q.1 q.2.1 q.2.2.1 q.2.2.2)] at e
    cases e
    refine ⟨by dsimp only; omega, h2, fun _ => q.1, fun p => absurd p (by dsimp only; omega), ?_, h6, fun _ => h7 (by omega)⟩
    intro i hi
    dsimp only at hi ⊢
    by_cases c1 : i = (n - 1).toNat
    · subst c1
      rw [pk_us]
      exact k16o (k16or (k16i (h5 _ hi)) (k16bit (by omega)))
    · rw [pk_un c1]
      exact h5 i hi
  · have z : kLtC n c x = none := by unfold kLtC; rw [if_neg q]
    rw [kLtr_n z] at e
    cases e
theorem kOk_s {d n x : Int} {a b c : Nat → Int32} {t : kPT} (h : kOk (d, n, a, b, c)) (e : kStp d n a b c x = some t) : kOk t := by
  have hh := h
  obtain ⟨h1, h2, h3, h4, h5, h6, h7⟩ := hh
  dsimp only at h1 h2 h3 h4 h5 h6 h7
  rcases (show d = 0 ∨ d = 1 ∨ d = 2 ∨ d = 3 ∨ d = 4 ∨ d = 5 by omega) with q | q | q | q | q | q
  · rw [kStp_0 q] at e
    by_cases c1 : x = 102
    · rw [if_pos c1] at e
      cases e
      have n0 := h4 (by omega)
      exact ⟨by dsimp only; omega, h2, fun p => absurd p (by dsimp only; omega), fun _ => n0, h5, h6, fun p => absurd p (by dsimp only; omega)⟩
    · rw [if_neg c1] at e
      cases e
  · rw [kStp_1 q] at e
    exact kOk_sg h (Or.inl q) e
  · rw [kStp_2 q] at e
    by_cases c1 : 1 ≤ n ∧ 65 ≤ x ∧ x ≤ 67
    · rw [kKnd_y c1] at e
      cases e
      refine ⟨by dsimp only; omega, h2, fun _ => c1.1, fun p => absurd p (by dsimp only; omega), h5, ?_, fun _ => ?_⟩
      · intro i hi
        dsimp only at hi ⊢
        rw [pk_un (by omega)]
        exact h6 i hi
      · dsimp only
        rw [pk_us, zI_toInt (by omega)]
        omega
    · rw [kKnd_n c1] at e
      cases e
  · rw [kStp_3 q] at e
    by_cases c1 : 1 ≤ n ∧ 49 ≤ x ∧ x ≤ 57
    · rw [kBrd_y c1] at e
      cases e
      exact ⟨by dsimp only; omega, h2, fun _ => c1.1, fun p => absurd p (by dsimp only; omega), h5, h6, fun _ => h7 (by omega)⟩
    · rw [kBrd_n c1] at e
      cases e
  · rw [kStp_4 q] at e
    exact kOk_lt h (by omega) e
  · by_cases c1 : x = 59
    · rw [kStp_5s q c1] at e
      exact kOk_sg h (Or.inr q) e
    · rw [kStp_5l q c1] at e
      exact kOk_lt h (by omega) e
theorem kGo_ok {cd A B C : Nat → Int32} : ∀ (k : Nat) (s : kPT), kGo cd A B C k = some s → kOk s
  | 0, s, h => by
    cases h
    exact ⟨by dsimp only; omega, by dsimp only; omega, fun p => absurd p (by dsimp only; omega), fun _ => rfl, fun i hi => by dsimp only at hi; omega, fun i hi => by dsimp only at hi; omega, fun p => absurd p (by dsimp only; omega)⟩
  | k + 1, s, h => by
    cases g : kGo cd A B C k with
    | none => rw [kGo_n g] at h; cases h
    | some t =>
      obtain ⟨d, n, a, b, c⟩ := t
      rw [kGo_s g] at h
      exact kOk_s (kGo_ok k _ g) h
/-! two readings of the same codes over other rows -/
def kLk (s t : kPT) : Prop := s.1 = t.1 ∧ s.2.1 = t.2.1 ∧ (∀ i : Nat, (i : Int) < s.2.1 - 1 → s.2.2.1 i = t.2.2.1 i ∧ s.2.2.2.1 i = t.2.2.2.1 i) ∧ (∀ i : Nat, (i : Int) < s.2.1 → s.2.2.2.2 i = t.2.2.2.2 i) ∧ (3 ≤ s.1 → s.2.2.1 (s.2.1 - 1).toNat = t.2.2.1 (s.2.1 - 1).toNat) ∧ (4 ≤ s.1 → s.2.2.2.1 (s.2.1 - 1).toNat = t.2.2.2.1 (s.2.1 - 1).toNat)
def kLkO : Option kPT → Option kPT → Prop
  | none, none => True
  | some s, some t => kLk s t
  | _, _ => False
section
variable {d n x : Int} {a b c a2 b2 c2 : Nat → Int32}
theorem kLk_sg (h : kLk (d, n, a, b, c) (d, n, a2, b2, c2)) (o : kOk (d, n, a, b, c)) (hd : d = 1 ∨ d = 5) : kLkO (kSgn n a b c x) (kSgn n a2 b2 c2 x) := by
  obtain ⟨-, -, h3, h4, h5, h6⟩ := h
  obtain ⟨o1, o2, o3, o4, -⟩ := o
  dsimp only at h3 h4 h5 h6 o1 o2 o3 o4
  by_cases q : x = 59 ∧ n < 4
  · rw [kSgn_s (kSgC_y q), kSgn_s (kSgC_y q)]
    refine ⟨rfl, rfl, ?_, ?_, fun p => absurd p (by dsimp only; omega), fun p => absurd p (by dsimp only; omega)⟩
    · intro i hi
      dsimp only at hi ⊢
      by_cases c1 : (i : Int) < n - 1
      · exact h3 i c1
      · have e : (n - 1).toNat = i := by omega
        rw [← e]
        exact ⟨h5 (by omega), h6 (by omega)⟩
    · intro i hi
      dsimp only at hi ⊢
      by_cases c1 : i = n.toNat
      · subst c1
        rw [pk_us, pk_us]
      · rw [pk_un c1, pk_un c1]
        exact h4 i (by omega)
  · rw [kSgn_n (kSgC_n q), kSgn_n (kSgC_n q)]
    trivial
theorem kLk_lt (h : kLk (d, n, a, b, c) (d, n, a2, b2, c2)) (o : kOk (d, n, a, b, c)) (hd : 4 ≤ d) : kLkO (kLtr n a b c x) (kLtr n a2 b2 c2 x) := by
  obtain ⟨-, -, h3, h4, h5, h6⟩ := h
  obtain ⟨o1, o2, o3, o4, -⟩ := o
  dsimp only at h3 h4 h5 h6 o1 o2 o3 o4
  have n1 := o3 (by omega)
  have ec : c2 (n - 1).toNat = c (n - 1).toNat := (h4 _ (by omega)).symm
  by_cases q : 1 ≤ n ∧ (97 ≤ x ∧ x ≤ 112) ∧ bt (c (n - 1).toNat) (x - 97).toNat = false ∧ kPop (c (n - 1).toNat).toInt < 8
  · rw [kLtr_s (kLtC_y q.1 q.2.1 q.2.2.1 q.2.2.2), kLtr_s (kLtC_y (C := c2) q.1 q.2.1 (by rw [ec]; exact q.2.2.1) (by rw [ec]; exact q.2.2.2))]
    refine ⟨rfl, rfl, h3, ?_, fun _ => h5 (by omega), fun _ => h6 (by omega)⟩
    intro i hi
    dsimp only at hi ⊢
    by_cases c1 : i = (n - 1).toNat
    · subst c1
      rw [pk_us, pk_us, ec]
    · rw [pk_un c1, pk_un c1]
      exact h4 i hi
  · have z : kLtC n c x = none := by unfold kLtC; rw [if_neg q]
    have z2 : kLtC n c2 x = none := by unfold kLtC; rw [ec, if_neg q]
    rw [kLtr_n z, kLtr_n z2]
    trivial
theorem kLk_s (h : kLk (d, n, a, b, c) (d, n, a2, b2, c2)) (o : kOk (d, n, a, b, c)) : kLkO (kStp d n a b c x) (kStp d n a2 b2 c2 x) := by
  have hh := h
  have oo := o
  obtain ⟨-, -, h3, h4, h5, h6⟩ := hh
  obtain ⟨o1, o2, o3, o4, -⟩ := oo
  dsimp only at h3 h4 h5 h6 o1 o2 o3 o4
  rcases (show d = 0 ∨ d = 1 ∨ d = 2 ∨ d = 3 ∨ d = 4 ∨ d = 5 by omega) with q | q | q | q | q | q
  · rw [kStp_0 q, kStp_0 q]
    by_cases c1 : x = 102
    · rw [if_pos c1, if_pos c1]
      exact ⟨rfl, rfl, h3, h4, fun p => absurd p (by dsimp only; omega), fun p => absurd p (by dsimp only; omega)⟩
    · rw [if_neg c1, if_neg c1]
      trivial
  · rw [kStp_1 q, kStp_1 q]
    exact kLk_sg h o (Or.inl q)
  · rw [kStp_2 q, kStp_2 q]
    by_cases c1 : 1 ≤ n ∧ 65 ≤ x ∧ x ≤ 67
    · rw [kKnd_y c1, kKnd_y c1]
      refine ⟨rfl, rfl, ?_, h4, fun _ => ?_, fun p => absurd p (by dsimp only; omega)⟩
      · intro i hi
        dsimp only at hi ⊢
        rw [pk_un (by omega), pk_un (by omega)]
        exact h3 i hi
      · dsimp only
        rw [pk_us, pk_us]
    · rw [kKnd_n c1, kKnd_n c1]
      trivial
  · rw [kStp_3 q, kStp_3 q]
    by_cases c1 : 1 ≤ n ∧ 49 ≤ x ∧ x ≤ 57
    · rw [kBrd_y c1, kBrd_y c1]
      refine ⟨rfl, rfl, ?_, h4, fun _ => h5 (by omega), fun _ => ?_⟩
      · intro i hi
        dsimp only at hi ⊢
        rw [pk_un (by omega), pk_un (by omega)]
        exact h3 i hi
      · dsimp only
        rw [pk_us, pk_us]
    · rw [kBrd_n c1, kBrd_n c1]
      trivial
  · rw [kStp_4 q, kStp_4 q]
    exact kLk_lt h o (by omega)
  · by_cases c1 : x = 59
    · rw [kStp_5s q c1, kStp_5s q c1]
      exact kLk_sg h o (Or.inr q)
    · rw [kStp_5l q c1, kStp_5l q c1]
      exact kLk_lt h o (by omega)
end
theorem kGo_lk {cd A B C A2 B2 C2 : Nat → Int32} : ∀ k : Nat, kLkO (kGo cd A B C k) (kGo cd A2 B2 C2 k)
  | 0 => ⟨rfl, rfl, fun i hi => by dsimp only at hi; omega, fun i hi => by dsimp only at hi; omega, fun p => absurd p (by dsimp only; omega), fun p => absurd p (by dsimp only; omega)⟩
  | k + 1 => by
    have ih := kGo_lk (cd := cd) (A := A) (B := B) (C := C) (A2 := A2) (B2 := B2) (C2 := C2) k
    cases g : kGo cd A B C k with
    | none =>
      cases g2 : kGo cd A2 B2 C2 k with
      | none => rw [kGo_n g, kGo_n g2]; trivial
      | some t => rw [g, g2] at ih; exact ih.elim
    | some s =>
      cases g2 : kGo cd A2 B2 C2 k with
      | none => rw [g, g2] at ih; exact ih.elim
      | some t =>
        rw [g, g2] at ih
        have ok := kGo_ok k s g
        obtain ⟨d, n, a, b, c⟩ := s
        obtain ⟨d2, n2, a2, b2, c2⟩ := t
        have e1 : d = d2 := ih.1
        have e2 : n = n2 := ih.2.1
        subst e1
        subst e2
        rw [kGo_s g, kGo_s g2]
        exact kLk_s ih ok
theorem kBad_lk {cd A B C A2 B2 C2 : Nat → Int32} {N k : Nat} (h : kBad cd A B C N k) : kBad cd A2 B2 C2 N k := by
  obtain ⟨d, n, a, b, c, h1, h2⟩ := h
  have q := kGo_lk (cd := cd) (A := A) (B := B) (C := C) (A2 := A2) (B2 := B2) (C2 := C2) k
  have ok := kGo_ok k _ h1
  cases g2 : kGo cd A2 B2 C2 k with
  | none => rw [h1, g2] at q; exact q.elim
  | some t =>
    obtain ⟨d2, n2, a2, b2, c2⟩ := t
    rw [h1, g2] at q
    have e1 : d = d2 := q.1
    have e2 : n = n2 := q.2.1
    subst e1
    subst e2
    refine ⟨d, n, a2, b2, c2, g2, ?_⟩
    rcases h2 with ⟨p1, p2⟩ | p
    · left
      refine ⟨p1, ?_⟩
      have r := kLk_s (x := (cd k).toInt) q ok
      rw [p2] at r
      cases g3 : kStp d n a2 b2 c2 (cd k).toInt with
      | none => rfl
      | some t => rw [g3] at r; exact r.elim
    · exact Or.inr p
theorem kGo5 {cd A B C A2 B2 C2 : Nat → Int32} {N : Nat} {n n2 : Int} {a b c a2 b2 c2 : Nat → Int32} (h : kGo cd A B C N = some (5, n, a, b, c)) (h2 : kGo cd A2 B2 C2 N = some (5, n2, a2, b2, c2)) : n = n2 ∧ (1 ≤ n ∧ n ≤ 4) ∧ (∀ i : Nat, (i : Int) < n → a i = a2 i ∧ b i = b2 i ∧ c i = c2 i) ∧ (∀ i : Nat, (i : Int) < n → (0 ≤ (a i).toInt ∧ (a i).toInt ≤ 2) ∧ (0 ≤ (c i).toInt ∧ (c i).toInt < 65536)) := by
  have q := kGo_lk (cd := cd) (A := A) (B := B) (C := C) (A2 := A2) (B2 := B2) (C2 := C2) N
  rw [h, h2] at q
  obtain ⟨-, e, q3, q4, q5, q6⟩ := q
  obtain ⟨-, o2, o3, -, o5, o6, o7⟩ := kGo_ok N _ h
  have e : n = n2 := e
  have q3 : ∀ i : Nat, (i : Int) < n - 1 → a i = a2 i ∧ b i = b2 i := q3
  have q4 : ∀ i : Nat, (i : Int) < n → c i = c2 i := q4
  have q5 : (3 : Int) ≤ 5 → a (n - 1).toNat = a2 (n - 1).toNat := q5
  have q6 : (4 : Int) ≤ 5 → b (n - 1).toNat = b2 (n - 1).toNat := q6
  have o2 : 0 ≤ n ∧ n ≤ 4 := o2
  have o3 : (2 : Int) ≤ 5 → 1 ≤ n := o3
  have o5 : ∀ i : Nat, (i : Int) < n → (0 ≤ (c i).toInt ∧ (c i).toInt < 65536) := o5
  have o6 : ∀ i : Nat, (i : Int) < n - 1 → (0 ≤ (a i).toInt ∧ (a i).toInt ≤ 2) := o6
  have o7 : (3 : Int) ≤ 5 → (0 ≤ (a (n - 1).toNat).toInt ∧ (a (n - 1).toNat).toInt ≤ 2) := o7
  have n1 := o3 (by omega)
  refine ⟨e, ⟨n1, o2.2⟩, fun i hi => ?_, fun i hi => ⟨?_, o5 i hi⟩⟩
  · by_cases c1 : (i : Int) < n - 1
    · exact ⟨(q3 i c1).1, (q3 i c1).2, q4 i hi⟩
    · have e2 : (n - 1).toNat = i := by omega
      rw [← e2]
      exact ⟨q5 (by omega), q6 (by omega), q4 _ (by omega)⟩
  · by_cases c1 : (i : Int) < n - 1
    · exact o6 i c1
    · have e2 : (n - 1).toNat = i := by omega
      rw [← e2]
      exact o7 (by omega)
