abbrev kNa (z : Int) : Nat := z.toNat
/-! the class's reader, code by code -/
def kHb (C : Nat → Int32) (n : Int) : Prop := 1 ≤ n → (0 ≤ (C (n - 1).toNat).toInt ∧ (C (n - 1).toNat).toInt < 65536)
section
variable {n x f z1 z2 z3 z5 z7 : Int} {C g : Nat → Int32}
theorem kLtC_b2 (hf : f = n - 1) (hx : 97 ≤ x ∧ x ≤ 112) (e1 : zI 1 <<< (zI (x - 97) &&& 31) = zI z1) (e2 : C f.toNat = zI z2) (r3 : rg z3) (e3 : zI z2 &&& zI z1 = zI z3) (c : ¬ z3 = 0) : kLtC n C x = none := by
  subst hf
  rw [← e1] at e3
  have q := kbt0 (k := x - 97) (by omega) r3 e3
  apply kLtC_b
  rw [e2]
  cases p : bt (zI z2) (x - 97).toNat with
  | false => exact absurd (q.mpr p) c
  | true => rfl
theorem kLtC_82 (hb : kHb C n) (h1 : 1 ≤ n) (hf : f = n - 1) (r2 : rg z2) (e2 : C f.toNat = zI z2) (r5 : rg z5) (e5 : kBc (zI z2) = zI z5) (c : 8 ≤ z5) : kLtC n C x = none := by
  subst hf
  have b := hb h1
  rw [e2, zI_toInt r2] at b
  have q := kBc_pop b r5 e5
  apply kLtC_8
  rw [e2, zI_toInt r2]
  omega
theorem kLtC_y2 (hb : kHb C n) (h1 : 1 ≤ n) (hf : f = n - 1) (hx : 97 ≤ x ∧ x ≤ 112) (e1 : zI 1 <<< (zI (x - 97) &&& 31) = zI z1) (r2 : rg z2) (e2 : C f.toNat = zI z2) (r3 : rg z3) (e3 : zI z2 &&& zI z1 = zI z3) (c : z3 = 0) (r5 : rg z5) (e5 : kBc (zI z2) = zI z5) (c5 : z5 < 8) (e7 : zI z2 ||| zI z1 = zI z7) (eg : upd C f.toNat (zI z7) = g) : kLtC n C x = some g := by
  subst hf
  have b := hb h1
  rw [e2, zI_toInt r2] at b
  have q := kBc_pop b r5 e5
  rw [← e1] at e3 e7
  have q3 := (kbt0 (k := x - 97) (by omega) r3 e3).mp c
  rw [kLtC_y h1 hx (by rw [e2]; exact q3) (by rw [e2, zI_toInt r2]; omega), e2, e7, eg]
end
section
variable {du n x r ud un : Int} {A B C c a : Nat → Int32}
def kGw (du n : Int) (A B C : Nat → Int32) (x r : Int) (t : kPT) : Prop := (r = 1 ∧ kStp du n A B C x = some t) ∨ (r = 0 ∧ kStp du n A B C x = none)
theorem kGw_0 (hd : du = 0) (h : ud = 1 ∧ ((r = 1 ∧ x = 102) ∨ (r = 0 ∧ ¬ x = 102))) : kGw du n A B C x r (ud, n, A, B, C) := by
  rcases h with ⟨h1, ⟨h2, h3⟩ | ⟨h2, h3⟩⟩
  · exact Or.inl ⟨h2, by rw [kStp_0y hd h3, h1]⟩
  · exact Or.inr ⟨h2, kStp_0n hd h3⟩
theorem kGw_1 (hd : du = 1) (h : (r = 1 ∧ ud = 2 ∧ un = n + 1 ∧ kSgC n C x = some c) ∨ (r = 0 ∧ kSgC n C x = none)) : kGw du n A B C x r (ud, un, A, B, c) := by
  rcases h with ⟨h1, h2, h3, h4⟩ | ⟨h1, h2⟩
  · exact Or.inl ⟨h1, by rw [kStp_1 hd, kSgn_s h4, h2, h3]⟩
  · exact Or.inr ⟨h1, by rw [kStp_1 hd, kSgn_n h2]⟩
theorem kGw_5s (hd : du = 5) (hx : x = 59) (h : (r = 1 ∧ ud = 2 ∧ un = n + 1 ∧ kSgC n C x = some c) ∨ (r = 0 ∧ kSgC n C x = none)) : kGw du n A B C x r (ud, un, A, B, c) := by
  rcases h with ⟨h1, h2, h3, h4⟩ | ⟨h1, h2⟩
  · exact Or.inl ⟨h1, by rw [kStp_5s hd hx, kSgn_s h4, h2, h3]⟩
  · exact Or.inr ⟨h1, by rw [kStp_5s hd hx, kSgn_n h2]⟩
theorem kGw_2 (hd : du = 2) (h : (r = 1 ∧ ud = 3 ∧ (1 ≤ n ∧ 65 ≤ x ∧ x ≤ 67) ∧ a = upd A (n - 1).toNat (zI (x - 65))) ∨ (r = 0 ∧ ¬ (1 ≤ n ∧ 65 ≤ x ∧ x ≤ 67))) : kGw du n A B C x r (ud, n, a, B, C) := by
  rcases h with ⟨h1, h2, h3, h4⟩ | ⟨h1, h2⟩
  · exact Or.inl ⟨h1, by rw [kStp_2 hd, kKnd_y h3, h2, h4]⟩
  · exact Or.inr ⟨h1, by rw [kStp_2 hd, kKnd_n h2]⟩
theorem kGw_3 (hd : du = 3) (h : (r = 1 ∧ ud = 4 ∧ (1 ≤ n ∧ 49 ≤ x ∧ x ≤ 57) ∧ a = upd B (n - 1).toNat (zI (x - 48))) ∨ (r = 0 ∧ ¬ (1 ≤ n ∧ 49 ≤ x ∧ x ≤ 57))) : kGw du n A B C x r (ud, n, A, a, C) := by
  rcases h with ⟨h1, h2, h3, h4⟩ | ⟨h1, h2⟩
  · exact Or.inl ⟨h1, by rw [kStp_3 hd, kBrd_y h3, h2, h4]⟩
  · exact Or.inr ⟨h1, by rw [kStp_3 hd, kBrd_n h2]⟩
theorem kGw_4 (hd : du = 4) (h : (r = 1 ∧ ud = 5 ∧ kLtC n C x = some c) ∨ (r = 0 ∧ kLtC n C x = none)) : kGw du n A B C x r (ud, n, A, B, c) := by
  rcases h with ⟨h1, h2, h3⟩ | ⟨h1, h2⟩
  · exact Or.inl ⟨h1, by rw [kStp_4 hd, kLtr_s h3, h2]⟩
  · exact Or.inr ⟨h1, by rw [kStp_4 hd, kLtr_n h2]⟩
theorem kGw_5l (hd : du = 5) (hx : ¬ x = 59) (h : (r = 1 ∧ ud = 5 ∧ kLtC n C x = some c) ∨ (r = 0 ∧ kLtC n C x = none)) : kGw du n A B C x r (ud, n, A, B, c) := by
  rcases h with ⟨h1, h2, h3⟩ | ⟨h1, h2⟩
  · exact Or.inl ⟨h1, by rw [kStp_5l hd hx, kLtr_s h3, h2]⟩
  · exact Or.inr ⟨h1, by rw [kStp_5l hd hx, kLtr_n h2]⟩
end
theorem kGo_b {cd A B C : Nat → Int32} {k : Nat} {d n : Int} {a b c : Nat → Int32} (h : kGo cd A B C k = some (d, n, a, b, c)) : (0 ≤ d ∧ d ≤ 5) ∧ (0 ≤ n ∧ n ≤ 4) ∧ kHb c n := by
  obtain ⟨o1, o2, -, -, o5, -⟩ := kGo_ok k _ h
  dsimp only at o1 o2 o5
  exact ⟨o1, o2, fun h1 => o5 _ (by omega)⟩
theorem kGo_0 {cd A B C : Nat → Int32} : kGo cd A B C (kNa 0) = some (0, 0, A, B, C) := rfl
section
variable {fr A B C a b c : Nat → Int32} {th sz i jk z d n r k : Int} {t : kPT}
theorem kGo_st (h0 : kGo (kCd fr i) A B C (kNa jk) = some (d, n, a, b, c)) (hj : 0 ≤ jk) (ez : kAt th sz (i + jk) fr = zI z) (rz : rg z) (hat : th = 1 ∧ 0 ≤ i + jk ∧ i + jk ≤ sz - 1) (gw : kGw d n a b c z r t) (c1 : ¬ r = 0) : kGo (kCd fr i) A B C (kNa (jk + 1)) = some t := by
  have e1 : kNa (jk + 1) = kNa jk + 1 := by show (jk + 1).toNat = jk.toNat + 1; omega
  rw [kAt_in hat] at ez
  rw [e1, kGo_s h0, show (kCd fr i (kNa jk)).toInt = z from kCd_z hj rz ez]
  rcases gw with ⟨-, q⟩ | ⟨q, -⟩
  · exact q
  · exact absurd q c1
def kFf (cd A B C : Nat → Int32) (N r : Int) (un : Int) (a b c : Nat → Int32) : Prop := (r = -9 ∧ kGo cd A B C (kNa N) = some (5, un, a, b, c)) ∨ ((0 ≤ r ∧ r ≤ N) ∧ kBad cd A B C (kNa N) (kNa r))
theorem kFf_1 {t2 : Int} {a2 b2 c2 : Nat → Int32} (h0 : kGo (kCd fr i) A B C (kNa jk) = some (d, n, a, b, c)) (hj : 0 ≤ jk ∧ jk < k) (ez : kAt th sz (i + jk) fr = zI z) (rz : rg z) (hat : th = 1 ∧ 0 ≤ i + jk ∧ i + jk ≤ sz - 1) (gw : kGw d n a b c z r t) (c1 : r = 0) : kFf (kCd fr i) A B C k jk t2 a2 b2 c2 := by
  rw [kAt_in hat] at ez
  refine Or.inr ⟨by omega, d, n, a, b, c, h0, Or.inl ⟨by show jk.toNat < k.toNat; omega, ?_⟩⟩
  rw [show (kCd fr i (kNa jk)).toInt = z from kCd_z hj.1 rz ez]
  rcases gw with ⟨q, -⟩ | ⟨-, q⟩
  · omega
  · exact q
theorem kFf_2 (h0 : kGo (kCd fr i) A B C (kNa jk) = some (d, n, a, b, c)) (e : jk = k) (hd : d = 5) (hr : r = -9) : kFf (kCd fr i) A B C k r n a b c := by
  subst e
  subst hd
  exact Or.inl ⟨hr, h0⟩
theorem kFf_3 {t2 : Int} {a2 b2 c2 : Nat → Int32} (h0 : kGo (kCd fr i) A B C (kNa jk) = some (d, n, a, b, c)) (e : jk = k) (h1 : 0 ≤ k) (hd : ¬ d = 5) (hr : r = k) : kFf (kCd fr i) A B C k r t2 a2 b2 c2 := by
  subst e
  subst hr
  exact Or.inr ⟨by omega, d, n, a, b, c, h0, Or.inr ⟨rfl, hd⟩⟩
end
/-! rows that are the same up to a place -/
def kEq (f g : Nat → Int32) (n : Int) : Prop := ∀ i : Nat, (i : Int) < n → f i = g i
theorem kEq_0 {f g : Nat → Int32} : kEq f g 0 := fun i h => by omega
theorem kEq_rf {f : Nat → Int32} {n : Int} : kEq f f n := fun _ _ => rfl
theorem kEq_s {f g f2 : Nat → Int32} {n z : Int} (h : kEq f g n) (h0 : 0 ≤ n) (e : g n.toNat = zI z) (e2 : upd f n.toNat (zI z) = f2) : kEq f2 g (n + 1) := by
  intro i hi
  rw [← e2]
  by_cases q : i = n.toNat
  · subst q
    rw [pk_us, e]
  · rw [pk_un q]
    exact h i (by omega)
theorem kEq_le {f g : Nat → Int32} {n m : Int} (h : kEq f g n) (e : m ≤ n) : kEq f g m := fun i hi => h i (by omega)
theorem kId_le {f : Nat → Int32} {n m : Int} (h : kId f n) (e : m ≤ n) : kId f m := fun i hi => h i (by omega)
/-! what the machine has against taking cells -/
def kAg (t l n y i z w : Int) : Prop := (t = 0 ∧ w = 1) ∨ (t = 1 ∧ ¬ l = y ∧ w = 2) ∨ (t = 1 ∧ l = y ∧ z < 0 ∧ w = 4) ∨ (t = 1 ∧ l = y ∧ 0 ≤ z ∧ ¬ (0 ≤ i ∧ i ≤ n ∧ z ≤ n - i) ∧ w = 3) ∨ (t = 1 ∧ l = y ∧ 0 ≤ z ∧ (0 ≤ i ∧ i ≤ n ∧ z ≤ n - i) ∧ w = 0)
def kAgM (s n y i z w : Int) : Prop := (s = -9 ∧ w = 1) ∨ (¬ s = -9 ∧ ¬ s = y ∧ w = 2) ∨ (¬ s = -9 ∧ s = y ∧ z < 0 ∧ w = 4) ∨ (¬ s = -9 ∧ s = y ∧ 0 ≤ z ∧ ¬ (0 ≤ i ∧ i ≤ n ∧ z ≤ n - i) ∧ w = 3) ∨ (¬ s = -9 ∧ s = y ∧ 0 ≤ z ∧ (0 ≤ i ∧ i ≤ n ∧ z ≤ n - i) ∧ w = 0)
def kGt (ag : Int → Prop) (I : Int → Prop) (same : Prop) (lf rz : Int) : Prop := ∃ w, ag w ∧ ((¬ w = 0 ∧ rz = -10 - w ∧ lf = w ∧ same) ∨ (w = 0 ∧ lf = 0 ∧ I rz))
theorem kGt_1 {ag I : Int → Prop} {same : Prop} {lf rz : Int} (w : Int) (h : ag w) (h1 : ¬ w = 0) (h2 : rz = -10 - w) (h3 : lf = w) (h4 : same) : kGt ag I same lf rz := ⟨w, h, Or.inl ⟨h1, h2, h3, h4⟩⟩
theorem kGt_2 {ag I : Int → Prop} {same : Prop} {lf rz : Int} (h : ag 0) (h3 : lf = 0) (h4 : I rz) : kGt ag I same lf rz := ⟨0, h, Or.inr ⟨rfl, h3, h4⟩⟩
def kGa (k : Int) (bad : Prop) (G : Int → Int → Prop) (same : Prop) (lf rz : Int) : Prop := (¬ (0 ≤ k ∧ k ≤ 3) ∧ rz = -1 ∧ lf = 0 ∧ same) ∨ ((0 ≤ k ∧ k ≤ 3) ∧ bad ∧ rz = -2 ∧ lf = 0 ∧ same) ∨ ((0 ≤ k ∧ k ≤ 3) ∧ ¬ bad ∧ G lf rz)
section
variable {k lf rz : Int} {bad same : Prop} {G : Int → Int → Prop}
theorem kGa_1 (h : ¬ (0 ≤ k ∧ k ≤ 3)) (h1 : rz = -1) (h2 : lf = 0) (h3 : same) : kGa k bad G same lf rz := Or.inl ⟨h, h1, h2, h3⟩
theorem kGa_2 (h : 0 ≤ k ∧ k ≤ 3) (hb : bad) (h1 : rz = -2) (h2 : lf = 0) (h3 : same) : kGa k bad G same lf rz := Or.inr (Or.inl ⟨h, hb, h1, h2, h3⟩)
theorem kGa_3 (h : 0 ≤ k ∧ k ≤ 3) (hb : ¬ bad) (h1 : G lf rz) : kGa k bad G same lf rz := Or.inr (Or.inr ⟨h, hb, h1⟩)
/-- both gates: the same FAULT; nothing happened on both sides, or both went in -/
theorem kGa_rel {agx agm : Int → Prop} {Ix Im : Int → Prop} {sx sm : Prop} {fa rm : Int} (hx : kGa k bad (fun l r => kGt agx Ix sx l r) sx lf rz) (hm : kGa k bad (fun l r => kGt agm Im sm l r) sm fa rm) (ha : 0 ≤ k ∧ k ≤ 3 → ¬ bad → ∀ w v, agx w → agm v → w = v) : lf = fa ∧ ((sx ∧ sm ∧ rz = rm) ∨ ((0 ≤ k ∧ k ≤ 3) ∧ ¬ bad ∧ agx 0 ∧ Ix rz ∧ Im rm)) := by
  rcases hx with ⟨a1, a2, a3, a4⟩ | ⟨a1, a2, a3, a4, a5⟩ | ⟨a1, a2, w, a3, a4⟩
  · rcases hm with ⟨b1, b2, b3, b4⟩ | ⟨b1, b2, b3, b4, b5⟩ | ⟨b1, b2, v, b3, b4⟩
    · exact ⟨by omega, Or.inl ⟨a4, b4, by omega⟩⟩
    · exact absurd b1 a1
    · exact absurd b1 a1
  · rcases hm with ⟨b1, b2, b3, b4⟩ | ⟨b1, b2, b3, b4, b5⟩ | ⟨b1, b2, v, b3, b4⟩
    · exact absurd a1 b1
    · exact ⟨by omega, Or.inl ⟨a5, b5, by omega⟩⟩
    · exact absurd a2 b2
  · rcases hm with ⟨b1, b2, b3, b4⟩ | ⟨b1, b2, b3, b4, b5⟩ | ⟨b1, b2, v, b3, b4⟩
    · exact absurd a1 b1
    · exact absurd b2 a2
    · have e := ha a1 a2 w v a3 b3
      subst e
      rcases a4 with ⟨c1, c2, c3, c4⟩ | ⟨c1, c2, c3⟩
      · rcases b4 with ⟨d1, d2, d3, d4⟩ | ⟨d1, d2, d3⟩
        · exact ⟨by omega, Or.inl ⟨c4, d4, by omega⟩⟩
        · exact absurd d1 c1
      · rcases b4 with ⟨d1, d2, d3, d4⟩ | ⟨d1, d2, d3⟩
        · exact absurd c1 d1
        · subst c1
          exact ⟨by omega, Or.inr ⟨a1, a2, a3, c3, d3⟩⟩
end
section
variable {T L N : Int → Int} {F : Int → Nat → Int32} {so sl ce : Nat → Int32} {k y i z w v : Int}
theorem kAg_rel (h : kSR T L N F so sl ce) (hk : 0 ≤ k ∧ k ≤ 3) (hx : kAg (T k) (L k) (N k) y i z w) (hm : kAgM (so k.toNat).toInt (sl k.toNat).toInt y i z v) : w = v := by
  obtain ⟨h1, h2, h3, -⟩ := h k hk.1 hk.2
  have e2 : (sl k.toNat).toInt = N k := by rw [h2, zI_toInt (by omega)]
  unfold kAg at hx
  unfold kAgM at hm
  rw [e2] at hm
  rcases h1 with ⟨a1, a2, a3, a4⟩ | ⟨a1, a2⟩
  · have e1 : (so k.toNat).toInt = L k := by rw [a4, zI_toInt (by omega)]
    rw [e1] at hm
    omega
  · have e1 : (so k.toNat).toInt = -9 := by rw [a2, zI_toInt (by omega)]
    rw [e1] at hm
    omega
theorem kCd_rel (h : kSR T L N F so sl ce) (hk : 0 ≤ k ∧ k ≤ 3) (hx : kAg (T k) (L k) (N k) y i z 0) : ∀ j : Nat, j < z.toNat → kCd (F k) i j = kCd ce (60 * k + i) j := by
  obtain ⟨h1, h2, h3, h4⟩ := h k hk.1 hk.2
  unfold kAg at hx
  intro j hj
  have q := h4 (i + (j : Int)).toNat (by omega)
  show F k (i + (j : Int)).toNat = ce (60 * k + i + (j : Int)).toNat
  rw [q, show 60 * k.toNat + (i + (j : Int)).toNat = (60 * k + i + (j : Int)).toNat by omega]
end
