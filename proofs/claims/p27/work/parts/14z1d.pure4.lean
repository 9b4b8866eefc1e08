abbrev kNa (z : Int) : Nat := z.toNat
/-! the class's reader, code by code -/
def kHb (C : Nat → Int32) (n : Int) : Prop := 1 ≤ n → (0 ≤ (C (n - 1).toNat).toInt ∧ (C (n - 1).toNat).toInt < 65536)
section
variable {n x f z1 z2 z3 z5 z7 : Int} {C g : Nat → Int32}
theorem kLtC_b2 (hf : f = n - 1) (hx : 97 ≤ x ∧ x ≤ 112) (e1 : zI 1 <<< (zI (x - 97) &&& 31) = zI z1) (e2 : C f.toNat = zI z2) (r3 : rg z3) (e3 : zI z2 &&& zI z1 = zI z3) (c : ¬ z3 = 0) : kLtC n C x = none := by
  subst hf
  rw [← e1] at e3
  have q := kbt0 (k := x - 97) (by omega) r3 e3
  apply kLtC_b
  rw [e2]
  cases p : bt (zI z2) (x - 97).toNat with
  | false => exact absurd (q.mpr p) c
  | true => rfl
theorem kLtC_82 (hb : kHb C n) (h1 : 1 ≤ n) (hf : f = n - 1) (r2 : rg z2) (e2 : C f.toNat = zI z2) (r5 : rg z5) (e5 : kBc (zI z2) = zI z5) (c : 8 ≤ z5) : kLtC n C x = none := by
  subst hf
  have b := hb h1
  rw [e2, zI_toInt r2] at b
  have q := kBc_pop b r5 e5
  apply kLtC_8
  rw [e2, zI_toInt r2]
  omega
theorem kLtC_y2 (hb : kHb C n) (h1 : 1 ≤ n) (hf : f = n - 1) (hx : 97 ≤ x ∧ x ≤ 112) (e1 : zI 1 <<< (zI (x - 97) &&& 31) = zI z1) (r2 : rg z2) (e2 : C f.toNat = zI z2) (r3 : rg z3) (e3 : zI z2 &&& zI z1 = zI z3) (c : z3 = 0) (r5 : rg z5) (e5 : kBc (zI z2) = zI z5) (c5 : z5 < 8) (e7 : zI z2 ||| zI z1 = zI z7) (eg : upd C f.toNat (zI z7) = g) : kLtC n C x = some g := by
  subst hf
  have b := hb h1
  rw [e2, zI_toInt r2] at b
  have q := kBc_pop b r5 e5
  rw [← e1] at e3 e7
  have q3 := (kbt0 (k := x - 97) (by omega) r3 e3).mp c
  rw [kLtC_y h1 hx (by rw [e2]; exact q3) (by rw [e2, zI_toInt r2]; omega), e2, e7, eg]
end
section
variable {du n x r ud un : Int} {A B C c a : Nat → Int32}
def kGw (du n : Int) (A B C : Nat → Int32) (x r : Int) (t : kPT) : Prop := (r = 1 ∧ kStp du n A B C x = some t) ∨ (r = 0 ∧ kStp du n A B C x = none)
theorem kGw_0 (hd : du = 0) (h : ud = 1 ∧ ((r = 1 ∧ x = 102) ∨ (r = 0 ∧ ¬ x = 102))) : kGw du n A B C x r (ud, n, A, B, C) := by
  rcases h with ⟨h1, ⟨h2, h3⟩ | ⟨h2, h3⟩⟩
  · exact Or.inl ⟨h2, by rw [kStp_0y hd h3, h1]⟩
  · exact Or.inr ⟨h2, kStp_0n hd h3⟩
theorem kGw_1 (hd : du = 1) (h : (r = 1 ∧ ud = 2 ∧ un = n + 1 ∧ kSgC n C x = some c) ∨ (r = 0 ∧ kSgC n C x = none)) : kGw du n A B C x r (ud, un, A, B, c) := by
  rcases h with ⟨h1, h2, h3, h4⟩ | ⟨h1, h2⟩
  · exact Or.inl ⟨h1, by rw [kStp_1 hd, kSgn_s h4, h2, h3]⟩
  · exact Or.inr ⟨h1, by rw [kStp_1 hd, kSgn_n h2]⟩
theorem kGw_5s (hd : du = 5) (hx : x = 59) (h : (r = 1 ∧ ud = 2 ∧ un = n + 1 ∧ kSgC n C x = some c) ∨ (r = 0 ∧ kSgC n C x = none)) : kGw du n A B C x r (ud, un, A, B, c) := by
  rcases h with ⟨h1, h2, h3, h4⟩ | ⟨h1, h2⟩
  · exact Or.inl ⟨h1, by rw [kStp_5s hd hx, kSgn_s h4, h2, h3]⟩
  · exact Or.inr ⟨h1, by rw [kStp_5s hd hx, kSgn_n h2]⟩
theorem kGw_2 (hd : du = 2) (h : (r = 1 ∧ ud = 3 ∧ (1 ≤ n ∧ 65 ≤ x ∧ x ≤ 67) ∧ a = upd A (n - 1).toNat (zI (x - 65))) ∨ (r = 0 ∧ ¬ (1 ≤ n ∧ 65 ≤ x ∧ x ≤ 67))) : kGw du n A B C x r (ud, n, a, B, C) := by
  rcases h with ⟨h1, h2, h3, h4⟩ | ⟨h1, h2⟩
  · exact Or.inl ⟨h1, by rw [kStp_2 hd, kKnd_y h3, h2, h4]⟩
  · exact Or.inr ⟨h1, by rw [kStp_2 hd, kKnd_n h2]⟩
theorem kGw_3 (hd : du = 3) (h : (r = 1 ∧ ud = 4 ∧ (1 ≤ n ∧ 49 ≤ x ∧ x ≤ 57) ∧ a = upd B (n - 1).toNat (zI (x - 48))) ∨ (r = 0 ∧ ¬ (1 ≤ n ∧ 49 ≤ x ∧ x ≤ 57))) : kGw du n A B C x r (ud, n, A, a, C) := by
  rcases h with ⟨h1, h2, h3, h4⟩ | ⟨h1, h2⟩
  · exact Or.inl ⟨h1, by rw [kStp_3 hd, kBrd_y h3, h2, h4]⟩
  · exact Or.inr ⟨h1, by rw [kStp_3 hd, kBrd_n h2]⟩
theorem kGw_4 (hd : du = 4) (h : (r = 1 ∧ ud = 5 ∧ kLtC n C x = some c) ∨ (r = 0 ∧ kLtC n C x = none)) : kGw du n A B C x r (ud, n, A, B, c) := by
  rcases h with ⟨h1, h2, h3⟩ | ⟨h1, h2⟩
  · exact Or.inl ⟨h1, by rw [kStp_4 hd, kLtr_s h3, h2]⟩
  · exact Or.inr ⟨h1, by rw [kStp_4 hd, kLtr_n h2]⟩
theorem kGw_5l (hd : du = 5) (hx : ¬ x = 59) (h : (r = 1 ∧ ud = 5 ∧ kLtC n C x = some c) ∨ (r = 0 ∧ kLtC n C x = none)) : kGw du n A B C x r (ud, n, A, B, c) := by
  rcases h with ⟨h1, h2, h3⟩ | ⟨h1, h2⟩
  · exact Or.inl ⟨h1, by rw [kStp_5l hd hx, kLtr_s h3, h2]⟩
  · exact Or.inr ⟨h1, by rw [kStp_5l hd hx, kLtr_n h2]⟩
end
theorem kGo_b {cd A B C : Nat → Int32} {k : Nat} {d n : Int} {a b c : Nat → Int32} (h : kGo cd A B C k = some (d, n, a, b, c)) : (0 ≤ d ∧ d ≤ 5) ∧ (0 ≤ n ∧ n ≤ 4) ∧ kHb c n := by
  obtain ⟨o1, o2, -, -, o5, -⟩ := kGo_ok k _ h
  dsimp only at o1 o2 o5
  exact ⟨o1, o2, fun h1 => o5 _ (by omega)⟩
theorem kGo_0 {cd A B C : Nat → Int32} : kGo cd A B C (kNa 0) = some (0, 0, A, B, C) := rfl
section
variable {fr A B C a b c : Nat → Int32} {th sz i jk z d n r k : Int} {t : kPT}
theorem kGo_st (h0 : kGo (kCd fr i) A B C (kNa jk) = some (d, n, a, b, c)) (hj : 0 ≤ jk) (ez : kAt th sz (i + jk) fr = zI z) (rz : rg z) (hat : th = 1 ∧ 0 ≤ i + jk ∧ i + jk ≤ sz - 1) (gw : kGw d n a b c z r t) (c1 : ¬ r = 0) : kGo (kCd fr i) A B C (kNa (jk + 1)) = some t := by
  have e1 : kNa (jk + 1) = kNa jk + 1 := by show (jk + 1).toNat = jk.toNat + 1; omega
  rw [kAt_in hat] at ez
  rw [e1, kGo_s h0, show (kCd fr i (kNa jk)).toInt = z from kCd_z hj rz ez]
  rcases gw with ⟨-, q⟩ | ⟨q, -⟩
  · exact q
  · exact absurd q c1
def kFf (cd A B C : Nat → Int32) (N r : Int) (un : Int) (a b c : Nat → Int32) : Prop := (r = -9 ∧ kGo cd A B C (kNa N) = some (5, un, a, b, c)) ∨ ((0 ≤ r ∧ r ≤ N) ∧ kBad cd A B C (kNa N) (kNa r))
theorem kFf_1 {t2 : Int} {a2 b2 c2 : Nat → Int32} (h0 : kGo (kCd fr i) A B C (kNa jk) = some (d, n, a, b, c)) (hj : 0 ≤ jk ∧ jk < k) (ez : kAt th sz (i + jk) fr = zI z) (rz : rg z) (hat : th = 1 ∧ 0 ≤ i + jk ∧ i + jk ≤ sz - 1) (gw : kGw d n a b c z r t) (c1 : r = 0) : kFf (kCd fr i) A B C k jk t2 a2 b2 c2 := by
  rw [kAt_in hat] at ez
  refine Or.inr ⟨by omega, d, n, a, b, c, h0, Or.inl ⟨by show jk.toNat < k.toNat; omega, ?_⟩⟩
  rw [show (kCd fr i (kNa jk)).toInt = z from kCd_z hj.1 rz ez]
  rcases gw with ⟨q, -⟩ | ⟨-, q⟩
  · omega
  · exact q
theorem kFf_2 (h0 : kGo (kCd fr i) A B C (kNa jk) = some (d, n, a, b, c)) (e : jk = k) (hd : d = 5) (hr : r = -9) : kFf (kCd fr i) A B C k r n a b c := by
  subst e
  subst hd
  exact Or.inl ⟨hr, h0⟩
theorem kFf_3 {t2 : Int} {a2 b2 c2 : Nat → Int32} (h0 : kGo (kCd fr i) A B C (kNa jk) = some (d, n, a, b, c)) (e : jk = k) (h1 : 0 ≤ k) (hd : ¬ d = 5) (hr : r = k) : kFf (kCd fr i) A B C k r t2 a2 b2 c2 := by
  subst e
  subst hr
  exact Or.inr ⟨by omega, d, n, a, b, c, h0, Or.inr ⟨rfl, hd⟩⟩
end
/-! rows that are the same up to a place -/
def kEq (f g : Nat → Int32) (n : Int) : Prop := ∀ i : Nat, (i : Int) < n → f i = g i
theorem kEq_0 {f g : Nat → Int32} : kEq f g 0 := fun i h => by omega
theorem kEq_rf {f : Nat → Int32} {n : Int} : kEq f f n := fun _ _ => rfl
theorem kEq_s {f g f2 : Nat → Int32} {n z : Int} (h : kEq f g n) (h0 : 0 ≤ n) (e : g n.toNat = zI z) (e2 : upd f n.toNat (zI z) = f2) : kEq f2 g (n + 1) := by
  intro i hi
  rw [← e2]
  by_cases q : i = n.toNat
  · subst q
    rw [pk_us, e]
  · rw [pk_un q]
    exact h i (by omega)
theorem kEq_le {f g : Nat → Int32} {n m : Int} (h : kEq f g n) (e : m ≤ n) : kEq f g m := fun i hi => h i (by omega)
theorem kId_le {f : Nat → Int32} {n m : Int} (h : kId f n) (e : m ≤ n) : kId f m := fun i hi => h i (by omega)
/-! what the machine has against taking cells -/
def kAg (t l n y i z w : Int) : Prop := (t = 0 ∧ w = 1) ∨ (t = 1 ∧ ¬ l = y ∧ w = 2) ∨ (t = 1 ∧ l = y ∧ z < 0 ∧ w = 4) ∨ (t = 1 ∧ l = y ∧ 0 ≤ z ∧ ¬ (0 ≤ i ∧ i ≤ n ∧ z ≤ n - i) ∧ w = 3) ∨ (t = 1 ∧ l = y ∧ 0 ≤ z ∧ (0 ≤ i ∧ i ≤ n ∧ z ≤ n - i) ∧ w = 0)
def kAgM (s n y i z w : Int) : Prop := (s = -9 ∧ w = 1) ∨ (¬ s = -9 ∧ ¬ s = y ∧ w = 2) ∨ (¬ s = -9 ∧ s = y ∧ z < 0 ∧ w = 4) ∨ (¬ s = -9 ∧ s = y ∧ 0 ≤ z ∧ ¬ (0 ≤ i ∧ i ≤ n ∧ z ≤ n - i) ∧ w = 3) ∨ (¬ s = -9 ∧ s = y ∧ 0 ≤ z ∧ (0 ≤ i ∧ i ≤ n ∧ z ≤ n - i) ∧ w = 0)
def kGt (ag : Int → Prop) (I : Int → Prop) (same : Prop) (lf rz : Int) : Prop := ∃ w, ag w ∧ ((¬ w = 0 ∧ rz = -10 - w ∧ lf = w ∧ same) ∨ (w = 0 ∧ lf = 0 ∧ I rz))
theorem kGt_1 {ag I : Int → Prop} {same : Prop} {lf rz : Int} (w : Int) (h : ag w) (h1 : ¬ w = 0) (h2 : rz = -10 - w) (h3 : lf = w) (h4 : same) : kGt ag I same lf rz := ⟨w, h, Or.inl ⟨h1, h2, h3, h4⟩⟩
theorem kGt_2 {ag I : Int → Prop} {same : Prop} {lf rz : Int} (h : ag 0) (h3 : lf = 0) (h4 : I rz) : kGt ag I same lf rz := ⟨0, h, Or.inr ⟨rfl, h3, h4⟩⟩
def kGa (k : Int) (bad : Prop) (G : Int → Int → Prop) (same : Prop) (lf rz : Int) : Prop := (¬ (0 ≤ k ∧ k ≤ 3) ∧ rz = -1 ∧ lf = 0 ∧ same) ∨ ((0 ≤ k ∧ k ≤ 3) ∧ bad ∧ rz = -2 ∧ lf = 0 ∧ same) ∨ ((0 ≤ k ∧ k ≤ 3) ∧ ¬ bad ∧ G lf rz)
section
variable {k lf rz : Int} {bad same : Prop} {G : Int → Int → Prop}
theorem kGa_1 (h : ¬ (0 ≤ k ∧ k ≤ 3)) (h1 : rz = -1) (h2 : lf = 0) (h3 : same) : kGa k bad G same lf rz := Or.inl ⟨h, h1, h2, h3⟩
theorem kGa_2 (h : 0 ≤ k ∧ k ≤ 3) (hb : bad) (h1 : rz = -2) (h2 : lf = 0) (h3 : same) : kGa k bad G same lf rz := Or.inr (Or.inl ⟨h, hb, h1, h2, h3⟩)
theorem kGa_3 (h : 0 ≤ k ∧ k ≤ 3) (hb : ¬ bad) (h1 : G lf rz) : kGa k bad G same lf rz := Or.inr (Or.inr ⟨h, hb, h1⟩)
/-- both gates: the same FAULT; nothing happened on both sides, or both went in -/
theorem kGa_rel {agx agm : Int → Prop} {Ix Im : Int → Prop} {sx sm : Prop} {fa rm : Int} (hx : kGa k bad (fun l r => kGt agx Ix sx l r) sx lf rz) (hm : kGa k bad (fun l r => kGt agm Im sm l r) sm fa rm) (ha : 0 ≤ k ∧ k ≤ 3 → ¬ bad → ∀ w v, agx w → agm v → w = v) : lf = fa ∧ ((sx ∧ sm ∧ rz = rm) ∨ ((0 ≤ k ∧ k ≤ 3) ∧ ¬ bad ∧ agx 0 ∧ Ix rz ∧ Im rm)) := by
  rcases hx with ⟨a1, a2, a3, a4⟩ | ⟨a1, a2, a3, a4, a5⟩ | ⟨a1, a2, w, a3, a4⟩
  · rcases hm with ⟨b1, b2, b3, b4⟩ | ⟨b1, b2, b3, b4, b5⟩ | ⟨b1, b2, v, b3, b4⟩
    · exact ⟨by omega, Or.inl ⟨a4, b4, by omega⟩⟩
    · exact absurd b1 a1
    · exact absurd b1 a1
  · rcases hm with ⟨b1, b2, b3, b4⟩ | ⟨b1, b2, b3, b4, b5⟩ | ⟨b1, b2, v, b3, b4⟩
    · exact absurd a1 b1
    · exact ⟨by omega, Or.inl ⟨a5, b5, by omega⟩⟩
    · exact absurd a2 b2
  · rcases hm with ⟨b1, b2, b3, b4⟩ | ⟨b1, b2, b3, b4, b5⟩ | ⟨b1, b2, v, b3, b4⟩
    · exact absurd a1 b1
    · exact absurd b2 a2
    · have e := ha a1 a2 w v a3 b3
      subst e
      rcases a4 with ⟨c1, c2, c3, c4⟩ | ⟨c1, c2, c3⟩
      · rcases b4 with ⟨d1, d2, d3, d4⟩ | ⟨d1, d2, d3⟩
        · exact ⟨by omega, Or.inl ⟨c4, d4, by omega⟩⟩
        · exact absurd d1 c1
      · rcases b4 with ⟨d1, d2, d3, d4⟩ | ⟨d1, d2, d3⟩
        · exact absurd c1 d1
        · subst c1
          exact ⟨by omega, Or.inr ⟨a1, a2, a3, c3, d3⟩⟩
end
section
variable {T L N : Int → Int} {F : Int → Nat → Int32} {so sl ce : Nat → Int32} {k y i z w v : Int}
theorem kAg_rel (h : kSR T L N F so sl ce) (hk : 0 ≤ k ∧ k ≤ 3) (hx : kAg (T k) (L k) (N k) y i z w) (hm : kAgM (so k.toNat).toInt (sl k.toNat).toInt y i z v) : w = v := by
  obtain ⟨h1, h2, h3, -⟩ := h k hk.1 hk.2
  have e2 : (sl k.toNat).toInt = N k := by rw [h2, zI_toInt (by omega)]
  unfold kAg at hx
  unfold kAgM at hm
  rw [e2] at hm
  rcases h1 with ⟨a1, a2, a3, a4⟩ | ⟨a1, a2⟩
  · have e1 : (so k.toNat).toInt = L k := by rw [a4, zI_toInt (by omega)]
    rw [e1] at hm
    omega
  · have e1 : (so k.toNat).toInt = -9 := by rw [a2, zI_toInt (by omega)]
    rw [e1] at hm
    omega
theorem kCd_rel (h : kSR T L N F so sl ce) (hk : 0 ≤ k ∧ k ≤ 3) (hx : kAg (T k) (L k) (N k) y i z 0) : ∀ j : Nat, j < z.toNat → kCd (F k) i j = kCd ce (60 * k + i) j := by
  obtain ⟨h1, h2, h3, h4⟩ := h k hk.1 hk.2
  unfold kAg at hx
  intro j hj
  have q := h4 (i + (j : Int)).toNat (by omega)
  show F k (i + (j : Int)).toNat = ce (60 * k + i + (j : Int)).toNat
  rw [q, show 60 * k.toNat + (i + (j : Int)).toNat = (60 * k + i + (j : Int)).toNat by omega]
end
/-! the reference's reader -/
section
variable {f A0 B0 C0 a b c g C : Nat → Int32} {o en ja m d n x js js2 jm b1 zs : Int}
theorem kNa_s (h : o ≤ ja) : kNa (ja + 1 - o) = kNa (ja - o) + 1 := by show (ja + 1 - o).toNat = (ja - o).toNat + 1; omega
theorem kCd_x (h : o ≤ ja) (ex : f ja.toNat = zI x) (rx : rg x) : (kCd f o (kNa (ja - o))).toInt = x := by
  rw [show kCd f o (kNa (ja - o)) = f ja.toNat from kCd_at h, ex, zI_toInt rx]
theorem kBadE (h : kGo (kCd f o) A0 B0 C0 (kNa (ja - o)) = some (d, n, a, b, c)) (hd : ¬ d = 5) (e : ja = en) : kBad (kCd f o) A0 B0 C0 (kNa (en - o)) (kNa (ja - o)) := ⟨d, n, a, b, c, h, Or.inr ⟨by rw [e], hd⟩⟩
theorem kBadS (h : kGo (kCd f o) A0 B0 C0 (kNa (ja - o)) = some (d, n, a, b, c)) (ho : o ≤ ja) (hl : ja < en) (ex : f ja.toNat = zI x) (rx : rg x) (hs : kStp d n a b c x = none) : kBad (kCd f o) A0 B0 C0 (kNa (en - o)) (kNa (ja - o)) := ⟨d, n, a, b, c, h, Or.inl ⟨by show (ja - o).toNat < (en - o).toNat; omega, by rw [kCd_x ho ex rx]; exact hs⟩⟩
theorem kGoS {t : kPT} (h : kGo (kCd f o) A0 B0 C0 (kNa (ja - o)) = some (d, n, a, b, c)) (ho : o ≤ ja) (ex : f ja.toNat = zI x) (rx : rg x) (hs : kStp d n a b c x = some t) : kGo (kCd f o) A0 B0 C0 (kNa (ja + 1 - o)) = some t := by
  rw [kNa_s ho, kGo_s h, kCd_x ho ex rx]
  exact hs
theorem kGo_k (h : kGo (kCd f o) A0 B0 C0 (kNa (ja - o)) = some (2, m + 1, a, b, c)) (ho : o ≤ ja) (hm : 0 ≤ m) (ex : f ja.toNat = zI x) (rx : rg x) (hx : 65 ≤ x ∧ x ≤ 67) (eg : upd a m.toNat (zI (x - 65)) = g) : kGo (kCd f o) A0 B0 C0 (kNa (ja + 1 - o)) = some (3, m + 1, g, b, c) := by
  refine kGoS h ho ex rx ?_
  rw [kStp_2 rfl, kKnd_y (by omega), show m + 1 - 1 = m by omega, eg]
theorem kGo_w (h : kGo (kCd f o) A0 B0 C0 (kNa (ja - o)) = some (3, m + 1, a, b, c)) (ho : o ≤ ja) (hm : 0 ≤ m) (ex : f ja.toNat = zI x) (rx : rg x) (hx : 49 ≤ x ∧ x ≤ 57) (eg : upd b m.toNat (zI (x - 48)) = g) : kGo (kCd f o) A0 B0 C0 (kNa (ja + 1 - o)) = some (4, m + 1, a, g, c) := by
  refine kGoS h ho ex rx ?_
  rw [kStp_3 rfl, kBrd_y (by omega), show m + 1 - 1 = m by omega, eg]
theorem kKnd_x (hx : ¬ (65 ≤ x ∧ x ≤ 67)) : kStp 2 n a b c x = none := by rw [kStp_2 rfl]; exact kKnd_n (fun q => hx q.2)
theorem kBrd_x (hx : ¬ (49 ≤ x ∧ x ≤ 57)) : kStp 3 n a b c x = none := by rw [kStp_3 rfl]; exact kBrd_n (fun q => hx q.2)
/-- in the letters of one FONT: what is read of them is js -/
def kRl (cd A0 B0 C0 : Nat → Int32) (k : Nat) (m : Int) (a b C : Nat → Int32) (js jm : Int) : Prop := 0 ≤ m ∧ (0 ≤ js ∧ js < 65536) ∧ kGo cd A0 B0 C0 k = some (if js = 0 then 4 else 5, m + 1, a, b, upd C m.toNat (zI js)) ∧ (jm = 0 → kLtC (m + 1) (upd C m.toNat (zI js)) (cd k).toInt = none)
theorem kRl_0 {k : Nat} {cd : Nat → Int32} (h : kGo cd A0 B0 C0 k = some (4, m + 1, a, b, upd C m.toNat (zI 0))) (hm : 0 ≤ m) : kRl cd A0 B0 C0 k m a b C 0 1 := ⟨hm, by omega, by rw [if_pos rfl]; exact h, fun q => absurd q (by decide)⟩
theorem kRl_st (hj : 0 ≤ js) (hx : 97 ≤ x) : kStp (if js = 0 then 4 else 5) n a b c x = kLtr n a b c x := by
  by_cases q : js = 0
  · rw [if_pos q, kStp_4 rfl]
  · rw [if_neg q, kStp_5l rfl (by omega)]
theorem kRl_s {l : Int} (h : kRl (kCd f o) A0 B0 C0 (kNa (ja - o)) m a b C js jm) (ho : o ≤ ja) (ex : f ja.toNat = zI x) (rx : rg x) (el : l = x - 97) (hl : 0 ≤ l ∧ l ≤ 15) (hb : ¬ (zI js >>> (zI l &&& 31)) &&& 1 = 1) (hp : (0 ≤ js ∧ js < 65536) → zs = kPop js) (h8 : zs < 8) (e1 : zI 1 <<< (zI l &&& 31) = zI b1) (r2 : rg js2) (e2 : zI js ||| zI b1 = zI js2) : kRl (kCd f o) A0 B0 C0 (kNa (ja + 1 - o)) m a b C js2 1 := by
  subst el
  obtain ⟨hm, hj, h1, -⟩ := h
  have p8 := hp hj
  rw [← e1] at e2
  have ne := kor_ne (k := x - 97) (by omega) e2
  have b2 := k16 hj (k := x - 97) (by omega) r2 e2
  have bf : bt (zI js) (x - 97).toNat = false := by
    cases q : bt (zI js) (x - 97).toNat with
    | false => rfl
    | true => exact absurd ((kb_bit (f := x - 97) (by omega)).mpr q) hb
  have em : (m + 1 - 1).toNat = m.toNat := by rw [show m + 1 - 1 = m by omega]
  refine ⟨hm, b2, ?_, fun q => absurd q (by decide)⟩
  rw [if_neg ne]
  refine kGoS h1 ho ex rx ?_
  rw [kRl_st hj.1 (by omega), kLtr_s (kLtC_y (by omega) (by omega) (by rw [em, pk_us]; exact bf) (by rw [em, pk_us, zI_toInt (by omega)]; omega)), em, pk_us, e2, kupd2]
theorem kRl_n {l : Int} (h : kRl (kCd f o) A0 B0 C0 (kNa (ja - o)) m a b C js jm) (ho : o ≤ ja) (ex : f ja.toNat = zI x) (rx : rg x) (hc : ¬ (0 ≤ x - 97 ∧ x - 97 ≤ 15) ∨ (l = x - 97 ∧ (0 ≤ l ∧ l ≤ 15) ∧ (zI js >>> (zI l &&& 31)) &&& 1 = 1)) : kRl (kCd f o) A0 B0 C0 (kNa (ja - o)) m a b C js 0 := by
  obtain ⟨hm, hj, h1, -⟩ := h
  refine ⟨hm, hj, h1, fun _ => ?_⟩
  rw [kCd_x ho ex rx]
  have em : (m + 1 - 1).toNat = m.toNat := by rw [show m + 1 - 1 = m by omega]
  rcases hc with hc | ⟨el, h2, h3⟩
  · exact kLtC_n (by omega)
  · subst el
    apply kLtC_b
    rw [em, pk_us]
    exact (kb_bit (f := x - 97) (by omega)).mp h3
theorem kw97 {y l : Int} (rx : rg y) (rl : rg l) (e : zI (y - 97) = zI l) : l = y - 97 ∨ (¬ (0 ≤ l ∧ l ≤ 15) ∧ ¬ (0 ≤ y - 97 ∧ y - 97 ≤ 15)) := by
  by_cases h : rg (y - 97)
  · exact Or.inl ((zI_eq h rl).mp e).symm
  · right
    have z : zI 4294967296 = 0 := by decide
    have q : zI (y - 97 + 4294967296) = zI l := by rw [← zI_add, z, Int32.add_zero, e]
    have q2 := (zI_eq (by omega) rl).mp q
    omega
def kRx (js jm en ja : Int) : Prop := jm = 0 ∨ 8 ≤ kPop js ∨ en ≤ ja
theorem kRx_8 {k : Nat} {cd : Nat → Int32} (h : kRl cd A0 B0 C0 k m a b C js jm) (hp : (0 ≤ js ∧ js < 65536) → zs = kPop js) (h8 : 8 ≤ zs) : kRx js jm en ja := by
  have := hp h.2.1
  exact Or.inr (Or.inl (by omega))
/-- a FONT was read, or the reading fails where it stands -/
def kRf (f A0 B0 C0 : Nat → Int32) (o en at2 m m2 : Int) (a b c : Nat → Int32) (r : Int) : Prop := (r = 1 ∧ m2 = m + 1 ∧ kGo (kCd f o) A0 B0 C0 (kNa (at2 - o)) = some (5, m2, a, b, c) ∧ (at2 < en → kLtC m2 c (f at2.toNat).toInt = none)) ∨ (r = 0 ∧ kBad (kCd f o) A0 B0 C0 (kNa (en - o)) (kNa (at2 - o)))
theorem kRf_0 {m2 r : Int} (hr : r = 0) (h : kBad (kCd f o) A0 B0 C0 (kNa (en - o)) (kNa (ja - o))) : kRf f A0 B0 C0 o en ja m m2 a b c r := Or.inr ⟨hr, h⟩
theorem kRl_e0 {r m2 : Int} (h : kRl (kCd f o) A0 B0 C0 (kNa (ja - o)) m a b C js jm) (ho : o ≤ ja ∧ ja ≤ en) (hx : kRx js jm en ja) (hj : js = 0) (hr : r = 0) : kRf f A0 B0 C0 o en ja m m2 a b c r := by
  obtain ⟨hm, -, h1, h2⟩ := h
  subst hj
  rw [if_pos rfl] at h1
  refine Or.inr ⟨hr, ?_⟩
  by_cases e : ja = en
  · exact kBadE h1 (by decide) e
  · refine ⟨_, _, _, _, _, h1, Or.inl ⟨by show (ja - o).toNat < (en - o).toNat; omega, ?_⟩⟩
    rw [kStp_4 rfl]
    rcases hx with hx | hx | hx
    · exact kLtr_n (h2 hx)
    · rw [kPop_0] at hx
      omega
    · omega
theorem kRl_e1 {r m2 : Int} (h : kRl (kCd f o) A0 B0 C0 (kNa (ja - o)) m a b C js jm) (ho : o ≤ ja ∧ ja ≤ en) (hx : kRx js jm en ja) (hj : ¬ js = 0) (hr : r = 1) (em2 : m2 = m + 1) (eg : upd C m.toNat (zI js) = g) : kRf f A0 B0 C0 o en ja m m2 a b g r := by
  obtain ⟨hm, hb, h1, h2⟩ := h
  rw [if_neg hj, eg] at h1
  rw [eg] at h2
  have em : (m + 1 - 1).toNat = m.toNat := by rw [show m + 1 - 1 = m by omega]
  refine Or.inl ⟨hr, em2, by rw [em2]; exact h1, fun hl => ?_⟩
  have e2 : f ja.toNat = kCd f o (kNa (ja - o)) := (kCd_at ho.1).symm
  rw [e2, em2]
  rcases hx with hx | hx | hx
  · exact h2 hx
  · apply kLtC_8
    rw [em, ← eg, pk_us, zI_toInt (by omega)]
    exact hx
  · omega
/-- between two FONTS -/
def kRa (f A0 B0 C0 : Nat → Int32) (o en ja jr : Int) (a b c : Nat → Int32) : Prop := (jr = 0 ∧ kGo (kCd f o) A0 B0 C0 (kNa (ja - o)) = some (1, 0, a, b, c)) ∨ (1 ≤ jr ∧ kGo (kCd f o) A0 B0 C0 (kNa (ja - o)) = some (5, jr, a, b, c) ∧ (ja < en → kLtC jr c (f ja.toNat).toInt = none))
variable {r r2 jr : Int}
theorem kRa_0 (h : (r = 1 ∧ o < en ∧ (f o.toNat).toInt = 102 ∧ ja = o + 1) ∨ (r = 0 ∧ ¬ (o < en ∧ (f o.toNat).toInt = 102) ∧ ja = o)) (hr : ¬ r = 0) : kRa f A0 B0 C0 o en ja 0 A0 B0 C0 := by
  rcases h with ⟨h1, h2, h3, h4⟩ | ⟨h1, -⟩
  · refine Or.inl ⟨rfl, ?_⟩
    have h0 : kGo (kCd f o) A0 B0 C0 (kNa (o - o)) = some (0, 0, A0, B0, C0) := by rw [show kNa (o - o) = 0 by show (o - o).toNat = 0; omega]; rfl
    obtain ⟨x, rx, ex⟩ := zI_ex (f o.toNat)
    rw [ex, zI_toInt rx] at h3
    rw [h4]
    exact kGoS h0 (by omega) ex rx (kStp_0y rfl h3)
  · exact absurd h1 hr
/-- the whole reading -/
def kRd9 (f A0 B0 C0 : Nat → Int32) (o en ja jr : Int) (a b c : Nat → Int32) (r : Int) : Prop := (r = 1 ∧ kGo (kCd f o) A0 B0 C0 (kNa (en - o)) = some (5, jr, a, b, c)) ∨ (r = 0 ∧ kBad (kCd f o) A0 B0 C0 (kNa (en - o)) (kNa (ja - o)))
theorem kRd_0 (h : (r = 1 ∧ o < en ∧ (f o.toNat).toInt = 102 ∧ ja = o + 1) ∨ (r = 0 ∧ ¬ (o < en ∧ (f o.toNat).toInt = 102) ∧ ja = o)) (he : o ≤ en) (hr : r = 0) (hr2 : r2 = 0) : kRd9 f A0 B0 C0 o en ja jr a b c r2 := by
  rcases h with ⟨h1, -⟩ | ⟨h1, h2, h3⟩
  · omega
  · refine Or.inr ⟨hr2, ?_⟩
    subst h3
    have h0 : kGo (kCd f ja) A0 B0 C0 (kNa (ja - ja)) = some (0, 0, A0, B0, C0) := by rw [show kNa (ja - ja) = 0 by show (ja - ja).toNat = 0; omega]; rfl
    by_cases e : ja = en
    · exact kBadE h0 (by decide) e
    · obtain ⟨x, rx, ex⟩ := zI_ex (f ja.toNat)
      rw [ex, zI_toInt rx] at h2
      exact kBadS h0 (by omega) (by omega) ex rx (kStp_0n rfl (by omega))
/-- a sign, then a FONT is due -/
theorem kRa_g {at2 : Int} (h : kRa f A0 B0 C0 o en ja jr a b c) (ho : o ≤ ja) (hc : jr = 0 ∨ jr < 4) (hs : (r = 1 ∧ ja < en ∧ (f ja.toNat).toInt = 59 ∧ at2 = ja + 1) ∨ (r = 0 ∧ ¬ (ja < en ∧ (f ja.toNat).toInt = 59) ∧ at2 = ja)) (hr : ¬ r = 0) : kGo (kCd f o) A0 B0 C0 (kNa (at2 - o)) = some (2, jr + 1, a, b, upd c jr.toNat (zI 0)) := by
  rcases hs with ⟨h1, h2, h3, h4⟩ | ⟨h1, -⟩
  · obtain ⟨x, rx, ex⟩ := zI_ex (f ja.toNat)
    rw [ex, zI_toInt rx] at h3
    rw [h4]
    rcases h with ⟨q1, q2⟩ | ⟨q1, q2, q3⟩
    · subst q1
      refine kGoS q2 ho ex rx ?_
      rw [kStp_1 rfl, kSgn_s (kSgC_y (by omega))]
    · refine kGoS q2 ho ex rx ?_
      rw [kStp_5s rfl h3, kSgn_s (kSgC_y (by omega))]
  · exact absurd h1 hr
theorem kRd_g {at2 : Int} (h : kRa f A0 B0 C0 o en ja jr a b c) (ho : o ≤ ja ∧ ja ≤ en) (hc : jr = 0 ∨ ja < en) (hs : (r = 1 ∧ ja < en ∧ (f ja.toNat).toInt = 59 ∧ at2 = ja + 1) ∨ (r = 0 ∧ ¬ (ja < en ∧ (f ja.toNat).toInt = 59) ∧ at2 = ja)) (hr : r = 0) (hr2 : r2 = 0) : kRd9 f A0 B0 C0 o en at2 jr a b c r2 := by
  rcases hs with ⟨h1, -⟩ | ⟨h1, h2, h3⟩
  · omega
  · refine Or.inr ⟨hr2, ?_⟩
    subst h3
    obtain ⟨x, rx, ex⟩ := zI_ex (f at2.toNat)
    have ex2 := ex
    rw [ex, zI_toInt rx] at h2
    rcases h with ⟨q1, q2⟩ | ⟨q1, q2, q3⟩
    · by_cases e : at2 = en
      · exact kBadE q2 (by decide) e
      · refine kBadS q2 (by omega) (by omega) ex rx ?_
        rw [kStp_1 rfl, kSgn_n (kSgC_n (by omega))]
    · refine kBadS q2 (by omega) (by omega) ex rx ?_
      have q4 := q3 (by omega)
      rw [ex2, zI_toInt rx] at q4
      rw [kStp_5l rfl (by omega), kLtr_n q4]
theorem kRa_s {at2 m2 : Int} (h : kRf f A0 B0 C0 o en at2 jr m2 a b c r) (hj : 0 ≤ jr) (hr : ¬ r = 0) : kRa f A0 B0 C0 o en at2 m2 a b c := by
  rcases h with ⟨-, h2, h3, h4⟩ | ⟨h1, -⟩
  · exact Or.inr ⟨by omega, h3, h4⟩
  · exact absurd h1 hr
theorem kRd_f {at2 m2 : Int} (h : kRf f A0 B0 C0 o en at2 jr m2 a b c r) (hr : r = 0) (hr2 : r2 = 0) : kRd9 f A0 B0 C0 o en at2 m2 a b c r2 := by
  rcases h with ⟨h1, -⟩ | ⟨-, h2⟩
  · omega
  · exact Or.inr ⟨hr2, h2⟩
theorem kRd_1 (h : kRa f A0 B0 C0 o en ja jr a b c) (hj : ¬ jr = 0) (e : ja = en) (hr2 : r2 = 1) : kRd9 f A0 B0 C0 o en ja jr a b c r2 := by
  rcases h with ⟨q1, -⟩ | ⟨q1, q2, -⟩
  · exact absurd q1 hj
  · exact Or.inl ⟨hr2, by rw [← e]; exact q2⟩
theorem kRd_2 (h : kRa f A0 B0 C0 o en ja jr a b c) (ho : o ≤ ja ∧ ja ≤ en) (hj : ¬ jr = 0) (e : ¬ ja = en) (hc : ¬ (jr < 4 ∧ ja < en)) (hr2 : r2 = 0) : kRd9 f A0 B0 C0 o en ja jr a b c r2 := by
  rcases h with ⟨q1, -⟩ | ⟨q1, q2, q3⟩
  · exact absurd q1 hj
  · refine Or.inr ⟨hr2, ?_⟩
    obtain ⟨x, rx, ex⟩ := zI_ex (f ja.toNat)
    have q4 := q3 (by omega)
    rw [ex, zI_toInt rx] at q4
    refine kBadS q2 (by omega) (by omega) ex rx ?_
    by_cases c1 : x = 59
    · rw [kStp_5s rfl c1, kSgn_n (kSgC_n (by omega))]
    · rw [kStp_5l rfl c1, kLtr_n q4]
end
/-! what both sides have in common between two calls -/
def kC (f : Nat → Int32) (c : Int) (n : Int) : Prop := ∀ i : Nat, (i : Int) < n → f i = zI c
theorem kC_0 {f : Nat → Int32} {c : Int} : kC f c 0 := fun i h => by omega
theorem kC_s {f g : Nat → Int32} {c n : Int} (h : kC f c n) (h0 : 0 ≤ n) (e : upd f n.toNat (zI c) = g) : kC g c (n + 1) := by
  intro i hi
  rw [← e]
  by_cases q : i = n.toNat
  · subst q
    rw [pk_us]
  · rw [pk_un q]
    exact h i (by omega)
theorem kC_le {f : Nat → Int32} {c n m : Int} (h : kC f c n) (e : m ≤ n) : kC f c m := fun i hi => h i (by omega)
def kRF (fn : Int) (fk fb fh : Nat → Int32) (mf : Int) (kd wd hs : Nat → Int32) : Prop := fn = mf ∧ kEq fk kd fn ∧ kEq fb wd fn ∧ kEq fh hs fn ∧ ∀ i : Nat, (i : Int) < fn → (0 ≤ (fk i).toInt ∧ (fk i).toInt ≤ 2) ∧ (0 ≤ (fh i).toInt ∧ (fh i).toInt < 65536)
def kRP (pn : Int) (fp : Nat → Int32) (fn : Int) (pf : Nat → Int32) : Prop := pn = fn ∧ kEq fp pf fn
def kRL (fn rn : Int) (fy lt : Nat → Int32) : Prop := (fn = 0 → rn = 0) ∧ (¬ fn = 0 → ∀ i : Nat, i < 5 → lt i = if (i : Int) < rn then fy i else zI (-9))
def kRW (wn : Int) (fw : Nat → Int32) (mn : Int) (wg : Nat → Int32) : Prop := wn = mn ∧ kEq fw wg wn
theorem kRF_z {f g h a b c : Nat → Int32} : kRF 0 f g h 0 a b c := ⟨rfl, fun i q => by omega, fun i q => by omega, fun i q => by omega, fun i q => by omega⟩
theorem kRP_z {f g : Nat → Int32} : kRP 0 f 0 g := ⟨rfl, fun i q => by omega⟩
theorem kRL_z {f g : Nat → Int32} : kRL 0 0 f g := ⟨fun _ => rfl, fun q => absurd rfl q⟩
theorem kRW_z {f g : Nat → Int32} : kRW 0 f 0 g := ⟨rfl, fun i q => by omega⟩
/-! fonts -/
abbrev kFS : Type := Int × (Nat → Int32) × (Nat → Int32) × (Nat → Int32) × Int × Int × (Nat → Int32) × Int × Int
abbrev kFM : Type := Int × (Nat → Int32) × (Nat → Int32) × (Nat → Int32) × Int × (Nat → Int32) × (Nat → Int32) × Int
def kNw (S : kFS) (n : Int) (a b c : Nat → Int32) : Prop := S.1 = n ∧ kEq S.2.1 a 4 ∧ kEq S.2.2.1 b 4 ∧ kEq S.2.2.2.1 c 4 ∧ S.2.2.2.2.1 = 0 ∧ S.2.2.2.2.2.1 = n ∧ kId S.2.2.2.2.2.2.1 n ∧ S.2.2.2.2.2.2.2.1 = 0 ∧ S.2.2.2.2.2.2.2.2 = 0
def kNwM (S : kFM) (n : Int) (a b c : Nat → Int32) : Prop := S.1 = n ∧ kEq S.2.1 a n ∧ kEq S.2.2.1 b n ∧ kEq S.2.2.2.1 c n ∧ S.2.2.2.2.1 = 0 ∧ kId S.2.2.2.2.2.1 n ∧ kC S.2.2.2.2.2.2.1 (-9) 5 ∧ S.2.2.2.2.2.2.2 = 0
def kFoI (f A B C : Nat → Int32) (i z : Int) (S S2 : kFS) (r : Int) : Prop := (∃ q : Int, (0 ≤ q ∧ q ≤ z) ∧ kBad (kCd f i) A B C (kNa z) (kNa q) ∧ r = -100 - q ∧ S2 = S) ∨ (∃ a b c, kGo (kCd f i) A B C (kNa z) = some (5, r, a, b, c) ∧ kNw S2 r a b c)
def kFoJ (f A B C : Nat → Int32) (i z : Int) (S S2 : kFM) (r : Int) : Prop := (∃ q : Int, (0 ≤ q ∧ q ≤ z) ∧ kBad (kCd f i) A B C (kNa z) (kNa q) ∧ r = -100 - q ∧ S2 = S) ∨ (∃ a b c, kGo (kCd f i) A B C (kNa z) = some (5, r, a, b, c) ∧ kNwM S2 r a b c)
section
variable {f A B C a b c : Nat → Int32} {i z r q un : Int}
theorem kFoI_1 {S : kFS} (h : kFf (kCd f i) A B C z q un a b c) (hq : ¬ q = -9) (er : r = -100 - q) : kFoI f A B C i z S S r := by
  rcases h with ⟨h1, -⟩ | ⟨h1, h2⟩
  · exact absurd h1 hq
  · exact Or.inl ⟨q, h1, h2, er, rfl⟩
theorem kFoI_2 {S S2 : kFS} (h : kFf (kCd f i) A B C z q un a b c) (hq : q = -9) (er : r = un) (hN : kNw S2 un a b c) : kFoI f A B C i z S S2 r := by
  rcases h with ⟨h1, h2⟩ | ⟨h1, -⟩
  · subst er
    exact Or.inr ⟨a, b, c, h2, hN⟩
  · omega
theorem kFoJ_1 {S : kFM} {o en ja jr r9 : Int} (h : kRd9 f A B C o en ja jr a b c r9) (h0 : r9 = 0) (ho : o ≤ ja ∧ ja ≤ en) (ez : z = en - o) (er : r = -100 - (ja - o)) : kFoJ f A B C o z S S r := by
  subst ez
  rcases h with ⟨h1, -⟩ | ⟨-, h2⟩
  · omega
  · exact Or.inl ⟨ja - o, by omega, h2, er, rfl⟩
theorem kFoJ_2 {S S2 : kFM} {o en ja jr r9 : Int} (h : kRd9 f A B C o en ja jr a b c r9) (h0 : ¬ r9 = 0) (ez : z = en - o) (er : r = jr) (hN : kNwM S2 jr a b c) : kFoJ f A B C o z S S2 r := by
  subst ez
  subst er
  rcases h with ⟨-, h2⟩ | ⟨h1, -⟩
  · exact Or.inr ⟨a, b, c, h2, hN⟩
  · exact absurd h1 h0
end
section
variable {T L N : Int → Int} {F : Int → Nat → Int32} {so sl ce : Nat → Int32} {k y i z lf fa rx rm : Int} {A B C A2 B2 C2 : Nat → Int32}
variable {fn wn pn rn dn fn2 wn2 pn2 rn2 dn2 mf mn dm mf2 mn2 dm2 : Int} {fk fb fh fp fk2 fb2 fh2 fp2 kd wd hs pf lt kd2 wd2 hs2 pf2 lt2 fy fw wg : Nat → Int32}
def kFoX (T L N : Int → Int) (F : Int → Nat → Int32) (A B C : Nat → Int32) (k y i z : Int) (S S2 : kFS) (lf rz : Int) : Prop := kGa k (¬ (0 ≤ y ∧ y ≤ 2)) (fun l9 r9 => kGt (fun w9 => kAg (T k) (L k) (N k) y i z w9) (kFoI (F k) A B C i z S S2) (S2 = S) l9 r9) (S2 = S) lf rz
def kFoM (so sl ce A B C : Nat → Int32) (k y i z : Int) (S S2 : kFM) (lf rz : Int) : Prop := kGa k (¬ (0 ≤ y ∧ y ≤ 2)) (fun l9 r9 => kGt (fun w9 => kAgM (so k.toNat).toInt (sl k.toNat).toInt y i z w9) (kFoJ ce A B C (60 * k + i) z S S2) (S2 = S) l9 r9) (S2 = S) lf rz
theorem kFoX_G {t l n rz : Int} {f : Nat → Int32} {S S2 : kFS} (h : 0 ≤ k ∧ k ≤ 3) (hy : 0 ≤ y ∧ y ≤ 2) (ht : T k = t) (hl : L k = l) (hn : N k = n) (hf : F k = f) (hg : kGt (fun w9 => kAg t l n y i z w9) (kFoI f A B C i z S S2) (S2 = S) lf rz) : kFoX T L N F A B C k y i z S S2 lf rz := by
  unfold kFoX
  rw [ht, hl, hn, hf]
  exact kGa_3 h (fun q => q hy) hg
theorem kFo_rel (hS : kSR T L N F so sl ce) (hx : kFoX T L N F A B C k y i z (fn, fk, fb, fh, wn, pn, fp, rn, dn) (fn2, fk2, fb2, fh2, wn2, pn2, fp2, rn2, dn2) lf rx) (hm : kFoM so sl ce A2 B2 C2 k y i z (mf, kd, wd, hs, mn, pf, lt, dm) (mf2, kd2, wd2, hs2, mn2, pf2, lt2, dm2) fa rm) (r1 : kRF fn fk fb fh mf kd wd hs) (r2 : kRP pn fp fn pf) (r3 : kRL fn rn fy lt) (r4 : kRW wn fw mn wg) (r5 : dn = dm) :
    lf = fa ∧ rx = rm ∧ kRF fn2 fk2 fb2 fh2 mf2 kd2 wd2 hs2 ∧ kRP pn2 fp2 fn2 pf2 ∧ kRL fn2 rn2 fy lt2 ∧ kRW wn2 fw mn2 wg ∧ dn2 = dm2 := by
  obtain ⟨e1, h⟩ := kGa_rel hx hm (fun hk _ w v a b => kAg_rel hS hk a b)
  refine ⟨e1, ?_⟩
  rcases h with ⟨s1, s2, e2⟩ | ⟨hk, -, ag, ix, im⟩
  · simp only [Prod.mk.injEq] at s1 s2
    obtain ⟨rfl, rfl, rfl, rfl, rfl, rfl, rfl, rfl, rfl⟩ := s1
    obtain ⟨rfl, rfl, rfl, rfl, rfl, rfl, rfl, rfl⟩ := s2
    exact ⟨e2, r1, r2, r3, r4, r5⟩
  · have ec := kCd_rel hS hk ag
    rcases ix with ⟨q, q1, q2, q3, q4⟩ | ⟨a, b, c, g1, g2⟩
    · rcases im with ⟨p, p1, p2, p3, p4⟩ | ⟨a, b, c, g1, g2⟩
      · have u := kBad_uniq (kBad_cong (kBad_lk (A2 := A2) (B2 := B2) (C2 := C2) q2) ec) p2
        have u2 : q.toNat = p.toNat := u
        simp only [Prod.mk.injEq] at q4 p4
        obtain ⟨rfl, rfl, rfl, rfl, rfl, rfl, rfl, rfl, rfl⟩ := q4
        obtain ⟨rfl, rfl, rfl, rfl, rfl, rfl, rfl, rfl⟩ := p4
        exact ⟨by omega, r1, r2, r3, r4, r5⟩
      · exact (kBad_not (kBad_cong (kBad_lk (A2 := A2) (B2 := B2) (C2 := C2) q2) ec) g1).elim
    · rw [kGo_cong _ ec] at g1
      rcases im with ⟨p, p1, p2, p3, p4⟩ | ⟨a2, b2, c2, m1, m2⟩
      · exact (kBad_not (kBad_lk (A2 := A) (B2 := B) (C2 := C) p2) g1).elim
      · obtain ⟨u1, u2, u3, u4⟩ := kGo5 g1 m1
        obtain ⟨v1, v2, v3, v4, v5, v6, v7, v8, v9⟩ := g2
        obtain ⟨w1, w2, w3, w4, w5, w6, w7, w8⟩ := m2
        dsimp only at v1 v2 v3 v4 v5 v6 v7 v8 v9 w1 w2 w3 w4 w5 w6 w7 w8
        refine ⟨u1, ⟨by omega, ?_, ?_, ?_, ?_⟩, ⟨by omega, ?_⟩, ⟨fun _ => v8, ?_⟩, ⟨by omega, ?_⟩, by omega⟩
        · intro j hj
          rw [v2 j (by omega), w2 j (by omega)]
          exact (u3 j (by omega)).1
        · intro j hj
          rw [v3 j (by omega), w3 j (by omega)]
          exact (u3 j (by omega)).2.1
        · intro j hj
          rw [v4 j (by omega), w4 j (by omega)]
          exact (u3 j (by omega)).2.2
        · intro j hj
          rw [v2 j (by omega), v4 j (by omega)]
          exact u4 j (by omega)
        · intro j hj
          rw [v7 j (by omega), w6 j (by omega)]
        · intro _ j hj
          rw [w7 j (by omega), if_neg (by omega)]
        · intro j hj
          omega
end
/-! write -/
abbrev kWS : Type := Int × (Nat → Int32) × Int × Int64
def kLet (d : Nat → Int32) (n : Int) : Prop := ∀ j : Nat, (j : Int) < n → 0 ≤ (d j).toInt ∧ (d j).toInt ≤ 15
def kApp (f : Nat → Int32) (m : Int) (d : Nat → Int32) (n : Int) : Nat → Int32 := fun i => if m ≤ (i : Int) ∧ (i : Int) < m + n then d ((i : Int) - m).toNat else f i
def kCk (d : Nat → Int32) (w : Int64) : Nat → Int64
  | 0 => w
  | j + 1 => 31 * kCk d w j + (d j).toInt64 + 1
def kWrI (d : Nat → Int32) (fn z : Int) (S S2 : kWS) (r : Int) : Prop := (fn = 0 ∧ r = -3 ∧ S2 = S) ∨ (¬ fn = 0 ∧ ¬ kLet d z ∧ r = -2 ∧ S2 = S) ∨ (¬ fn = 0 ∧ kLet d z ∧ 24 < S.1 + z ∧ r = -4 ∧ S2 = S) ∨ (¬ fn = 0 ∧ kLet d z ∧ S.1 + z ≤ 24 ∧ r = S.1 + z ∧ S2.1 = S.1 + z ∧ S2.2.1 = kApp S.2.1 S.1 d z ∧ zI S2.2.2.1 = zI (S.2.2.1 + z) ∧ S2.2.2.2 = kCk d S.2.2.2 (kNa z))
section
variable {d : Nat → Int32} {n x : Int}
theorem kLet_0 : kLet d 0 := fun j h => by omega
theorem kLet_s (h : kLet d n) (h0 : 0 ≤ n) (e : (d n.toNat).toInt = x) (hx : 0 ≤ x ∧ x ≤ 15) : kLet d (n + 1) := by
  intro j hj
  by_cases q : j = n.toNat
  · subst q
    rw [e]
    exact hx
  · exact h j (by omega)
theorem kLet_le {m : Int} (h : kLet d n) (e : m ≤ n) : kLet d m := fun j hj => h j (by omega)
theorem kLet_not {m : Int} (h0 : 0 ≤ n ∧ n < m) (e : (d n.toNat).toInt = x) (hx : ¬ (0 ≤ x ∧ x ≤ 15)) : ¬ kLet d m := by
  intro h
  have := h n.toNat (by omega)
  rw [e] at this
  exact hx this
theorem kLet_cong {d2 : Nat → Int32} (h : kLet d n) (e : ∀ j, j < n.toNat → d j = d2 j) : kLet d2 n := fun j hj => by
  rw [← e j (by omega)]
  exact h j hj
theorem kApp_0 {f : Nat → Int32} {m : Int} : kApp f m d 0 = f := by
  funext i
  unfold kApp
  rw [if_neg (by omega)]
theorem kApp_s {f g : Nat → Int32} {m z : Int} (h0 : 0 ≤ n ∧ 0 ≤ m) (e : d n.toNat = zI z) (eg : upd (kApp f m d n) (m + n).toNat (zI z) = g) : g = kApp f m d (n + 1) := by
  rw [← eg]
  funext i
  unfold kApp
  by_cases q : i = (m + n).toNat
  · subst q
    rw [pk_us, if_pos (by omega), show (((m + n).toNat : Nat) : Int) - m = n by omega, e]
  · rw [pk_un q]
    by_cases c : m ≤ (i : Int) ∧ (i : Int) < m + n
    · rw [if_pos c, if_pos (by omega)]
    · rw [if_neg c, if_neg (by omega)]
theorem kApp_eq {f g d2 : Nat → Int32} {m : Int} (h : kEq f g m) (h0 : 0 ≤ n ∧ 0 ≤ m) (e : ∀ j, j < n.toNat → d j = d2 j) : kEq (kApp f m d n) (kApp g m d2 n) (m + n) := by
  intro i hi
  unfold kApp
  by_cases c : m ≤ (i : Int) ∧ (i : Int) < m + n
  · rw [if_pos c, if_pos c, e _ (by omega)]
  · rw [if_neg c, if_neg c, h i (by omega)]
theorem kCk_cong {d2 : Nat → Int32} {w : Int64} : ∀ k : Nat, (∀ j, j < k → d j = d2 j) → kCk d w k = kCk d2 w k
  | 0, _ => rfl
  | k + 1, h => by
    show 31 * kCk d w k + (d k).toInt64 + 1 = 31 * kCk d2 w k + (d2 k).toInt64 + 1
    rw [kCk_cong k (fun j hj => h j (by omega)), h k (by omega)]
theorem kCk_s {w v v2 : Int64} {z : Int} (h : v = kCk d w (kNa n)) (h0 : 0 ≤ n) (e : d n.toNat = zI z) (ev : v2 = 31 * v + (zI z).toInt64 + 1) : v2 = kCk d w (kNa (n + 1)) := by
  have e1 : kNa (n + 1) = kNa n + 1 := by show (n + 1).toNat = n.toNat + 1; omega
  rw [e1]
  show v2 = 31 * kCk d w (kNa n) + (d (kNa n)).toInt64 + 1
  rw [← h, ev, show d (kNa n) = zI z from e]
theorem kTl_s {a b z : Int} (h : zI a = zI (b + n)) (e : zI (a + 1) = zI z) : zI z = zI (b + (n + 1)) := by
  rw [← e, ← zI_add, h, zI_add, show b + n + 1 = b + (n + 1) by omega]
end
section
variable {T L N : Int → Int} {F : Int → Nat → Int32} {so sl ce : Nat → Int32} {k y i z lf fa rx rm : Int}
variable {fn mf wn mn wn2 mn2 ew ta ew2 ta2 : Int} {fw wg fw2 wg2 : Nat → Int32} {wc ck wc2 ck2 : Int64}
def kWrB (y z : Int) : Prop := ¬ (0 ≤ y ∧ y ≤ 2) ∨ ¬ (0 ≤ z ∧ z ≤ 24)
def kWrX (T L N : Int → Int) (F : Int → Nat → Int32) (k y i z fn : Int) (S S2 : kWS) (lf rz : Int) : Prop := kGa k (kWrB y z) (fun l9 r9 => kGt (fun w9 => kAg (T k) (L k) (N k) y i z w9) (kWrI (kCd (F k) i) fn z S S2) (S2 = S) l9 r9) (S2 = S) lf rz
def kWrM (so sl ce : Nat → Int32) (k y i z fn : Int) (S S2 : kWS) (lf rz : Int) : Prop := kGa k (kWrB y z) (fun l9 r9 => kGt (fun w9 => kAgM (so k.toNat).toInt (sl k.toNat).toInt y i z w9) (kWrI (kCd ce (60 * k + i)) fn z S S2) (S2 = S) l9 r9) (S2 = S) lf rz
theorem kWrX_G {t l n rz : Int} {f : Nat → Int32} {S S2 : kWS} (h : 0 ≤ k ∧ k ≤ 3) (hy : (0 ≤ y ∧ y ≤ 2) ∧ (0 ≤ z ∧ z ≤ 24)) (ht : T k = t) (hl : L k = l) (hn : N k = n) (hf : F k = f) (hg : kGt (fun w9 => kAg t l n y i z w9) (kWrI (kCd f i) fn z S S2) (S2 = S) lf rz) : kWrX T L N F k y i z fn S S2 lf rz := by
  unfold kWrX
  rw [ht, hl, hn, hf]
  exact kGa_3 h (fun q => by unfold kWrB at q; omega) hg
theorem kWr_rel (hS : kSR T L N F so sl ce) (hx : kWrX T L N F k y i z fn (wn, fw, ew, wc) (wn2, fw2, ew2, wc2) lf rx) (hm : kWrM so sl ce k y i z mf (mn, wg, ta, ck) (mn2, wg2, ta2, ck2) fa rm) (e : fn = mf) (hw : 0 ≤ wn) (g1 : rg ew2) (g2 : rg ta2) (r4 : kRW wn fw mn wg) (r5 : ew = ta) (r6 : wc = ck) :
    lf = fa ∧ rx = rm ∧ kRW wn2 fw2 mn2 wg2 ∧ ew2 = ta2 ∧ wc2 = ck2 := by
  obtain ⟨e1, h⟩ := kGa_rel hx hm (fun hk _ w v a b => kAg_rel hS hk a b)
  refine ⟨e1, ?_⟩
  subst e
  subst r5
  subst r6
  obtain ⟨rfl, r8⟩ := r4
  rcases h with ⟨s1, s2, e2⟩ | ⟨hk, hb, ag, ix, im⟩
  · simp only [Prod.mk.injEq] at s1 s2
    obtain ⟨rfl, rfl, rfl, rfl⟩ := s1
    obtain ⟨rfl, rfl, rfl, rfl⟩ := s2
    exact ⟨e2, ⟨rfl, r8⟩, rfl, rfl⟩
  · have ec := kCd_rel hS hk ag
    have ec2 : ∀ j, j < z.toNat → kCd ce (60 * k + i) j = kCd (F k) i j := fun j hj => (ec j hj).symm
    have hz : 0 ≤ z := by unfold kWrB at hb; omega
    rcases ix with ⟨a1, a2, a3⟩ | ⟨a1, a2, a3, a4⟩ | ⟨a1, a2, a3, a4, a5⟩ | ⟨a1, a2, a3, a4, a5, a6, a7, a8⟩
    · rcases im with ⟨b1, b2, b3⟩ | ⟨b1, b2, b3, b4⟩ | ⟨b1, b2, b3, b4, b5⟩ | ⟨b1, b2, b3, b4, b5, b6, b7, b8⟩
      · simp only [Prod.mk.injEq] at a3 b3
        obtain ⟨rfl, rfl, rfl, rfl⟩ := a3
        obtain ⟨rfl, rfl, rfl, rfl⟩ := b3
        exact ⟨by omega, ⟨rfl, r8⟩, rfl, rfl⟩
      · exact absurd a1 b1
      · exact absurd a1 b1
      · exact absurd a1 b1
    · rcases im with ⟨b1, b2, b3⟩ | ⟨b1, b2, b3, b4⟩ | ⟨b1, b2, b3, b4, b5⟩ | ⟨b1, b2, b3, b4, b5, b6, b7, b8⟩
      · exact absurd b1 a1
      · simp only [Prod.mk.injEq] at a4 b4
        obtain ⟨rfl, rfl, rfl, rfl⟩ := a4
        obtain ⟨rfl, rfl, rfl, rfl⟩ := b4
        exact ⟨by omega, ⟨rfl, r8⟩, rfl, rfl⟩
      · exact absurd (kLet_cong b2 ec2) a2
      · exact absurd (kLet_cong b2 ec2) a2
    · rcases im with ⟨b1, b2, b3⟩ | ⟨b1, b2, b3, b4⟩ | ⟨b1, b2, b3, b4, b5⟩ | ⟨b1, b2, b3, b4, b5, b6, b7, b8⟩
      · exact absurd b1 a1
      · exact absurd (kLet_cong a2 ec) b2
      · simp only [Prod.mk.injEq] at a5 b5
        obtain ⟨rfl, rfl, rfl, rfl⟩ := a5
        obtain ⟨rfl, rfl, rfl, rfl⟩ := b5
        exact ⟨by omega, ⟨rfl, r8⟩, rfl, rfl⟩
      · dsimp only at a3 b3
        omega
    · rcases im with ⟨b1, b2, b3⟩ | ⟨b1, b2, b3, b4⟩ | ⟨b1, b2, b3, b4, b5⟩ | ⟨b1, b2, b3, b4, b5, b6, b7, b8⟩
      · exact absurd b1 a1
      · exact absurd (kLet_cong a2 ec) b2
      · dsimp only at a3 b3
        omega
      · dsimp only at a3 a4 a5 a6 a7 a8 b3 b4 b5 b6 b7 b8
        refine ⟨by omega, ⟨by omega, ?_⟩, (zI_eq g1 g2).mp (by rw [a7, b7]), ?_⟩
        · rw [a5, a6, b6]
          exact kApp_eq r8 ⟨hz, hw⟩ ec
        · rw [a8, b8]
          exact kCk_cong _ ec
end
/-! PREFERENCE: the first place of a FONT; it comes first -/
def kNo (f : Nat → Int32) (x j : Int) : Prop := ∀ i : Nat, (i : Int) < j → ¬ f i = zI x
theorem kNo_0 {f : Nat → Int32} {x : Int} : kNo f x 0 := fun i h => by omega
theorem kNo_s {f : Nat → Int32} {x j z : Int} (h : kNo f x j) (h0 : 0 ≤ j) (rz : rg z) (rx : rg x) (e : f j.toNat = zI z) (ne : ¬ z = x) : kNo f x (j + 1) := by
  intro i hi
  by_cases q : i = j.toNat
  · subst q
    rw [e]
    exact fun c => ne ((zI_eq rz rx).mp c)
  · exact h i (by omega)
def kPl (f : Nat → Int32) (n x w : Int) : Prop := (w = -9 ∧ kNo f x n) ∨ ((0 ≤ w ∧ w < n) ∧ f w.toNat = zI x ∧ kNo f x w)
theorem kPl_1 {f : Nat → Int32} {n x w j : Int} (h : kNo f x j) (e : n ≤ j) (ew : w = -9) : kPl f n x w := Or.inl ⟨ew, fun i hi => h i (by omega)⟩
theorem kPl_2 {f : Nat → Int32} {n x j z : Int} (h : kNo f x j) (hj : 0 ≤ j ∧ j < n) (e : f j.toNat = zI z) (ez : z = x) : kPl f n x j := Or.inr ⟨hj, by rw [e, ez], h⟩
def kLd (f : Nat → Int32) (n x : Int) (g : Nat → Int32) (r : Int) : Prop := (r = 0 ∧ g = f ∧ kPl f n x (-9)) ∨ (r = 1 ∧ ∃ w : Int, (0 ≤ w ∧ w < n) ∧ kPl f n x w ∧ g = upd (kMv f w 0) 0 (zI x))
theorem kLd_1 {f : Nat → Int32} {n x w r : Int} (h : kPl f n x w) (e : w = -9) (er : r = 0) : kLd f n x f r := Or.inl ⟨er, rfl, e ▸ h⟩
theorem kLd_2 {f g a : Nat → Int32} {n x w r j : Int} (h : kPl f n x w) (hw : 0 ≤ w ∧ w < n) (er : r = 1) (ea : a = kMv f w j) (ej : j = 0) (eg : upd a 0 (zI x) = g) : kLd f n x g r := Or.inr ⟨er, w, hw, h, by rw [← eg, ea, ej]⟩
theorem kLd_0 {f : Nat → Int32} {n x w : Int} {g : Nat → Int32} {r : Int} (h : kLd f n x g r) (hw : 0 ≤ w ∧ w < n) (e : f w.toNat = zI x) (no : kNo f x w) : g = upd (kMv f w 0) 0 (zI x) := by
  rcases h with ⟨-, -, q⟩ | ⟨-, v, h1, h2, h3⟩
  · rcases q with ⟨-, q⟩ | ⟨q, -⟩
    · exact absurd e (q w.toNat (by omega))
    · omega
  · have ev : v = w := by
      rcases h2 with ⟨q, -⟩ | ⟨-, q2, q3⟩
      · omega
      · rcases Int.lt_trichotomy v w with c | c | c
        · exact absurd q2 (no v.toNat (by omega))
        · exact c
        · exact absurd e (q3 w.toNat (by omega))
    rw [h3, ev]
theorem kPl_0 {f : Nat → Int32} {n x w v : Int} (h : kPl f n x v) (hw : 0 ≤ w ∧ w < n) (e : f w.toNat = zI x) (no : kNo f x w) : v = w := by
  rcases h with ⟨-, q⟩ | ⟨q1, q2, q3⟩
  · exact absurd e (q w.toNat (by omega))
  · rcases Int.lt_trichotomy v w with c | c | c
    · exact absurd q2 (no v.toNat (by omega))
    · exact c
    · exact absurd e (q3 w.toNat (by omega))
theorem kNo_eq {f g : Nat → Int32} {x w n : Int} (h : kNo g x w) (e : kEq f g n) (hw : w ≤ n) : kNo f x w := fun i hi c => h i hi (by rw [← e i (by omega)]; exact c)
theorem kMv_eq {f g : Nat → Int32} {x w n : Int} (e : kEq f g n) (hw : w < n) : kEq (upd (kMv f w 0) 0 (zI x)) (upd (kMv g w 0) 0 (zI x)) n := by
  intro i hi
  by_cases c : i = 0
  · subst c
    rw [pk_us, pk_us]
  · rw [pk_un c, pk_un c]
    unfold kMv
    by_cases q : (0 : Int) < (i : Int) ∧ (i : Int) ≤ w
    · rw [if_pos q, if_pos q]
      exact e (i - 1) (by omega)
    · rw [if_neg q, if_neg q]
      exact e i hi
def kPrX (f fn pn : Int) (fp fp2 : Nat → Int32) (rn rn2 : Int) (fy fy2 : Nat → Int32) (r : Int) : Prop := (¬ (0 ≤ f ∧ f < fn) ∧ r = -1 ∧ fp2 = fp ∧ rn2 = rn ∧ fy2 = fy) ∨ ((0 ≤ f ∧ f < fn) ∧ kPl fp pn f r ∧ (∃ q : Int, kLd fp pn f fp2 q) ∧ ((rn ≤ 4 ∧ rn2 = rn + 1) ∨ (rn = 5 ∧ rn2 = 5)) ∧ fy2 = upd (kMv fy 4 0) 0 (zI f))
def kPrM (f fn : Int) (pf pf2 lt lt2 : Nat → Int32) (r : Int) : Prop := (¬ (0 ≤ f ∧ f < fn) ∧ r = -1 ∧ pf2 = pf ∧ lt2 = lt) ∨ ((0 ≤ f ∧ f < fn) ∧ ((0 ≤ r ∧ r < fn) ∧ pf r.toNat = zI f ∧ kNo pf f r) ∧ pf2 = upd (kMv pf r 0) 0 (zI f) ∧ lt2 = upd (kMv lt 4 0) 0 (zI f))
theorem kPr_rel {f fn mf pn rn rn2 rx rm : Int} {fk fb fh kd wd hs fp fp2 pf pf2 fy fy2 lt lt2 : Nat → Int32} (hx : kPrX f fn pn fp fp2 rn rn2 fy fy2 rx) (hm : kPrM f mf pf pf2 lt lt2 rm) (r1 : kRF fn fk fb fh mf kd wd hs) (r2 : kRP pn fp fn pf) (r3 : kRL fn rn fy lt) (hr : 0 ≤ rn ∧ rn ≤ 5) : rx = rm ∧ kRP pn fp2 fn pf2 ∧ kRL fn rn2 fy2 lt2 := by
  obtain ⟨rfl, -⟩ := r1
  obtain ⟨rfl, r5⟩ := r2
  rcases hx with ⟨a1, a2, rfl, rfl, rfl⟩ | ⟨a1, a2, ⟨q, a3⟩, a4, a5⟩
  · rcases hm with ⟨b1, b2, rfl, rfl⟩ | ⟨b1, -⟩
    · exact ⟨by omega, ⟨rfl, r5⟩, r3⟩
    · exact absurd b1 a1
  · rcases hm with ⟨b1, -⟩ | ⟨b1, ⟨b2, b3, b4⟩, b5, b6⟩
    · exact absurd a1 b1
    · have e1 : fp rm.toNat = zI f := by rw [r5 rm.toNat (by omega)]; exact b3
      have n1 := kNo_eq b4 r5 (by omega)
      refine ⟨kPl_0 a2 b2 e1 n1, ⟨rfl, ?_⟩, fun c => by omega, fun c i hi => ?_⟩
      · rw [kLd_0 a3 b2 e1 n1, b5]
        exact kMv_eq r5 b2.2
      · rw [b6, a5]
        by_cases c0 : i = 0
        · subst c0
          rw [pk_us, pk_us, if_pos (by omega)]
        · rw [pk_un c0, pk_un c0]
          unfold kMv
          have k1 : (0 : Int) < (i : Int) ∧ (i : Int) ≤ 4 := by omega
          rw [if_pos k1, if_pos k1, r3.2 c (i - 1) (by omega)]
          by_cases c1 : ((i - 1 : Nat) : Int) < rn
          · rw [if_pos c1, if_pos (by omega)]
          · rw [if_neg c1, if_neg (by omega)]
/-! answers that read what is common -/
def kLe (k n : Int) (f : Nat → Int32) (r : Int) : Prop := (¬ (0 ≤ k ∧ k < n) ∧ r = -1) ∨ ((0 ≤ k ∧ k < n) ∧ zI r = f k.toNat)
theorem kLe_eq {k n m rx rm : Int} {f g : Nat → Int32} (hx : kLe k n f rx) (hm : kLe k m g rm) (h : kRW n f m g) (g1 : rg rx) (g2 : rg rm) : rx = rm := by
  obtain ⟨rfl, h⟩ := h
  rcases hx with ⟨a1, a2⟩ | ⟨a1, a2⟩
  · rcases hm with ⟨b1, b2⟩ | ⟨b1, b2⟩
    · omega
    · exact absurd b1 a1
  · rcases hm with ⟨b1, b2⟩ | ⟨b1, b2⟩
    · exact absurd a1 b1
    · exact (zI_eq g1 g2).mp (by rw [a2, b2, h k.toNat (by omega)])
def kLaX (k rn : Int) (fy : Nat → Int32) (r : Int) : Prop := (¬ (0 ≤ k ∧ k ≤ 4) ∧ r = -2) ∨ ((0 ≤ k ∧ k ≤ 4) ∧ ((k < rn ∧ zI r = fy k.toNat) ∨ (rn ≤ k ∧ r = -9)))
def kLaM (k fn : Int) (lt : Nat → Int32) (r : Int) : Prop := (¬ (0 ≤ k ∧ k ≤ 4) ∧ r = -2) ∨ ((0 ≤ k ∧ k ≤ 4) ∧ ((fn = 0 ∧ r = -9) ∨ (¬ fn = 0 ∧ zI r = lt k.toNat)))
theorem kLa_eq {k fn mf rn rx rm : Int} {fy lt : Nat → Int32} (hx : kLaX k rn fy rx) (hm : kLaM k mf lt rm) (e : fn = mf) (h : kRL fn rn fy lt) (g1 : rg rx) (g2 : rg rm) : rx = rm := by
  subst e
  rcases hx with ⟨a1, a2⟩ | ⟨a1, a2⟩
  · rcases hm with ⟨b1, b2⟩ | ⟨b1, b2⟩
    · omega
    · exact absurd b1 a1
  · rcases hm with ⟨b1, b2⟩ | ⟨b1, b2⟩
    · exact absurd a1 b1
    · rcases b2 with ⟨c1, c2⟩ | ⟨c1, c2⟩
      · have := h.1 c1
        omega
      · have q := h.2 c1 k.toNat (by omega)
        rcases a2 with ⟨d1, d2⟩ | ⟨d1, d2⟩
        · rw [if_pos (by omega)] at q
          exact (zI_eq g1 g2).mp (by rw [d2, c2, q])
        · rw [if_neg (by omega)] at q
          exact (zI_eq g1 g2).mp (by rw [c2, q, d2])
/-! tell, sample, as -/
def kLv (t x : Int32) : Int32 := zI 31 * t + x
theorem kLv_of {t x z : Int} (e : zI (31 * t + x) = zI z) : zI z = kLv (zI t) (zI x) := by
  rw [← e, ← zI_add, ← zI_mul]
  rfl
def kTe (f fn : Int) (kd wd : Nat → Int32) (t t2 r : Int) : Prop := (¬ (0 ≤ f ∧ f < fn) ∧ r = -1 ∧ t2 = t) ∨ ((0 ≤ f ∧ f < fn) ∧ ((kd f.toNat = zI 2 ∧ zI t2 = kLv (kLv (kLv (kLv (zI t) (zI 3)) (zI 2)) (zI 1)) (zI 1) ∧ zI r = wd f.toNat + wd f.toNat + zI 100) ∨ (kd f.toNat = zI 1 ∧ zI t2 = kLv (kLv (zI t) (zI 2)) (zI 1) ∧ zI r = wd f.toNat + zI 100) ∨ (¬ kd f.toNat = zI 2 ∧ ¬ kd f.toNat = zI 1 ∧ zI t2 = kLv (zI t) (zI 1) ∧ zI r = wd f.toNat)))
section
variable {f fn t t2 r zk zw v : Int} {kd wd : Nat → Int32}
theorem kTe_0 (h : ¬ (0 ≤ f ∧ f < fn)) (e : r = -1) : kTe f fn kd wd t t r := Or.inl ⟨h, e, rfl⟩
theorem kTe_2 (h : 0 ≤ f ∧ f < fn) (ek : kd f.toNat = zI zk) (ck : zk = 2) (ew : wd f.toNat = zI zw) (et : zI t2 = kLv (kLv (kLv (kLv (zI t) (zI 3)) (zI 2)) (zI 1)) (zI 1)) (er : zI r = zI v) (ev : v = zw + zw + 100) : kTe f fn kd wd t t2 r := Or.inr ⟨h, Or.inl ⟨by rw [ek, ck], et, by rw [er, ev, ew, zI_add, zI_add]⟩⟩
theorem kTe_1 (h : 0 ≤ f ∧ f < fn) (ek : kd f.toNat = zI zk) (ck : zk = 1) (ew : wd f.toNat = zI zw) (et : zI t2 = kLv (kLv (zI t) (zI 2)) (zI 1)) (er : zI r = zI v) (ev : v = zw + 100) : kTe f fn kd wd t t2 r := Or.inr ⟨h, Or.inr (Or.inl ⟨by rw [ek, ck], et, by rw [er, ev, ew, zI_add]⟩)⟩
theorem kTe_3 (h : 0 ≤ f ∧ f < fn) (ek : kd f.toNat = zI zk) (rk : rg zk) (ck : ¬ zk = 1 ∧ ¬ zk = 2) (ew : wd f.toNat = zI zw) (et : zI t2 = kLv (zI t) (zI 1)) (er : zI r = zI v) (ev : v = zw) : kTe f fn kd wd t t2 r := Or.inr ⟨h, Or.inr (Or.inr ⟨by rw [ek, zI_eq rk (by omega)]; exact ck.2, by rw [ek, zI_eq rk (by omega)]; exact ck.1, et, by rw [er, ev, ew]⟩)⟩
end
theorem kTe_rel {f fn mf t t2 tm tm2 rx rm : Int} {fk fb fh kd wd hs : Nat → Int32} (hx : kTe f fn fk fb t t2 rx) (hm : kTe f mf kd wd tm tm2 rm) (r1 : kRF fn fk fb fh mf kd wd hs) (e : t = tm) (g1 : rg t2) (g2 : rg tm2) (g3 : rg rx) (g4 : rg rm) : rx = rm ∧ t2 = tm2 := by
  obtain ⟨rfl, q1, q2, -, -⟩ := r1
  subst e
  rcases hx with ⟨a1, a2, a3⟩ | ⟨a1, a2⟩
  · rcases hm with ⟨b1, b2, b3⟩ | ⟨b1, b2⟩
    · exact ⟨by omega, by omega⟩
    · exact absurd b1 a1
  · rcases hm with ⟨b1, b2, b3⟩ | ⟨b1, b2⟩
    · exact absurd a1 b1
    · rw [← q1 f.toNat (by omega), ← q2 f.toNat (by omega)] at b2
      rcases a2 with ⟨c1, c2, c3⟩ | ⟨c1, c2, c3⟩ | ⟨c1, c0, c2, c3⟩
      · rcases b2 with ⟨d1, d2, d3⟩ | ⟨d1, d2, d3⟩ | ⟨d1, d0, d2, d3⟩
        · exact ⟨(zI_eq g3 g4).mp (by rw [c3, d3]), (zI_eq g1 g2).mp (by rw [c2, d2])⟩
        · rw [c1] at d1
          exact absurd d1 (by decide +kernel)
        · exact absurd c1 d1
      · rcases b2 with ⟨d1, d2, d3⟩ | ⟨d1, d2, d3⟩ | ⟨d1, d0, d2, d3⟩
        · rw [c1] at d1
          exact absurd d1 (by decide +kernel)
        · exact ⟨(zI_eq g3 g4).mp (by rw [c3, d3]), (zI_eq g1 g2).mp (by rw [c2, d2])⟩
        · exact absurd c1 d0
      · rcases b2 with ⟨d1, d2, d3⟩ | ⟨d1, d2, d3⟩ | ⟨d1, d0, d2, d3⟩
        · exact absurd d1 c1
        · exact absurd d1 c0
        · exact ⟨(zI_eq g3 g4).mp (by rw [c3, d3]), (zI_eq g1 g2).mp (by rw [c2, d2])⟩
def kSaX (f fn : Int) (kd hs : Nat → Int32) (t t2 r : Int) : Prop := (¬ (0 ≤ f ∧ f < fn) ∧ r = -1 ∧ t2 = t) ∨ ((0 ≤ f ∧ f < fn) ∧ (((kd f.toNat).toInt = 2 ∧ zI t2 = kLv (zI t) (zI 5) ∧ r = 50) ∨ (¬ (kd f.toNat).toInt = 2 ∧ zI t2 = kLv (zI t) (zI 4) ∧ zI r = kBc (hs f.toNat))))
def kSaM (f fn : Int) (kd hs : Nat → Int32) (t t2 r : Int) : Prop := (¬ (0 ≤ f ∧ f < fn) ∧ r = -1 ∧ t2 = t) ∨ ((0 ≤ f ∧ f < fn) ∧ (((kd f.toNat).toInt = 2 ∧ zI t2 = kLv (zI t) (zI 5) ∧ r = 50) ∨ (¬ (kd f.toNat).toInt = 2 ∧ zI t2 = kLv (zI t) (zI 4) ∧ ((0 ≤ (hs f.toNat).toInt ∧ (hs f.toNat).toInt < 65536) → r = kPop (hs f.toNat).toInt))))
theorem kSa_rel {f fn mf t t2 tm tm2 rx rm : Int} {fk fb fh kd wd hs : Nat → Int32} (hx : kSaX f fn fk fh t t2 rx) (hm : kSaM f mf kd hs tm tm2 rm) (r1 : kRF fn fk fb fh mf kd wd hs) (e : t = tm) (g1 : rg t2) (g2 : rg tm2) (g3 : rg rx) : rx = rm ∧ t2 = tm2 := by
  obtain ⟨rfl, q1, -, q2, q3⟩ := r1
  subst e
  rcases hx with ⟨a1, a2, a3⟩ | ⟨a1, a2⟩
  · rcases hm with ⟨b1, b2, b3⟩ | ⟨b1, b2⟩
    · exact ⟨by omega, by omega⟩
    · exact absurd b1 a1
  · rcases hm with ⟨b1, b2, b3⟩ | ⟨b1, b2⟩
    · exact absurd a1 b1
    · rw [← q1 f.toNat (by omega), ← q2 f.toNat (by omega)] at b2
      have bd := (q3 f.toNat (by omega)).2
      rcases a2 with ⟨c1, c2, c3⟩ | ⟨c1, c2, c3⟩
      · rcases b2 with ⟨d1, d2, d3⟩ | ⟨d1, d2, d3⟩
        · exact ⟨by omega, (zI_eq g1 g2).mp (by rw [c2, d2])⟩
        · exact absurd c1 d1
      · rcases b2 with ⟨d1, d2, d3⟩ | ⟨d1, d2, d3⟩
        · exact absurd d1 c1
        · refine ⟨?_, (zI_eq g1 g2).mp (by rw [c2, d2])⟩
          rw [d3 bd]
          exact kBc_pop bd g3 (by rw [zI_of]; exact c3.symm)
def kAs (f fn x : Int) (kd : Nat → Int32) (lf r : Int) : Prop := (¬ (0 ≤ f ∧ f < fn) ∧ r = -1 ∧ lf = 0) ∨ ((0 ≤ f ∧ f < fn) ∧ ¬ (0 ≤ x ∧ x ≤ 2) ∧ r = -2 ∧ lf = 0) ∨ ((0 ≤ f ∧ f < fn) ∧ (0 ≤ x ∧ x ≤ 2) ∧ x ≤ (kd f.toNat).toInt ∧ r = 1 ∧ lf = 0) ∨ ((0 ≤ f ∧ f < fn) ∧ (0 ≤ x ∧ x ≤ 2) ∧ (kd f.toNat).toInt < x ∧ r = -12 ∧ lf = 2)
theorem kAs_rel {f fn mf x lf fa rx rm : Int} {fk fb fh kd wd hs : Nat → Int32} (hx : kAs f fn x fk lf rx) (hm : kAs f mf x kd fa rm) (r1 : kRF fn fk fb fh mf kd wd hs) : rx = rm ∧ lf = fa := by
  obtain ⟨rfl, q1, -⟩ := r1
  unfold kAs at hx hm
  by_cases c : 0 ≤ f ∧ f < fn
  · rw [← q1 f.toNat (by omega)] at hm
    omega
  · omega
/-! width, ofFont -/
def kWi (f fn x : Int) (fb fb2 : Nat → Int32) (r : Int) : Prop := (¬ (0 ≤ f ∧ f < fn) ∧ r = -1 ∧ fb2 = fb) ∨ ((0 ≤ f ∧ f < fn) ∧ ¬ (1 ≤ x ∧ x ≤ 9) ∧ r = -2 ∧ fb2 = fb) ∨ ((0 ≤ f ∧ f < fn) ∧ (1 ≤ x ∧ x ≤ 9) ∧ zI r = fb f.toNat ∧ fb2 = upd fb f.toNat (zI x))
theorem kWi_rel {f fn mf x rx rm : Int} {fk fb fb2 fh kd wd wd2 hs : Nat → Int32} (hx : kWi f fn x fb fb2 rx) (hm : kWi f mf x wd wd2 rm) (r1 : kRF fn fk fb fh mf kd wd hs) (g3 : rg rx) (g4 : rg rm) : rx = rm ∧ kRF fn fk fb2 fh mf kd wd2 hs := by
  obtain ⟨rfl, q1, q2, q3, q4⟩ := r1
  rcases hx with ⟨a1, a2, rfl⟩ | ⟨a1, a2, a3, rfl⟩ | ⟨a1, a2, a3, a4⟩
  · rcases hm with ⟨b1, b2, rfl⟩ | ⟨b1, b2, b3, rfl⟩ | ⟨b1, b2, b3, b4⟩
    · exact ⟨by omega, rfl, q1, q2, q3, q4⟩
    · exact absurd b1 a1
    · exact absurd b1 a1
  · rcases hm with ⟨b1, b2, rfl⟩ | ⟨b1, b2, b3, rfl⟩ | ⟨b1, b2, b3, b4⟩
    · exact absurd a1 b1
    · exact ⟨by omega, rfl, q1, q2, q3, q4⟩
    · exact absurd b2 a2
  · rcases hm with ⟨b1, b2, rfl⟩ | ⟨b1, b2, b3, rfl⟩ | ⟨b1, b2, b3, b4⟩
    · exact absurd a1 b1
    · exact absurd a2 b2
    · refine ⟨(zI_eq g3 g4).mp (by rw [a3, b3, q2 f.toNat (by omega)]), rfl, q1, ?_, q3, q4⟩
      intro i hi
      rw [a4, b4]
      by_cases c : i = f.toNat
      · subst c
        rw [pk_us, pk_us]
      · rw [pk_un c, pk_un c]
        exact q2 i hi
def kStX (k b : Int32) : Int32 := if k = zI 2 then zI 2 * b else if k = zI 1 then b + zI 1 else b
def kStM (k b : Int32) : Int32 := if k = zI 0 then b else if k = zI 1 then b + zI 1 else zI 2 * b
theorem kSt_eq {k b : Int32} (h : 0 ≤ k.toInt ∧ k.toInt ≤ 2) : kStX k b = kStM k b := by
  obtain ⟨z, hz, rfl⟩ := zI_ex k
  rw [zI_toInt hz] at h
  unfold kStX kStM
  rcases (show z = 0 ∨ z = 1 ∨ z = 2 by omega) with rfl | rfl | rfl
  · rw [if_neg (by decide +kernel), if_neg (by decide +kernel), if_pos rfl]
  · rw [if_neg (by decide +kernel), if_pos rfl, if_neg (by decide +kernel), if_pos rfl]
  · rw [if_pos rfl, if_neg (by decide +kernel), if_neg (by decide +kernel)]
theorem kStX_2 {k b r : Int} (h : k = 2) (e : zI (2 * b) = zI r) : zI r = kStX (zI k) (zI b) := by
  unfold kStX
  rw [if_pos (by rw [h]), zI_mul, e]
theorem kStX_1 {k b r : Int} (h : k = 1) (e : zI (b + 1) = zI r) : zI r = kStX (zI k) (zI b) := by
  unfold kStX
  rw [if_neg (by rw [h]; decide +kernel), if_pos (by rw [h]), zI_add, e]
theorem kStX_0 {k b r : Int} (rk : rg k) (h : ¬ k = 2 ∧ ¬ k = 1) (e : zI b = zI r) : zI r = kStX (zI k) (zI b) := by
  unfold kStX
  rw [if_neg (by rw [zI_eq rk (by omega)]; exact h.1), if_neg (by rw [zI_eq rk (by omega)]; exact h.2), e]
theorem kStM_2 {k b r : Int} (rk : rg k) (h : ¬ k = 0 ∧ ¬ k = 1) (e : zI (2 * b) = zI r) : zI r = kStM (zI k) (zI b) := by
  unfold kStM
  rw [if_neg (by rw [zI_eq rk (by omega)]; exact h.1), if_neg (by rw [zI_eq rk (by omega)]; exact h.2), zI_mul, e]
theorem kStM_1 {k b r : Int} (h : k = 1) (e : zI (b + 1) = zI r) : zI r = kStM (zI k) (zI b) := by
  unfold kStM
  rw [if_neg (by rw [h]; decide +kernel), if_pos (by rw [h]), zI_add, e]
theorem kStM_0 {k b r : Int} (h : k = 0) (e : zI b = zI r) : zI r = kStM (zI k) (zI b) := by
  unfold kStM
  rw [if_pos (by rw [h]), e]
def kOf (f w fn : Int) (kd wd hs : Nat → Int32) (St : Int32) (Pl : Int → Prop) (r : Int) : Prop := (¬ (0 ≤ f ∧ f < fn) ∧ r = -1) ∨ ((0 ≤ f ∧ f < fn) ∧ ((w = 0 ∧ zI r = kd f.toNat) ∨ (w = 1 ∧ zI r = wd f.toNat) ∨ (w = 2 ∧ zI r = St) ∨ (w = 3 ∧ zI r = hs f.toNat) ∨ (w = 4 ∧ Pl r) ∨ (¬ (0 ≤ w ∧ w ≤ 4) ∧ r = -2)))
theorem kOf_eq {f w fn mf pn rx rm : Int} {fk fb fh kd wd hs fp pf : Nat → Int32} (hx : kOf f w fn fk fb fh (kStX (fk f.toNat) (fb f.toNat)) (kPl fp pn f) rx) (hm : kOf f w mf kd wd hs (kStM (kd f.toNat) (wd f.toNat)) (fun r => (0 ≤ r ∧ r < mf) ∧ pf r.toNat = zI f ∧ kNo pf f r) rm) (r1 : kRF fn fk fb fh mf kd wd hs) (r2 : kRP pn fp fn pf) (g3 : rg rx) (g4 : rg rm) : rx = rm := by
  obtain ⟨rfl, q1, q2, q3, q4⟩ := r1
  obtain ⟨rfl, r5⟩ := r2
  rcases hx with ⟨a1, a2⟩ | ⟨a1, a2⟩
  · rcases hm with ⟨b1, b2⟩ | ⟨b1, b2⟩
    · omega
    · exact absurd b1 a1
  · rcases hm with ⟨b1, b2⟩ | ⟨b1, b2⟩
    · exact absurd a1 b1
    · rw [← q1 f.toNat (by omega), ← q2 f.toNat (by omega), ← q3 f.toNat (by omega), ← kSt_eq (q4 f.toNat (by omega)).1] at b2
      rcases a2 with ⟨c1, c2⟩ | ⟨c1, c2⟩ | ⟨c1, c2⟩ | ⟨c1, c2⟩ | ⟨c1, c2⟩ | ⟨c1, c2⟩
      · rcases b2 with ⟨d1, d2⟩ | ⟨d1, d2⟩ | ⟨d1, d2⟩ | ⟨d1, d2⟩ | ⟨d1, d2⟩ | ⟨d1, d2⟩ <;> first | omega | exact (zI_eq g3 g4).mp (by rw [c2, d2])
      · rcases b2 with ⟨d1, d2⟩ | ⟨d1, d2⟩ | ⟨d1, d2⟩ | ⟨d1, d2⟩ | ⟨d1, d2⟩ | ⟨d1, d2⟩ <;> first | omega | exact (zI_eq g3 g4).mp (by rw [c2, d2])
      · rcases b2 with ⟨d1, d2⟩ | ⟨d1, d2⟩ | ⟨d1, d2⟩ | ⟨d1, d2⟩ | ⟨d1, d2⟩ | ⟨d1, d2⟩ <;> first | omega | exact (zI_eq g3 g4).mp (by rw [c2, d2])
      · rcases b2 with ⟨d1, d2⟩ | ⟨d1, d2⟩ | ⟨d1, d2⟩ | ⟨d1, d2⟩ | ⟨d1, d2⟩ | ⟨d1, d2⟩ <;> first | omega | exact (zI_eq g3 g4).mp (by rw [c2, d2])
      · rcases b2 with ⟨d1, d2⟩ | ⟨d1, d2⟩ | ⟨d1, d2⟩ | ⟨d1, d2⟩ | ⟨d1, d2⟩ | ⟨d1, d2⟩
        · omega
        · omega
        · omega
        · omega
        · obtain ⟨e1, e2, e3⟩ := d2
          exact kPl_0 c2 e1 (by rw [r5 rm.toNat (by omega)]; exact e2) (kNo_eq e3 r5 (by omega))
        · omega
      · rcases b2 with ⟨d1, d2⟩ | ⟨d1, d2⟩ | ⟨d1, d2⟩ | ⟨d1, d2⟩ | ⟨d1, d2⟩ | ⟨d1, d2⟩ <;> omega
/-! cell's FAULT; a row but for one place -/
def kCf (k y i : Int) (T L N : Int → Int) (lf : Int) : Prop := (¬ ((0 ≤ k ∧ k ≤ 3) ∧ (0 ≤ y ∧ y ≤ 2)) ∧ lf = 0) ∨ (((0 ≤ k ∧ k ≤ 3) ∧ (0 ≤ y ∧ y ≤ 2)) ∧ ((T k = 0 ∧ lf = 1) ∨ (T k = 1 ∧ ¬ L k = y ∧ lf = 2) ∨ (T k = 1 ∧ L k = y ∧ ¬ (0 ≤ i ∧ i ≤ N k - 1) ∧ lf = 3) ∨ (T k = 1 ∧ L k = y ∧ (0 ≤ i ∧ i ≤ N k - 1) ∧ lf = 0)))
def kCfG (y i t l n lf : Int) : Prop := (t = 0 ∧ lf = 1) ∨ (t = 1 ∧ ¬ l = y ∧ lf = 2) ∨ (t = 1 ∧ l = y ∧ ¬ (0 ≤ i ∧ i ≤ n - 1) ∧ lf = 3) ∨ (t = 1 ∧ l = y ∧ (0 ≤ i ∧ i ≤ n - 1) ∧ lf = 0)
theorem kCfG_P {y i t l n z lf : Int} (h : (z = 1 ∧ t = 0) ∨ (z = 0 ∧ t = 1 ∧ l = y) ∨ (z = 2 ∧ t = 1 ∧ ¬ l = y)) (e : lf = z) (nz : ¬ z = 0) : kCfG y i t l n lf := by
  rcases h with h | h | h
  · exact Or.inl ⟨h.2, by omega⟩
  · omega
  · exact Or.inr (Or.inl ⟨h.2.1, h.2.2, by omega⟩)
theorem kFC_P {i k x t l n z : Int} (h : (z = 1 ∧ t = 0) ∨ (z = 0 ∧ t = 1 ∧ l = x) ∨ (z = 2 ∧ t = 1 ∧ ¬ l = x)) (nz : ¬ z = 0) : (z = 1 ∧ t = 0) ∨ (z = 2 ∧ t = 1 ∧ ¬ l = x) ∨ (z = 3 ∧ t = 1 ∧ l = x ∧ ¬ (0 ≤ i ∧ i ≤ n ∧ 0 ≤ k ∧ k ≤ n - i)) ∨ (z = 0 ∧ t = 1 ∧ l = x ∧ 0 ≤ i ∧ i ≤ n ∧ 0 ≤ k ∧ k ≤ n - i) := by
  rcases h with h | h | h
  · exact Or.inl h
  · omega
  · exact Or.inr (Or.inl h)
theorem kCf_G {k y i t l n lf : Int} {T L N : Int → Int} (h : (0 ≤ k ∧ k ≤ 3) ∧ (0 ≤ y ∧ y ≤ 2)) (ht : T k = t) (hl : L k = l) (hn : N k = n) (hg : kCfG y i t l n lf) : kCf k y i T L N lf := Or.inr ⟨h, by rw [ht, hl, hn]; exact hg⟩
def kCfM (k y i : Int) (so sl : Nat → Int32) (lf : Int) : Prop := (¬ ((0 ≤ k ∧ k ≤ 3) ∧ (0 ≤ y ∧ y ≤ 2)) ∧ lf = 0) ∨ (((0 ≤ k ∧ k ≤ 3) ∧ (0 ≤ y ∧ y ≤ 2)) ∧ (((so k.toNat).toInt = -9 ∧ lf = 1) ∨ (¬ (so k.toNat).toInt = -9 ∧ ¬ (so k.toNat).toInt = y ∧ lf = 2) ∨ (¬ (so k.toNat).toInt = -9 ∧ (so k.toNat).toInt = y ∧ ¬ (0 ≤ i ∧ i ≤ (sl k.toNat).toInt - 1) ∧ lf = 3) ∨ (¬ (so k.toNat).toInt = -9 ∧ (so k.toNat).toInt = y ∧ (0 ≤ i ∧ i ≤ (sl k.toNat).toInt - 1) ∧ lf = 0)))
theorem kCf_rel {k y i lf fa : Int} {T L N : Int → Int} {F : Int → Nat → Int32} {so sl ce : Nat → Int32} (h : kSR T L N F so sl ce) (hx : kCf k y i T L N lf) (hm : kCfM k y i so sl fa) : lf = fa := by
  unfold kCf at hx
  unfold kCfM at hm
  by_cases c : (0 ≤ k ∧ k ≤ 3) ∧ (0 ≤ y ∧ y ≤ 2)
  · obtain ⟨h1, h2, h3, -⟩ := h k c.1.1 c.1.2
    have e2 : (sl k.toNat).toInt = N k := by rw [h2, zI_toInt (by omega)]
    rw [e2] at hm
    rcases h1 with ⟨a1, a2, a3, a4⟩ | ⟨a1, a2⟩
    · have e1 : (so k.toNat).toInt = L k := by rw [a4, zI_toInt (by omega)]
      rw [e1] at hm
      omega
    · have e1 : (so k.toNat).toInt = -9 := by rw [a2, zI_toInt (by omega)]
      rw [e1] at hm
      omega
  · omega
def kEx (f g : Nat → Int32) (k : Int) : Prop := ∀ i : Nat, ¬ i = k.toNat → f i = g i
theorem kEx_0 {f : Nat → Int32} {k : Int} : kEx f f k := fun _ _ => rfl
theorem kEx_s {f g h : Nat → Int32} {k : Int} {x : Int32} (a : kEx f g k) (e : upd f k.toNat x = h) : kEx h g k := fun i hi => by
  rw [← e, pk_un hi]
  exact a i hi
theorem kEx_e {f g h : Nat → Int32} {k z : Int} (a : kEx f g k) (ez : g k.toNat = zI z) (e : upd f k.toNat (zI z) = h) : h = g := by
  rw [← e]
  funext i
  by_cases c : i = k.toNat
  · subst c
    rw [pk_us, ez]
  · rw [pk_un c]
    exact a i c
theorem kEx_eq {f g : Nat → Int32} {k n : Int} (a : kEx f g k) (h : n ≤ k) (h0 : 0 ≤ k) : kEq f g n := fun i hi => a i (by omega)
theorem kRW_m {wn mn mn2 : Int} {fw wg wg2 : Nat → Int32} (h : kRW wn fw mn wg) (e : mn2 = mn) (q : kEq wg2 wg mn) : kRW wn fw mn2 wg2 := by
  obtain ⟨rfl, h⟩ := h
  exact ⟨e.symm, fun i hi => by rw [h i hi, q i hi]⟩
theorem kRP_m {pn fn : Int} {fp pf pf2 : Nat → Int32} (h : kRP pn fp fn pf) (hn : fn ≤ 4) (q : kEq pf2 pf 4) : kRP pn fp fn pf2 := ⟨h.1, fun i hi => by rw [h.2 i hi, q i (by omega)]⟩
theorem kRW_e {wn wn2 mn mn2 : Int} {fw wg : Nat → Int32} (h : kRW wn fw mn wg) (e : wn2 = mn2) (q : wn2 ≤ wn) : kRW wn2 fw mn2 wg := ⟨e, fun i hi => h.2 i (by omega)⟩
theorem kCd_a {th sz i jk z : Int} {fr : Nat → Int32} (hat : th = 1 ∧ 0 ≤ i + jk ∧ i + jk ≤ sz - 1) (hj : 0 ≤ jk) (rz : rg z) (ez : kAt th sz (i + jk) fr = zI z) : (kCd fr i jk.toNat).toInt = z := kCd_z hj rz ((kAt_in hat).symm.trans ez)
theorem kCd_e {th sz i jk z : Int} {fr : Nat → Int32} (hat : th = 1 ∧ 0 ≤ i + jk ∧ i + jk ≤ sz - 1) (hj : 0 ≤ jk) (ez : kAt th sz (i + jk) fr = zI z) : kCd fr i jk.toNat = zI z := by
  rw [kAt_in hat] at ez
  show fr (i + (jk.toNat : Int)).toNat = zI z
  rw [show i + (jk.toNat : Int) = i + jk by omega, ez]
theorem kCd_m {o jk z : Int} {f : Nat → Int32} (hj : 0 ≤ jk) (e : f (o + jk).toNat = zI z) : kCd f o jk.toNat = zI z := by
  show f (o + (jk.toNat : Int)).toNat = zI z
  rw [show o + (jk.toNat : Int) = o + jk by omega, e]
theorem kAd1 {n r un : Int} {uf U V : Nat → Int32} (h : (n < 24 ∧ r = 1 ∧ un = n + 1 ∧ uf = U) ∨ (24 ≤ n ∧ r = 0 ∧ un = n ∧ uf = V)) (c : n < 24) : uf = U := by
  rcases h with ⟨-, -, -, h⟩ | ⟨h, -⟩
  · exact h
  · omega
theorem kApp_t {f g a d : Nat → Int32} {m n j z : Int} (hu : g = upd a j.toNat (zI z)) (ha : a = kApp f m d n) (hj : j = m + n) (h0 : 0 ≤ n ∧ 0 ≤ m) (e : d n.toNat = zI z) : g = kApp f m d (n + 1) := kApp_s h0 e (by rw [hu, ha, hj])
theorem kLt_y {d : Nat → Int32} {k r : Int} (h : (r = 1 ∧ kLet d k) ∨ (r = 0 ∧ ¬ kLet d k)) (c : ¬ r = 0) : kLet d k := by
  rcases h with ⟨-, h⟩ | ⟨h, -⟩
  · exact h
  · exact absurd h c
theorem kLt_n {d : Nat → Int32} {k r : Int} (h : (r = 1 ∧ kLet d k) ∨ (r = 0 ∧ ¬ kLet d k)) (c : r = 0) : ¬ kLet d k := by
  rcases h with ⟨h, -⟩ | ⟨-, h⟩
  · omega
  · exact h
theorem kMvE {a g f : Nat → Int32} {w j : Int} {x : Int32} (eg : upd a (0 : Int).toNat x = g) (ea : a = kMv f w j) (ej : j = 0) : g = upd (kMv f w 0) 0 x := by
  subst ej
  subst ea
  exact eg.symm
def kCq (f g : Nat → Int32) (n : Int) : Prop := ∀ i : Nat, (i : Int) < n → f (1 + i) = g i
theorem kCq_0 {f g : Nat → Int32} : kCq f g 0 := fun i h => by omega
theorem kCq_f {f f2 g : Nat → Int32} {n z : Int} (h : kCq f g n) (h0 : 0 ≤ n) (e : g n.toNat = zI z) (e2 : upd f (1 + n).toNat (zI z) = f2) : kCq f2 g (n + 1) := by
  intro i hi
  rw [← e2]
  by_cases q : i = n.toNat
  · subst q
    rw [show (1 + n).toNat = 1 + n.toNat by omega, pk_us, e]
  · rw [pk_un (by omega)]
    exact h i (by omega)
theorem kCq_g {f g g2 : Nat → Int32} {n z : Int} (h : kCq f g n) (h0 : 0 ≤ n) (e : f (1 + n).toNat = zI z) (e2 : upd g n.toNat (zI z) = g2) : kCq f g2 (n + 1) := by
  intro i hi
  rw [← e2]
  by_cases q : i = n.toNat
  · subst q
    rw [show 1 + n.toNat = (1 + n).toNat by omega, pk_us, e]
  · rw [pk_un q]
    exact h i (by omega)
theorem kCq_u {f f2 g : Nat → Int32} {n j : Int} {x : Int32} (h : kCq f g n) (hn : n ≤ 24) (hj : 0 ≤ j) (e : upd f (25 + j).toNat x = f2) : kCq f2 g n := fun i hi => by
  rw [← e, pk_un (by omega)]
  exact h i hi
theorem kCq_le {f g : Nat → Int32} {n m : Int} (h : kCq f g n) (e : m ≤ n) : kCq f g m := fun i hi => h i (by omega)
theorem kCp_le {f g : Nat → Int32} {n m : Int} (h : kCp f g n) (e : m ≤ n) : kCp f g m := fun i hi => h i (by omega)
theorem kCq_eq {f g u : Nat → Int32} {n : Int} (h : kCq f g n) (h2 : kCq f u n) : kEq u g n := fun i hi => (h2 i hi).symm.trans (h i hi)
theorem kCp_eq {f g u : Nat → Int32} {n : Int} (h : kCp f g n) (h2 : kCp f u n) : kEq u g n := fun i hi => (h2 i hi).symm.trans (h i hi)
