/-! what both sides have in common between two calls -/
def kC (f : Nat → Int32) (c : Int) (n : Int) : Prop := ∀ i : Nat, (i : Int) < n → f i = zI c
theorem kC_0 {f : Nat → Int32} {c : Int} : kC f c 0 := fun i h => by omega
theorem kC_s {f g : Nat → Int32} {c n : Int} (h : kC f c n) (h0 : 0 ≤ n) (e : upd f n.toNat (zI c) = g) : kC g c (n + 1) := by
  intro i hi
  rw [← e]
  by_cases q : i = n.toNat
  · subst q
    rw [pk_us]
  · rw [pk_un q]
    exact h i (by omega)
theorem kC_le {f : Nat → Int32} {c n m : Int} (h : kC f c n) (e : m ≤ n) : kC f c m := fun i hi => h i (by omega)
def kRF (fn : Int) (fk fb fh : Nat → Int32) (mf : Int) (kd wd hs : Nat → Int32) : Prop := fn = mf ∧ kEq fk kd fn ∧ kEq fb wd fn ∧ kEq fh hs fn ∧ ∀ i : Nat, (i : Int) < fn → (0 ≤ (fk i).toInt ∧ (fk i).toInt ≤ 2) ∧ (0 ≤ (fh i).toInt ∧ (fh i).toInt < 65536)
def kRP (pn : Int) (fp : Nat → Int32) (fn : Int) (pf : Nat → Int32) : Prop := pn = fn ∧ kEq fp pf fn
def kRL (fn rn : Int) (fy lt : Nat → Int32) : Prop := (fn = 0 → rn = 0) ∧ (¬ fn = 0 → ∀ i : Nat, i < 5 → lt i = if (i : Int) < rn then fy i else zI (-9))
def kRW (wn : Int) (fw : Nat → Int32) (mn : Int) (wg : Nat → Int32) : Prop := wn = mn ∧ kEq fw wg wn
theorem kRF_z {f g h a b c : Nat → Int32} : kRF 0 f g h 0 a b c := ⟨rfl, fun i q => by omega, fun i q => by omega, fun i q => by omega, fun i q => by omega⟩
theorem kRP_z {f g : Nat → Int32} : kRP 0 f 0 g := ⟨rfl, fun i q => by omega⟩
theorem kRL_z {f g : Nat → Int32} : kRL 0 0 f g := ⟨fun _ => rfl, fun q => absurd rfl q⟩
theorem kRW_z {f g : Nat → Int32} : kRW 0 f 0 g := ⟨rfl, fun i q => by omega⟩
/-! fonts -/
abbrev kFS : Type := Int × (Nat → Int32) × (Nat → Int32) × (Nat → Int32) × Int × Int × (Nat → Int32) × Int × Int
abbrev kFM : Type := Int × (Nat → Int32) × (Nat → Int32) × (Nat → Int32) × Int × (Nat → Int32) × (Nat → Int32) × Int
def kNw (S : kFS) (n : Int) (a b c : Nat → Int32) : Prop := S.1 = n ∧ kEq S.2.1 a 4 ∧ kEq S.2.2.1 b 4 ∧ kEq S.2.2.2.1 c 4 ∧ S.2.2.2.2.1 = 0 ∧ S.2.2.2.2.2.1 = n ∧ kId S.2.2.2.2.2.2.1 n ∧ S.2.2.2.2.2.2.2.1 = 0 ∧ S.2.2.2.2.2.2.2.2 = 0
def kNwM (S : kFM) (n : Int) (a b c : Nat → Int32) : Prop := S.1 = n ∧ kEq S.2.1 a n ∧ kEq S.2.2.1 b n ∧ kEq S.2.2.2.1 c n ∧ S.2.2.2.2.1 = 0 ∧ kId S.2.2.2.2.2.1 n ∧ kC S.2.2.2.2.2.2.1 (-9) 5 ∧ S.2.2.2.2.2.2.2 = 0
def kFoI (f A B C : Nat → Int32) (i z : Int) (S S2 : kFS) (r : Int) : Prop := (∃ q : Int, (0 ≤ q ∧ q ≤ z) ∧ kBad (kCd f i) A B C (kNa z) (kNa q) ∧ r = -100 - q ∧ S2 = S) ∨ (∃ a b c, kGo (kCd f i) A B C (kNa z) = some (5, r, a, b, c) ∧ kNw S2 r a b c)
def kFoJ (f A B C : Nat → Int32) (i z : Int) (S S2 : kFM) (r : Int) : Prop := (∃ q : Int, (0 ≤ q ∧ q ≤ z) ∧ kBad (kCd f i) A B C (kNa z) (kNa q) ∧ r = -100 - q ∧ S2 = S) ∨ (∃ a b c, kGo (kCd f i) A B C (kNa z) = some (5, r, a, b, c) ∧ kNwM S2 r a b c)
section
variable {f A B C a b c : Nat → Int32} {i z r q un : Int}
theorem kFoI_1 {S : kFS} (h : kFf (kCd f i) A B C z q un a b c) (hq : ¬ q = -9) (er : r = -100 - q) : kFoI f A B C i z S S r := by
  rcases h with ⟨h1, -⟩ | ⟨h1, h2⟩
  · exact absurd h1 hq
  · exact Or.inl ⟨q, h1, h2, er, rfl⟩
theorem kFoI_2 {S S2 : kFS} (h : kFf (kCd f i) A B C z q un a b c) (hq : q = -9) (er : r = un) (hN : kNw S2 un a b c) : kFoI f A B C i z S S2 r := by
  rcases h with ⟨h1, h2⟩ | ⟨h1, -⟩
  · subst er
    exact Or.inr ⟨a, b, c, h2, hN⟩
  · omega
theorem kFoJ_1 {S : kFM} {o en ja jr r9 : Int} (h : kRd9 f A B C o en ja jr a b c r9) (h0 : r9 = 0) (ho : o ≤ ja ∧ ja ≤ en) (ez : z = en - o) (er : r = -100 - (ja - o)) : kFoJ f A B C o z S S r := by
  subst ez
  rcases h with ⟨h1, -⟩ | ⟨-, h2⟩
  · omega
  · exact Or.inl ⟨ja - o, by omega, h2, er, rfl⟩
theorem kFoJ_2 {S S2 : kFM} {o en ja jr r9 : Int} (h : kRd9 f A B C o en ja jr a b c r9) (h0 : ¬ r9 = 0) (ez : z = en - o) (er : r = jr) (hN : kNwM S2 jr a b c) : kFoJ f A B C o z S S2 r := by
  subst ez
  subst er
  rcases h with ⟨-, h2⟩ | ⟨h1, -⟩
  · exact Or.inr ⟨a, b, c, h2, hN⟩
  · exact absurd h1 h0
end
section
variable {T L N : Int → Int} {F : Int → Nat → Int32} {so sl ce : Nat → Int32} {k y i z lf fa rx rm : Int} {A B C A2 B2 C2 : Nat → Int32}
variable {fn wn pn rn dn fn2 wn2 pn2 rn2 dn2 mf mn dm mf2 mn2 dm2 : Int} {fk fb fh fp fk2 fb2 fh2 fp2 kd wd hs pf lt kd2 wd2 hs2 pf2 lt2 fy fw wg : Nat → Int32}
def kFoX (T L N : Int → Int) (F : Int → Nat → Int32) (A B C : Nat → Int32) (k y i z : Int) (S S2 : kFS) (lf rz : Int) : Prop := kGa k (¬ (0 ≤ y ∧ y ≤ 2)) (fun l9 r9 => kGt (fun w9 => kAg (T k) (L k) (N k) y i z w9) (kFoI (F k) A B C i z S S2) (S2 = S) l9 r9) (S2 = S) lf rz
def kFoM (so sl ce A B C : Nat → Int32) (k y i z : Int) (S S2 : kFM) (lf rz : Int) : Prop := kGa k (¬ (0 ≤ y ∧ y ≤ 2)) (fun l9 r9 => kGt (fun w9 => kAgM (so k.toNat).toInt (sl k.toNat).toInt y i z w9) (kFoJ ce A B C (60 * k + i) z S S2) (S2 = S) l9 r9) (S2 = S) lf rz
theorem kFoX_G {t l n rz : Int} {f : Nat → Int32} {S S2 : kFS} (h : 0 ≤ k ∧ k ≤ 3) (hy : 0 ≤ y ∧ y ≤ 2) (ht : T k = t) (hl : L k = l) (hn : N k = n) (hf : F k = f) (hg : kGt (fun w9 => kAg t l n y i z w9) (kFoI f A B C i z S S2) (S2 = S) lf rz) : kFoX T L N F A B C k y i z S S2 lf rz := by
  unfold kFoX
  rw [ht, hl, hn, hf]
  exact kGa_3 h (fun q => q hy) hg
theorem kFo_rel (hS : kSR T L N F so sl ce) (hx : kFoX T L N F A B C k y i z (fn, fk, fb, fh, wn, pn, fp, rn, dn) (fn2, fk2, fb2, fh2, wn2, pn2, fp2, rn2, dn2) lf rx) (hm : kFoM so sl ce A2 B2 C2 k y i z (mf, kd, wd, hs, mn, pf, lt, dm) (mf2, kd2, wd2, hs2, mn2, pf2, lt2, dm2) fa rm) (r1 : kRF fn fk fb fh mf kd wd hs) (r2 : kRP pn fp fn pf) (r3 : kRL fn rn fy lt) (r4 : kRW wn fw mn wg) (r5 : dn = dm) :
    lf = fa ∧ rx = rm ∧ kRF fn2 fk2 fb2 fh2 mf2 kd2 wd2 hs2 ∧ kRP pn2 fp2 fn2 pf2 ∧ kRL fn2 rn2 fy lt2 ∧ kRW wn2 fw mn2 wg ∧ dn2 = dm2 := by
  obtain ⟨e1, h⟩ := kGa_rel hx hm (fun hk _ w v a b => kAg_rel hS hk a b)
  refine ⟨e1, ?_⟩
  rcases h with ⟨s1, s2, e2⟩ | ⟨hk, -, ag, ix, im⟩
  · simp only [Prod.mk.injEq] at s1 s2
    obtain ⟨rfl, rfl, rfl, rfl, rfl, rfl, rfl, rfl, rfl⟩ := s1
    obtain ⟨rfl, rfl, rfl, rfl, rfl, rfl, rfl, rfl⟩ := s2
    exact ⟨e2, r1, r2, r3, r4, r5⟩
  · have ec := kCd_rel hS hk ag
    rcases ix with ⟨q, q1, q2, q3, q4⟩ | ⟨a, b, c, g1, g2⟩
    · rcases im with ⟨p, p1, p2, p3, p4⟩ | ⟨a, b, c, g1, g2⟩
      · have u := kBad_uniq (kBad_cong (kBad_lk (A2 := A2) (B2 := B2) (C2 := C2) q2) ec) p2
        have u2 : q.toNat = p.toNat := u
        simp only [Prod.mk.injEq] at q4 p4
        obtain ⟨rfl, rfl, rfl, rfl, rfl, rfl, rfl, rfl, rfl⟩ := q4
        obtain ⟨rfl, rfl, rfl, rfl, rfl, rfl, rfl, rfl⟩ := p4
        exact ⟨by omega, r1, r2, r3, r4, r5⟩
      · exact (kBad_not (kBad_cong (kBad_lk (A2 := A2) (B2 := B2) (C2 := C2) q2) ec) g1).elim
    · rw [kGo_cong _ ec] at g1
      rcases im with ⟨p, p1, p2, p3, p4⟩ | ⟨a2, b2, c2, m1, m2⟩
      · exact (kBad_not (kBad_lk (A2 := A) (B2 := B) (C2 := C) p2) g1).elim
      · obtain ⟨u1, u2, u3, u4⟩ := kGo5 g1 m1
        obtain ⟨v1, v2, v3, v4, v5, v6, v7, v8, v9⟩ := g2
        obtain ⟨w1, w2, w3, w4, w5, w6, w7, w8⟩ := m2
        dsimp only at v1 v2 v3 v4 v5 v6 v7 v8 v9 w1 w2 w3 w4 w5 w6 w7 w8
        refine ⟨u1, ⟨by omega, ?_, ?_, ?_, ?_⟩, ⟨by omega, ?_⟩, ⟨fun _ => v8, ?_⟩, ⟨by omega, ?_⟩, by omega⟩
        · intro j hj
          rw [v2 j (by omega), w2 j (by omega)]
          exact (u3 j (by omega)).1
        · intro j hj
          rw [v3 j (by omega), w3 j (by omega)]
          exact (u3 j (by omega)).2.1
        · intro j hj
          rw [v4 j (by omega), w4 j (by omega)]
          exact (u3 j (by omega)).2.2
        · intro j hj
          rw [v2 j (by omega), v4 j (by omega)]
          exact u4 j (by omega)
        · intro j hj
          rw [v7 j (by omega), w6 j (by omega)]
        · intro _ j hj
          rw [w7 j (by omega), if_neg (by omega)]
        · intro j hj
          omega
end
/-! write -/
abbrev kWS : Type := Int × (Nat → Int32) × Int × Int64
def kLet (d : Nat → Int32) (n : Int) : Prop := ∀ j : Nat, (j : Int) < n → 0 ≤ (d j).toInt ∧ (d j).toInt ≤ 15
def kApp (f : Nat → Int32) (m : Int) (d : Nat → Int32) (n : Int) : Nat → Int32 := fun i => if m ≤ (i : Int) ∧ (i : Int) < m + n then d ((i : Int) - m).toNat else f i
def kCk (d : Nat → Int32) (w : Int64) : Nat → Int64
  | 0 => w
  | j + 1 => 31 * kCk d w j + (d j).toInt64 + 1
def kWrI (d : Nat → Int32) (fn z : Int) (S S2 : kWS) (r : Int) : Prop := (fn = 0 ∧ r = -3 ∧ S2 = S) ∨ (¬ fn = 0 ∧ ¬ kLet d z ∧ r = -2 ∧ S2 = S) ∨ (¬ fn = 0 ∧ kLet d z ∧ 24 < S.1 + z ∧ r = -4 ∧ S2 = S) ∨ (¬ fn = 0 ∧ kLet d z ∧ S.1 + z ≤ 24 ∧ r = S.1 + z ∧ S2.1 = S.1 + z ∧ S2.2.1 = kApp S.2.1 S.1 d z ∧ zI S2.2.2.1 = zI (S.2.2.1 + z) ∧ S2.2.2.2 = kCk d S.2.2.2 (kNa z))
section
variable {d : Nat → Int32} {n x : Int}
theorem kLet_0 : kLet d 0 := fun j h => by omega
theorem kLet_s (h : kLet d n) (h0 : 0 ≤ n) (e : (d n.toNat).toInt = x) (hx : 0 ≤ x ∧ x ≤ 15) : kLet d (n + 1) := by
  intro j hj
  by_cases q : j = n.toNat
  · subst q
    rw [e]
    exact hx
  · exact h j (by omega)
theorem kLet_le {m : Int} (h : kLet d n) (e : m ≤ n) : kLet d m := fun j hj => h j (by omega)
theorem kLet_not {m : Int} (h0 : 0 ≤ n ∧ n < m) (e : (d n.toNat).toInt = x) (hx : ¬ (0 ≤ x ∧ x ≤ 15)) : ¬ kLet d m := by
  intro h
  have := h n.toNat (by omega)
  rw [e] at this
  exact hx this
theorem kLet_cong {d2 : Nat → Int32} (h : kLet d n) (e : ∀ j, j < n.toNat → d j = d2 j) : kLet d2 n := fun j hj => by
  rw [← e j (by omega)]
  exact h j hj
theorem kApp_0 {f : Nat → Int32} {m : Int} : kApp f m d 0 = f := by
  funext i
  unfold kApp
  rw [if_neg (by omega)]
theorem kApp_s {f g : Nat → Int32} {m z : Int} (h0 : 0 ≤ n ∧ 0 ≤ m) (e : d n.toNat = zI z) (eg : upd (kApp f m d n) (m + n).toNat (zI z) = g) : g = kApp f m d (n + 1) := by
  rw [← eg]
  funext i
  unfold kApp
  by_cases q : i = (m + n).toNat
  · subst q
    rw [pk_us, if_pos (by omega), show (((m + n).toNat : Nat) : Int) - m = n by omega, e]
  · rw [pk_un q]
    by_cases c : m ≤ (i : Int) ∧ (i : Int) < m + n
    · rw [if_pos c, if_pos (by omega)]
    · rw [if_neg c, if_neg (by omega)]
theorem kApp_eq {f g d2 : Nat → Int32} {m : Int} (h : kEq f g m) (h0 : 0 ≤ n ∧ 0 ≤ m) (e : ∀ j, j < n.toNat → d j = d2 j) : kEq (kApp f m d n) (kApp g m d2 n) (m + n) := by
  intro i hi
  unfold kApp
  by_cases c : m ≤ (i : Int) ∧ (i : Int) < m + n
  · rw [if_pos c, if_pos c, e _ (by omega)]
  · rw [if_neg c, if_neg c, h i (by omega)]
theorem kCk_cong {d2 : Nat → Int32} {w : Int64} : ∀ k : Nat, (∀ j, j < k → d j = d2 j) → kCk d w k = kCk d2 w k
  | 0, _ => rfl
  | k + 1, h => by
    show 31 * kCk d w k + (d k).toInt64 + 1 = 31 * kCk d2 w k + (d2 k).toInt64 + 1
    rw [kCk_cong k (fun j hj => h j (by omega)), h k (by omega)]
theorem kCk_s {w v v2 : Int64} {z : Int} (h : v = kCk d w (kNa n)) (h0 : 0 ≤ n) (e : d n.toNat = zI z) (ev : v2 = 31 * v + (zI z).toInt64 + 1) : v2 = kCk d w (kNa (n + 1)) := by
  have e1 : kNa (n + 1) = kNa n + 1 := by show (n + 1).toNat = n.toNat + 1; omega
  rw [e1]
  show v2 = 31 * kCk d w (kNa n) + (d (kNa n)).toInt64 + 1
  rw [← h, ev, show d (kNa n) = zI z from e]
theorem kTl_s {a b z : Int} (h : zI a = zI (b + n)) (e : zI (a + 1) = zI z) : zI z = zI (b + (n + 1)) := by
  rw [← e, ← zI_add, h, zI_add, show b + n + 1 = b + (n + 1) by omega]
end
section
variable {T L N : Int → Int} {F : Int → Nat → Int32} {so sl ce : Nat → Int32} {k y i z lf fa rx rm : Int}
variable {fn mf wn mn wn2 mn2 ew ta ew2 ta2 : Int} {fw wg fw2 wg2 : Nat → Int32} {wc ck wc2 ck2 : Int64}
def kWrB (y z : Int) : Prop := ¬ (0 ≤ y ∧ y ≤ 2) ∨ ¬ (0 ≤ z ∧ z ≤ 24)
def kWrX (T L N : Int → Int) (F : Int → Nat → Int32) (k y i z fn : Int) (S S2 : kWS) (lf rz : Int) : Prop := kGa k (kWrB y z) (fun l9 r9 => kGt (fun w9 => kAg (T k) (L k) (N k) y i z w9) (kWrI (kCd (F k) i) fn z S S2) (S2 = S) l9 r9) (S2 = S) lf rz
def kWrM (so sl ce : Nat → Int32) (k y i z fn : Int) (S S2 : kWS) (lf rz : Int) : Prop := kGa k (kWrB y z) (fun l9 r9 => kGt (fun w9 => kAgM (so k.toNat).toInt (sl k.toNat).toInt y i z w9) (kWrI (kCd ce (60 * k + i)) fn z S S2) (S2 = S) l9 r9) (S2 = S) lf rz
theorem kWrX_G {t l n rz : Int} {f : Nat → Int32} {S S2 : kWS} (h : 0 ≤ k ∧ k ≤ 3) (hy : (0 ≤ y ∧ y ≤ 2) ∧ (0 ≤ z ∧ z ≤ 24)) (ht : T k = t) (hl : L k = l) (hn : N k = n) (hf : F k = f) (hg : kGt (fun w9 => kAg t l n y i z w9) (kWrI (kCd f i) fn z S S2) (S2 = S) lf rz) : kWrX T L N F k y i z fn S S2 lf rz := by
  unfold kWrX
  rw [ht, hl, hn, hf]
  exact kGa_3 h (fun q => by unfold kWrB at q; omega) hg
theorem kWr_rel (hS : kSR T L N F so sl ce) (hx : kWrX T L N F k y i z fn (wn, fw, ew, wc) (wn2, fw2, ew2, wc2) lf rx) (hm : kWrM so sl ce k y i z mf (mn, wg, ta, ck) (mn2, wg2, ta2, ck2) fa rm) (e : fn = mf) (hw : 0 ≤ wn) (g1 : rg ew2) (g2 : rg ta2) (r4 : kRW wn fw mn wg) (r5 : ew = ta) (r6 : wc = ck) :
    lf = fa ∧ rx = rm ∧ kRW wn2 fw2 mn2 wg2 ∧ ew2 = ta2 ∧ wc2 = ck2 := by
  obtain ⟨e1, h⟩ := kGa_rel hx hm (fun hk _ w v a b => kAg_rel hS hk a b)
  refine ⟨e1, ?_⟩
  subst e
  subst r5
  subst r6
  obtain ⟨rfl, r8⟩ := r4
  rcases h with ⟨s1, s2, e2⟩ | ⟨hk, hb, ag, ix, im⟩
  · simp only [Prod.mk.injEq] at s1 s2
    obtain ⟨rfl, rfl, rfl, rfl⟩ := s1
    obtain ⟨rfl, rfl, rfl, rfl⟩ := s2
    exact ⟨e2, ⟨rfl, r8⟩, rfl, rfl⟩
  · have ec := kCd_rel hS hk ag
    have ec2 : ∀ j, j < z.toNat → kCd ce (60 * k + i) j = kCd (F k) i j := fun j hj => (ec j hj).symm
    have hz : 0 ≤ z := by unfold kWrB at hb; omega
    rcases ix with ⟨a1, a2, a3⟩ | ⟨a1, a2, a3, a4⟩ | ⟨a1, a2, a3, a4, a5⟩ | ⟨a1, a2, a3, a4, a5, a6, a7, a8⟩
    · rcases im with ⟨b1, b2, b3⟩ | ⟨b1, b2, b3, b4⟩ | ⟨b1, b2, b3, b4, b5⟩ | ⟨b1, b2, b3, b4, b5, b6, b7, b8⟩
      · simp only [Prod.mk.injEq] at a3 b3
        obtain ⟨rfl, rfl, rfl, rfl⟩ := a3
        obtain ⟨rfl, rfl, rfl, rfl⟩ := b3
        exact ⟨by omega, ⟨rfl, r8⟩, rfl, rfl⟩
      · exact absurd a1 b1
      · exact absurd a1 b1
      · exact absurd a1 b1
    · rcases im with ⟨b1, b2, b3⟩ | ⟨b1, b2, b3, b4⟩ | ⟨b1, b2, b3, b4, b5⟩ | ⟨b1, b2, b3, b4, b5, b6, b7, b8⟩
      · exact absurd b1 a1
      · simp only [Prod.mk.injEq] at a4 b4
        obtain ⟨rfl, rfl, rfl, rfl⟩ := a4
        obtain ⟨rfl, rfl, rfl, rfl⟩ := b4
        exact ⟨by omega, ⟨rfl, r8⟩, rfl, rfl⟩
      · exact absurd (kLet_cong b2 ec2) a2
      · exact absurd (kLet_cong b2 ec2) a2
    · rcases im with ⟨b1, b2, b3⟩ | ⟨b1, b2, b3, b4⟩ | ⟨b1, b2, b3, b4, b5⟩ | ⟨b1, b2, b3, b4, b5, b6, b7, b8⟩
      · exact absurd b1 a1
      · exact absurd (kLet_cong a2 ec) b2
      · simp only [Prod.mk.injEq] at a5 b5
        obtain ⟨rfl, rfl, rfl, rfl⟩ := a5
        obtain ⟨rfl, rfl, rfl, rfl⟩ := b5
        exact ⟨by omega, ⟨rfl, r8⟩, rfl, rfl⟩
      · dsimp only at a3 b3
        omega
    · rcases im with ⟨b1, b2, b3⟩ | ⟨b1, b2, b3, b4⟩ | ⟨b1, b2, b3, b4, b5⟩ | ⟨b1, b2, b3, b4, b5, b6, b7, b8⟩
      · exact absurd b1 a1
      · exact absurd (kLet_cong a2 ec) b2
      · dsimp only at a3 b3
        omega
      · dsimp only at a3 a4 a5 a6 a7 a8 b3 b4 b5 b6 b7 b8
        refine ⟨by omega, ⟨by omega, ?_⟩, (zI_eq g1 g2).mp (by rw [a7, b7]), ?_⟩
        · rw [a5, a6, b6]
          exact kApp_eq r8 ⟨hz, hw⟩ ec
        · rw [a8, b8]
          exact kCk_cong _ ec
end
