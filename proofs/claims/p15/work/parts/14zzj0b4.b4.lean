/-! a SETTING, the class's and the reference's -/
def kLt (w : Nat → Int32) (k i : Nat) : Int32 := kOr w ((kCt w k).2 i) (kEn w k i - (kCt w k).2 i)
def kSE (w : Nat → Int32) (m : Int) (has : Nat → Int32) (n wo : Int) (fp : Nat → Int32) (pn cn bo ru : Int) (f1 f2 f3 f4 f5 : Nat → Int32) : Prop := ∃ (L : Nat → Int32) (gp : Nat → Nat → Int32) (o : Nat) (al : Int), zI al = kAw n wo ∧ kCu w (kNa m) cn f1 f2 L ∧ kFz f3 L has n al cn ∧ bo = kBx f3 (kNa cn) ∧ kBh gp o f3 (zI al) cn 0 ∧ kCe gp o fp pn f4 cn ∧ ru = kRn f4 (kNa cn) ∧ kRo f5 f4 cn
def kRc (w : Nat → Int32) (m : Int) (has : Nat → Int32) (n wo cl bo : Int) (sa fi : Nat → Int32) : Prop := kSa w (kNa m) cl sa ∧ sa (kNa cl) = zI m ∧ (∀ i : Nat, (i : Int) < cl → fi i = kFb (kHm has wo (kLt w (kNa m) i)) (kNa n)) ∧ bo = kBx fi (kNa cl)
theorem kCt_cong {w v : Nat → Int32} : ∀ k : Nat, (∀ i, i < k → w i = v i) → kCt w k = kCt v k
  | 0, _ => rfl
  | k + 1, h => by
    have ih := kCt_cong k (fun i hi => h i (by omega))
    by_cases c : k = 0 ∨ (w k).toInt < 12
    · rw [kCt_y c, kCt_y (show k = 0 ∨ (v k).toInt < 12 by rw [← h k (by omega)]; exact c), ih]
    · rw [kCt_n c, kCt_n (show ¬ (k = 0 ∨ (v k).toInt < 12) by rw [← h k (by omega)]; exact c), ih]
theorem kOr_cong {w v : Nat → Int32} {a : Nat} : ∀ m : Nat, (∀ i, i < a + m → w i = v i) → kOr w a m = kOr v a m
  | 0, _ => rfl
  | m + 1, h => by
    show kOr w a m ||| _ = kOr v a m ||| _
    rw [kOr_cong m (fun i hi => h i (by omega)), h (a + m) (by omega)]
theorem kEn_le {w : Nat → Int32} {k i : Nat} : kEn w k i ≤ k := by
  unfold kEn
  split
  · rename_i h
    have := (kCt_b (w := w) k).2.2.1 (i + 1) h
    omega
  · omega
theorem kEn_cong {w v : Nat → Int32} {k i : Nat} (h : ∀ i, i < k → w i = v i) : kEn w k i = kEn v k i := by
  unfold kEn
  rw [kCt_cong k h]
theorem kEn_gt {w : Nat → Int32} {k i : Nat} (hi : i < (kCt w k).1) : (kCt w k).2 i < kEn w k i := by
  unfold kEn
  obtain ⟨b1, b2, b3, b4⟩ := kCt_b (w := w) k
  by_cases q : i + 1 < (kCt w k).1
  · rw [if_pos q]
    exact b4 i q
  · rw [if_neg q]
    exact b3 i hi
theorem kLt_cong {w v : Nat → Int32} {k i : Nat} (h : ∀ i, i < k → w i = v i) (hi : i < (kCt w k).1) : kLt w k i = kLt v k i := by
  unfold kLt
  rw [← kEn_cong h, ← kCt_cong k h]
  have a := kEn_gt hi
  have b := kEn_le (w := w) (k := k) (i := i)
  exact kOr_cong _ (fun j hj => h j (by omega))
section
variable {w v has hs fp pf f1 f2 f3 f4 f5 sa fi ch cs : Nat → Int32} {m m2 n n2 wo pn cn bo ru cl b2 c f b : Int}
/-- the CLUSTERS are the same -/
theorem kSR_clu (h : kSE w m has n wo fp pn cn bo ru f1 f2 f3 f4 f5) (r : kRc v m2 hs n2 wo cl b2 sa fi) (hm : m = m2) (hw : kEq w v m) (hn : n = n2) (hh : kEq has hs n) (bm : 0 ≤ m) (bn : 0 ≤ n ∧ n ≤ 4) (bw : wo = -9 ∨ (0 ≤ wo ∧ wo ≤ 3)) : cn = cl ∧ bo = b2 ∧ (∀ i : Nat, (i : Int) < cn → f1 i = sa i ∧ f2 i = sa (i + 1) - sa i ∧ f3 i = fi i) ∧ (0 ≤ cn ∧ cn ≤ m) ∧ ∀ i : Nat, (i : Int) < cn → fi i = kFb (kHm hs wo (kLt v (kNa m2) i)) (kNa n2) := by
  obtain ⟨L, gp, o, al, e0, h1, h2, h3, -, -, -, -⟩ := h
  obtain ⟨r1, r2, r3, r4⟩ := r
  subst hm hn
  have hw2 : ∀ i, i < kNa m → w i = v i := fun i hi => hw i (by have : i < m.toNat := hi; omega)
  have ec := kCt_cong (kNa m) hw2
  have cc : cn = cl := by rw [h1.1, r1.1, ec]
  have bd := kCt_b (w := w) (kNa m)
  have cb : 0 ≤ cn ∧ cn ≤ m := by
    have q := h1.1
    have q2 := bd.1
    have q3 := kNc bm
    omega
  have key : ∀ i : Nat, (i : Int) < cn → f1 i = sa i ∧ f2 i = sa (i + 1) - sa i ∧ f3 i = fi i := fun i hi => by
    have hi2 : i < (kCt w (kNa m)).1 := by have := h1.1; omega
    obtain ⟨t1, t2, t3⟩ := h1.2 i hi2
    have s1 := r1.2 i (by rw [← ec]; exact hi2)
    have s1' : sa i = zI ((kCt w (kNa m)).2 i : Nat) := by rw [ec]; exact s1
    have s2 : sa (i + 1) = zI ((kEn w (kNa m) i : Nat) : Int) := by
      unfold kEn
      by_cases q : i + 1 < (kCt w (kNa m)).1
      · rw [if_pos q, ec]
        exact r1.2 (i + 1) (by rw [← ec]; exact q)
      · rw [if_neg q, kNc bm, ← r2]
        congr 1
        have := h1.1
        have q3 := kNc (show 0 ≤ cl by omega)
        omega
    refine ⟨by rw [t1, s1'], by rw [t2, s2, s1', zI_sub], ?_⟩
    rw [h2 i hi, r3 i (by omega), t3, e0, kFb_aw bn bw]
    refine kFb_cong _ (fun f hf => ?_)
    have f4 : f < n.toNat := hf
    rw [kXb_hm]
    show decide (¬ (f : Int) = wo ∧ _ &&& (has f ^^^ zI (-1)) = zI 0) = decide (¬ (f : Int) = wo ∧ _ &&& (hs f ^^^ zI (-1)) = zI 0)
    rw [hh f (by omega), show kOr w ((kCt w (kNa m)).2 i) (kEn w (kNa m) i - (kCt w (kNa m)).2 i) = kLt w (kNa m) i from rfl, kLt_cong hw2 hi2]
  refine ⟨cc, ?_, key, cb, fun i hi => r3 i (by omega)⟩
  rw [h3, r4, cc]
  exact kBx_cong _ (fun i hi => (key i (by have : i < cl.toNat := hi; omega)).2.2)
/-- what is open -/
theorem kFit_of (h : kFt fi n cl wo) (hn : 1 ≤ n ∧ n ≤ 4) (hw : wo = -9 ∨ (0 ≤ wo ∧ wo ≤ 3 ∧ 2 ≤ n)) : kFit fi n cl wo := by
  intro c h1 h2
  rcases h c h1 h2 with e | e
  · by_cases q : wo = 0
    · exact ⟨1, by omega, by omega, by omega, Or.inl e⟩
    · exact ⟨0, by omega, by omega, by omega, Or.inl e⟩
  · exact e
variable {gp : Nat → Nat → Int32} {o : Nat} {al : Int}
/-- the class's table against the reference's -/
theorem kDpB (hb : kBh gp o f3 (zI al) cl 0) (ea : zI al = kAw n wo) (e3 : ∀ i : Nat, (i : Int) < cl → f3 i = fi i) (ef : ∀ i : Nat, (i : Int) < cl → ∃ (hs2 : Nat → Int32) (x : Int32), fi i = kFb (kHm hs2 wo x) (kNa n)) (bn : 0 ≤ n ∧ n ≤ 4) (bw : wo = -9 ∨ (0 ≤ wo ∧ wo ≤ 3)) (hc : 0 ≤ c ∧ c < cl) (hf : 0 ≤ f ∧ f < 4) : kOp (f3 c.toNat) (zI al) f ↔ (f < n ∧ kCan (fi c.toNat) f wo) := by
  obtain ⟨hs2, x, e⟩ := ef c.toNat (by omega)
  rw [e3 c.toNat (by omega), e, ea]
  exact kOp_can bn bw hf
theorem kDpE (hb : kBh gp o f3 (zI al) cl 0) (op : ∀ c f : Int, 0 ≤ c ∧ c < cl → 0 ≤ f ∧ f < 4 → (kOp (f3 c.toNat) (zI al) f ↔ (f < n ∧ kCan (fi c.toNat) f wo))) (bn : 0 ≤ n ∧ n ≤ 4) (hd : kDp ch fi n cl wo 0) (hfit : kFit fi n cl wo) (hcl : cl ≤ 24) : ∀ (k : Nat) (c f : Int), (cl - 1 - c).toNat = k → 0 ≤ c → c < cl → 0 ≤ f → f < n → kCan (fi c.toNat) f wo → kB gp o c f = kch ch c f := by
  intro k
  induction k with
  | zero =>
    intro c f h1 h2 h3 h4 h5 h6
    have q := (hb c f h2 h3 h4 (by omega)).2.2.1 ((op c f ⟨h2, h3⟩ (by omega)).mpr ⟨h5, h6⟩) (by omega)
    have q2 := (hd c f h2 h3 h4 h5).2.2.1 (by omega)
    omega
  | succ k ih =>
    intro c f h1 h2 h3 h4 h5 h6
    have hc2 : c + 1 < cl := by omega
    obtain ⟨b, b1, b2, b3, b4⟩ := (hb c f h2 h3 h4 (by omega)).2.2.2 ((op c f ⟨h2, h3⟩ (by omega)).mpr ⟨h5, h6⟩) hc2
    have few := (hd c f h2 h3 h4 h5).2.2.2 hc2
    obtain ⟨g, g1, g2, g3, g4⟩ := kDp_get hd hfit hcl h2 hc2 h4 h5
    have ihg := ih (c + 1) g (by omega) (by omega) hc2 g1 g2 g3
    have le24 := kDp_le hd hfit _ (c + 1) g rfl (by omega) hc2 g1 g2
    have lg := b1.2.1 g g1 (by omega)
    -- the table's entry is at most the reference's
    have up : kB gp o c f ≤ kch ch c f := by
      rw [g4]
      unfold kdl
      by_cases q : g = f
      · rw [if_pos q]
        rw [q] at ihg
        rw [q]
        omega
      · rw [if_neg q]
        omega
    -- and at least that
    have dn : kch ch c f ≤ kB gp o c f := by
      rcases b4 with b4 | b4
      · by_cases q : kCan (fi (c + 1).toNat) f wo
        · have q1 := few.2.2.1 f h4 h5 q
          have q2 := ih (c + 1) f (by omega) (by omega) hc2 h4 h5 q
          unfold kdl at q1
          rw [if_pos rfl] at q1
          omega
        · have q1 := (hb (c + 1) f (by omega) hc2 h4 (by omega)).2.1 (fun w => q ((op (c + 1) f (by omega) (by omega)).mp w).2)
          have q2 := kDp_le hd hfit _ c f rfl h2 h3 h4 h5
          omega
      · rcases b1.2.2 with e | ⟨u, u1, u2, u3⟩
        · have q2 := kDp_le hd hfit _ c f rfl h2 h3 h4 h5
          omega
        · by_cases q : u < n ∧ kCan (fi (c + 1).toNat) u wo
          · have q1 := few.2.2.1 u u1 q.1 q.2
            have q2 := ih (c + 1) u (by omega) (by omega) hc2 u1 q.1 q.2
            have q3 := kdl_le u f
            omega
          · have q1 := (hb (c + 1) u (by omega) hc2 u1 u2).2.1 (fun w => q ((op (c + 1) u (by omega) (by omega)).mp w))
            have q2 := kDp_le hd hfit _ c f rfl h2 h3 h4 h5
            omega
    omega
/-- what a choice of the class is: open, and the cheapest -/
theorem kCe_is (hb : kBh gp o f3 (zI al) cl 0) (op : ∀ c f : Int, 0 ≤ c ∧ c < cl → 0 ≤ f ∧ f < 4 → (kOp (f3 c.toNat) (zI al) f ↔ (f < n ∧ kCan (fi c.toNat) f wo))) (bn : 0 ≤ n ∧ n ≤ 4) (he : ∀ c f : Int, 0 ≤ c → c < cl → 0 ≤ f → f < n → kCan (fi c.toNat) f wo → kB gp o c f ≤ 24) (hfit : kFit fi n cl wo) (hp : kPm fp n) (hpn : pn = n) (hc : 0 ≤ c ∧ c < cl) {be x : Int} (hx : kFx gp o c be fp pn x) : (0 ≤ x ∧ x < n) ∧ kCan (fi c.toNat) x wo ∧ (∃ p : Nat, (p : Int) < n ∧ (fp p).toInt = x ∧ ∀ q : Nat, q < p → kB gp o c x + (if x = be ∨ be = -9 then 0 else 1) < kVq gp o c be fp q) ∧ ∀ g : Int, 0 ≤ g → g < n → kCan (fi c.toNat) g wo → kB gp o c x + (if x = be ∨ be = -9 then 0 else 1) ≤ kB gp o c g + (if g = be ∨ be = -9 then 0 else 1) := by
  obtain ⟨l, hl⟩ := hx
  subst hpn
  have at1 : ∀ g : Int, 0 ≤ g → g < pn → ∃ p : Nat, (p : Int) < pn ∧ (fp p).toInt = g := fun g g1 g2 => by
    obtain ⟨p, p1, p2⟩ := hp.2 g g1 g2
    exact ⟨p, p1, by rw [p2, zI_toInt (by omega)]⟩
  obtain ⟨g, g1, g2, g3⟩ := hfit c hc.1 hc.2
  obtain ⟨pg, pg1, pg2⟩ := at1 g g1 g2
  have gv : kVq gp o c be fp pg ≤ 25 := by
    unfold kVq
    rw [pg2]
    have := he c g hc.1 hc.2 g1 g2 g3
    split <;> omega
  rcases hl with ⟨-, -, h3⟩ | ⟨h1, p, h2, h3, h4, h5, h6⟩
  · have := h3 pg pg1
    omega
  · have lv : kB gp o c x + (if x = be ∨ be = -9 then 0 else 1) = l := by rw [← h4, ← h3]; rfl
    obtain ⟨zp, zp1, zp2, zp3⟩ := hp.1 p h2
    have xz : x = zp := by rw [← h3, zp3, zI_toInt (by omega)]
    have xb : 0 ≤ x ∧ x < pn := by omega
    have xo : kCan (fi c.toNat) x wo := by
      by_cases q : kOp (f3 c.toNat) (zI al) x
      · exact ((op c x hc (by omega)).mp q).2
      · have q2 := (hb c x hc.1 hc.2 xb.1 (by omega)).2.1 q
        have : l ≥ 1000 := by rw [← lv]; split <;> omega
        omega
    refine ⟨xb, xo, ⟨p, h2, h3, fun q hq => by rw [lv]; exact h5 q hq⟩, fun u u1 u2 u3 => ?_⟩
    obtain ⟨pu, pu1, pu2⟩ := at1 u u1 u2
    have := h6 pu pu1
    rw [lv, ← pu2]
    exact this
end
