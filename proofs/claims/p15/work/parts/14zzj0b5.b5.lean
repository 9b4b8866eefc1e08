/-! how many CHANGES the class's choice has: the fewest -/
section
variable {w v has hs fp pf f1 f2 f3 f4 f5 sa fi ch cs : Nat → Int32} {m m2 n n2 wo pn cn bo ru cl b2 c f b : Int} {gp : Nat → Nat → Int32} {o : Nat} {al : Int}
theorem kTel_1 (hb : kBh gp o f3 (zI al) cl 0) (op : ∀ c f : Int, 0 ≤ c ∧ c < cl → 0 ≤ f ∧ f < 4 → (kOp (f3 c.toNat) (zI al) f ↔ (f < n ∧ kCan (fi c.toNat) f wo))) (bn : 0 ≤ n ∧ n ≤ 4) (he : ∀ c f : Int, 0 ≤ c → c < cl → 0 ≤ f → f < n → kCan (fi c.toNat) f wo → kB gp o c f ≤ 24) (hfit : kFit fi n cl wo) (hp : kPm fp n) (hpn : pn = n) (hce : kCe gp o fp pn f4 cl) (hc : 0 ≤ c ∧ c + 1 < cl) : kB gp o c (f4 c.toNat).toInt = kB gp o (c + 1) (f4 (c + 1).toNat).toInt + (if f4 (c + 1).toNat = f4 c.toNat then 0 else 1) := by
  obtain ⟨x1, x2, -, -⟩ := kCe_is hb op bn he hfit hp hpn (by omega) (hce c hc.1 (by omega)).1
  obtain ⟨y1, y2, -, y4⟩ := kCe_is hb op bn he hfit hp hpn (by omega) (hce (c + 1) (by omega) hc.2).1
  have be : kBf f4 (c + 1) = (f4 c.toNat).toInt := by
    unfold kBf
    rw [if_neg (by omega), show c + 1 - 1 = c by omega]
  rw [be] at y4
  have same : (f4 (c + 1).toNat = f4 c.toNat) ↔ (f4 (c + 1).toNat).toInt = (f4 c.toNat).toInt := Int32.toInt_inj.symm
  generalize hx : (f4 c.toNat).toInt = x at *
  generalize hy : (f4 (c + 1).toNat).toInt = y at *
  have d : (if f4 (c + 1).toNat = f4 c.toNat then (0 : Int) else 1) = (if y = x ∨ x = -9 then 0 else 1) := by
    by_cases q : y = x
    · rw [if_pos (same.mpr q), if_pos (Or.inl q)]
    · rw [if_neg (fun w => q (same.mp w)), if_neg (by omega)]
  rw [d]
  obtain ⟨b, b1, b2, b3, b4⟩ := (hb c x hc.1 (by omega) x1.1 (by omega)).2.2.2 ((op c x (by omega) (by omega)).mpr ⟨x1.2, x2⟩) hc.2
  have ly := b1.2.1 y y1.1 (by omega)
  have xl := he c x hc.1 (by omega) x1.1 x1.2 x2
  have up : kB gp o c x ≤ kB gp o (c + 1) y + (if y = x ∨ x = -9 then 0 else 1) := by
    by_cases q : y = x
    · rw [if_pos (Or.inl q), q]; omega
    · rw [if_neg (by omega)]; omega
  have opn : ∀ g : Int, 0 ≤ g → g < 4 → kB gp o (c + 1) g < 1000 → g < n ∧ kCan (fi (c + 1).toNat) g wo := fun g g1 g2 g3 => by
    by_cases q : kOp (f3 (c + 1).toNat) (zI al) g
    · exact (op (c + 1) g (by omega) (by omega)).mp q
    · have := (hb (c + 1) g (by omega) hc.2 g1 g2).2.1 q
      omega
  rcases b4 with b4 | b4
  · have q := opn x x1.1 (by omega) (by omega)
    have q2 := y4 x x1.1 x1.2 q.2
    rw [if_pos (show x = x ∨ x = -9 from Or.inl rfl)] at q2
    omega
  · rcases b1.2.2 with e | ⟨u, u1, u2, u3⟩
    · omega
    · have q := opn u u1 u2 (by omega)
      have q2 := y4 u u1 q.1 q.2
      have q3 : (if u = x ∨ x = -9 then (0 : Int) else 1) ≤ 1 := by split <;> omega
      omega
theorem kTel_n (hb : kBh gp o f3 (zI al) cl 0) (op : ∀ c f : Int, 0 ≤ c ∧ c < cl → 0 ≤ f ∧ f < 4 → (kOp (f3 c.toNat) (zI al) f ↔ (f < n ∧ kCan (fi c.toNat) f wo))) (bn : 0 ≤ n ∧ n ≤ 4) (he : ∀ c f : Int, 0 ≤ c → c < cl → 0 ≤ f → f < n → kCan (fi c.toNat) f wo → kB gp o c f ≤ 24) (hfit : kFit fi n cl wo) (hp : kPm fp n) (hpn : pn = n) (hce : kCe gp o fp pn f4 cl) : ∀ k : Nat, (k : Int) < cl → kRn f4 (k + 1) - 1 + kB gp o k (f4 k).toInt = kB gp o 0 (f4 0).toInt
  | 0, _ => by show (1 : Int) - 1 + kB gp o 0 (f4 0).toInt = _; omega
  | k + 1, h => by
    have ih := kTel_n hb op bn he hfit hp hpn hce k (by omega)
    have st := kTel_1 hb op bn he hfit hp hpn hce (c := (k : Int)) (by omega)
    rw [show ((k : Int) + 1).toNat = k + 1 by omega, show ((k : Int)).toNat = k by omega] at st
    show kRn f4 (k + 1) + (if f4 (k + 1) = f4 k then 0 else 1) - 1 + kB gp o ((k + 1 : Nat) : Int) (f4 (k + 1)).toInt = _
    rw [show ((k + 1 : Nat) : Int) = (k : Int) + 1 by omega]
    omega
/-- what the two SETTINGS have in common -/
theorem kSE_all (h : kSE w m has n wo fp pn cn bo ru f1 f2 f3 f4 f5) (r : kRc v m2 hs n2 wo cl b2 sa fi) (hm : m = m2) (hw : kEq w v m) (hn : n = n2) (hh : kEq has hs n) (bm : 0 ≤ m ∧ m ≤ 24) (bn : 0 ≤ n ∧ n ≤ 4) (bw : wo = -9 ∨ (0 ≤ wo ∧ wo ≤ 3 ∧ 2 ≤ n)) (fm : ¬ (n = 0 ∧ 1 ≤ m)) (hp : kPm fp n) (hpn : pn = n) (hd : kDp ch fi n2 cl wo 0) (hft : kFt fi n2 cl wo) : ∃ (gp : Nat → Nat → Int32) (o : Nat) (al : Int), kBh gp o f3 (zI al) cl 0 ∧ (∀ c f : Int, 0 ≤ c ∧ c < cl → 0 ≤ f ∧ f < 4 → (kOp (f3 c.toNat) (zI al) f ↔ (f < n ∧ kCan (fi c.toNat) f wo))) ∧ (∀ c f : Int, 0 ≤ c → c < cl → 0 ≤ f → f < n → kCan (fi c.toNat) f wo → kB gp o c f = kch ch c f) ∧ (∀ c f : Int, 0 ≤ c → c < cl → 0 ≤ f → f < n → kCan (fi c.toNat) f wo → kB gp o c f ≤ 24) ∧ (0 < cl → kFit fi n cl wo) ∧ kCe gp o fp pn f4 cl ∧ ru = kRn f4 (kNa cl) ∧ (∀ c f : Int, 0 ≤ c → c < cl → 0 ≤ f → f < n → kch ch c f ≤ 23) := by
  obtain ⟨c1, -, c3, c4, c5⟩ := kSR_clu h r hm hw hn hh bm.1 bn (by omega)
  obtain ⟨L, gp, o, al, e0, h1, h2, h3, h4, h5, h6, h7⟩ := h
  subst hm hn c1
  have op : ∀ c f : Int, 0 ≤ c ∧ c < cn → 0 ≤ f ∧ f < 4 → (kOp (f3 c.toNat) (zI al) f ↔ (f < n ∧ kCan (fi c.toNat) f wo)) := fun c f hc hf => kDpB h4 e0 (fun i hi => (c3 i hi).2.2) (fun i hi => ⟨hs, _, c5 i hi⟩) bn (by omega) hc hf
  have fit : 0 < cn → kFit fi n cn wo := fun q => kFit_of hft (by omega) (by omega)
  have le23 : ∀ c f : Int, 0 ≤ c → c < cn → 0 ≤ f → f < n → kch ch c f ≤ 23 := fun c f a1 a2 a3 a4 => by
    have := kDp_le hd (fit (by omega)) _ c f rfl a1 a2 a3 a4
    omega
  have eq : ∀ c f : Int, 0 ≤ c → c < cn → 0 ≤ f → f < n → kCan (fi c.toNat) f wo → kB gp o c f = kch ch c f := fun c f a1 a2 a3 a4 a5 => kDpE h4 op bn hd (fit (by omega)) (by omega) _ c f rfl a1 a2 a3 a4 a5
  exact ⟨gp, o, al, h4, op, eq, fun c f a1 a2 a3 a4 a5 => by rw [eq c f a1 a2 a3 a4 a5]; have := le23 c f a1 a2 a3 a4; omega, fit, h5, h6, le23⟩
/-- the fewest CHANGES are the class's RUNS less one -/
theorem kSE_chg (h : kSE w m has n wo fp pn cn bo ru f1 f2 f3 f4 f5) (r : kRc v m2 hs n2 wo cl b2 sa fi) (hm : m = m2) (hw : kEq w v m) (hn : n = n2) (hh : kEq has hs n) (bm : 0 ≤ m ∧ m ≤ 24) (bn : 0 ≤ n ∧ n ≤ 4) (bw : wo = -9 ∨ (0 ≤ wo ∧ wo ≤ 3 ∧ 2 ≤ n)) (fm : ¬ (n = 0 ∧ 1 ≤ m)) (hp : kPm fp n) (hpn : pn = n) (hd : kDp ch fi n2 cl wo 0) (hft : kFt fi n2 cl wo) (hbe : cl = 0 ∨ kBe ch fi wo n2 b) (h00 : cl = 0 → b = 0) : (cn = 0 ∧ ru = 0 ∧ b = 0) ∨ (1 ≤ cn ∧ 1 ≤ ru ∧ b = ru - 1) := by
  obtain ⟨c1, -, c3, c4, c5⟩ := kSR_clu h r hm hw hn hh bm.1 bn (by omega)
  obtain ⟨gp, o, al, a1, a2, a3, a4, a5, a6, a7, a8⟩ := kSE_all h r hm hw hn hh bm bn bw fm hp hpn hd hft
  subst hm hn c1
  by_cases q : cn = 0
  · left
    rw [q] at a7
    exact ⟨q, a7, h00 q⟩
  · right
    have hbe2 := Or.resolve_left hbe q
    have fit := a5 (by omega)
    have t := kTel_n a1 a2 bn a4 fit hp hpn a6 (kNa (cn - 1)) (by rw [kNc (show 0 ≤ cn - 1 by omega)]; omega)
    obtain ⟨y1, y2, -, -⟩ := kCe_is a1 a2 bn a4 fit hp hpn (c := cn - 1) (by omega) (a6 (cn - 1) (by omega) (by omega)).1
    have last := (a1 (cn - 1) _ (by omega) (by omega) y1.1 (by omega)).2.2.1 ((a2 (cn - 1) _ (by omega) (by omega)).mpr ⟨y1.2, y2⟩) (by omega)
    rw [show kNa (cn - 1) + 1 = kNa cn by show (cn - 1).toNat + 1 = cn.toNat; omega, ← a7, kNc (show 0 ≤ cn - 1 by omega), show f4 (kNa (cn - 1)) = f4 (cn - 1).toNat from rfl, last] at t
    obtain ⟨z1, z2, -, z4⟩ := kCe_is a1 a2 bn a4 fit hp hpn (c := 0) (by omega) (a6 0 (by omega) (by omega)).1
    have be0 : kBf f4 0 = -9 := by unfold kBf; exact if_pos rfl
    rw [be0] at z4
    have z4' : ∀ g : Int, 0 ≤ g → g < n → kCan (fi (0 : Int).toNat) g wo → kB gp o 0 (f4 (0 : Int).toNat).toInt ≤ kB gp o 0 g := fun g g1 g2 g3 => by
      have := z4 g g1 g2 g3
      rw [if_pos (Or.inr rfl), if_pos (Or.inr rfl)] at this
      omega
    have e0 := a3 0 _ (by omega) (by omega) z1.1 z1.2 z2
    have l0 := a8 0 _ (by omega) (by omega) z1.1 z1.2
    have nn0 := (a1 0 _ (by omega) (by omega) z1.1 (by omega)).1.1
    have u1 := hbe2.2.2.1 _ z1.1 z1.2 z2
    have t2 : ru - 1 + 0 = kB gp o 0 (f4 (0 : Int).toNat).toInt := t
    refine ⟨by omega, by omega, ?_⟩
    rcases hbe2.2.2.2 with e | ⟨g, g1, g2, g3, g4⟩
    · omega
    · have := z4' g g1 g2 g3
      have := a3 0 g (by omega) (by omega) g1 g2 g3
      omega
/-- the reference's choice at each of the first c1 CLUSTERS -/
def kCho (ch fi cs pf : Nat → Int32) (n c1 : Int) : Prop := ∀ c : Int, 0 ≤ c → c < c1 → ∃ p : Nat, (p : Int) < n ∧ pf p = cs c.toNat ∧ ∃ lf : Int, kIsB ch fi cs c (cs c.toNat).toInt lf ∧ (∀ q : Nat, q < p → ¬ kIsB ch fi cs c (pf q).toInt lf) ∧ ∀ g : Int, 0 ≤ g → g < n → kCan (fi c.toNat) g (-9) → lf ≤ kch ch c g + kIts cs c g
theorem kCho_1 (a1 : kBh gp o f3 (zI al) cl 0) (a2 : ∀ c f : Int, 0 ≤ c ∧ c < cl → 0 ≤ f ∧ f < 4 → (kOp (f3 c.toNat) (zI al) f ↔ (f < n ∧ kCan (fi c.toNat) f (-9)))) (bn : 0 ≤ n ∧ n ≤ 4) (a3 : ∀ c f : Int, 0 ≤ c → c < cl → 0 ≤ f → f < n → kCan (fi c.toNat) f (-9) → kB gp o c f = kch ch c f) (a4 : ∀ c f : Int, 0 ≤ c → c < cl → 0 ≤ f → f < n → kCan (fi c.toNat) f (-9) → kB gp o c f ≤ 24) (fit : kFit fi n cl (-9)) (hp : kPm fp n) (hpn : pn = n) (hq : kEq fp pf n) (a6 : kCe gp o fp pn f4 cl) (hc : kCho ch fi cs pf n cl) {k : Nat} (hk : (k : Int) < cl) (ih : ∀ i : Nat, i < k → f4 i = cs i) : f4 k = cs k := by
  have kk : ((k : Int)).toNat = k := by omega
  obtain ⟨x1, x2, ⟨p, p1, p2, p3⟩, x4⟩ := kCe_is a1 a2 bn a4 fit hp hpn (c := (k : Int)) (by omega) (a6 k (by omega) hk).1
  obtain ⟨p', q1, q2, lf, q3, q4, q5⟩ := hc k (by omega) hk
  rw [kk] at x1 x2 p2 p3 x4 q2 q3 q5
  -- the two costs of a FONT are the same
  have its : ∀ g : Int, 0 ≤ g → (if g = kBf f4 k ∨ kBf f4 k = -9 then (0 : Int) else 1) = kIts cs k g := fun g g0 => by
    unfold kBf kIts
    by_cases z : (k : Int) = 0
    · rw [if_pos z, if_pos (Or.inr rfl), if_neg (by omega)]
    · rw [if_neg z]
      have e1 : f4 ((k : Int) - 1).toNat = cs ((k : Int) - 1).toNat := ih _ (by omega)
      rw [e1]
      have b9 : 0 ≤ (cs ((k : Int) - 1).toNat).toInt := by
        have := (a6 ((k : Int) - 1) (by omega) (by omega)).2.1
        rw [e1] at this
        exact this
      by_cases y : g = (cs ((k : Int) - 1).toNat).toInt
      · rw [if_pos (Or.inl y), if_neg (fun u => u.2 y.symm)]
      · rw [if_neg (by omega), if_pos ⟨by omega, fun u => y u.symm⟩]
  have cost : ∀ g : Int, 0 ≤ g → g < n → kCan (fi k) g (-9) → kB gp o k g + (if g = kBf f4 k ∨ kBf f4 k = -9 then 0 else 1) = kch ch k g + kIts cs k g := fun g g0 g1 g2 => by
    rw [its g g0, a3 k g (by omega) hk g0 g1 (by rw [kk]; exact g2)]
  -- the reference's FONT lies in range
  obtain ⟨zp, zp1, zp2, zp3⟩ := hp.1 p' q1
  have csz : (cs k).toInt = zp := by rw [← q2, ← hq p' q1, zp3, zI_toInt (by omega)]
  have yo : kCan (fi k) (cs k).toInt (-9) := by have := q3.1; rw [kk] at this; exact this
  have yv := q3.2
  rw [csz] at yo yv
  have y5 := q5 _ x1.1 x1.2 x2
  have x5 := x4 zp zp1 zp2 yo
  rw [cost _ x1.1 x1.2 x2, cost zp zp1 zp2 yo] at x5
  have lx : kch ch k (f4 k).toInt + kIts cs k (f4 k).toInt = lf := by omega
  have pp : p = p' := by
    rcases Nat.lt_trichotomy p p' with t | t | t
    · exfalso
      refine q4 p t ⟨?_, ?_⟩
      · rw [← hq p (by omega), p2]; rw [kk]; exact x2
      · rw [← hq p (by omega), p2]; exact lx
    · exact t
    · exfalso
      have := p3 p' t
      rw [cost _ x1.1 x1.2 x2] at this
      have kv : kVq gp o k (kBf f4 k) fp p' = kB gp o k zp + (if zp = kBf f4 k ∨ kBf f4 k = -9 then 0 else 1) := by
        unfold kVq
        rw [show (fp p').toInt = zp by rw [zp3, zI_toInt (by omega)]]
      rw [kv, cost zp zp1 zp2 yo] at this
      omega
  apply Int32.toInt_inj.mp
  rw [← p2, pp, hq p' q1, q2]
theorem kSE_cho (h : kSE w m has n (-9) fp pn cn bo ru f1 f2 f3 f4 f5) (r : kRc v m2 hs n2 (-9) cl b2 sa fi) (hm : m = m2) (hw : kEq w v m) (hn : n = n2) (hh : kEq has hs n) (bm : 0 ≤ m ∧ m ≤ 24) (bn : 0 ≤ n ∧ n ≤ 4) (fm : ¬ (n = 0 ∧ 1 ≤ m)) (hp : kPm fp n) (hpn : pn = n) (hq : kEq fp pf n) (hd : kDp ch fi n2 cl (-9) 0) (hft : kFt fi n2 cl (-9)) (hc : kCho ch fi cs pf n2 cl) : ∀ k : Nat, (k : Int) < cl → f4 k = cs k := by
  obtain ⟨gp, o, al, a1, a2, a3, a4, a5, a6, a7, a8⟩ := kSE_all h r hm hw hn hh bm bn (Or.inl rfl) fm hp hpn hd hft
  subst hm hn
  intro k
  induction k using Nat.strongRecOn with
  | ind k ih =>
    intro hk
    exact kCho_1 a1 a2 bn a3 a4 (a5 (by omega)) hp hpn hq a6 hc hk (fun i hi => ih i hi (by omega))
end
