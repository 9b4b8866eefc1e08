/-! how many CHANGES the class's choice has: the fewest -/
section
variable {w v has hs fp pf f1 f2 f3 f4 f5 sa fi ch cs : Nat → Int32} {m m2 n n2 wo pn cn bo ru cl b2 c f b : Int} {gp : Nat → Nat → Int32} {o : Nat} {al : Int}
theorem kTel_1 (hb : kBh gp o f3 (zI al) cl 0) (op : ∀ c f : Int, 0 ≤ c ∧ c < cl → 0 ≤ f ∧ f < 4 → (kOp (f3 c.toNat) (zI al) f ↔ (f < n ∧ kCan (fi c.toNat) f wo))) (bn : 0 ≤ n ∧ n ≤ 4) (he : ∀ c f : Int, 0 ≤ c → c < cl → 0 ≤ f → f < n → kCan (fi c.toNat) f wo → kB gp o c f ≤ 24) (hfit : kFit fi n cl wo) (hp : kPm fp n) (hpn : pn = n) (hce : kCe gp o fp pn f4 cl) (hc : 0 ≤ c ∧ c + 1 < cl) : kB gp o c (f4 c.toNat).toInt = kB gp o (c + 1) (f4 (c + 1).toNat).toInt + (if f4 (c + 1).toNat = f4 c.toNat then 0 else 1) := by
  obtain ⟨x1, x2, -, -⟩ := kCe_is hb op bn he hfit hp hpn (by omega) (hce c hc.1 (by omega)).1
  obtain ⟨y1, y2, -, y4⟩ := kCe_is hb op bn he hfit hp hpn (by omega) (hce (c + 1) (by omega) hc.2).1
  have be : kBf f4 (c + 1) = (f4 c.toNat).toInt := by
    unfold kBf
    rw [if_neg (by omega), show c + 1 - 1 = c by omega]
  rw [be] at y4
  have same : (f4 (c + 1).toNat = f4 c.toNat) ↔ (f4 (c + 1).toNat).toInt = (f4 c.toNat).toInt := Int32.toInt_inj.symm
  generalize hx : (f4 c.toNat).toInt = x at *
  generalize hy : (f4 (c + 1).toNat).toInt = y at *
  have d : (if f4 (c + 1).toNat = f4 c.toNat then (0 : Int) else 1) = (if y = x ∨ x = -9 then 0 else 1) := by
    by_cases q : y = x
    · rw [if_pos (same.mpr q), if_pos (Or.inl q)]
    · rw [if_neg (fun w => q (same.mp w)), if_neg (by omega)]
  rw [d]
  obtain ⟨b, b1, b2, b3, b4⟩ := (hb c x hc.1 (by omega) x1.1 (by omega)).2.2.2 ((op c x (by omega) (by omega)).mpr ⟨x1.2, x2⟩) hc.2
  have ly := b1.2.1 y y1.1 (by omega)
  have xl := he c x hc.1 (by omega) x1.1 x1.2 x2
  have up : kB gp o c x ≤ kB gp o (c + 1) y + (if y = x ∨ x = -9 then 0 else 1) := by
    by_cases q : y = x
    · rw [if_pos (Or.inl q), q]; omega
    · rw [if_neg (by omega)]; omega
  have opn : ∀ g : Int, 0 ≤ g → g < 4 → kB gp o (c + 1) g < 1000 → g < n ∧ kCan (fi (c + 1).toNat) g wo := fun g g1 g2 g3 => by
    by_cases q : kOp (f3 (c + 1).toNat) (zI al) g
    · exact (op (c + 1) g (by omega) (by omega)).mp q
    · have := (hb (c + 1) g (by omega) hc.2 g1 g2).2.1 q
      omega
  rcases b4 with b4 | b4
  · have q := opn x x1.1 (by omega) (by omega)
    have q2 := y4 x x1.1 x1.2 q.2
    rw [if_pos (show x = x ∨ x = -9 from Or.inl rfl)] at q2
    omega
  · rcases b1.2.2 with e | ⟨u, u1, u2, u3⟩
    · omega
    · have q := opn u u1 u2 (by omega)
      have q2 := y4 u u1 q.1 q.2
      have q3 : (if u = x ∨ x = -9 then (0 : Int) else 1) ≤ 1 := by split <;> omega
      omega
theorem kTel_n (hb : kBh gp o f3 (zI al) cl 0) (op : ∀ c f : Int, 0 ≤ c ∧ c < cl → 0 ≤ f ∧ f < 4 → (kOp (f3 c.toNat) (zI al) f ↔ (f < n ∧ kCan (fi c.toNat) f wo))) (bn : 0 ≤ n ∧ n ≤ 4) (he : ∀ c f : Int, 0 ≤ c → c < cl → 0 ≤ f → f < n → kCan (fi c.toNat) f wo → kB gp o c f ≤ 24) (hfit : kFit fi n cl wo) (hp : kPm fp n) (hpn : pn = n) (hce : kCe gp o fp pn f4 cl) : ∀ k : Nat, (k : Int) < cl → kRn f4 (k + 1) - 1 + kB gp o k (f4 k).toInt = kB gp o 0 (f4 0).toInt
  | 0, _ => by show (1 : Int) - 1 + kB gp o 0 (f4 0).toInt = _; omega
  | k + 1, h => by
    have ih := kTel_n hb op bn he hfit hp hpn hce k (by omega)
    have st := kTel_1 hb op bn he hfit hp hpn hce (c := (k : Int)) (by omega)
    rw [show ((k : Int) + 1).toNat = k + 1 by omega, show ((k : Int)).toNat = k by omega] at st
    show kRn f4 (k + 1) + (if f4 (k + 1) = f4 k then 0 else 1) - 1 + kB gp o ((k + 1 : Nat) : Int) (f4 (k + 1)).toInt = _
    rw [show ((k + 1 : Nat) : Int) = (k : Int) + 1 by omega]
    omega
/-- what the two SETTINGS have in common -/
theorem kSE_all (h : kSE w m has n wo fp pn cn bo ru f1 f2 f3 f4 f5) (r : kRc v m2 hs n2 wo cl b2 sa fi) (hm : m = m2) (hw : kEq w v m) (hn : n = n2) (hh : kEq has hs n) (bm : 0 ≤ m ∧ m ≤ 24) (bn : 0 ≤ n ∧ n ≤ 4) (bw : wo = -9 ∨ (0 ≤ wo ∧ wo ≤ 3 ∧ 2 ≤ n)) (fm : ¬ (n = 0 ∧ 1 ≤ m)) (hp : kPm fp n) (hpn : pn = n) (hd : kDp ch fi n2 cl wo 0) (hft : kFt fi n2 cl wo) : ∃ (gp : Nat → Nat → Int32) (o : Nat) (al : Int), kBh gp o f3 (zI al) cl 0 ∧ (∀ c f : Int, 0 ≤ c ∧ c < cl → 0 ≤ f ∧ f < 4 → (kOp (f3 c.toNat) (zI al) f ↔ (f < n ∧ kCan (fi c.toNat) f wo))) ∧ (∀ c f : Int, 0 ≤ c → c < cl → 0 ≤ f → f < n → kCan (fi c.toNat) f wo → kB gp o c f = kch ch c f) ∧ (∀ c f : Int, 0 ≤ c → c < cl → 0 ≤ f → f < n → kCan (fi c.toNat) f wo → kB gp o c f ≤ 24) ∧ (0 < cl → kFit fi n cl wo) ∧ kCe gp o fp pn f4 cl ∧ ru = kRn f4 (kNa cl) ∧ (∀ c f : Int, 0 ≤ c → c < cl → 0 ≤ f → f < n → kch ch c f ≤ 23) := by
  obtain ⟨c1, -, c3, c4, c5⟩ := kSR_clu h r hm hw hn hh bm.1 bn (by omega)
  obtain ⟨L, gp, o, al, e0, h1, h2, h3, h4, h5, h6, h7⟩ := h
  subst hm hn c1
  have op : ∀ c f : Int, 0 ≤ c ∧ c < cn → 0 ≤ f ∧ f < 4 → (kOp (f3 c.toNat) (zI al) f ↔ (f < n ∧ kCan (fi c.toNat) f wo)) := fun c f hc hf => kDpB h4 e0 (fun i hi => (c3 i hi).2.2) (fun i hi => ⟨hs, _, c5 i hi⟩) bn (by omega) hc hf
  have fit : 0 < cn → kFit fi n cn wo := fun q => kFit_of hft (by omega) (by omega)
  have le23 : ∀ c f : Int, 0 ≤ c → c < cn → 0 ≤ f → f < n → kch ch c f ≤ 23 := fun c f a1 a2 a3 a4 => by
    have := kDp_le hd (fit (by omega)) _ c f rfl a1 a2 a3 a4
    omega
  have eq : ∀ c f : Int, 0 ≤ c → c < cn → 0 ≤ f → f < n → kCan (fi c.toNat) f wo → kB gp o c f = kch ch c f := fun c f a1 a2 a3 a4 a5 => kDpE h4 op bn hd (fit (by omega)) (by omega) _ c f rfl a1 a2 a3 a4 a5
  exact ⟨gp, o, al, h4, op, eq, fun c f a1 a2 a3 a4 a5 => by rw [eq c f a1 a2 a3 a4 a5]; have := le23 c f a1 a2 a3 a4; omega, fit, h5, h6, le23⟩
/-- the fewest CHANGES are the class's RUNS less one -/
theorem kSE_chg (h : kSE w m has n wo fp pn cn bo ru f1 f2 f3 f4 f5) (r : kRc v m2 hs n2 wo cl b2 sa fi) (hm : m = m2) (hw : kEq w v m) (hn : n = n2) (hh : kEq has hs n) (bm : 0 ≤ m ∧ m ≤ 24) (bn : 0 ≤ n ∧ n ≤ 4) (bw : wo = -9 ∨ (0 ≤ wo ∧ wo ≤ 3 ∧ 2 ≤ n)) (fm : ¬ (n = 0 ∧ 1 ≤ m)) (hp : kPm fp n) (hpn : pn = n) (hd : kDp ch fi n2 cl wo 0) (hft : kFt fi n2 cl wo) (hbe : cl = 0 ∨ kBe ch fi wo n2 b) (h00 : cl = 0 → b = 0) : (cn = 0 ∧ ru = 0 ∧ b = 0) ∨ (1 ≤ cn ∧ 1 ≤ ru ∧ b = ru - 1) := by
  obtain ⟨c1, -, c3, c4, c5⟩ := kSR_clu h r hm hw hn hh bm.1 bn (by omega)
  obtain ⟨gp, o, al, a1, a2, a3, a4, a5, a6, a7, a8⟩ := kSE_all h r hm hw hn hh bm bn bw fm hp hpn hd hft
  subst hm hn c1
  by_cases q : cn = 0
  · left
    rw [q] at a7
    exact ⟨q, a7, h00 q⟩
  · right
    have hbe2 := Or.resolve_left hbe q
    have fit := a5 (by omega)
    have t := kTel_n a1 a2 bn a4 fit hp hpn a6 (kNa (cn - 1)) (by rw [kNc (show 0 ≤ cn - 1 by omega)]; omega)
    obtain ⟨y1, y2, -, -⟩ := kCe_is a1 a2 bn a4 fit hp hpn (c := cn - 1) (by omega) (a6 (cn - 1) (by omega) (by omega)).1
    have last := (a1 (cn - 1) _ (by omega) (by omega) y1.1 (by omega)).2.2.1 ((a2 (cn - 1) _ (by omega) (by omega)).mpr ⟨y1.2, y2⟩) (by omega)
    rw [show kNa (cn - 1) + 1 = kNa cn by show (cn - 1).toNat + 1 = cn.toNat; omega, ← a7, kNc (show 0 ≤ cn - 1 by omega), show f4 (kNa (cn - 1)) = f4 (cn - 1).toNat from rfl, last] at t
    obtain ⟨z1, z2, -, z4⟩ := kCe_is a1 a2 bn a4 fit hp hpn (c := 0) (by omega) (a6 0 (by omega) (by omega)).1
    have be0 : kBf f4 0 = -9 := by unfold kBf; exact if_pos rfl
    rw [be0] at z4
    have z4' : ∀ g : Int, 0 ≤ g → g < n → kCan (fi (0 : Int).toNat) g wo → kB gp o 0 (f4 (0 : Int).toNat).toInt ≤ kB gp o 0 g := fun g g1 g2 g3 => by
      have := z4 g g1 g2 g3
      rw [if_pos (Or.inr rfl), if_pos (Or.inr rfl)] at this
      omega
    have e0 := a3 0 _ (by omega) (by omega) z1.1 z1.2 z2
    have l0 := a8 0 _ (by omega) (by omega) z1.1 z1.2
    have nn0 := (a1 0 _ (by omega) (by omega) z1.1 (by omega)).1.1
    have u1 := hbe2.2.2.1 _ z1.1 z1.2 z2
    have t2 : ru - 1 + 0 = kB gp o 0 (f4 (0 : Int).toNat).toInt := t
    refine ⟨by omega, by omega, ?_⟩
    rcases hbe2.2.2.2 with e | ⟨g, g1, g2, g3, g4⟩
    · omega
    · have := z4' g g1 g2 g3
      have := a3 0 g (by omega) (by omega) g1 g2 g3
      omega
/-- the reference's choice at each of the first c1 CLUSTERS -/
def kCho (ch fi cs pf : Nat → Int32) (n c1 : Int) : Prop := ∀ c : Int, 0 ≤ c → c < c1 → ∃ p : Nat, (p : Int) < n ∧ pf p = cs c.toNat ∧ ∃ lf : Int, kIsB ch fi cs c (cs c.toNat).toInt lf ∧ (∀ q : Nat, q < p → ¬ kIsB ch fi cs c (pf q).toInt lf) ∧ ∀ g : Int, 0 ≤ g → g < n → kCan (fi c.toNat) g (-9) → lf ≤ kch ch c g + kIts cs c g
theorem kCho_1 (a1 : kBh gp o f3 (zI al) cl 0) (a2 : ∀ c f : Int, 0 ≤ c ∧ c < cl → 0 ≤ f ∧ f < 4 → (kOp (f3 c.toNat) (zI al) f ↔ (f < n ∧ kCan (fi c.toNat) f (-9)))) (bn : 0 ≤ n ∧ n ≤ 4) (a3 : ∀ c f : Int, 0 ≤ c → c < cl → 0 ≤ f → f < n → kCan (fi c.toNat) f (-9) → kB gp o c f = kch ch c f) (a4 : ∀ c f : Int, 0 ≤ c → c < cl → 0 ≤ f → f < n → kCan (fi c.toNat) f (-9) → kB gp o c f ≤ 24) (fit : kFit fi n cl (-9)) (hp : kPm fp n) (hpn : pn = n) (hq : kEq fp pf n) (a6 : kCe gp o fp pn f4 cl) (hc : kCho ch fi cs pf n cl) {k : Nat} (hk : (k : Int) < cl) (ih : ∀ i : Nat, i < k → f4 i = cs i) : f4 k = cs k := by
  have kk : ((k : Int)).toNat = k := by omega
  obtain ⟨x1, x2, ⟨p, p1, p2, p3⟩, x4⟩ := kCe_is a1 a2 bn a4 fit hp hpn (c := (k : Int)) (by omega) (a6 k (by omega) hk).1
  obtain ⟨p', q1, q2, lf, q3, q4, q5⟩ := hc k (by omega) hk
  rw [kk] at x1 x2 p2 p3 x4 q2 q3 q5
  -- the two costs of a FONT are the same
  have its : ∀ g : Int, 0 ≤ g → (if g = kBf f4 k ∨ kBf f4 k = -9 then (0 : Int) else 1) = kIts cs k g := fun g g0 => by
    unfold kBf kIts
    by_cases z : (k : Int) = 0
    · rw [if_pos z, if_pos (Or.inr rfl), if_neg (by omega)]
    · rw [if_neg z]
      have e1 : f4 ((k : Int) - 1).toNat = cs ((k : Int) - 1).toNat := ih _ (by omega)
      rw [e1]
      have b9 : 0 ≤ (cs ((k : Int) - 1).toNat).toInt := by
        have := (a6 ((k : Int) - 1) (by omega) (by omega)).2.1
        rw [e1] at this
        exact this
      by_cases y : g = (cs ((k : Int) - 1).toNat).toInt
      · rw [if_pos (Or.inl y), if_neg (fun u => u.2 y.symm)]
      · rw [if_neg (by omega), if_pos ⟨by omega, fun u => y u.symm⟩]
  have cost : ∀ g : Int, 0 ≤ g → g < n → kCan (fi k) g (-9) → kB gp o k g + (if g = kBf f4 k ∨ kBf f4 k = -9 then 0 else 1) = kch ch k g + kIts cs k g := fun g g0 g1 g2 => by
    rw [its g g0, a3 k g (by omega) hk g0 g1 (by rw [kk]; exact g2)]
  -- the reference's FONT lies in range
  obtain ⟨zp, zp1, zp2, zp3⟩ := hp.1 p' q1
  have csz : (cs k).toInt = zp := by rw [← q2, ← hq p' q1, zp3, zI_toInt (by omega)]
  have yo : kCan (fi k) (cs k).toInt (-9) := by have := q3.1; rw [kk] at this; exact this
  have yv := q3.2
  rw [csz] at yo yv
  have y5 := q5 _ x1.1 x1.2 x2
  have x5 := x4 zp zp1 zp2 yo
  rw [cost _ x1.1 x1.2 x2, cost zp zp1 zp2 yo] at x5
  have lx : kch ch k (f4 k).toInt + kIts cs k (f4 k).toInt = lf := by omega
  have pp : p = p' := by
    rcases Nat.lt_trichotomy p p' with t | t | t
    · exfalso
      refine q4 p t ⟨?_, ?_⟩
      · rw [← hq p (by omega), p2]; rw [kk]; exact x2
      · rw [← hq p (by omega), p2]; exact lx
    · exact t
    · exfalso
      have := p3 p' t
      rw [cost _ x1.1 x1.2 x2] at this
      have kv : kVq gp o k (kBf f4 k) fp p' = kB gp o k zp + (if zp = kBf f4 k ∨ kBf f4 k = -9 then 0 else 1) := by
        unfold kVq
        rw [show (fp p').toInt = zp by rw [zp3, zI_toInt (by omega)]]
      rw [kv, cost zp zp1 zp2 yo] at this
      omega
  apply Int32.toInt_inj.mp
  rw [← p2, pp, hq p' q1, q2]
theorem kSE_cho (h : kSE w m has n (-9) fp pn cn bo ru f1 f2 f3 f4 f5) (r : kRc v m2 hs n2 (-9) cl b2 sa fi) (hm : m = m2) (hw : kEq w v m) (hn : n = n2) (hh : kEq has hs n) (bm : 0 ≤ m ∧ m ≤ 24) (bn : 0 ≤ n ∧ n ≤ 4) (fm : ¬ (n = 0 ∧ 1 ≤ m)) (hp : kPm fp n) (hpn : pn = n) (hq : kEq fp pf n) (hd : kDp ch fi n2 cl (-9) 0) (hft : kFt fi n2 cl (-9)) (hc : kCho ch fi cs pf n2 cl) : ∀ k : Nat, (k : Int) < cl → f4 k = cs k := by
  obtain ⟨gp, o, al, a1, a2, a3, a4, a5, a6, a7, a8⟩ := kSE_all h r hm hw hn hh bm bn (Or.inl rfl) fm hp hpn hd hft
  subst hm hn
  intro k
  induction k using Nat.strongRecOn with
  | ind k ih =>
    intro hk
    exact kCho_1 a1 a2 bn a3 a4 (a5 (by omega)) hp hpn hq a6 hc hk (fun i hi => ih i hi (by omega))
end
/-! the reference's CLUSTERS -/
section
variable {w F F2 has : Nat → Int32} {k : Nat} {jk c i z zs m l z1 z2 js k2 : Int} {x : Int32}
theorem kSa_f (h : kSa w (kNa jk) c F) (h0 : jk = 0) (e : upd F c.toNat (zI jk) = F2) : kSa w (kNa (jk + 1)) (c + 1) F2 := by
  obtain ⟨h1, h2⟩ := h
  have cc : kNa jk = 0 ∨ (w (kNa jk)).toInt < 12 := by left; show jk.toNat = 0; omega
  rw [kNp (by omega)]
  unfold kSa
  rw [kCt_y cc]
  refine ⟨by dsimp only; omega, fun i hi => ?_⟩
  dsimp only at hi ⊢
  rw [← e]
  by_cases q : i = (kCt w (kNa jk)).1
  · rw [if_pos q, show i = c.toNat by omega, pk_us, kNc (by omega)]
  · rw [if_neg q, pk_un (by omega)]
    exact h2 i (by omega)
theorem kSa_m (h : kSa w k c F) (e : upd F c.toNat x = F2) : kSa w k c F2 := ⟨h.1, fun i hi => by rw [← e, pk_un (by have := h.1; omega)]; exact h.2 i hi⟩
theorem kSa_beg (h : kSa w k c F) (hk : k ≤ 24) (hi : 0 ≤ i ∧ i < c) (rz : rg z) (e : F i.toNat = zI z) : z = ((kCt w k).2 (kNa i) : Nat) := by
  have hi2 : kNa i < (kCt w k).1 := by have := h.1; show i.toNat < _; omega
  have b := (kCt_b (w := w) k).2.2.1 (kNa i) hi2
  have q := h.2 (kNa i) hi2
  rw [show F (kNa i) = zI z from e] at q
  exact (zI_eq rz (by omega)).mp q
theorem kSa_end (h : kSa w k c F) (hk : k ≤ 24) (hm : F (kNa c) = zI m) (km : k = kNa m) (bm : 0 ≤ m) (hi : 0 ≤ i ∧ i < c) (rz : rg z) (e : F (i + 1).toNat = zI z) : z = (kEn w k (kNa i) : Nat) := by
  have hi2 : kNa i < (kCt w k).1 := by have := h.1; show i.toNat < _; omega
  have b := kEn_le (w := w) (k := k) (i := kNa i)
  refine (zI_eq rz (by omega)).mp ?_
  rw [← e]
  unfold kEn
  by_cases q : kNa i + 1 < (kCt w k).1
  · rw [if_pos q, show (i + 1).toNat = kNa i + 1 by show (i + 1).toNat = i.toNat + 1; omega]
    exact h.2 _ q
  · rw [if_neg q, show (i + 1).toNat = kNa c by have q0 : ¬ i.toNat + 1 < (kCt w k).1 := q; have := h.1; show (i + 1).toNat = c.toNat; omega, hm, km, kNc bm]
theorem kOr_0 : zI 0 = kOr w (kNa zs) (kNa (zs - zs)) := by rw [Int.sub_self]; rfl
theorem kOr_s (h : zI js = kOr w (kNa zs) (kNa (jk - zs))) (hz : 0 ≤ zs ∧ zs ≤ jk) (el : w jk.toNat = zI l) (e1 : zI 1 <<< (zI l &&& 31) = zI z1) (e2 : zI js ||| zI z1 = zI z2) : zI z2 = kOr w (kNa zs) (kNa (jk + 1 - zs)) := by
  rw [show jk + 1 - zs = (jk - zs) + 1 by omega, kNp (show 0 ≤ jk - zs by omega)]
  show zI z2 = kOr w (kNa zs) (kNa (jk - zs)) ||| (zI 1 <<< (w (kNa zs + kNa (jk - zs)) &&& 31))
  rw [← h, show kNa zs + kNa (jk - zs) = jk.toNat by show zs.toNat + (jk - zs).toNat = jk.toNat; omega, el, e1, e2]
def kFg (fi w : Nat → Int32) (m : Int) (has : Nat → Int32) (n wo j : Int) : Prop := ∀ i : Nat, (i : Int) < j → fi i = kFb (kHm has wo (kLt w (kNa m) i)) (kNa n)
theorem kFg_0 {fi : Nat → Int32} {n wo : Int} : kFg fi w m has n wo 0 := fun i h => by omega
theorem kFg_u {fi : Nat → Int32} {n wo : Int} (h : kFg fi w m has n wo c) (hc : 0 ≤ c) (e : upd fi c.toNat x = F) : kFg F w m has n wo c := fun i hi => by
  rw [← e, pk_un (by omega)]
  exact h i hi
theorem kFg_1 {fi : Nat → Int32} {n wo jg : Int} (h : kFg fi w m has n wo c) (hc : 0 ≤ c) (hx : fi c.toNat = kFb (kHm has wo (zI js)) (kNa jg)) (hg : jg = n) (hj : zI js = kOr w (kNa zs) (kNa (k2 - zs))) (ez : zs = ((kCt w (kNa m)).2 (kNa c) : Nat)) (ek : k2 = (kEn w (kNa m) (kNa c) : Nat)) : kFg fi w m has n wo (c + 1) := by
  intro i hi
  by_cases q : i = c.toNat
  · rw [q, hx, hg, hj]
    unfold kLt
    rw [show kNa zs = (kCt w (kNa m)).2 (kNa c) by show zs.toNat = _; omega, show kNa (k2 - zs) = kEn w (kNa m) (kNa c) - (kCt w (kNa m)).2 (kNa c) by show (k2 - zs).toNat = _; omega]
  · exact h i (by omega)
theorem kFu_0 {fi : Nat → Int32} {b : Nat → Bool} (e : upd fi c.toNat (zI 0) = F) : F c.toNat = kFb b (kNa 0) := by rw [← e, pk_us]; rfl
theorem kFu_y {fi : Nat → Int32} {b : Nat → Bool} {jg zo : Int} (h : fi c.toNat = kFb b (kNa jg)) (h0 : 0 ≤ jg) (hb : b (kNa jg) = true) (l : fi c.toNat = zI zo) (e1 : zI 1 <<< (zI jg &&& 31) = zI z1) (e2 : zI zo ||| zI z1 = zI z2) (e : upd fi c.toNat (zI z2) = F) : F c.toNat = kFb b (kNa (jg + 1)) := by
  rw [← e, pk_us]
  exact kFb_y (l.symm.trans h) h0 hb e1 e2
theorem kFu_n {fi : Nat → Int32} {b : Nat → Bool} {jg zo : Int} (h : fi c.toNat = kFb b (kNa jg)) (h0 : 0 ≤ jg) (hb : b (kNa jg) = false) (l : fi c.toNat = zI zo) (e2 : zI zo ||| zI 0 = zI z2) (e : upd fi c.toNat (zI z2) = F) : F c.toNat = kFb b (kNa (jg + 1)) := by
  rw [← e, pk_us, ← e2, kb_o0]
  exact kFb_n (l.symm.trans h) h0 hb
theorem kBx_u {fi : Nat → Int32} {b : Int} (h : b = kBx fi (kNa c)) (hc : 0 ≤ c) (e : upd fi c.toNat x = F) : b = kBx F (kNa c) := by
  rw [h]
  exact kBx_cong _ (fun i hi => by rw [← e, pk_un (show ¬ i = c.toNat from by have : i < c.toNat := hi; omega)])
theorem kBx_1 {fi : Nat → Int32} {b v : Int} (h : b = kBx fi (kNa c)) (hc : 0 ≤ c) (l : fi c.toNat = zI z) (rz : rg z) (hv : (z = 0 ∧ v = b + 1) ∨ (¬ z = 0 ∧ v = b)) : v = kBx fi (kNa (c + 1)) := by
  rw [kNp hc]
  show v = kBx fi (kNa c) + (if fi c.toNat = 0 then 1 else 0)
  rw [l, ← h]
  rcases hv with ⟨a, q⟩ | ⟨a, q⟩
  · rw [a, if_pos (by rfl)]; exact q
  · rw [if_neg (show ¬ zI z = 0 from fun u => a ((zI_eq rz (by omega)).mp u))]; omega
theorem kRc_of {fi : Nat → Int32} {n wo cl bo : Int} (h1 : kSa w (kNa m) cl F) (h2 : F (kNa cl) = zI m) (h3 : kFg fi w m has n wo c) (h4 : bo = kBx fi (kNa c)) (e : c = cl) : kRc w m has n wo cl bo F fi := by
  subst e
  exact ⟨h1, h2, h3, h4⟩
end
/-! how far: the sum of the STEPS -/
def kSu (st : Int32 → Int32) (f : Nat → Int32) : Nat → Int32
  | 0 => 0
  | n + 1 => kSu st f n + st (f n)
theorem kSu_cong {st s2 : Int32 → Int32} {f g : Nat → Int32} : ∀ n : Nat, (∀ i, i < n → f i = g i ∧ st (g i) = s2 (g i)) → kSu st f n = kSu s2 g n
  | 0, _ => rfl
  | n + 1, h => by
    show kSu st f n + _ = kSu s2 g n + _
    rw [kSu_cong n (fun i hi => h i (by omega)), (h n (by omega)).1, (h n (by omega)).2]
def kSx (fk fb : Nat → Int32) : Int32 → Int32 := fun x => kStX (fk x.toInt.toNat) (fb x.toInt.toNat)
def kSn (kd wd : Nat → Int32) : Int32 → Int32 := fun x => kStM (kd x.toInt.toNat) (wd x.toInt.toNat)
def kCi (f : Nat → Int32) (cn n : Int) : Prop := ∀ i : Nat, (i : Int) < cn → 0 ≤ (f i).toInt ∧ (f i).toInt < n
section
variable {st : Int32 → Int32} {f F : Nat → Int32} {js jk z z0 z2 : Int} {C : Prop}
theorem kSu_s (h : C → zI js = kSu st f (kNa jk)) (h0 : 0 ≤ jk) (l : f jk.toNat = zI z0) (hz : C → zI z = st (zI z0)) (e : zI (js + z) = zI z2) : C → zI z2 = kSu st f (kNa (jk + 1)) := by
  intro hC
  rw [kNp h0]
  show zI z2 = kSu st f (kNa jk) + st (f jk.toNat)
  rw [l, ← h hC, ← hz hC, zI_add, e]
theorem kSx_at {fk fb : Nat → Int32} (r0 : rg z0) (h : zI z = kStX (fk z0.toNat) (fb z0.toNat)) : zI z = kSx fk fb (zI z0) := by
  show zI z = kStX (fk (zI z0).toInt.toNat) (fb (zI z0).toInt.toNat)
  rw [zI_toInt r0]
  exact h
theorem kCi_at {cn n : Int} (h : kCi f cn n) (h0 : 0 ≤ jk) (hj : jk < cn) (r0 : rg z0) (l : f jk.toNat = zI z0) : 0 ≤ z0 ∧ z0 < n := by
  have := h jk.toNat (by omega)
  rw [l, zI_toInt r0] at this
  exact this
theorem kSn_s {kd wd : Nat → Int32} (h : zI js = kSu (kSn kd wd) f (kNa jk)) (h0 : 0 ≤ jk) (e : upd f jk.toNat (zI z0) = F) (l : F jk.toNat = zI z2) (r2 : rg z2) {z3 z4 : Int} (hz : zI z3 = kStM (kd z2.toNat) (wd z2.toNat)) (e4 : zI (js + z3) = zI z4) : zI z4 = kSu (kSn kd wd) F (kNa (jk + 1)) := by
  rw [kNp h0]
  show zI z4 = kSu (kSn kd wd) F (kNa jk) + kSn kd wd (F jk.toNat)
  rw [l, show kSn kd wd (zI z2) = kStM (kd z2.toNat) (wd z2.toNat) by show kStM (kd (zI z2).toInt.toNat) (wd (zI z2).toInt.toNat) = _; rw [zI_toInt r2], ← hz, ← kSu_cong (st := kSn kd wd) (f := f) (g := F) (kNa jk) (fun i hi => ⟨by rw [← e, pk_un (show ¬ i = jk.toNat from by have : i < jk.toNat := hi; omega)], rfl⟩), ← h, zI_add, e4]
end
/-! the reference's choices -/
def kLow (ch fi cs : Nat → Int32) (n cl c lf : Int) : Prop := c < cl → ∀ g : Int, 0 ≤ g → g < n → kCan (fi c.toNat) g (-9) → lf ≤ kch ch c g + kIts cs c g
def kNb (pf ch fi cs : Nat → Int32) (c lf j : Int) : Prop := ∀ q : Nat, (q : Int) < j → ¬ kIsB ch fi cs c (pf q).toInt lf
section
variable {pf ch fi cs F : Nat → Int32} {n cl c lf j z b v : Int}
theorem kLow_0 (h : 0 < cl → kBe ch fi (-9) n b) : kLow ch fi cs n cl 0 b := fun hc g g0 g1 g2 => by
  have := (h hc).2.2.1 g g0 g1 g2
  unfold kIts
  rw [if_neg (by omega)]
  omega
theorem kLow_s (h : kDp ch fi n cl (-9) 0) (hc : 0 ≤ c) (hz : 0 ≤ z ∧ z < n ∧ n ≤ 4) (e : upd cs c.toNat (zI z) = F) (ev : kch ch c z = v) : kLow ch fi F n cl (c + 1) v := fun hlt g g0 g1 g2 => by
  subst ev
  have q := ((h c z hc (by omega) hz.1 hz.2.1).2.2.2 hlt).2.2.1 g g0 g1 g2
  have hF : (F (c + 1 - 1).toNat).toInt = z := by rw [show c + 1 - 1 = c by omega, ← e, pk_us, zI_toInt (by omega)]
  unfold kdl at q
  unfold kIts
  rw [hF]
  by_cases u : g = z
  · rw [if_pos u] at q
    rw [if_neg (by omega)]
    exact q
  · rw [if_neg u] at q
    rw [if_pos (by omega)]
    exact q
theorem kNb_0 : kNb pf ch fi cs c lf 0 := fun q h => by omega
theorem kNb_s (h : kNb pf ch fi cs c lf j) (h0 : 0 ≤ j) (rz : rg z) (e : pf j.toNat = zI z) (ne : ¬ kIsB ch fi cs c z lf) : kNb pf ch fi cs c lf (j + 1) := by
  intro q hq
  by_cases u : q = j.toNat
  · rw [u, e, zI_toInt rz]; exact ne
  · exact h q (by omega)
theorem kCho_0 : kCho ch fi cs pf n 0 := fun c h1 h2 => by omega
theorem kIts_u {x : Int32} {d g : Int} (hd : d ≤ c) (e : upd cs c.toNat x = F) : kIts F d g = kIts cs d g := by
  unfold kIts
  by_cases u : 0 < d
  · rw [← e, pk_un (by omega)]
  · rw [if_neg (by omega), if_neg (by omega)]
theorem kCho_s (h : kCho ch fi cs pf n c) (hc : 0 ≤ c) (hcl : c < cl) (hj : 0 ≤ j ∧ j < n) (rz : rg z) (ep : pf j.toNat = zI z) (hb : kIsB ch fi cs c z lf) (nb : kNb pf ch fi cs c lf j) (lo : kLow ch fi cs n cl c lf) (e : upd cs c.toNat (zI z) = F) : kCho ch fi F pf n (c + 1) := by
  intro d h1 h2
  by_cases u : d = c
  · subst u
    have hF : F d.toNat = zI z := by rw [← e, pk_us]
    refine ⟨j.toNat, by omega, by rw [hF, ep], lf, ?_, fun q hq => ?_, fun g g0 g1 g2 => ?_⟩
    · rw [hF, zI_toInt rz]
      exact ⟨hb.1, by rw [kIts_u (Int.le_refl d) e]; exact hb.2⟩
    · intro w
      exact nb q (by omega) ⟨w.1, by rw [← kIts_u (Int.le_refl d) e]; exact w.2⟩
    · rw [kIts_u (Int.le_refl d) e]
      exact lo hcl g g0 g1 g2
  · obtain ⟨p, p1, p2, l, l1, l2, l3⟩ := h d h1 (by omega)
    have hF : F d.toNat = cs d.toNat := by rw [← e, pk_un (by omega)]
    refine ⟨p, p1, by rw [hF]; exact p2, l, ?_, fun q hq => ?_, fun g g0 g1 g2 => ?_⟩
    · rw [hF]
      exact ⟨l1.1, by rw [kIts_u (by omega) e]; exact l1.2⟩
    · intro w
      exact l2 q hq ⟨w.1, by rw [← kIts_u (d := d) (by omega) e]; exact w.2⟩
    · rw [kIts_u (by omega) e]
      exact l3 g g0 g1 g2
end
/-- all that the reference's findBest tells -/
def kBM (wg : Nat → Int32) (mn : Int) (hs : Nat → Int32) (fn : Int) (pf kd wd : Nat → Int32) (cl bo ru ad : Int) (sa fi ch cn : Nat → Int32) (few : Int) : Prop := kRc wg mn hs fn (-9) cl bo sa fi ∧ kDp ch fi fn cl (-9) 0 ∧ kFt fi fn cl (-9) ∧ (cl = 0 ∨ kBe ch fi (-9) fn few) ∧ (¬ cl = 0 ∨ few = 0) ∧ kCho ch fi cn pf fn cl ∧ zI ad = kSu (kSn kd wd) cn (kNa cl) ∧ ru = kRn cn cl.toNat
/-- all that the reference's findChanges tells -/
def kCM (wg : Nat → Int32) (mn : Int) (hs : Nat → Int32) (fn wo cl bo : Int) (sa fi ch : Nat → Int32) (few : Int) : Prop := kRc wg mn hs fn wo cl bo sa fi ∧ kDp ch fi fn cl wo 0 ∧ kFt fi fn cl wo ∧ (cl = 0 ∨ kBe ch fi wo fn few) ∧ (¬ cl = 0 ∨ few = 0)
/-! what both sides answer of their SETTINGS -/
theorem kSE_z {w has fp f1 f2 f3 f4 f5 : Nat → Int32} : kSE w 0 has 0 (-9) fp 0 0 0 0 f1 f2 f3 f4 f5 := ⟨fun _ => 0, fun _ _ => 0, 0, 0, by decide, kCu_0, kFz_0, rfl, kBh_top (Int.le_refl 0), kCe_0, rfl, kRo_0⟩
theorem kPm_eq {fp pf : Nat → Int32} {n : Int} (h : kPm pf n) (q : kEq fp pf n) : kPm fp n := by
  refine ⟨fun p hp => ?_, fun x h0 h1 => ?_⟩
  · obtain ⟨z, a, b, c⟩ := h.1 p hp
    exact ⟨z, a, b, by rw [q p hp]; exact c⟩
  · obtain ⟨p, a, b⟩ := h.2 x h0 h1
    exact ⟨p, a, by rw [q p a]; exact b⟩
def kMaX (w fn wn cn dn rz : Int) : Prop := (w = 0 ∧ rz = fn) ∨ (w = 1 ∧ rz = wn) ∨ (w = 2 ∧ rz = cn) ∨ (w = 3 ∧ rz = dn) ∨ (¬ (0 ≤ w ∧ w ≤ 3) ∧ rz = -2)
def kMaM (w fn mn cl dn rz : Int) (wg hs : Nat → Int32) (bo : Int) (sa fi : Nat → Int32) : Prop := (w = 0 ∧ rz = fn) ∨ (w = 1 ∧ rz = mn) ∨ (w = 2 ∧ rz = cl ∧ kRc wg mn hs fn (-9) cl bo sa fi) ∨ (w = 3 ∧ rz = dn) ∨ (¬ (0 ≤ w ∧ w ≤ 3) ∧ rz = -2)
section
variable {w fn wn cn dn bo ru mf mn cl dm b2 rx rm pn ad r2 : Int} {fw fk fb fh fp f1 f2 f3 f4 f5 wg kd wd hs pf sa fi ch cs : Nat → Int32}
theorem kMa_eq (hx : kMaX w fn wn cn dn rx) (hm : kMaM w mf mn cl dm rm wg hs b2 sa fi) (hS : kSE fw wn fh fn (-9) fp pn cn bo ru f1 f2 f3 f4 f5) (hF : kRF fn fk fb fh mf kd wd hs) (hW : kRW wn fw mn wg) (hd : dn = dm) (bw : 0 ≤ wn) (bn : 0 ≤ fn ∧ fn ≤ 4) : rx = rm := by
  have e1 := hF.1
  have e2 := hW.1
  rcases hm with h | h | ⟨h1, h2, h3⟩ | h | h
  · unfold kMaX at hx; omega
  · unfold kMaX at hx; omega
  · have q := (kSR_clu hS h3 e2 hW.2 e1 hF.2.2.2.1 bw bn (Or.inl rfl)).1
    unfold kMaX at hx
    omega
  · unfold kMaX at hx; omega
  · unfold kMaX at hx; omega
/-- the same choice, RUNS, way, CHANGES -/
theorem kBM_rel {few : Int} (hM : kBM wg mn hs mf pf kd wd cl b2 r2 ad sa fi ch cs few) (hS : kSE fw wn fh fn (-9) fp pn cn bo ru f1 f2 f3 f4 f5) (hF : kRF fn fk fb fh mf kd wd hs) (hW : kRW wn fw mn wg) (hP : kRP pn fp fn pf) (hp : kPm pf mf) (bw : 0 ≤ wn ∧ wn ≤ 24) (bn : 0 ≤ fn ∧ fn ≤ 4) (fm : ¬ (mf = 0 ∧ 1 ≤ mn)) : cn = cl ∧ bo = b2 ∧ ru = r2 ∧ ((1 ≤ ru ∧ few = ru - 1) ∨ (ru = 0 ∧ few = 0)) ∧ (0 ≤ cn ∧ cn ≤ wn) ∧ (∀ i : Nat, (i : Int) < cn → f1 i = sa i ∧ f2 i = sa (i + 1) - sa i ∧ f3 i = fi i ∧ f4 i = cs i ∧ f5 i = zI (kRn cs (i + 1) - 1)) ∧ kCi f4 cn fn ∧ kSu (kSx fk fb) f4 (kNa cn) = kSu (kSn kd wd) cs (kNa cl) := by
  obtain ⟨m1, m2, m3, m4, m5, m6, m7, m8⟩ := hM
  have e1 := hF.1
  have e2 := hW.1
  have pm : kPm fp fn := kPm_eq (e1 ▸ hp) hP.2
  obtain ⟨c1, c2, c3, c4, -⟩ := kSR_clu hS m1 e2 hW.2 e1 hF.2.2.2.1 bw.1 bn (Or.inl rfl)
  have chg := kSE_chg hS m1 e2 hW.2 e1 hF.2.2.2.1 bw bn (Or.inl rfl) (by omega) pm hP.1 m2 m3 m4 (by omega)
  have cho := kSE_cho hS m1 e2 hW.2 e1 hF.2.2.2.1 bw bn (by omega) pm hP.1 hP.2 m2 m3 m6
  obtain ⟨gp, o, al, a1, a2, a3, a4, a5, a6, a7, a8⟩ := kSE_all hS m1 e2 hW.2 e1 hF.2.2.2.1 bw bn (Or.inl rfl) (by omega) pm hP.1 m2 m3
  obtain ⟨L, gp2, o2, al2, -, -, -, -, -, -, s7, s8⟩ := hS
  have ci : kCi f4 cn fn := fun i hi => by
    obtain ⟨y1, -, -, -⟩ := kCe_is a1 a2 bn a4 (a5 (by omega)) pm hP.1 (c := (i : Int)) (by omega) (a6 i (by omega) (by omega)).1
    rw [show ((i : Int)).toNat = i by omega] at y1
    exact y1
  refine ⟨c1, c2, ?_, by omega, c4, fun i hi => ?_, ci, ?_⟩
  · rw [s7, m8, c1]
    exact kRn_cong _ (fun i hi => cho i (by have : i < cl.toNat := hi; omega))
  · obtain ⟨t1, t2, t3⟩ := c3 i hi
    refine ⟨t1, t2, t3, cho i (by omega), ?_⟩
    rw [s8 i hi, kRn_cong (f := f4) (g := cs) (i + 1) (fun j hj => cho j (by omega))]
  · rw [c1]
    refine kSu_cong _ (fun i hi => ?_)
    have hi2 : (i : Int) < cl := by have : i < cl.toNat := hi; omega
    have e4 := cho i hi2
    have cii := ci i (by omega)
    rw [e4] at cii
    refine ⟨e4, ?_⟩
    show kStX (fk (cs i).toInt.toNat) (fb (cs i).toInt.toNat) = kStM (kd (cs i).toInt.toNat) (wd (cs i).toInt.toNat)
    rw [kSt_eq (hF.2.2.2.2 _ (by omega)).1, hF.2.1 _ (by omega), hF.2.2.1 _ (by omega)]
def kBsX (w fn cn ru bo : Int) (fk fb f4 : Nat → Int32) (rz : Int) : Prop := (¬ (0 ≤ w ∧ w ≤ 3) ∧ rz = -2) ∨ ((0 ≤ w ∧ w ≤ 3) ∧ fn = 0 ∧ rz = -3) ∨ ((0 ≤ w ∧ w ≤ 3) ∧ ¬ fn = 0 ∧ ((w = 0 ∧ ((1 ≤ ru ∧ rz = ru - 1) ∨ (ru ≤ 0 ∧ rz = 0))) ∨ (w = 1 ∧ rz = ru) ∨ (w = 2 ∧ rz = bo) ∨ (w = 3 ∧ (kCi f4 cn fn → zI rz = kSu (kSx fk fb) f4 (kNa cn)))))
def kBsM (w fn rz : Int) (B : Int → Prop) (ru bo ad : Int) : Prop := (¬ (0 ≤ w ∧ w ≤ 3) ∧ rz = -2) ∨ ((0 ≤ w ∧ w ≤ 3) ∧ fn = 0 ∧ rz = -3) ∨ ((0 ≤ w ∧ w ≤ 3) ∧ ¬ fn = 0 ∧ ∃ few : Int, B few ∧ ((w = 0 ∧ rz = few) ∨ (w = 1 ∧ rz = ru) ∨ (w = 2 ∧ rz = bo) ∨ (w = 3 ∧ rz = ad)))
theorem kBs_eq (hx : kBsX w fn cn ru bo fk fb f4 rx) (hm : kBsM w mf rm (kBM wg mn hs mf pf kd wd cl b2 r2 ad sa fi ch cs) r2 b2 ad) (hS : kSE fw wn fh fn (-9) fp pn cn bo ru f1 f2 f3 f4 f5) (hF : kRF fn fk fb fh mf kd wd hs) (hW : kRW wn fw mn wg) (hP : kRP pn fp fn pf) (hp : kPm pf mf) (bw : 0 ≤ wn ∧ wn ≤ 24) (bn : 0 ≤ fn ∧ fn ≤ 4) (fm : ¬ (mf = 0 ∧ 1 ≤ mn)) (ra : rg rx) (rb : rg rm) : rx = rm := by
  have e1 := hF.1
  rcases hm with h | h | ⟨h1, h2, few, hB, h3⟩
  · unfold kBsX at hx; omega
  · unfold kBsX at hx; omega
  · obtain ⟨c1, c2, c3, c4, c5, -, ci, su⟩ := kBM_rel hB hS hF hW hP hp bw bn fm
    rcases hx with g | g | ⟨g1, g2, g3⟩
    · omega
    · omega
    · rcases g3 with g3 | g3 | g3 | ⟨g3, g4⟩
      · omega
      · omega
      · omega
      · have q := g4 ci
        rw [su, ← hB.2.2.2.2.2.2.1] at q
        have e : rm = ad := by omega
        rw [e] at rb ⊢
        exact (zI_eq ra rb).mp q
end
def kDaB (y z w : Int) : Prop := ¬ (0 ≤ y ∧ y ≤ 2) ∨ ¬ (0 ≤ z ∧ z ≤ 20) ∨ ¬ ((0 ≤ w ∧ w ≤ 4) ∨ (10 ≤ w ∧ w ≤ 13))
/-! days: what an act makes of a WRITING and a PREFERENCE -/
abbrev kDS := Int × (Nat → Int32) × (Nat → Int32)
def kAr (n a b : Int) (s t : kDS) : Prop := (b = 20 ∧ s.1 < 24 ∧ t.1 = s.1 + 1 ∧ t.2.1 = upd s.2.1 s.1.toNat (zI a) ∧ t.2.2 = s.2.2) ∨ (b = 21 ∧ (0 ≤ a ∧ a ≤ s.1) ∧ t.1 = s.1 - a ∧ t.2.1 = s.2.1 ∧ t.2.2 = s.2.2) ∨ (b = 22 ∧ t.1 = s.1 ∧ t.2.1 = s.2.1 ∧ ∃ q : Int, (0 ≤ q ∧ q < n) ∧ s.2.2 q.toNat = zI a ∧ kNo s.2.2 a q ∧ t.2.2 = upd (kMv s.2.2 q 0) 0 (zI a))
def kAf (n a b : Int) (s : kDS) : Prop := (b = 20 ∧ 24 ≤ s.1) ∨ (b = 21 ∧ ¬ (0 ≤ a ∧ a ≤ s.1)) ∨ (b = 22 ∧ kNo s.2.2 a n)
def kDr (cd : Nat → Int32) (n : Int) (s0 : kDS) : Nat → kDS → Prop
  | 0, s => s = s0
  | k + 1, s => ∃ s' : kDS, kDr cd n s0 k s' ∧ kAr n (cd (2 * k)).toInt (cd (2 * k + 1)).toInt s' s
def kDe (cd : Nat → Int32) (n : Int) (s0 : kDS) (N rz : Int) (s : kDS) : Prop := (rz = -9 ∧ kDr cd n s0 (kNa N) s) ∨ ((0 ≤ rz ∧ rz < N) ∧ kDr cd n s0 (kNa rz) s ∧ kAf n (cd (2 * kNa rz)).toInt (cd (2 * kNa rz + 1)).toInt s)
def kSim (n : Int) (s t : kDS) : Prop := s.1 = t.1 ∧ kEq s.2.1 t.2.1 s.1 ∧ kEq s.2.2 t.2.2 n
section
variable {n a b : Int} {s t s' t' s0 t0 : kDS} {cd ce : Nat → Int32}
theorem kSim_sy (h : kSim n s t) : kSim n t s := ⟨h.1.symm, fun i hi => (h.2.1 i (by have := h.1; omega)).symm, fun i hi => (h.2.2 i hi).symm⟩
theorem kAr_sim (h : kSim n s t) (h1 : kAr n a b s s') (h2 : kAr n a b t t') (b0 : 0 ≤ s.1) : kSim n s' t' := by
  obtain ⟨e1, e2, e3⟩ := h
  rcases h1 with ⟨a1, a2, a3, a4, a5⟩ | ⟨a1, a2, a3, a4, a5⟩ | ⟨a1, a2, a3, q, q1, q2, q3, q4⟩
  · rcases h2 with ⟨b1, b2, b3, b4, b5⟩ | ⟨b1, -⟩ | ⟨b1, -⟩
    · refine ⟨by omega, fun i hi => ?_, fun i hi => by rw [a5, b5]; exact e3 i hi⟩
      rw [a4, b4, ← e1]
      by_cases u : i = s.1.toNat
      · rw [u, pk_us, pk_us]
      · rw [pk_un u, pk_un u]
        exact e2 i (by omega)
    · omega
    · omega
  · rcases h2 with ⟨b1, -⟩ | ⟨b1, b2, b3, b4, b5⟩ | ⟨b1, -⟩
    · omega
    · exact ⟨by omega, fun i hi => by rw [a4, b4]; exact e2 i (by omega), fun i hi => by rw [a5, b5]; exact e3 i hi⟩
    · omega
  · rcases h2 with ⟨b1, -⟩ | ⟨b1, -⟩ | ⟨b1, b2, b3, r, r1, r2, r3, r4⟩
    · omega
    · omega
    · have qr : q = r := by
        by_cases u : q < r
        · exact absurd (by rw [← e3 q.toNat (by omega)]; exact q2) (r3 q.toNat (by omega))
        · by_cases v : r < q
          · exact absurd (by rw [e3 r.toNat (by omega)]; exact r2) (q3 r.toNat (by omega))
          · omega
      subst qr
      refine ⟨by omega, fun i hi => by rw [a3, b3]; exact e2 i (by omega), ?_⟩
      rw [q4, r4]
      exact kMv_eq e3 q1.2
theorem kAr_af (h : kSim n s t) (h1 : kAr n a b s s') (h2 : kAf n a b t) : False := by
  obtain ⟨e1, e2, e3⟩ := h
  rcases h1 with ⟨a1, a2, -⟩ | ⟨a1, a2, -⟩ | ⟨a1, a2, a3, q, q1, q2, q3, q4⟩
  · rcases h2 with ⟨b1, b2⟩ | ⟨b1, b2⟩ | ⟨b1, b2⟩ <;> omega
  · rcases h2 with ⟨b1, b2⟩ | ⟨b1, b2⟩ | ⟨b1, b2⟩ <;> omega
  · rcases h2 with ⟨b1, b2⟩ | ⟨b1, b2⟩ | ⟨b1, b2⟩
    · omega
    · omega
    · exact b2 q.toNat (by omega) (by rw [← e3 q.toNat (by omega)]; exact q2)
theorem kAr_b (h : kAr n a b s t) (h0 : 0 ≤ s.1) : 0 ≤ t.1 := by
  rcases h with ⟨a1, a2, a3, -⟩ | ⟨a1, a2, a3, -⟩ | ⟨a1, a2, -⟩ <;> omega
theorem kDr_b (b0 : 0 ≤ s0.1) : ∀ (k : Nat) (s : kDS), kDr cd n s0 k s → 0 ≤ s.1
  | 0, s, h => by
    have e : s = s0 := h
    rw [e]; exact b0
  | k + 1, s, h => by
    obtain ⟨s', h1, h2⟩ := h
    exact kAr_b h2 (kDr_b b0 k s' h1)
theorem kDr_sim (h : kSim n s0 t0) (b0 : 0 ≤ s0.1) : ∀ (k : Nat) (s t : kDS), (∀ j, j < 2 * k → cd j = ce j) → kDr cd n s0 k s → kDr ce n t0 k t → kSim n s t
  | 0, s, t, _, h1, h2 => by
    have e1 : s = s0 := h1
    have e2 : t = t0 := h2
    rw [e1, e2]; exact h
  | k + 1, s, t, e, h1, h2 => by
    obtain ⟨s', a1, a2⟩ := h1
    obtain ⟨t', b1, b2⟩ := h2
    rw [← e (2 * k) (by omega), ← e (2 * k + 1) (by omega)] at b2
    exact kAr_sim (kDr_sim h b0 k s' t' (fun j hj => e j (by omega)) a1 b1) a2 b2 (kDr_b b0 k s' a1)
theorem kDr_at : ∀ (k : Nat) (s : kDS), kDr cd n s0 k s → ∀ j, j < k → ∃ s1 s2 : kDS, kDr cd n s0 j s1 ∧ kAr n (cd (2 * j)).toInt (cd (2 * j + 1)).toInt s1 s2
  | 0, _, _, j, hj => by omega
  | k + 1, s, h, j, hj => by
    obtain ⟨s', h1, h2⟩ := h
    by_cases q : j = k
    · rw [q]; exact ⟨s', s, h1, h2⟩
    · exact kDr_at k s' h1 j (by omega)
theorem kDe_eq {N rx rm : Int} (h : kSim n s0 t0) (b0 : 0 ≤ s0.1) (hN : 0 ≤ N) (e : ∀ j : Nat, j < (2 * N).toNat → cd j = ce j) (hx : kDe cd n s0 N rx s) (hm : kDe ce n t0 N rm t) : rx = rm ∧ kSim n s t := by
  have ek : ∀ k : Nat, (k : Int) ≤ N → ∀ j, j < 2 * k → cd j = ce j := fun k hk j hj => e j (by omega)
  rcases hx with ⟨x1, x2⟩ | ⟨x1, x2, x3⟩
  · rcases hm with ⟨m1, m2⟩ | ⟨m1, m2, m3⟩
    · exact ⟨by omega, kDr_sim h b0 _ s t (ek _ (by rw [kNc hN]; omega)) x2 m2⟩
    · exfalso
      have jn : ((kNa rm : Nat) : Int) = rm := kNc m1.1
      obtain ⟨s1, s2, u1, u2⟩ := kDr_at _ s x2 (kNa rm) (by show rm.toNat < N.toNat; omega)
      rw [e _ (by omega), e _ (by omega)] at u2
      exact kAr_af (kDr_sim h b0 _ s1 t (ek _ (by omega)) u1 m2) u2 m3
  · have jx : ((kNa rx : Nat) : Int) = rx := kNc x1.1
    rcases hm with ⟨m1, m2⟩ | ⟨m1, m2, m3⟩
    · exfalso
      obtain ⟨t1, t2, u1, u2⟩ := kDr_at _ t m2 (kNa rx) (by show rx.toNat < N.toNat; omega)
      rw [← e _ (by omega), ← e _ (by omega)] at u2
      exact kAr_af (kSim_sy (kDr_sim h b0 _ s t1 (ek _ (by omega)) x2 u1)) u2 x3
    · have jm : ((kNa rm : Nat) : Int) = rm := kNc m1.1
      rcases Int.lt_trichotomy rx rm with q | q | q
      · exfalso
        obtain ⟨t1, t2, u1, u2⟩ := kDr_at _ t m2 (kNa rx) (by omega)
        rw [← e _ (by omega), ← e _ (by omega)] at u2
        exact kAr_af (kSim_sy (kDr_sim h b0 _ s t1 (ek _ (by omega)) x2 u1)) u2 x3
      · subst q
        exact ⟨rfl, kDr_sim h b0 _ s t (ek _ (by omega)) x2 m2⟩
      · exfalso
        obtain ⟨s1, s2, u1, u2⟩ := kDr_at _ s x2 (kNa rm) (by omega)
        rw [e _ (by omega), e _ (by omega)] at u2
        exact kAr_af (kDr_sim h b0 _ s1 t (ek _ (by omega)) u1 m2) u2 m3
/-- a pair's two cells -/
theorem kDr_s {k x y : Int} (h : kDr cd n s0 (kNa k) s) (h0 : 0 ≤ k) (rx : rg x) (ry : rg y) (ex : cd (2 * kNa k) = zI x) (ey : cd (2 * kNa k + 1) = zI y) (ha : kAr n x y s t) : kDr cd n s0 (kNa (k + 1)) t := by
  rw [kNp h0]
  exact ⟨s, h, by rw [ex, ey, zI_toInt rx, zI_toInt ry]; exact ha⟩
theorem kDe_f {k x y N : Int} (h : kDr cd n s0 (kNa k) s) (h0 : 0 ≤ k ∧ k < N) (rx : rg x) (ry : rg y) (ex : cd (2 * kNa k) = zI x) (ey : cd (2 * kNa k + 1) = zI y) (ha : kAf n x y s) : kDe cd n s0 N k s := Or.inr ⟨h0, h, by rw [ex, ey, zI_toInt rx, zI_toInt ry]; exact ha⟩
theorem kDe_n {k N : Int} (h : kDr cd n s0 (kNa k) s) (e : k = N) : kDe cd n s0 N (-9) s := Or.inl ⟨rfl, e ▸ h⟩
/-- all pairs are acts -/
def kAcs (cd : Nat → Int32) (z : Int) : Prop := ∀ j : Nat, (j : Int) < z → kPair (cd (2 * j)).toInt (cd (2 * j + 1)).toInt
theorem kAcs_0 : kAcs cd 0 := fun j h => by omega
theorem kAcs_s {k x y : Int} (h : kAcs cd k) (h0 : 0 ≤ k) (rx : rg x) (ry : rg y) (ex : cd (2 * kNa k) = zI x) (ey : cd (2 * kNa k + 1) = zI y) (p : kPair x y) : kAcs cd (k + 1) := by
  intro j hj
  by_cases q : j = kNa k
  · rw [q, ex, ey, zI_toInt rx, zI_toInt ry]; exact p
  · exact h j (by have : ¬ j = k.toNat := q; omega)
theorem kAcs_le {k z : Int} (h : kAcs cd k) (e : z ≤ k) : kAcs cd z := fun j hj => h j (by omega)
theorem kAcs_no {k x y z : Int} (h0 : 0 ≤ k ∧ k < z) (rx : rg x) (ry : rg y) (ex : cd (2 * kNa k) = zI x) (ey : cd (2 * kNa k + 1) = zI y) (p : ¬ kPair x y) : ¬ kAcs cd z := fun h => p (by
  have q := h (kNa k) (by rw [kNc h0.1]; exact h0.2)
  rw [ex, ey, zI_toInt rx, zI_toInt ry] at q
  exact q)
theorem kAcs_at {k x y z : Int} (h : kAcs cd z) (h0 : 0 ≤ k ∧ k < z) (rx : rg x) (ry : rg y) (ex : cd (2 * kNa k) = zI x) (ey : cd (2 * kNa k + 1) = zI y) : kPair x y := by
  have q := h (kNa k) (by rw [kNc h0.1]; exact h0.2)
  rw [ex, ey, zI_toInt rx, zI_toInt ry] at q
  exact q
theorem kAcs_cong {z : Int} (h : kAcs cd z) (e : ∀ j : Nat, j < (2 * z).toNat → ce j = cd j) : kAcs ce z := fun j hj => by
  rw [e _ (by omega), e _ (by omega)]
  exact h j hj
/-- the cells of a pair, in the two readings -/
theorem kCd2 {f : Nat → Int32} {o k : Int} {x : Int32} (h : 0 ≤ o ∧ 0 ≤ k) (e : f (o + 2 * k).toNat = x) : kCd f o (2 * kNa k) = x := by
  show f (o + ((2 * k.toNat : Nat) : Int)).toNat = x
  rw [show (o + ((2 * k.toNat : Nat) : Int)).toNat = (o + 2 * k).toNat by omega]
  exact e
theorem kCd3 {f : Nat → Int32} {o k : Int} {x : Int32} (h : 0 ≤ o ∧ 0 ≤ k) (e : f (o + 2 * k + 1).toNat = x) : kCd f o (2 * kNa k + 1) = x := by
  show f (o + ((2 * k.toNat + 1 : Nat) : Int)).toNat = x
  rw [show (o + ((2 * k.toNat + 1 : Nat) : Int)).toNat = (o + 2 * k + 1).toNat by omega]
  exact e
end
/-! what a day tells -/
def kDtX (w pn fn : Int) (fk fb fh : Nat → Int32) (s : kDS) (r : Int) : Prop := (10 ≤ w ∧ kPl s.2.2 pn (w - 10) r) ∨ (w < 10 ∧ ∃ (cn bo ru : Int) (f1 f2 f3 f4 f5 : Nat → Int32), kSE s.2.1 s.1 fh fn (-9) s.2.2 pn cn bo ru f1 f2 f3 f4 f5 ∧ ((w = 0 ∧ ((1 ≤ ru ∧ r = ru - 1) ∨ (ru ≤ 0 ∧ r = 0))) ∨ (w = 2 ∧ r = cn) ∨ (w = 3 ∧ r = bo) ∨ ((¬ w = 0 ∧ ¬ w = 2 ∧ ¬ w = 3) ∧ (kCi f4 cn fn → zI r = kSu (kSx fk fb) f4 (kNa cn)))))
def kDtM (w fn : Int) (kd wd hs : Nat → Int32) (s : kDS) (r : Int) : Prop := (10 ≤ w ∧ (((0 ≤ w - 10 ∧ w - 10 < fn) ∧ (0 ≤ r ∧ r < fn) ∧ s.2.2 r.toNat = zI (w - 10) ∧ kNo s.2.2 (w - 10) r) ∨ (¬ (0 ≤ w - 10 ∧ w - 10 < fn) ∧ r = -9))) ∨ (w < 10 ∧ ∃ (cl bo ru ad few : Int) (sa fi ch cs : Nat → Int32), kBM s.2.1 s.1 hs fn s.2.2 kd wd cl bo ru ad sa fi ch cs few ∧ ((w = 0 ∧ r = few) ∨ (w = 2 ∧ r = cl) ∨ (w = 3 ∧ r = bo) ∨ ((¬ w = 0 ∧ ¬ w = 2 ∧ ¬ w = 3) ∧ r = ad)))
section
variable {w pn fn mf rx rm : Int} {fk fb fh kd wd hs : Nat → Int32} {s t : kDS}
theorem kDt_eq (hx : kDtX w pn fn fk fb fh s rx) (hm : kDtM w mf kd wd hs t rm) (h : kSim fn s t) (hF : kRF fn fk fb fh mf kd wd hs) (hpn : pn = fn) (hp : kPm t.2.2 mf) (bw : 0 ≤ s.1 ∧ s.1 ≤ 24) (bn : 1 ≤ fn ∧ fn ≤ 4) (ww : (0 ≤ w ∧ w ≤ 4) ∨ (10 ≤ w ∧ w ≤ 13)) (ra : rg rx) (rb : rg rm) : rx = rm := by
  have e1 := hF.1
  obtain ⟨s1, s2, s3⟩ := h
  rcases hx with ⟨x1, x2⟩ | ⟨x1, cn, bo, ru, f1, f2, f3, f4, f5, hS, x2⟩
  · rcases hm with ⟨-, m2⟩ | ⟨m1, -⟩
    · rcases m2 with ⟨m3, m4, m5, m6⟩ | ⟨m3, m4⟩
      · rcases x2 with ⟨u1, u2⟩ | ⟨u1, u2, u3⟩
        · exact absurd (by rw [s3 rm.toNat (by omega)]; exact m5) (u2 rm.toNat (by omega))
        · by_cases q : rx < rm
          · exact absurd (by rw [← s3 rx.toNat (by omega)]; exact u2) (m6 rx.toNat (by omega))
          · by_cases q2 : rm < rx
            · exact absurd (by rw [s3 rm.toNat (by omega)]; exact m5) (u3 rm.toNat (by omega))
            · omega
      · rcases x2 with ⟨u1, u2⟩ | ⟨u1, u2, u3⟩
        · omega
        · exfalso
          obtain ⟨z, z1, z2, z3⟩ := hp.1 rx.toNat (by omega)
          rw [← s3 rx.toNat (by omega), u2] at z3
          have := (zI_eq (by omega) (by omega)).mp z3
          omega
    · omega
  · rcases hm with ⟨m1, -⟩ | ⟨-, cl, b2, r2, ad, few, sa, fi, ch, cs, hB, m2⟩
    · omega
    · obtain ⟨c1, c2, c3, c4, c5, -, ci, su⟩ := kBM_rel hB hS hF ⟨s1, s2⟩ ⟨hpn, s3⟩ hp bw (by omega) (by omega)
      rcases x2 with ⟨a, e⟩ | ⟨a, e⟩ | ⟨a, e⟩ | ⟨a, e⟩
      all_goals rcases m2 with ⟨d, u⟩ | ⟨d, u⟩ | ⟨d, u⟩ | ⟨d, u⟩
      all_goals try omega
      have q := e ci
      rw [su, ← hB.2.2.2.2.2.2.1] at q
      rw [u] at rb ⊢
      exact (zI_eq ra rb).mp q
end
def kDtN (w fn : Int) (kd wd hs : Nat → Int32) (s : kDS) (r : Int) : Prop := kDtM w fn kd wd hs s r ∧ kPm s.2.2 fn
def kDyI (cd : Nat → Int32) (fn n z w : Int) (s0 : kDS) (T : kDS → Int → Prop) (r : Int) : Prop := (fn = 0 ∧ r = -3) ∨ (¬ fn = 0 ∧ ¬ kAcs cd z ∧ r = -2) ∨ (¬ fn = 0 ∧ kAcs cd z ∧ ∃ (g : Int) (s : kDS), kDe cd n s0 z g s ∧ ((w = 1 ∧ r = g) ∨ (¬ w = 1 ∧ ¬ g = -9 ∧ r = -100 - g) ∨ (¬ w = 1 ∧ g = -9 ∧ (0 ≤ s.1 ∧ s.1 ≤ 24) ∧ T s r)))
def kDyJ (cd : Nat → Int32) (fn n z w wn : Int) (fw fp : Nat → Int32) (D : kDS → Int → Prop) (r : Int) : Prop := ∃ w0 p0 : Nat → Int32, kEq w0 fw 24 ∧ kEq p0 fp 4 ∧ kDyI cd fn n z w (wn, w0, p0) D r
def kDyX (T L N : Int → Int) (F : Int → Nat → Int32) (k y i z w fn n wn : Int) (fw fp : Nat → Int32) (D : kDS → Int → Prop) (lf rz : Int) : Prop := kGa k (kDaB y z w) (fun l9 r9 => kGt (fun w9 => kAg (T k) (L k) (N k) y i (2 * z) w9) (kDyJ (kCd (F k) i) fn n z w wn fw fp D) True l9 r9) True lf rz
def kDyM (so sl ce : Nat → Int32) (k y i z w fn mn : Int) (wg pf : Nat → Int32) (D : kDS → Int → Prop) (lf rz : Int) : Prop := kGa k (kDaB y z w) (fun l9 r9 => kGt (fun w9 => kAgM (so k.toNat).toInt (sl k.toNat).toInt y i (2 * z) w9) (kDyI (kCd ce (60 * k + i)) fn fn z w (mn, wg, pf) D) True l9 r9) True lf rz
section
variable {T L N : Int → Int} {F : Int → Nat → Int32} {k y i z w pn fn mf wn mn lf fa rx rm t l n : Int} {so sl ce fk fb fh kd wd hs fw fp wg pf f : Nat → Int32} {D : kDS → Int → Prop}
theorem kDyX_G (h : 0 ≤ k ∧ k ≤ 3) (hy : (0 ≤ y ∧ y ≤ 2) ∧ (0 ≤ z ∧ z ≤ 20) ∧ ((0 ≤ w ∧ w ≤ 4) ∨ (10 ≤ w ∧ w ≤ 13))) (ht : T k = t) (hl : L k = l) (hn : N k = n) (hf : F k = f) (hg : kGt (fun w9 => kAg t l n y i (2 * z) w9) (kDyJ (kCd f i) fn pn z w wn fw fp D) True lf rx) : kDyX T L N F k y i z w fn pn wn fw fp D lf rx := by
  unfold kDyX
  rw [ht, hl, hn, hf]
  exact kGa_3 h (fun q => by unfold kDaB at q; omega) hg
theorem kDy_eq (hS : kSR T L N F so sl ce) (hx : kDyX T L N F k y i z w fn pn wn fw fp (kDtX w pn fn fk fb fh) lf rx) (hm : kDyM so sl ce k y i z w mf mn wg pf (kDtN w mf kd wd hs) fa rm) (hF : kRF fn fk fb fh mf kd wd hs) (hW : kRW wn fw mn wg) (hP : kRP pn fp fn pf) (bw : 0 ≤ wn ∧ wn ≤ 24) (bn : 0 ≤ fn ∧ fn ≤ 4) (ra : rg rx) (rb : rg rm) : rx = rm := by
  have e1 := hF.1
  have e2 := hW.1
  obtain ⟨-, h⟩ := kGa_rel hx hm (fun hk _ w v a b => kAg_rel hS hk a b)
  rcases h with ⟨-, -, e⟩ | ⟨hk, hb, ag, ⟨w0, p0, q1, q2, ix⟩, im⟩
  · exact e
  · have ec := kCd_rel hS hk ag
    have bz : 0 ≤ z ∧ z ≤ 20 ∧ ((0 ≤ w ∧ w ≤ 4) ∨ (10 ≤ w ∧ w ≤ 13)) := by unfold kDaB at hb; omega
    rcases ix with ⟨a1, a2⟩ | ⟨a1, a2, a3⟩ | ⟨a1, a2, g, s, a3, a4⟩
    · rcases im with ⟨b1, b2⟩ | ⟨b1, -⟩ | ⟨b1, -⟩ <;> omega
    · rcases im with ⟨b1, -⟩ | ⟨b1, b2, b3⟩ | ⟨b1, b2, -⟩
      · omega
      · omega
      · exact absurd (kAcs_cong b2 (fun j hj => ec j hj)) a2
    · rcases im with ⟨b1, -⟩ | ⟨b1, b2, b3⟩ | ⟨b1, b2, g2, u, b3, b4⟩
      · omega
      · exact absurd (kAcs_cong a2 (fun j hj => (ec j hj).symm)) b2
      · have sim : kSim fn ((wn, w0, p0) : kDS) ((mn, wg, pf) : kDS) := ⟨e2, fun j hj => by
          have hj2 : (j : Int) < wn := hj
          show w0 j = wg j
          rw [q1 j (by omega), hW.2 j hj2], fun j hj => by
          show p0 j = pf j
          rw [q2 j (by omega), hP.2 j hj]⟩
        rw [← e1] at b3
        rw [hP.1] at a3
        obtain ⟨r1, r2⟩ := kDe_eq sim bw.1 (by omega) (fun j hj => ec j hj) a3 b3
        rcases a4 with ⟨c1, c2⟩ | ⟨c1, c2, c3⟩ | ⟨c1, c2, c3, c4⟩
        all_goals rcases b4 with ⟨d1, d2⟩ | ⟨d1, d2, d3⟩ | ⟨d1, d2, d3, d4, d5⟩
        all_goals try omega
        exact kDt_eq c4 d4 r2 hF hP.1 d5 c3 (by omega) bz.2.2 ra rb
end
/-! for the walks -/
def kDx (cd : Nat → Int32) (pn wn : Int) (fw fp : Nat → Int32) (z g : Int) (s : kDS) : Prop := ∃ w0 p0 : Nat → Int32, kEq w0 fw 24 ∧ kEq p0 fp 4 ∧ kDe cd pn (wn, w0, p0) z g s
def kSA (n a b rz : Int) (s t : kDS) : Prop := (rz = 1 ∧ kAr n a b s t) ∨ (rz = 0 ∧ kAf n a b s ∧ t = s)
section
variable {cd fw fp w0 p0 uf up : Nat → Int32} {fn pn wn n m z g k x y a b rz un : Int} {s t s0 : kDS} {D : kDS → Int → Prop} {w r : Int}
theorem kDx_of (hm : m = wn) (hn : n = pn) (h1 : kEq w0 fw 24) (h2 : kEq p0 fp 4) (h : kDe cd n (m, w0, p0) z g s) : kDx cd pn wn fw fp z g s := by
  subst hm hn
  exact ⟨w0, p0, h1, h2, h⟩
theorem kDyJ_3 (h : fn = 0) (hr : r = -3) : kDyJ cd fn n z w wn fw fp D r := ⟨fw, fp, kEq_rf, kEq_rf, Or.inl ⟨h, hr⟩⟩
theorem kDyJ_2 (h : ¬ fn = 0) (ha : ¬ kAcs cd z) (hr : r = -2) : kDyJ cd fn n z w wn fw fp D r := ⟨fw, fp, kEq_rf, kEq_rf, Or.inr (Or.inl ⟨h, ha, hr⟩)⟩
theorem kDyJ_1 (h : ¬ fn = 0) (ha : kAcs cd z) (hx : kDx cd n wn fw fp z g s) (hr : (w = 1 ∧ r = g) ∨ (¬ w = 1 ∧ ¬ g = -9 ∧ r = -100 - g) ∨ (¬ w = 1 ∧ g = -9 ∧ (0 ≤ s.1 ∧ s.1 ≤ 24) ∧ D s r)) : kDyJ cd fn n z w wn fw fp D r := by
  obtain ⟨w0, p0, h1, h2, h3⟩ := hx
  exact ⟨w0, p0, h1, h2, Or.inr (Or.inr ⟨h, ha, g, s, h3, hr⟩)⟩
theorem kSA_20 {fsw fsp : Nat → Int32} {swn : Int} (hb : b = 20) (h : (swn < 24 ∧ rz = 1 ∧ un = swn + 1 ∧ uf = upd fsw swn.toNat (zI a)) ∨ (24 ≤ swn ∧ rz = 0 ∧ un = swn ∧ uf = fsw)) : kSA n a b rz (swn, fsw, fsp) (un, uf, fsp) := by
  rcases h with ⟨h1, h2, h3, h4⟩ | ⟨h1, h2, h3, h4⟩
  · exact Or.inl ⟨h2, Or.inl ⟨hb, h1, h3, h4, rfl⟩⟩
  · exact Or.inr ⟨h2, Or.inl ⟨hb, h1⟩, by rw [h3, h4]⟩
theorem kSA_21 {fsw fsp : Nat → Int32} {swn : Int} (hb : b = 21) (h : (0 ≤ a ∧ a ≤ swn ∧ rz = 1 ∧ un = swn - a) ∨ (¬ (0 ≤ a ∧ a ≤ swn) ∧ rz = 0 ∧ un = swn)) : kSA n a b rz (swn, fsw, fsp) (un, fsw, fsp) := by
  rcases h with ⟨h1, h2, h3, h4⟩ | ⟨h1, h2, h3⟩
  · exact Or.inl ⟨h3, Or.inr (Or.inl ⟨hb, ⟨h1, h2⟩, h4, rfl, rfl⟩)⟩
  · exact Or.inr ⟨h2, Or.inr (Or.inl ⟨hb, h1⟩), by rw [h3]⟩
theorem kSA_22 {fsw fsp : Nat → Int32} {swn : Int} (hb : b = 22) (h : kLd fsp n a up rz) : kSA n a b rz (swn, fsw, fsp) (swn, fsw, up) := by
  rcases h with ⟨h1, h2, h3⟩ | ⟨h1, w, h2, h3, h4⟩
  · refine Or.inr ⟨h1, Or.inr (Or.inr ⟨hb, ?_⟩), by rw [h2]⟩
    rcases h3 with ⟨-, q⟩ | ⟨q, -⟩
    · exact q
    · omega
  · refine Or.inl ⟨h1, Or.inr (Or.inr ⟨hb, rfl, rfl, w, h2, ?_⟩)⟩
    rcases h3 with ⟨q, -⟩ | ⟨q, q2, q3⟩
    · omega
    · exact ⟨q2, q3, h4⟩
theorem kDe_sa (h : kDr cd n s0 (kNa k) s) (h0 : 0 ≤ k ∧ k < z) (rx : rg x) (ry : rg y) (ex : cd (2 * kNa k) = zI x) (ey : cd (2 * kNa k + 1) = zI y) (ha : kSA n x y rz s t) (hz : rz = 0) : kDe cd n s0 z k t := by
  rcases ha with ⟨q, -⟩ | ⟨-, q, e⟩
  · omega
  · rw [e]
    exact kDe_f h h0 rx ry ex ey q
theorem kDr_sa (h : kDr cd n s0 (kNa k) s) (h0 : 0 ≤ k) (rx : rg x) (ry : rg y) (ex : cd (2 * kNa k) = zI x) (ey : cd (2 * kNa k + 1) = zI y) (ha : kSA n x y rz s t) (hz : ¬ rz = 0) : kDr cd n s0 (kNa (k + 1)) t := by
  rcases ha with ⟨-, q⟩ | ⟨q, -⟩
  · exact kDr_s h h0 rx ry ex ey q
  · omega
theorem kCd2a {f : Nat → Int32} {th N o : Int} (hat : th = 1 ∧ 0 ≤ o + 2 * k ∧ o + 2 * k ≤ N - 1) (h : 0 ≤ o ∧ 0 ≤ k) (e : kAt th N (o + 2 * k) f = zI z) : kCd f o (2 * kNa k) = zI z := kCd2 h (by unfold kAt at e; rw [if_pos hat] at e; exact e)
theorem kCd3a {f : Nat → Int32} {th N o : Int} (hat : th = 1 ∧ 0 ≤ o + 2 * k + 1 ∧ o + 2 * k + 1 ≤ N - 1) (h : 0 ≤ o ∧ 0 ≤ k) (e : kAt th N (o + 2 * k + 1) f = zI z) : kCd f o (2 * kNa k + 1) = zI z := kCd3 h (by unfold kAt at e; rw [if_pos hat] at e; exact e)
theorem kNo_pm {pf : Nat → Int32} (hp : kPm pf n) (hn : n ≤ 4) (rx : rg x) (h : ¬ (0 ≤ x ∧ x < n)) : kNo pf x n := fun i hi e => by
  obtain ⟨v, v1, v2, v3⟩ := hp.1 i hi
  rw [v3] at e
  have := (zI_eq (by omega) rx).mp e
  omega
end
theorem kOrN {P : Prop} {z : Int} (h : (z = 1 ∧ P) ∨ (z = 0 ∧ ¬ P)) (q : z = 0) : ¬ P := by
  rcases h with h | h
  · omega
  · exact h.2
theorem kOrY {P : Prop} {z : Int} (h : (z = 1 ∧ P) ∨ (z = 0 ∧ ¬ P)) (q : ¬ z = 0) : P := by
  rcases h with h | h
  · exact h.2
  · omega
theorem kDt_n {w n pn fn r : Int} {fk fb fh : Nat → Int32} {s : kDS} (h : kDtX w n fn fk fb fh s r) (e : n = pn) : kDtX w pn fn fk fb fh s r := e ▸ h
set_option maxRecDepth 20000 in
theorem mw_X0_all_b_0 : (.fieldLink RX0 21 "FontRuns$FontRow" "count" "I" : Cond) ∈ wsX0_all := List.mem_cons_of_mem _ (List.mem_append_left _ (List.mem_of_getElem? (i := 0) rfl))
set_option maxHeartbeats 4000000 in
set_option maxRecDepth 100000 in
theorem c_X0_all_b (l : Launch) (D : va_G) (sz : Nat) (h0 : Nat) (k1 : Nat) (k2 : Nat) (k3 : Nat) (n : Int) (q0 : 0 ≤ n ∧ n ≤ 4) : Met l yX0_all wsX0_all ({ frames := 0, cells := 0, slots := 0, locals := 0 }) (kPre [.ref h0] D [(h0, .inr (0, [.ref k1, .ref k2, .ref k3, .int (zI n)]))] [] sz) (QcP (fun rz => zI rz = kAl n)) 0 0 (fun _ => False) := by
  refine Met.ofW (cc := cX0_all) (maxL := 1) (ret := (some .int)) (by decide) rfl ?_
  intro p e s m args below meth c s₁ B hml hv
  obtain ⟨rfl, hsz, hP, hK, hD0, hN⟩ := hv
  have hx := B.exec
  have hb := B.bytes
  have hr := B.returns
  have hts := atoms_spec (ws := wsX0_all) B.pre
  have hown : s.vm.findClass RX0 = some m.cls := findClass_of_methodNamed B.named
  have hlocks := B.notSynchronized
  subst hsz
  have hD := hD0
  have hP : va_P D vwCl [(h0, .inr (0, [.ref k1, .ref k2, .ref k3, .int (zI n)]))] s.heap := hP
  have hl := lv_entry ([.ref h0]) (n := 1) (Nat.le_of_ble_eq_true rfl)
  rw [lg_entry_eq]
  generalize (lg_sl ([.ref h0]) ++ List.replicate (1 - (lg_sl ([.ref h0])).length) Slot.unset).toArray = ls at hl ⊢
  have hl : lv_has ls 1 [(0, .ref h0)] := hl
  refine lv_iconst (v := zI 1) hx hb dX0_all_0 rfl ?_
  refine lv_aload_n hx hb dX0_all_1 rfl (lv_at hl 0 rfl) ?_
  refine va_get (D := D) (ci := 0) (v := .int (zI n)) (C := RX0) (T := TX0) (N := 4) hx hb hts (fun _ h9 => List.mem_cons_of_mem _ (List.mem_append_right _ h9)) hown hK hP 0 rfl rfl 3 (by decide) (hts (.fieldLink RX0 21 "FontRuns$FontRow" "count" "I") mw_X0_all_b_0) (fun _ h9 => h9) rfl dX0_all_2 ?_
  refine lv_ishl hx hb dX0_all_5 ?_
  refine kz_any (fun z_1 rz_1 ez_1 => ?_)
  refine lv_iconst (v := zI 1) hx hb dX0_all_6 rfl ?_
  refine kz_isub hx hb dX0_all_7 ?_
  refine kz_any (fun z_2 rz_2 ez_2 => ?_)
  exact W.iret (v := (zI z_2)) hx hb hr (fun t ht hW => QcP_of (by omega) (by unfold kAl; rw [ez_1, zI_sub]; exact ez_2.symm) ht) (fun _ h9 => by cases h9) dX0_all_8
set_option maxRecDepth 20000 in
theorem mw_X0_fitting_b_0 : (.fieldLink RX0 21 "FontRuns$FontRow" "count" "I" : Cond) ∈ wsX0_fitting := List.mem_cons_of_mem _ (List.mem_append_left _ (List.mem_of_getElem? (i := 0) rfl))
set_option maxRecDepth 20000 in
theorem mw_X0_fitting_b_1 : (.fieldLink RX0 18 "FontRuns$FontRow" "has" "[I" : Cond) ∈ wsX0_fitting := List.mem_cons_of_mem _ (List.mem_append_left _ (List.mem_of_getElem? (i := 1) rfl))
set_option maxHeartbeats 4000000 in
set_option maxRecDepth 100000 in
theorem c_X0_fitting_b (l : Launch) (D : va_G) (sz : Nat) (le : Int) (h0 : Nat) (k1 : Nat) (k2 : Nat) (k3 : Nat) (n : Int) (ck3 : ClassId) (fh : Nat → Int32) (q0 : rg le) (q1 : 0 ≤ n ∧ n ≤ 4) : Met l yX0_fitting wsX0_fitting ({ frames := 0, cells := 0, slots := 0, locals := 0 }) (kPre [.ref h0, .int (zI le)] D [(h0, .inr (0, [.ref k1, .ref k2, .ref k3, .int (zI n)])), (k3, .inl (ck3, 4, .inl fh))] [(ck3, .int)] sz) (QcP (fun rz => zI rz = kFb (kHx fh (zI le)) (kNa n))) 0 0 (fun _ => False) := by
  refine Met.ofW (cc := cX0_fitting) (maxL := 4) (ret := (some .int)) (by decide) rfl ?_
  intro p e s m args below meth c s₁ B hml hv
  obtain ⟨rfl, hsz, hP, hK, hD0, hN⟩ := hv
  have hx := B.exec
  have hb := B.bytes
  have hr := B.returns
  have hts := atoms_spec (ws := wsX0_fitting) B.pre
  have hown : s.vm.findClass RX0 = some m.cls := findClass_of_methodNamed B.named
  have hlocks := B.notSynchronized
  subst hsz
  have hD := hD0
  have hP : va_P D vwCl [(h0, .inr (0, [.ref k1, .ref k2, .ref k3, .int (zI n)])), (k3, .inl (ck3, 4, .inl fh))] s.heap := hP
  have hl := lv_entry ([.ref h0, .int (zI le)]) (n := 4) (Nat.le_of_ble_eq_true rfl)
  rw [lg_entry_eq]
  generalize (lg_sl ([.ref h0, .int (zI le)]) ++ List.replicate (4 - (lg_sl ([.ref h0, .int (zI le)])).length) Slot.unset).toArray = ls at hl ⊢
  have hl : lv_has ls 4 [(0, .ref h0), (1, .int (zI le))] := hl
  refine lv_iconst (v := zI 0) hx hb dX0_fitting_0 rfl ?_
  refine lv_istore_n (lv' := [(2, .int (zI 0)), (0, .ref h0), (1, .int (zI le))]) hx hb dX0_fitting_1 rfl hl (by decide) rfl (fun ls hl => ?_)
  refine lv_iconst (v := zI 0) hx hb dX0_fitting_2 rfl ?_
  refine lv_istore_n (lv' := [(3, .int (zI 0)), (2, .int (zI 0)), (0, .ref h0), (1, .int (zI le))]) hx hb dX0_fitting_3 rfl hl (by decide) rfl (fun ls hl => ?_)
  refine k_loopM (I := fun n9 H locs ls => ∃ (js : Int) (jk : Int), n9 = (n - jk).toNat ∧ (rg js) ∧ (0 ≤ jk ∧ jk ≤ n) ∧ (zI js = kFb (kHx fh (zI le)) (kNa jk)) ∧ H = s.heap ∧ locs = [] ∧ lv_has ls 4 [(3, .int (zI jk)), (2, .int (zI js)), (0, .ref h0), (1, .int (zI le))]) ?_ _ ⟨0, 0, rfl, (by omega), (by omega), rfl, rfl, rfl, hl⟩
  intro n4 ih4 H locs ls hI
  obtain ⟨js, jk, en4, v_40, v_41, v_42, eH, eL, hl⟩ := hI
  subst eH
  subst eL
  refine lv_iload_n hx hb dX0_fitting_4 rfl (lv_at hl 0 rfl) ?_
  refine lv_aload_n hx hb dX0_fitting_5 rfl (lv_at hl 2 rfl) ?_
  refine va_get (D := D) (ci := 0) (v := .int (zI n)) (C := RX0) (T := TX0) (N := 4) hx hb hts (fun _ h9 => List.mem_cons_of_mem _ (List.mem_append_right _ h9)) hown hK hP 0 rfl rfl 3 (by decide) (hts (.fieldLink RX0 21 "FontRuns$FontRow" "count" "I") mw_X0_fitting_b_0) (fun _ h9 => h9) rfl dX0_fitting_6 ?_
  refine kz_icmp_ge (tgt := 36) hx hb dX0_fitting_9 (by decide) (by omega) (by omega) (fun c_1 => ?_) (fun c_1 => ?_)
  · refine lv_iload_n hx hb dX0_fitting_36 rfl (lv_at hl 1 rfl) ?_
    exact W.iret (v := (zI js)) hx hb hr (fun t ht hW => QcP_of (by omega) (by have q9 : jk = n := (by omega); rw [← q9]; exact v_42) ht) (fun _ h9 => by cases h9) dX0_fitting_37
  · refine lv_aload_n hx hb dX0_fitting_12 rfl (lv_at hl 2 rfl) ?_
    refine va_get (D := D) (ci := 0) (v := .ref k3) (C := RX0) (T := TX0) (N := 4) hx hb hts (fun _ h9 => List.mem_cons_of_mem _ (List.mem_append_right _ h9)) hown hK hP 0 rfl rfl 2 (by decide) (hts (.fieldLink RX0 18 "FontRuns$FontRow" "has" "[I") mw_X0_fitting_b_1) (fun _ h9 => h9) rfl dX0_fitting_13 ?_
    refine lv_iload_n hx hb dX0_fitting_16 rfl (lv_at hl 0 rfl) ?_
    refine kz_iald hx hb hK hP 1 0 rfl rfl (by omega) dX0_fitting_17 (fun z_2 rz_2 ez_2 => ?_)
    refine lv_iload_n hx hb dX0_fitting_18 rfl (lv_at hl 3 rfl) ?_
    refine lv_iand hx hb dX0_fitting_19 ?_
    refine kz_any (fun z_3 rz_3 ez_3 => ?_)
    refine lv_iload_n hx hb dX0_fitting_20 rfl (lv_at hl 3 rfl) ?_
    refine kz_icmp_ne (tgt := 30) hx hb dX0_fitting_21 (by decide) (by omega) (by omega) (fun c_4 => ?_) (fun c_4 => ?_)
    · refine lv_iinc (v := (zI (jk + 1))) (lv' := [(3, .int (zI (jk + 1))), (2, .int (zI js)), (0, .ref h0), (1, .int (zI le))]) hx hb dX0_fitting_30 hl (k := 0) rfl (kz_inc _ 1) (by decide) rfl (fun ls hl => ?_)
      refine lv_goto (tgt := 4) hx hb dX0_fitting_33 (by decide) ?_
      exact ih4 _ (by omega) _ _ _ ⟨js, (jk + 1), rfl, v_40, (by omega), (kFb_n v_42 (by omega) (kHx_n ez_2 ez_3 rz_3 (by omega) c_4)), rfl, rfl, lv_sub hl [0, 1, 2, 3] rfl⟩
    · refine lv_iload_n hx hb dX0_fitting_24 rfl (lv_at hl 1 rfl) ?_
      refine lv_iconst (v := zI 1) hx hb dX0_fitting_25 rfl ?_
      refine lv_iload_n hx hb dX0_fitting_26 rfl (lv_at hl 0 rfl) ?_
      refine lv_ishl hx hb dX0_fitting_27 ?_
      refine kz_any (fun z_5 rz_5 ez_5 => ?_)
      refine lv_ior hx hb dX0_fitting_28 ?_
      refine kz_any (fun z_6 rz_6 ez_6 => ?_)
      refine lv_istore_n (lv' := [(2, .int (zI z_6)), (3, .int (zI jk)), (0, .ref h0), (1, .int (zI le))]) hx hb dX0_fitting_29 rfl hl (by decide) rfl (fun ls hl => ?_)
      refine lv_iinc (v := (zI (jk + 1))) (lv' := [(3, .int (zI (jk + 1))), (2, .int (zI z_6)), (0, .ref h0), (1, .int (zI le))]) hx hb dX0_fitting_30 hl (k := 1) rfl (kz_inc _ 1) (by decide) rfl (fun ls hl => ?_)
      refine lv_goto (tgt := 4) hx hb dX0_fitting_33 (by decide) ?_
      exact ih4 _ (by omega) _ _ _ ⟨z_6, (jk + 1), rfl, (by omega), (by omega), (kFb_y v_42 (by omega) (kHx_y ez_2 ez_3 c_4) ez_5 ez_6), rfl, rfl, lv_sub hl [0, 1, 2, 3] rfl⟩
set_option maxRecDepth 20000 in
theorem mw_X4_cut_b_0 : (.fieldLink RX4 51 "FontRuns$Setting" "count" "I" : Cond) ∈ wsX4_cut := List.mem_cons_of_mem _ (List.mem_append_left _ (List.mem_append_left _ (List.mem_of_getElem? (i := 0) rfl)))
set_option maxRecDepth 20000 in
theorem mw_X4_cut_b_1 : (.fieldLink RX4 74 "FontRuns$Writing" "count" "I" : Cond) ∈ wsX4_cut := List.mem_cons_of_mem _ (List.mem_append_left _ (List.mem_append_left _ (List.mem_of_getElem? (i := 1) rfl)))
set_option maxRecDepth 20000 in
theorem mw_X4_cut_b_2 : (.fieldLink RX4 77 "FontRuns$Writing" "row" "[I" : Cond) ∈ wsX4_cut := List.mem_cons_of_mem _ (List.mem_append_left _ (List.mem_append_left _ (List.mem_of_getElem? (i := 2) rfl)))
set_option maxRecDepth 20000 in
theorem mw_X4_cut_b_3 : (.fieldLink RX4 9 "FontRuns$Setting" "first" "[I" : Cond) ∈ wsX4_cut := List.mem_cons_of_mem _ (List.mem_append_left _ (List.mem_append_left _ (List.mem_of_getElem? (i := 3) rfl)))
set_option maxRecDepth 20000 in
theorem mw_X4_cut_b_4 : (.fieldLink RX4 15 "FontRuns$Setting" "length" "[I" : Cond) ∈ wsX4_cut := List.mem_cons_of_mem _ (List.mem_append_left _ (List.mem_append_left _ (List.mem_of_getElem? (i := 4) rfl)))
set_option maxRecDepth 20000 in
theorem mw_X4_cut_b_5 : (.fieldLink RX4 27 "FontRuns$Setting" "letters" "[I" : Cond) ∈ wsX4_cut := List.mem_cons_of_mem _ (List.mem_append_left _ (List.mem_append_left _ (List.mem_of_getElem? (i := 5) rfl)))
theorem ax_X4_cut_b_0 {e0 e1 e2 e3 e4 e5 : Nat × va_E} : ([0, 1, 2, 3, 4, 5] : List Nat).map (fun i => ([e0, e1, e2, e3, e4, e5] : va_W)[i]?) = ([e0, e1, e2, e3, e4, e5] : va_W).map some := rfl
set_option maxHeartbeats 4000000 in
set_option maxRecDepth 100000 in
theorem c_X4_cut_b (l : Launch) (D : va_G) (sz : Nat) (wr : Nat) (h0 : Nat) (g1 : Nat) (g2 : Nat) (g3 : Nat) (g4 : Nat) (g5 : Nat) (cn : Int) (bo : Int) (ru : Int) (g6 : Nat) (g7 : Nat) (cg1 : ClassId) (f1 : Nat → Int32) (cg2 : ClassId) (f2 : Nat → Int32) (cg6 : ClassId) (f6 : Nat → Int32) (w1 : Nat) (wn : Int) (cw1 : ClassId) (fw : Nat → Int32) (q0 : 0 ≤ wn ∧ wn ≤ 24) : Met l yX4_cut wsX4_cut ({ frames := 0, cells := 0, slots := 0, locals := 0 }) (kPre [.ref h0, .ref wr] D [(h0, .inr (4, [.ref g1, .ref g2, .ref g3, .ref g4, .ref g5, .int (zI cn), .int (zI bo), .int (zI ru), .ref g6, .ref g7])), (g1, .inl (cg1, 24, .inl f1)), (g2, .inl (cg2, 24, .inl f2)), (g6, .inl (cg6, 24, .inl f6)), (wr, .inr (7, [.ref w1, .int (zI wn)])), (w1, .inl (cw1, 24, .inl fw))] [(cg1, .int), (cg2, .int), (cg6, .int), (cw1, .int)] sz) (kQV (fun t => ∃ (uc : Int) (v1 : Nat → Int32) (v2 : Nat → Int32) (v6 : Nat → Int32), (0 ≤ uc ∧ uc ≤ 24) ∧ (kCu fw (kNa wn) uc v1 v2 v6) ∧ va_P D vwCl [(h0, .inr (4, [.ref g1, .ref g2, .ref g3, .ref g4, .ref g5, .int (zI uc), .int (zI bo), .int (zI ru), .ref g6, .ref g7])), (g1, .inl (cg1, 24, .inl v1)), (g2, .inl (cg2, 24, .inl v2)), (g6, .inl (cg6, 24, .inl v6)), (wr, .inr (7, [.ref w1, .int (zI wn)])), (w1, .inl (cw1, 24, .inl fw))] t.heap ∧ va_D (va_A [(h0, .inr (4, [.ref g1, .ref g2, .ref g3, .ref g4, .ref g5, .int (zI cn), .int (zI bo), .int (zI ru), .ref g6, .ref g7])), (g1, .inl (cg1, 24, .inl f1)), (g2, .inl (cg2, 24, .inl f2)), (g6, .inl (cg6, 24, .inl f6)), (wr, .inr (7, [.ref w1, .int (zI wn)])), (w1, .inl (cw1, 24, .inl fw))] sz) [(h0, .inr (4, [.ref g1, .ref g2, .ref g3, .ref g4, .ref g5, .int (zI uc), .int (zI bo), .int (zI ru), .ref g6, .ref g7])), (g1, .inl (cg1, 24, .inl v1)), (g2, .inl (cg2, 24, .inl v2)), (g6, .inl (cg6, 24, .inl v6)), (wr, .inr (7, [.ref w1, .int (zI wn)])), (w1, .inl (cw1, 24, .inl fw))]) (va_A [(h0, .inr (4, [.ref g1, .ref g2, .ref g3, .ref g4, .ref g5, .int (zI cn), .int (zI bo), .int (zI ru), .ref g6, .ref g7])), (g1, .inl (cg1, 24, .inl f1)), (g2, .inl (cg2, 24, .inl f2)), (g6, .inl (cg6, 24, .inl f6)), (wr, .inr (7, [.ref w1, .int (zI wn)])), (w1, .inl (cw1, 24, .inl fw))] sz)) 0 0 (va_A [(h0, .inr (4, [.ref g1, .ref g2, .ref g3, .ref g4, .ref g5, .int (zI cn), .int (zI bo), .int (zI ru), .ref g6, .ref g7])), (g1, .inl (cg1, 24, .inl f1)), (g2, .inl (cg2, 24, .inl f2)), (g6, .inl (cg6, 24, .inl f6)), (wr, .inr (7, [.ref w1, .int (zI wn)])), (w1, .inl (cw1, 24, .inl fw))] sz) := by
  refine Met.ofW (cc := cX4_cut) (maxL := 4) (ret := none) (by decide) rfl ?_
  intro p e s m args below meth c s₁ B hml hv
  obtain ⟨rfl, hsz, hP, hK, hD0, hN⟩ := hv
  have hx := B.exec
  have hb := B.bytes
  have hr := B.returns
  have hts := atoms_spec (ws := wsX4_cut) B.pre
  have hown : s.vm.findClass RX4 = some m.cls := findClass_of_methodNamed B.named
  have hlocks := B.notSynchronized
  subst hsz
  have hD := hD0.self (sz := s.heap.size)
  generalize hAe : va_A [(h0, .inr (4, [.ref g1, .ref g2, .ref g3, .ref g4, .ref g5, .int (zI cn), .int (zI bo), .int (zI ru), .ref g6, .ref g7])), (g1, .inl (cg1, 24, .inl f1)), (g2, .inl (cg2, 24, .inl f2)), (g6, .inl (cg6, 24, .inl f6)), (wr, .inr (7, [.ref w1, .int (zI wn)])), (w1, .inl (cw1, 24, .inl fw))] s.heap.size = A at hD ⊢
  have hA : ∀ q : Nat, s.heap.size ≤ q → A q := fun q h => by rw [← hAe]; exact Or.inr h
  have hS : va_S A s.heap s.heap [] := va_S.rf
  have hP : va_P D vwCl [(h0, .inr (4, [.ref g1, .ref g2, .ref g3, .ref g4, .ref g5, .int (zI cn), .int (zI bo), .int (zI ru), .ref g6, .ref g7])), (g1, .inl (cg1, 24, .inl f1)), (g2, .inl (cg2, 24, .inl f2)), (g6, .inl (cg6, 24, .inl f6)), (wr, .inr (7, [.ref w1, .int (zI wn)])), (w1, .inl (cw1, 24, .inl fw))] s.heap := hP
  have hl := lv_entry ([.ref h0, .ref wr]) (n := 4) (Nat.le_of_ble_eq_true rfl)
  rw [lg_entry_eq]
  generalize (lg_sl ([.ref h0, .ref wr]) ++ List.replicate (4 - (lg_sl ([.ref h0, .ref wr])).length) Slot.unset).toArray = ls at hl ⊢
  have hl : lv_has ls 4 [(0, .ref h0), (1, .ref wr)] := hl
  refine lv_aload_n hx hb dX4_cut_0 rfl (lv_at hl 0 rfl) ?_
  refine lv_iconst (v := zI 0) hx hb dX4_cut_1 rfl ?_
  refine va_put (D := D) (ci := 4) (v := .int (zI 0)) (ty := .int) (C := RX4) (T := TX4) (N := 10) hx hb hts (fun _ h9 => List.mem_cons_of_mem _ (List.mem_append_left _ (List.mem_append_right _ h9))) tyX4 tyX4_ok nmX4 hown hK hP hD hS 0 rfl rfl 5 (by decide) (hts (.fieldLink RX4 51 "FontRuns$Setting" "count" "I") mw_X4_cut_b_0) (fun _ h9 => h9) rfl (by decide +kernel) rfl rfl (Nat.le_of_ble_eq_true rfl) dX4_cut_2 (fun H locs hP hD hS => ?_)
  have hP : va_P D vwCl [(h0, .inr (4, [.ref g1, .ref g2, .ref g3, .ref g4, .ref g5, .int (zI 0), .int (zI bo), .int (zI ru), .ref g6, .ref g7])), (g1, .inl (cg1, 24, .inl f1)), (g2, .inl (cg2, 24, .inl f2)), (g6, .inl (cg6, 24, .inl f6)), (wr, .inr (7, [.ref w1, .int (zI wn)])), (w1, .inl (cw1, 24, .inl fw))] H := hP
  have hD : va_D A [(h0, .inr (4, [.ref g1, .ref g2, .ref g3, .ref g4, .ref g5, .int (zI 0), .int (zI bo), .int (zI ru), .ref g6, .ref g7])), (g1, .inl (cg1, 24, .inl f1)), (g2, .inl (cg2, 24, .inl f2)), (g6, .inl (cg6, 24, .inl f6)), (wr, .inr (7, [.ref w1, .int (zI wn)])), (w1, .inl (cw1, 24, .inl fw))] := hD
  refine lv_iconst (v := zI 0) hx hb dX4_cut_5 rfl ?_
  refine lv_istore_n (lv' := [(2, .int (zI 0)), (0, .ref h0), (1, .ref wr)]) hx hb dX4_cut_6 rfl hl (by decide) rfl (fun ls hl => ?_)
  refine k_loopM (I := fun n9 H locs ls => ∃ (jk : Int) (jc : Int) (ja : Nat → Int32) (jb : Nat → Int32) (jl : Nat → Int32), n9 = (wn - jk).toNat ∧ (0 ≤ jk ∧ jk ≤ wn) ∧ (0 ≤ jc ∧ jc ≤ jk) ∧ (jk = 0 ∨ 1 ≤ jc) ∧ (kCu fw (kNa jk) jc ja jb jl) ∧ va_P D vwCl [(h0, .inr (4, [.ref g1, .ref g2, .ref g3, .ref g4, .ref g5, .int (zI jc), .int (zI bo), .int (zI ru), .ref g6, .ref g7])), (g1, .inl (cg1, 24, .inl ja)), (g2, .inl (cg2, 24, .inl jb)), (g6, .inl (cg6, 24, .inl jl)), (wr, .inr (7, [.ref w1, .int (zI wn)])), (w1, .inl (cw1, 24, .inl fw))] H ∧ va_D A [(h0, .inr (4, [.ref g1, .ref g2, .ref g3, .ref g4, .ref g5, .int (zI jc), .int (zI bo), .int (zI ru), .ref g6, .ref g7])), (g1, .inl (cg1, 24, .inl ja)), (g2, .inl (cg2, 24, .inl jb)), (g6, .inl (cg6, 24, .inl jl)), (wr, .inr (7, [.ref w1, .int (zI wn)])), (w1, .inl (cw1, 24, .inl fw))] ∧ va_S A s.heap H locs ∧ lv_has ls 4 [(2, .int (zI jk)), (0, .ref h0), (1, .ref wr)]) ?_ _ ⟨0, 0, f1, f2, f6, rfl, (by omega), (by omega), (by omega), kCu_0, hP, hD, hS, hl⟩
  intro n7 ih7 H locs ls hI
  obtain ⟨jk, jc, ja, jb, jl, en7, v_70, v_71, v_72, v_73, hP, hD, hS, hl⟩ := hI
  refine lv_iload_n hx hb dX4_cut_7 rfl (lv_at hl 0 rfl) ?_
  refine lv_aload_n hx hb dX4_cut_8 rfl (lv_at hl 2 rfl) ?_
  refine va_get (D := D) (ci := 7) (v := .int (zI wn)) (C := RX7) (T := TX7) (N := 2) hx hb hts (fun _ h9 => List.mem_cons_of_mem _ (List.mem_append_right _ h9)) hown hK hP 4 rfl rfl 1 (by decide) (hts (.fieldLink RX4 74 "FontRuns$Writing" "count" "I") mw_X4_cut_b_1) (fun _ h9 => h9) rfl dX4_cut_9 ?_
  refine kz_icmp_ge (tgt := 113) hx hb dX4_cut_12 (by decide) (by omega) (by omega) (fun c_1 => ?_) (fun c_1 => ?_)
  · have hP9 := hP.sub (ws' := [(h0, .inr (4, [.ref g1, .ref g2, .ref g3, .ref g4, .ref g5, .int (zI jc), .int (zI bo), .int (zI ru), .ref g6, .ref g7])), (g1, .inl (cg1, 24, .inl ja)), (g2, .inl (cg2, 24, .inl jb)), (g6, .inl (cg6, 24, .inl jl)), (wr, .inr (7, [.ref w1, .int (zI wn)])), (w1, .inl (cw1, 24, .inl fw))]) [0, 1, 2, 3, 4, 5] rfl
    have hD9 := hD.sub (ws' := [(h0, .inr (4, [.ref g1, .ref g2, .ref g3, .ref g4, .ref g5, .int (zI jc), .int (zI bo), .int (zI ru), .ref g6, .ref g7])), (g1, .inl (cg1, 24, .inl ja)), (g2, .inl (cg2, 24, .inl jb)), (g6, .inl (cg6, 24, .inl jl)), (wr, .inr (7, [.ref w1, .int (zI wn)])), (w1, .inl (cw1, 24, .inl fw))]) [0, 1, 2, 3, 4, 5] (by decide +kernel) rfl
    exact W.vret hx hb hr (fun t ht hW => kQV_of ⟨jc, ja, jb, jl, (by omega), (by have q9 : jk = wn := (by omega); rw [← q9]; exact v_73), by rw [ht]; exact hP9, hD9⟩ (hS.F ht)) hS.2.2 dX4_cut_113
  · refine lv_aload_n hx hb dX4_cut_15 rfl (lv_at hl 2 rfl) ?_
    refine va_get (D := D) (ci := 7) (v := .ref w1) (C := RX7) (T := TX7) (N := 2) hx hb hts (fun _ h9 => List.mem_cons_of_mem _ (List.mem_append_right _ h9)) hown hK hP 4 rfl rfl 0 (by decide) (hts (.fieldLink RX4 77 "FontRuns$Writing" "row" "[I") mw_X4_cut_b_2) (fun _ h9 => h9) rfl dX4_cut_16 ?_
    refine lv_iload_n hx hb dX4_cut_19 rfl (lv_at hl 0 rfl) ?_
    refine kz_iald hx hb hK hP 5 3 rfl rfl (by omega) dX4_cut_20 (fun z_2 rz_2 ez_2 => ?_)
    refine lv_istore_n (lv' := [(3, .int (zI z_2)), (2, .int (zI jk)), (0, .ref h0), (1, .ref wr)]) hx hb dX4_cut_21 rfl hl (by decide) rfl (fun ls hl => ?_)
    refine lv_aload_n hx hb dX4_cut_22 rfl (lv_at hl 2 rfl) ?_
    refine va_get (D := D) (ci := 4) (v := .int (zI jc)) (C := RX4) (T := TX4) (N := 10) hx hb hts (fun _ h9 => List.mem_cons_of_mem _ (List.mem_append_left _ (List.mem_append_right _ h9))) hown hK hP 0 rfl rfl 5 (by decide) (hts (.fieldLink RX4 51 "FontRuns$Setting" "count" "I") mw_X4_cut_b_0) (fun _ h9 => h9) rfl dX4_cut_23 ?_
    refine kz_if_eq (tgt := 35) hx hb dX4_cut_26 (by decide) (by omega) (fun c_3 => ?_) (fun c_3 => ?_)
    · refine lv_aload_n hx hb dX4_cut_35 rfl (lv_at hl 2 rfl) ?_
      refine va_get (D := D) (ci := 4) (v := .ref g1) (C := RX4) (T := TX4) (N := 10) hx hb hts (fun _ h9 => List.mem_cons_of_mem _ (List.mem_append_left _ (List.mem_append_right _ h9))) hown hK hP 0 rfl rfl 0 (by decide) (hts (.fieldLink RX4 9 "FontRuns$Setting" "first" "[I") mw_X4_cut_b_3) (fun _ h9 => h9) rfl dX4_cut_36 ?_
      refine lv_aload_n hx hb dX4_cut_39 rfl (lv_at hl 2 rfl) ?_
      refine va_get (D := D) (ci := 4) (v := .int (zI jc)) (C := RX4) (T := TX4) (N := 10) hx hb hts (fun _ h9 => List.mem_cons_of_mem _ (List.mem_append_left _ (List.mem_append_right _ h9))) hown hK hP 0 rfl rfl 5 (by decide) (hts (.fieldLink RX4 51 "FontRuns$Setting" "count" "I") mw_X4_cut_b_0) (fun _ h9 => h9) rfl dX4_cut_40 ?_
      refine lv_iload_n hx hb dX4_cut_43 rfl (lv_at hl 1 rfl) ?_
      refine kz_iast hx hb hK hP hD hS 1 0 rfl rfl (by omega) dX4_cut_44 (fun H locs hP hD hS => ?_)
      have hP : va_P D vwCl [(h0, .inr (4, [.ref g1, .ref g2, .ref g3, .ref g4, .ref g5, .int (zI jc), .int (zI bo), .int (zI ru), .ref g6, .ref g7])), (g1, .inl (cg1, 24, .inl (upd ja (jc).toNat (zI jk)))), (g2, .inl (cg2, 24, .inl jb)), (g6, .inl (cg6, 24, .inl jl)), (wr, .inr (7, [.ref w1, .int (zI wn)])), (w1, .inl (cw1, 24, .inl fw))] H := hP
      have hD : va_D A [(h0, .inr (4, [.ref g1, .ref g2, .ref g3, .ref g4, .ref g5, .int (zI jc), .int (zI bo), .int (zI ru), .ref g6, .ref g7])), (g1, .inl (cg1, 24, .inl (upd ja (jc).toNat (zI jk)))), (g2, .inl (cg2, 24, .inl jb)), (g6, .inl (cg6, 24, .inl jl)), (wr, .inr (7, [.ref w1, .int (zI wn)])), (w1, .inl (cw1, 24, .inl fw))] := hD
      generalize ef_4 : upd ja (jc).toNat (zI jk) = f_4 at hP hD
      refine lv_aload_n hx hb dX4_cut_45 rfl (lv_at hl 2 rfl) ?_
      refine va_get (D := D) (ci := 4) (v := .ref g2) (C := RX4) (T := TX4) (N := 10) hx hb hts (fun _ h9 => List.mem_cons_of_mem _ (List.mem_append_left _ (List.mem_append_right _ h9))) hown hK hP 0 rfl rfl 1 (by decide) (hts (.fieldLink RX4 15 "FontRuns$Setting" "length" "[I") mw_X4_cut_b_4) (fun _ h9 => h9) rfl dX4_cut_46 ?_
      refine lv_aload_n hx hb dX4_cut_49 rfl (lv_at hl 2 rfl) ?_
      refine va_get (D := D) (ci := 4) (v := .int (zI jc)) (C := RX4) (T := TX4) (N := 10) hx hb hts (fun _ h9 => List.mem_cons_of_mem _ (List.mem_append_left _ (List.mem_append_right _ h9))) hown hK hP 0 rfl rfl 5 (by decide) (hts (.fieldLink RX4 51 "FontRuns$Setting" "count" "I") mw_X4_cut_b_0) (fun _ h9 => h9) rfl dX4_cut_50 ?_
      refine lv_iconst (v := zI 0) hx hb dX4_cut_53 rfl ?_
      refine kz_iast hx hb hK hP hD hS 2 1 rfl rfl (by omega) dX4_cut_54 (fun H locs hP hD hS => ?_)
      have hP : va_P D vwCl [(h0, .inr (4, [.ref g1, .ref g2, .ref g3, .ref g4, .ref g5, .int (zI jc), .int (zI bo), .int (zI ru), .ref g6, .ref g7])), (g1, .inl (cg1, 24, .inl f_4)), (g2, .inl (cg2, 24, .inl (upd jb (jc).toNat (zI 0)))), (g6, .inl (cg6, 24, .inl jl)), (wr, .inr (7, [.ref w1, .int (zI wn)])), (w1, .inl (cw1, 24, .inl fw))] H := hP
      have hD : va_D A [(h0, .inr (4, [.ref g1, .ref g2, .ref g3, .ref g4, .ref g5, .int (zI jc), .int (zI bo), .int (zI ru), .ref g6, .ref g7])), (g1, .inl (cg1, 24, .inl f_4)), (g2, .inl (cg2, 24, .inl (upd jb (jc).toNat (zI 0)))), (g6, .inl (cg6, 24, .inl jl)), (wr, .inr (7, [.ref w1, .int (zI wn)])), (w1, .inl (cw1, 24, .inl fw))] := hD
      generalize ef_5 : upd jb (jc).toNat (zI 0) = f_5 at hP hD
      refine lv_aload_n hx hb dX4_cut_55 rfl (lv_at hl 2 rfl) ?_
      refine va_get (D := D) (ci := 4) (v := .ref g6) (C := RX4) (T := TX4) (N := 10) hx hb hts (fun _ h9 => List.mem_cons_of_mem _ (List.mem_append_left _ (List.mem_append_right _ h9))) hown hK hP 0 rfl rfl 8 (by decide) (hts (.fieldLink RX4 27 "FontRuns$Setting" "letters" "[I") mw_X4_cut_b_5) (fun _ h9 => h9) rfl dX4_cut_56 ?_
      refine lv_aload_n hx hb dX4_cut_59 rfl (lv_at hl 2 rfl) ?_
      refine va_get (D := D) (ci := 4) (v := .int (zI jc)) (C := RX4) (T := TX4) (N := 10) hx hb hts (fun _ h9 => List.mem_cons_of_mem _ (List.mem_append_left _ (List.mem_append_right _ h9))) hown hK hP 0 rfl rfl 5 (by decide) (hts (.fieldLink RX4 51 "FontRuns$Setting" "count" "I") mw_X4_cut_b_0) (fun _ h9 => h9) rfl dX4_cut_60 ?_
      refine lv_iconst (v := zI 0) hx hb dX4_cut_63 rfl ?_
      refine kz_iast hx hb hK hP hD hS 3 2 rfl rfl (by omega) dX4_cut_64 (fun H locs hP hD hS => ?_)
      have hP : va_P D vwCl [(h0, .inr (4, [.ref g1, .ref g2, .ref g3, .ref g4, .ref g5, .int (zI jc), .int (zI bo), .int (zI ru), .ref g6, .ref g7])), (g1, .inl (cg1, 24, .inl f_4)), (g2, .inl (cg2, 24, .inl f_5)), (g6, .inl (cg6, 24, .inl (upd jl (jc).toNat (zI 0)))), (wr, .inr (7, [.ref w1, .int (zI wn)])), (w1, .inl (cw1, 24, .inl fw))] H := hP
      have hD : va_D A [(h0, .inr (4, [.ref g1, .ref g2, .ref g3, .ref g4, .ref g5, .int (zI jc), .int (zI bo), .int (zI ru), .ref g6, .ref g7])), (g1, .inl (cg1, 24, .inl f_4)), (g2, .inl (cg2, 24, .inl f_5)), (g6, .inl (cg6, 24, .inl (upd jl (jc).toNat (zI 0)))), (wr, .inr (7, [.ref w1, .int (zI wn)])), (w1, .inl (cw1, 24, .inl fw))] := hD
      generalize ef_6 : upd jl (jc).toNat (zI 0) = f_6 at hP hD
      refine lv_aload_n hx hb dX4_cut_65 rfl (lv_at hl 2 rfl) ?_
      refine lv_dup hx hb dX4_cut_66 rfl ?_
      refine va_get (D := D) (ci := 4) (v := .int (zI jc)) (C := RX4) (T := TX4) (N := 10) hx hb hts (fun _ h9 => List.mem_cons_of_mem _ (List.mem_append_left _ (List.mem_append_right _ h9))) hown hK hP 0 rfl rfl 5 (by decide) (hts (.fieldLink RX4 51 "FontRuns$Setting" "count" "I") mw_X4_cut_b_0) (fun _ h9 => h9) rfl dX4_cut_67 ?_
      refine lv_iconst (v := zI 1) hx hb dX4_cut_70 rfl ?_
      refine kz_iadd hx hb dX4_cut_71 ?_
      refine va_put (D := D) (ci := 4) (v := .int (zI (jc + 1))) (ty := .int) (C := RX4) (T := TX4) (N := 10) hx hb hts (fun _ h9 => List.mem_cons_of_mem _ (List.mem_append_left _ (List.mem_append_right _ h9))) tyX4 tyX4_ok nmX4 hown hK hP hD hS 0 rfl rfl 5 (by decide) (hts (.fieldLink RX4 51 "FontRuns$Setting" "count" "I") mw_X4_cut_b_0) (fun _ h9 => h9) rfl (by decide +kernel) rfl rfl (Nat.le_of_ble_eq_true rfl) dX4_cut_72 (fun H locs hP hD hS => ?_)
      have hP : va_P D vwCl [(h0, .inr (4, [.ref g1, .ref g2, .ref g3, .ref g4, .ref g5, .int (zI (jc + 1)), .int (zI bo), .int (zI ru), .ref g6, .ref g7])), (g1, .inl (cg1, 24, .inl f_4)), (g2, .inl (cg2, 24, .inl f_5)), (g6, .inl (cg6, 24, .inl f_6)), (wr, .inr (7, [.ref w1, .int (zI wn)])), (w1, .inl (cw1, 24, .inl fw))] H := hP
      have hD : va_D A [(h0, .inr (4, [.ref g1, .ref g2, .ref g3, .ref g4, .ref g5, .int (zI (jc + 1)), .int (zI bo), .int (zI ru), .ref g6, .ref g7])), (g1, .inl (cg1, 24, .inl f_4)), (g2, .inl (cg2, 24, .inl f_5)), (g6, .inl (cg6, 24, .inl f_6)), (wr, .inr (7, [.ref w1, .int (zI wn)])), (w1, .inl (cw1, 24, .inl fw))] := hD
      refine lv_aload_n hx hb dX4_cut_75 rfl (lv_at hl 2 rfl) ?_
      refine va_get (D := D) (ci := 4) (v := .ref g2) (C := RX4) (T := TX4) (N := 10) hx hb hts (fun _ h9 => List.mem_cons_of_mem _ (List.mem_append_left _ (List.mem_append_right _ h9))) hown hK hP 0 rfl rfl 1 (by decide) (hts (.fieldLink RX4 15 "FontRuns$Setting" "length" "[I") mw_X4_cut_b_4) (fun _ h9 => h9) rfl dX4_cut_76 ?_
      refine lv_aload_n hx hb dX4_cut_79 rfl (lv_at hl 2 rfl) ?_
      refine va_get (D := D) (ci := 4) (v := .int (zI (jc + 1))) (C := RX4) (T := TX4) (N := 10) hx hb hts (fun _ h9 => List.mem_cons_of_mem _ (List.mem_append_left _ (List.mem_append_right _ h9))) hown hK hP 0 rfl rfl 5 (by decide) (hts (.fieldLink RX4 51 "FontRuns$Setting" "count" "I") mw_X4_cut_b_0) (fun _ h9 => h9) rfl dX4_cut_80 ?_
      refine lv_iconst (v := zI 1) hx hb dX4_cut_83 rfl ?_
      refine kz_isub hx hb dX4_cut_84 ?_
      refine lv_dup2_11 hx hb dX4_cut_85 rfl rfl ?_
      refine kz_iald hx hb hK hP 2 1 rfl rfl (by omega) dX4_cut_86 (fun z_7 rz_7 ez_7 => ?_)
      refine lv_iconst (v := zI 1) hx hb dX4_cut_87 rfl ?_
      refine kz_iadd hx hb dX4_cut_88 ?_
      refine kz_iast hx hb hK hP hD hS 2 1 rfl rfl (by omega) dX4_cut_89 (fun H locs hP hD hS => ?_)
      have hP : va_P D vwCl [(h0, .inr (4, [.ref g1, .ref g2, .ref g3, .ref g4, .ref g5, .int (zI (jc + 1)), .int (zI bo), .int (zI ru), .ref g6, .ref g7])), (g1, .inl (cg1, 24, .inl f_4)), (g2, .inl (cg2, 24, .inl (upd f_5 ((jc + 1) - 1).toNat (zI (z_7 + 1))))), (g6, .inl (cg6, 24, .inl f_6)), (wr, .inr (7, [.ref w1, .int (zI wn)])), (w1, .inl (cw1, 24, .inl fw))] H := hP
      have hD : va_D A [(h0, .inr (4, [.ref g1, .ref g2, .ref g3, .ref g4, .ref g5, .int (zI (jc + 1)), .int (zI bo), .int (zI ru), .ref g6, .ref g7])), (g1, .inl (cg1, 24, .inl f_4)), (g2, .inl (cg2, 24, .inl (upd f_5 ((jc + 1) - 1).toNat (zI (z_7 + 1))))), (g6, .inl (cg6, 24, .inl f_6)), (wr, .inr (7, [.ref w1, .int (zI wn)])), (w1, .inl (cw1, 24, .inl fw))] := hD
      generalize ef_8 : upd f_5 ((jc + 1) - 1).toNat (zI (z_7 + 1)) = f_8 at hP hD
      refine lv_aload_n hx hb dX4_cut_90 rfl (lv_at hl 2 rfl) ?_
      refine va_get (D := D) (ci := 4) (v := .ref g6) (C := RX4) (T := TX4) (N := 10) hx hb hts (fun _ h9 => List.mem_cons_of_mem _ (List.mem_append_left _ (List.mem_append_right _ h9))) hown hK hP 0 rfl rfl 8 (by decide) (hts (.fieldLink RX4 27 "FontRuns$Setting" "letters" "[I") mw_X4_cut_b_5) (fun _ h9 => h9) rfl dX4_cut_91 ?_
      refine lv_aload_n hx hb dX4_cut_94 rfl (lv_at hl 2 rfl) ?_
      refine va_get (D := D) (ci := 4) (v := .int (zI (jc + 1))) (C := RX4) (T := TX4) (N := 10) hx hb hts (fun _ h9 => List.mem_cons_of_mem _ (List.mem_append_left _ (List.mem_append_right _ h9))) hown hK hP 0 rfl rfl 5 (by decide) (hts (.fieldLink RX4 51 "FontRuns$Setting" "count" "I") mw_X4_cut_b_0) (fun _ h9 => h9) rfl dX4_cut_95 ?_
      refine lv_iconst (v := zI 1) hx hb dX4_cut_98 rfl ?_
      refine kz_isub hx hb dX4_cut_99 ?_
      refine lv_dup2_11 hx hb dX4_cut_100 rfl rfl ?_
      refine kz_iald hx hb hK hP 3 2 rfl rfl (by omega) dX4_cut_101 (fun z_9 rz_9 ez_9 => ?_)
      refine lv_iconst (v := zI 1) hx hb dX4_cut_102 rfl ?_
      refine lv_iload_n hx hb dX4_cut_103 rfl (lv_at hl 0 rfl) ?_
      refine lv_ishl hx hb dX4_cut_104 ?_
      refine kz_any (fun z_10 rz_10 ez_10 => ?_)
      refine lv_ior hx hb dX4_cut_105 ?_
      refine kz_any (fun z_11 rz_11 ez_11 => ?_)
      refine kz_iast hx hb hK hP hD hS 3 2 rfl rfl (by omega) dX4_cut_106 (fun H locs hP hD hS => ?_)
      have hP : va_P D vwCl [(h0, .inr (4, [.ref g1, .ref g2, .ref g3, .ref g4, .ref g5, .int (zI (jc + 1)), .int (zI bo), .int (zI ru), .ref g6, .ref g7])), (g1, .inl (cg1, 24, .inl f_4)), (g2, .inl (cg2, 24, .inl f_8)), (g6, .inl (cg6, 24, .inl (upd f_6 ((jc + 1) - 1).toNat (zI z_11)))), (wr, .inr (7, [.ref w1, .int (zI wn)])), (w1, .inl (cw1, 24, .inl fw))] H := hP
      have hD : va_D A [(h0, .inr (4, [.ref g1, .ref g2, .ref g3, .ref g4, .ref g5, .int (zI (jc + 1)), .int (zI bo), .int (zI ru), .ref g6, .ref g7])), (g1, .inl (cg1, 24, .inl f_4)), (g2, .inl (cg2, 24, .inl f_8)), (g6, .inl (cg6, 24, .inl (upd f_6 ((jc + 1) - 1).toNat (zI z_11)))), (wr, .inr (7, [.ref w1, .int (zI wn)])), (w1, .inl (cw1, 24, .inl fw))] := hD
      generalize ef_12 : upd f_6 ((jc + 1) - 1).toNat (zI z_11) = f_12 at hP hD
      refine lv_iinc (v := (zI (jk + 1))) (lv' := [(2, .int (zI (jk + 1))), (3, .int (zI z_2)), (0, .ref h0), (1, .ref wr)]) hx hb dX4_cut_107 hl (k := 1) rfl (kz_inc _ 1) (by decide) rfl (fun ls hl => ?_)
      refine lv_goto (tgt := 7) hx hb dX4_cut_110 (by decide) ?_
      exact ih7 _ (by omega) _ _ _ ⟨(jk + 1), (jc + 1), f_4, f_8, f_12, rfl, (by omega), (by omega), (by omega), (kCu_y v_73 (by omega) (by omega) rz_2 ez_2 ef_4 ef_5 ez_7 ef_8 ef_6 ez_9 ez_10 ez_11 ef_12), hP, hD, hS, lv_sub hl [0, 2, 3] rfl⟩
    · refine lv_iload_n hx hb dX4_cut_29 rfl (lv_at hl 0 rfl) ?_
      refine lv_bipush (v := zI 12) hx hb dX4_cut_30 (by decide) ?_
      refine kz_icmp_ge (tgt := 75) hx hb dX4_cut_32 (by decide) (by omega) (by omega) (fun c_13 => ?_) (fun c_13 => ?_)
      · refine lv_aload_n hx hb dX4_cut_75 rfl (lv_at hl 2 rfl) ?_
        refine va_get (D := D) (ci := 4) (v := .ref g2) (C := RX4) (T := TX4) (N := 10) hx hb hts (fun _ h9 => List.mem_cons_of_mem _ (List.mem_append_left _ (List.mem_append_right _ h9))) hown hK hP 0 rfl rfl 1 (by decide) (hts (.fieldLink RX4 15 "FontRuns$Setting" "length" "[I") mw_X4_cut_b_4) (fun _ h9 => h9) rfl dX4_cut_76 ?_
        refine lv_aload_n hx hb dX4_cut_79 rfl (lv_at hl 2 rfl) ?_
        refine va_get (D := D) (ci := 4) (v := .int (zI jc)) (C := RX4) (T := TX4) (N := 10) hx hb hts (fun _ h9 => List.mem_cons_of_mem _ (List.mem_append_left _ (List.mem_append_right _ h9))) hown hK hP 0 rfl rfl 5 (by decide) (hts (.fieldLink RX4 51 "FontRuns$Setting" "count" "I") mw_X4_cut_b_0) (fun _ h9 => h9) rfl dX4_cut_80 ?_
        refine lv_iconst (v := zI 1) hx hb dX4_cut_83 rfl ?_
        refine kz_isub hx hb dX4_cut_84 ?_
        refine lv_dup2_11 hx hb dX4_cut_85 rfl rfl ?_
        refine kz_iald hx hb hK hP 2 1 rfl rfl (by omega) dX4_cut_86 (fun z_14 rz_14 ez_14 => ?_)
        refine lv_iconst (v := zI 1) hx hb dX4_cut_87 rfl ?_
        refine kz_iadd hx hb dX4_cut_88 ?_
        refine kz_iast hx hb hK hP hD hS 2 1 rfl rfl (by omega) dX4_cut_89 (fun H locs hP hD hS => ?_)
        have hP : va_P D vwCl [(h0, .inr (4, [.ref g1, .ref g2, .ref g3, .ref g4, .ref g5, .int (zI jc), .int (zI bo), .int (zI ru), .ref g6, .ref g7])), (g1, .inl (cg1, 24, .inl ja)), (g2, .inl (cg2, 24, .inl (upd jb (jc - 1).toNat (zI (z_14 + 1))))), (g6, .inl (cg6, 24, .inl jl)), (wr, .inr (7, [.ref w1, .int (zI wn)])), (w1, .inl (cw1, 24, .inl fw))] H := hP
        have hD : va_D A [(h0, .inr (4, [.ref g1, .ref g2, .ref g3, .ref g4, .ref g5, .int (zI jc), .int (zI bo), .int (zI ru), .ref g6, .ref g7])), (g1, .inl (cg1, 24, .inl ja)), (g2, .inl (cg2, 24, .inl (upd jb (jc - 1).toNat (zI (z_14 + 1))))), (g6, .inl (cg6, 24, .inl jl)), (wr, .inr (7, [.ref w1, .int (zI wn)])), (w1, .inl (cw1, 24, .inl fw))] := hD
        generalize ef_15 : upd jb (jc - 1).toNat (zI (z_14 + 1)) = f_15 at hP hD
        refine lv_aload_n hx hb dX4_cut_90 rfl (lv_at hl 2 rfl) ?_
        refine va_get (D := D) (ci := 4) (v := .ref g6) (C := RX4) (T := TX4) (N := 10) hx hb hts (fun _ h9 => List.mem_cons_of_mem _ (List.mem_append_left _ (List.mem_append_right _ h9))) hown hK hP 0 rfl rfl 8 (by decide) (hts (.fieldLink RX4 27 "FontRuns$Setting" "letters" "[I") mw_X4_cut_b_5) (fun _ h9 => h9) rfl dX4_cut_91 ?_
        refine lv_aload_n hx hb dX4_cut_94 rfl (lv_at hl 2 rfl) ?_
        refine va_get (D := D) (ci := 4) (v := .int (zI jc)) (C := RX4) (T := TX4) (N := 10) hx hb hts (fun _ h9 => List.mem_cons_of_mem _ (List.mem_append_left _ (List.mem_append_right _ h9))) hown hK hP 0 rfl rfl 5 (by decide) (hts (.fieldLink RX4 51 "FontRuns$Setting" "count" "I") mw_X4_cut_b_0) (fun _ h9 => h9) rfl dX4_cut_95 ?_
        refine lv_iconst (v := zI 1) hx hb dX4_cut_98 rfl ?_
        refine kz_isub hx hb dX4_cut_99 ?_
        refine lv_dup2_11 hx hb dX4_cut_100 rfl rfl ?_
        refine kz_iald hx hb hK hP 3 2 rfl rfl (by omega) dX4_cut_101 (fun z_16 rz_16 ez_16 => ?_)
        refine lv_iconst (v := zI 1) hx hb dX4_cut_102 rfl ?_
        refine lv_iload_n hx hb dX4_cut_103 rfl (lv_at hl 0 rfl) ?_
        refine lv_ishl hx hb dX4_cut_104 ?_
        refine kz_any (fun z_17 rz_17 ez_17 => ?_)
        refine lv_ior hx hb dX4_cut_105 ?_
        refine kz_any (fun z_18 rz_18 ez_18 => ?_)
        refine kz_iast hx hb hK hP hD hS 3 2 rfl rfl (by omega) dX4_cut_106 (fun H locs hP hD hS => ?_)
        have hP : va_P D vwCl [(h0, .inr (4, [.ref g1, .ref g2, .ref g3, .ref g4, .ref g5, .int (zI jc), .int (zI bo), .int (zI ru), .ref g6, .ref g7])), (g1, .inl (cg1, 24, .inl ja)), (g2, .inl (cg2, 24, .inl f_15)), (g6, .inl (cg6, 24, .inl (upd jl (jc - 1).toNat (zI z_18)))), (wr, .inr (7, [.ref w1, .int (zI wn)])), (w1, .inl (cw1, 24, .inl fw))] H := hP
        have hD : va_D A [(h0, .inr (4, [.ref g1, .ref g2, .ref g3, .ref g4, .ref g5, .int (zI jc), .int (zI bo), .int (zI ru), .ref g6, .ref g7])), (g1, .inl (cg1, 24, .inl ja)), (g2, .inl (cg2, 24, .inl f_15)), (g6, .inl (cg6, 24, .inl (upd jl (jc - 1).toNat (zI z_18)))), (wr, .inr (7, [.ref w1, .int (zI wn)])), (w1, .inl (cw1, 24, .inl fw))] := hD
        generalize ef_19 : upd jl (jc - 1).toNat (zI z_18) = f_19 at hP hD
        refine lv_iinc (v := (zI (jk + 1))) (lv' := [(2, .int (zI (jk + 1))), (3, .int (zI z_2)), (0, .ref h0), (1, .ref wr)]) hx hb dX4_cut_107 hl (k := 1) rfl (kz_inc _ 1) (by decide) rfl (fun ls hl => ?_)
        refine lv_goto (tgt := 7) hx hb dX4_cut_110 (by decide) ?_
        exact ih7 _ (by omega) _ _ _ ⟨(jk + 1), jc, ja, f_15, f_19, rfl, (by omega), (by omega), (by omega), (kCu_n v_73 (by omega) (by omega) (by omega) rz_2 ez_2 ez_14 ef_15 ez_16 ez_17 ez_18 ef_19), hP, hD, hS, lv_sub hl [0, 2, 3] rfl⟩
      · refine lv_aload_n hx hb dX4_cut_35 rfl (lv_at hl 2 rfl) ?_
        refine va_get (D := D) (ci := 4) (v := .ref g1) (C := RX4) (T := TX4) (N := 10) hx hb hts (fun _ h9 => List.mem_cons_of_mem _ (List.mem_append_left _ (List.mem_append_right _ h9))) hown hK hP 0 rfl rfl 0 (by decide) (hts (.fieldLink RX4 9 "FontRuns$Setting" "first" "[I") mw_X4_cut_b_3) (fun _ h9 => h9) rfl dX4_cut_36 ?_
        refine lv_aload_n hx hb dX4_cut_39 rfl (lv_at hl 2 rfl) ?_
        refine va_get (D := D) (ci := 4) (v := .int (zI jc)) (C := RX4) (T := TX4) (N := 10) hx hb hts (fun _ h9 => List.mem_cons_of_mem _ (List.mem_append_left _ (List.mem_append_right _ h9))) hown hK hP 0 rfl rfl 5 (by decide) (hts (.fieldLink RX4 51 "FontRuns$Setting" "count" "I") mw_X4_cut_b_0) (fun _ h9 => h9) rfl dX4_cut_40 ?_
        refine lv_iload_n hx hb dX4_cut_43 rfl (lv_at hl 1 rfl) ?_
        refine kz_iast hx hb hK hP hD hS 1 0 rfl rfl (by omega) dX4_cut_44 (fun H locs hP hD hS => ?_)
        have hP : va_P D vwCl [(h0, .inr (4, [.ref g1, .ref g2, .ref g3, .ref g4, .ref g5, .int (zI jc), .int (zI bo), .int (zI ru), .ref g6, .ref g7])), (g1, .inl (cg1, 24, .inl (upd ja (jc).toNat (zI jk)))), (g2, .inl (cg2, 24, .inl jb)), (g6, .inl (cg6, 24, .inl jl)), (wr, .inr (7, [.ref w1, .int (zI wn)])), (w1, .inl (cw1, 24, .inl fw))] H := hP
        have hD : va_D A [(h0, .inr (4, [.ref g1, .ref g2, .ref g3, .ref g4, .ref g5, .int (zI jc), .int (zI bo), .int (zI ru), .ref g6, .ref g7])), (g1, .inl (cg1, 24, .inl (upd ja (jc).toNat (zI jk)))), (g2, .inl (cg2, 24, .inl jb)), (g6, .inl (cg6, 24, .inl jl)), (wr, .inr (7, [.ref w1, .int (zI wn)])), (w1, .inl (cw1, 24, .inl fw))] := hD
        generalize ef_20 : upd ja (jc).toNat (zI jk) = f_20 at hP hD
        refine lv_aload_n hx hb dX4_cut_45 rfl (lv_at hl 2 rfl) ?_
        refine va_get (D := D) (ci := 4) (v := .ref g2) (C := RX4) (T := TX4) (N := 10) hx hb hts (fun _ h9 => List.mem_cons_of_mem _ (List.mem_append_left _ (List.mem_append_right _ h9))) hown hK hP 0 rfl rfl 1 (by decide) (hts (.fieldLink RX4 15 "FontRuns$Setting" "length" "[I") mw_X4_cut_b_4) (fun _ h9 => h9) rfl dX4_cut_46 ?_
        refine lv_aload_n hx hb dX4_cut_49 rfl (lv_at hl 2 rfl) ?_
        refine va_get (D := D) (ci := 4) (v := .int (zI jc)) (C := RX4) (T := TX4) (N := 10) hx hb hts (fun _ h9 => List.mem_cons_of_mem _ (List.mem_append_left _ (List.mem_append_right _ h9))) hown hK hP 0 rfl rfl 5 (by decide) (hts (.fieldLink RX4 51 "FontRuns$Setting" "count" "I") mw_X4_cut_b_0) (fun _ h9 => h9) rfl dX4_cut_50 ?_
        refine lv_iconst (v := zI 0) hx hb dX4_cut_53 rfl ?_
        refine kz_iast hx hb hK hP hD hS 2 1 rfl rfl (by omega) dX4_cut_54 (fun H locs hP hD hS => ?_)
        have hP : va_P D vwCl [(h0, .inr (4, [.ref g1, .ref g2, .ref g3, .ref g4, .ref g5, .int (zI jc), .int (zI bo), .int (zI ru), .ref g6, .ref g7])), (g1, .inl (cg1, 24, .inl f_20)), (g2, .inl (cg2, 24, .inl (upd jb (jc).toNat (zI 0)))), (g6, .inl (cg6, 24, .inl jl)), (wr, .inr (7, [.ref w1, .int (zI wn)])), (w1, .inl (cw1, 24, .inl fw))] H := hP
        have hD : va_D A [(h0, .inr (4, [.ref g1, .ref g2, .ref g3, .ref g4, .ref g5, .int (zI jc), .int (zI bo), .int (zI ru), .ref g6, .ref g7])), (g1, .inl (cg1, 24, .inl f_20)), (g2, .inl (cg2, 24, .inl (upd jb (jc).toNat (zI 0)))), (g6, .inl (cg6, 24, .inl jl)), (wr, .inr (7, [.ref w1, .int (zI wn)])), (w1, .inl (cw1, 24, .inl fw))] := hD
        generalize ef_21 : upd jb (jc).toNat (zI 0) = f_21 at hP hD
        refine lv_aload_n hx hb dX4_cut_55 rfl (lv_at hl 2 rfl) ?_
        refine va_get (D := D) (ci := 4) (v := .ref g6) (C := RX4) (T := TX4) (N := 10) hx hb hts (fun _ h9 => List.mem_cons_of_mem _ (List.mem_append_left _ (List.mem_append_right _ h9))) hown hK hP 0 rfl rfl 8 (by decide) (hts (.fieldLink RX4 27 "FontRuns$Setting" "letters" "[I") mw_X4_cut_b_5) (fun _ h9 => h9) rfl dX4_cut_56 ?_
        refine lv_aload_n hx hb dX4_cut_59 rfl (lv_at hl 2 rfl) ?_
        refine va_get (D := D) (ci := 4) (v := .int (zI jc)) (C := RX4) (T := TX4) (N := 10) hx hb hts (fun _ h9 => List.mem_cons_of_mem _ (List.mem_append_left _ (List.mem_append_right _ h9))) hown hK hP 0 rfl rfl 5 (by decide) (hts (.fieldLink RX4 51 "FontRuns$Setting" "count" "I") mw_X4_cut_b_0) (fun _ h9 => h9) rfl dX4_cut_60 ?_
        refine lv_iconst (v := zI 0) hx hb dX4_cut_63 rfl ?_
        refine kz_iast hx hb hK hP hD hS 3 2 rfl rfl (by omega) dX4_cut_64 (fun H locs hP hD hS => ?_)
        have hP : va_P D vwCl [(h0, .inr (4, [.ref g1, .ref g2, .ref g3, .ref g4, .ref g5, .int (zI jc), .int (zI bo), .int (zI ru), .ref g6, .ref g7])), (g1, .inl (cg1, 24, .inl f_20)), (g2, .inl (cg2, 24, .inl f_21)), (g6, .inl (cg6, 24, .inl (upd jl (jc).toNat (zI 0)))), (wr, .inr (7, [.ref w1, .int (zI wn)])), (w1, .inl (cw1, 24, .inl fw))] H := hP
        have hD : va_D A [(h0, .inr (4, [.ref g1, .ref g2, .ref g3, .ref g4, .ref g5, .int (zI jc), .int (zI bo), .int (zI ru), .ref g6, .ref g7])), (g1, .inl (cg1, 24, .inl f_20)), (g2, .inl (cg2, 24, .inl f_21)), (g6, .inl (cg6, 24, .inl (upd jl (jc).toNat (zI 0)))), (wr, .inr (7, [.ref w1, .int (zI wn)])), (w1, .inl (cw1, 24, .inl fw))] := hD
        generalize ef_22 : upd jl (jc).toNat (zI 0) = f_22 at hP hD
        refine lv_aload_n hx hb dX4_cut_65 rfl (lv_at hl 2 rfl) ?_
        refine lv_dup hx hb dX4_cut_66 rfl ?_
        refine va_get (D := D) (ci := 4) (v := .int (zI jc)) (C := RX4) (T := TX4) (N := 10) hx hb hts (fun _ h9 => List.mem_cons_of_mem _ (List.mem_append_left _ (List.mem_append_right _ h9))) hown hK hP 0 rfl rfl 5 (by decide) (hts (.fieldLink RX4 51 "FontRuns$Setting" "count" "I") mw_X4_cut_b_0) (fun _ h9 => h9) rfl dX4_cut_67 ?_
        refine lv_iconst (v := zI 1) hx hb dX4_cut_70 rfl ?_
        refine kz_iadd hx hb dX4_cut_71 ?_
        refine va_put (D := D) (ci := 4) (v := .int (zI (jc + 1))) (ty := .int) (C := RX4) (T := TX4) (N := 10) hx hb hts (fun _ h9 => List.mem_cons_of_mem _ (List.mem_append_left _ (List.mem_append_right _ h9))) tyX4 tyX4_ok nmX4 hown hK hP hD hS 0 rfl rfl 5 (by decide) (hts (.fieldLink RX4 51 "FontRuns$Setting" "count" "I") mw_X4_cut_b_0) (fun _ h9 => h9) rfl (by decide +kernel) rfl rfl (Nat.le_of_ble_eq_true rfl) dX4_cut_72 (fun H locs hP hD hS => ?_)
        have hP : va_P D vwCl [(h0, .inr (4, [.ref g1, .ref g2, .ref g3, .ref g4, .ref g5, .int (zI (jc + 1)), .int (zI bo), .int (zI ru), .ref g6, .ref g7])), (g1, .inl (cg1, 24, .inl f_20)), (g2, .inl (cg2, 24, .inl f_21)), (g6, .inl (cg6, 24, .inl f_22)), (wr, .inr (7, [.ref w1, .int (zI wn)])), (w1, .inl (cw1, 24, .inl fw))] H := hP
        have hD : va_D A [(h0, .inr (4, [.ref g1, .ref g2, .ref g3, .ref g4, .ref g5, .int (zI (jc + 1)), .int (zI bo), .int (zI ru), .ref g6, .ref g7])), (g1, .inl (cg1, 24, .inl f_20)), (g2, .inl (cg2, 24, .inl f_21)), (g6, .inl (cg6, 24, .inl f_22)), (wr, .inr (7, [.ref w1, .int (zI wn)])), (w1, .inl (cw1, 24, .inl fw))] := hD
        refine lv_aload_n hx hb dX4_cut_75 rfl (lv_at hl 2 rfl) ?_
        refine va_get (D := D) (ci := 4) (v := .ref g2) (C := RX4) (T := TX4) (N := 10) hx hb hts (fun _ h9 => List.mem_cons_of_mem _ (List.mem_append_left _ (List.mem_append_right _ h9))) hown hK hP 0 rfl rfl 1 (by decide) (hts (.fieldLink RX4 15 "FontRuns$Setting" "length" "[I") mw_X4_cut_b_4) (fun _ h9 => h9) rfl dX4_cut_76 ?_
        refine lv_aload_n hx hb dX4_cut_79 rfl (lv_at hl 2 rfl) ?_
        refine va_get (D := D) (ci := 4) (v := .int (zI (jc + 1))) (C := RX4) (T := TX4) (N := 10) hx hb hts (fun _ h9 => List.mem_cons_of_mem _ (List.mem_append_left _ (List.mem_append_right _ h9))) hown hK hP 0 rfl rfl 5 (by decide) (hts (.fieldLink RX4 51 "FontRuns$Setting" "count" "I") mw_X4_cut_b_0) (fun _ h9 => h9) rfl dX4_cut_80 ?_
        refine lv_iconst (v := zI 1) hx hb dX4_cut_83 rfl ?_
        refine kz_isub hx hb dX4_cut_84 ?_
        refine lv_dup2_11 hx hb dX4_cut_85 rfl rfl ?_
        refine kz_iald hx hb hK hP 2 1 rfl rfl (by omega) dX4_cut_86 (fun z_23 rz_23 ez_23 => ?_)
        refine lv_iconst (v := zI 1) hx hb dX4_cut_87 rfl ?_
        refine kz_iadd hx hb dX4_cut_88 ?_
        refine kz_iast hx hb hK hP hD hS 2 1 rfl rfl (by omega) dX4_cut_89 (fun H locs hP hD hS => ?_)
        have hP : va_P D vwCl [(h0, .inr (4, [.ref g1, .ref g2, .ref g3, .ref g4, .ref g5, .int (zI (jc + 1)), .int (zI bo), .int (zI ru), .ref g6, .ref g7])), (g1, .inl (cg1, 24, .inl f_20)), (g2, .inl (cg2, 24, .inl (upd f_21 ((jc + 1) - 1).toNat (zI (z_23 + 1))))), (g6, .inl (cg6, 24, .inl f_22)), (wr, .inr (7, [.ref w1, .int (zI wn)])), (w1, .inl (cw1, 24, .inl fw))] H := hP
        have hD : va_D A [(h0, .inr (4, [.ref g1, .ref g2, .ref g3, .ref g4, .ref g5, .int (zI (jc + 1)), .int (zI bo), .int (zI ru), .ref g6, .ref g7])), (g1, .inl (cg1, 24, .inl f_20)), (g2, .inl (cg2, 24, .inl (upd f_21 ((jc + 1) - 1).toNat (zI (z_23 + 1))))), (g6, .inl (cg6, 24, .inl f_22)), (wr, .inr (7, [.ref w1, .int (zI wn)])), (w1, .inl (cw1, 24, .inl fw))] := hD
        generalize ef_24 : upd f_21 ((jc + 1) - 1).toNat (zI (z_23 + 1)) = f_24 at hP hD
        refine lv_aload_n hx hb dX4_cut_90 rfl (lv_at hl 2 rfl) ?_
        refine va_get (D := D) (ci := 4) (v := .ref g6) (C := RX4) (T := TX4) (N := 10) hx hb hts (fun _ h9 => List.mem_cons_of_mem _ (List.mem_append_left _ (List.mem_append_right _ h9))) hown hK hP 0 rfl rfl 8 (by decide) (hts (.fieldLink RX4 27 "FontRuns$Setting" "letters" "[I") mw_X4_cut_b_5) (fun _ h9 => h9) rfl dX4_cut_91 ?_
        refine lv_aload_n hx hb dX4_cut_94 rfl (lv_at hl 2 rfl) ?_
        refine va_get (D := D) (ci := 4) (v := .int (zI (jc + 1))) (C := RX4) (T := TX4) (N := 10) hx hb hts (fun _ h9 => List.mem_cons_of_mem _ (List.mem_append_left _ (List.mem_append_right _ h9))) hown hK hP 0 rfl rfl 5 (by decide) (hts (.fieldLink RX4 51 "FontRuns$Setting" "count" "I") mw_X4_cut_b_0) (fun _ h9 => h9) rfl dX4_cut_95 ?_
        refine lv_iconst (v := zI 1) hx hb dX4_cut_98 rfl ?_
        refine kz_isub hx hb dX4_cut_99 ?_
        refine lv_dup2_11 hx hb dX4_cut_100 rfl rfl ?_
        refine kz_iald hx hb hK hP 3 2 rfl rfl (by omega) dX4_cut_101 (fun z_25 rz_25 ez_25 => ?_)
        refine lv_iconst (v := zI 1) hx hb dX4_cut_102 rfl ?_
        refine lv_iload_n hx hb dX4_cut_103 rfl (lv_at hl 0 rfl) ?_
        refine lv_ishl hx hb dX4_cut_104 ?_
        refine kz_any (fun z_26 rz_26 ez_26 => ?_)
        refine lv_ior hx hb dX4_cut_105 ?_
        refine kz_any (fun z_27 rz_27 ez_27 => ?_)
        refine kz_iast hx hb hK hP hD hS 3 2 rfl rfl (by omega) dX4_cut_106 (fun H locs hP hD hS => ?_)
        have hP : va_P D vwCl [(h0, .inr (4, [.ref g1, .ref g2, .ref g3, .ref g4, .ref g5, .int (zI (jc + 1)), .int (zI bo), .int (zI ru), .ref g6, .ref g7])), (g1, .inl (cg1, 24, .inl f_20)), (g2, .inl (cg2, 24, .inl f_24)), (g6, .inl (cg6, 24, .inl (upd f_22 ((jc + 1) - 1).toNat (zI z_27)))), (wr, .inr (7, [.ref w1, .int (zI wn)])), (w1, .inl (cw1, 24, .inl fw))] H := hP
        have hD : va_D A [(h0, .inr (4, [.ref g1, .ref g2, .ref g3, .ref g4, .ref g5, .int (zI (jc + 1)), .int (zI bo), .int (zI ru), .ref g6, .ref g7])), (g1, .inl (cg1, 24, .inl f_20)), (g2, .inl (cg2, 24, .inl f_24)), (g6, .inl (cg6, 24, .inl (upd f_22 ((jc + 1) - 1).toNat (zI z_27)))), (wr, .inr (7, [.ref w1, .int (zI wn)])), (w1, .inl (cw1, 24, .inl fw))] := hD
        generalize ef_28 : upd f_22 ((jc + 1) - 1).toNat (zI z_27) = f_28 at hP hD
        refine lv_iinc (v := (zI (jk + 1))) (lv' := [(2, .int (zI (jk + 1))), (3, .int (zI z_2)), (0, .ref h0), (1, .ref wr)]) hx hb dX4_cut_107 hl (k := 1) rfl (kz_inc _ 1) (by decide) rfl (fun ls hl => ?_)
        refine lv_goto (tgt := 7) hx hb dX4_cut_110 (by decide) ?_
        exact ih7 _ (by omega) _ _ _ ⟨(jk + 1), (jc + 1), f_20, f_24, f_28, rfl, (by omega), (by omega), (by omega), (kCu_y v_73 (by omega) (by omega) rz_2 ez_2 ef_20 ef_21 ez_23 ef_24 ef_22 ez_25 ez_26 ez_27 ef_28), hP, hD, hS, lv_sub hl [0, 2, 3] rfl⟩
set_option maxRecDepth 20000 in
theorem mw_X4_findFitting_b_0 : (.fieldLink RX4 80 "FontRuns$Setting" "boxes" "I" : Cond) ∈ wsX4_findFitting := List.mem_cons_of_mem _ (List.mem_append_left _ (List.mem_append_left _ (List.mem_of_getElem? (i := 0) rfl)))
set_option maxRecDepth 20000 in
theorem mw_X4_findFitting_b_1 : (.fieldLink RX4 51 "FontRuns$Setting" "count" "I" : Cond) ∈ wsX4_findFitting := List.mem_cons_of_mem _ (List.mem_append_left _ (List.mem_append_left _ (List.mem_of_getElem? (i := 1) rfl)))
set_option maxRecDepth 20000 in
theorem mw_X4_findFitting_b_2 : (.fieldLink RX4 18 "FontRuns$Setting" "fitting" "[I" : Cond) ∈ wsX4_findFitting := List.mem_cons_of_mem _ (List.mem_append_left _ (List.mem_append_left _ (List.mem_of_getElem? (i := 2) rfl)))
set_option maxRecDepth 20000 in
theorem mw_X4_findFitting_b_3 : (.fieldLink RX4 27 "FontRuns$Setting" "letters" "[I" : Cond) ∈ wsX4_findFitting := List.mem_cons_of_mem _ (List.mem_append_left _ (List.mem_append_left _ (List.mem_of_getElem? (i := 3) rfl)))
theorem ax_X4_findFitting_b_0 {e0 e1 e2 e3 e4 : Nat × va_E} : ([0, 1, 2, 3, 4] : List Nat).map (fun i => ([e0, e1, e2, e3, e4] : va_W)[i]?) = ([e0, e1, e2, e3, e4] : va_W).map some := rfl
theorem ax_X4_findFitting_b_1 {e0 e1 e2 e3 e4 : Nat × va_E} : ([3, 4] : List Nat).map (fun i => ([e0, e1, e2, e3, e4] : va_W)[i]?) = ([e3, e4] : va_W).map some := rfl
set_option maxHeartbeats 4000000 in
set_option maxRecDepth 100000 in
theorem c_X4_findFitting_b (l : Launch) (D : va_G) (sz : Nat) (fr : Nat) (al : Int) (h0 : Nat) (g1 : Nat) (g2 : Nat) (g3 : Nat) (g4 : Nat) (g5 : Nat) (cn : Int) (bo : Int) (ru : Int) (g6 : Nat) (g7 : Nat) (cg3 : ClassId) (f3 : Nat → Int32) (cg6 : ClassId) (f6 : Nat → Int32) (k1 : Nat) (k2 : Nat) (k3 : Nat) (n : Int) (ck3 : ClassId) (fh : Nat → Int32) (q0 : rg al) (q1 : 0 ≤ cn ∧ cn ≤ 24) (q2 : 0 ≤ n ∧ n ≤ 4) : Met l yX4_findFitting wsX4_findFitting ({ frames := 1, cells := 0, slots := 0, locals := 23 }) (kPre [.ref h0, .ref fr, .int (zI al)] D [(h0, .inr (4, [.ref g1, .ref g2, .ref g3, .ref g4, .ref g5, .int (zI cn), .int (zI bo), .int (zI ru), .ref g6, .ref g7])), (g3, .inl (cg3, 24, .inl f3)), (g6, .inl (cg6, 24, .inl f6)), (fr, .inr (0, [.ref k1, .ref k2, .ref k3, .int (zI n)])), (k3, .inl (ck3, 4, .inl fh))] [(cg3, .int), (cg6, .int), (ck3, .int)] sz) (kQV (fun t => ∃ (ub : Int) (v3 : Nat → Int32), (0 ≤ ub ∧ ub ≤ 24) ∧ (kFz v3 f6 fh n al cn) ∧ (ub = kBx v3 (kNa cn)) ∧ va_P D vwCl [(h0, .inr (4, [.ref g1, .ref g2, .ref g3, .ref g4, .ref g5, .int (zI cn), .int (zI ub), .int (zI ru), .ref g6, .ref g7])), (g3, .inl (cg3, 24, .inl v3)), (g6, .inl (cg6, 24, .inl f6)), (fr, .inr (0, [.ref k1, .ref k2, .ref k3, .int (zI n)])), (k3, .inl (ck3, 4, .inl fh))] t.heap ∧ va_D (va_A [(h0, .inr (4, [.ref g1, .ref g2, .ref g3, .ref g4, .ref g5, .int (zI cn), .int (zI bo), .int (zI ru), .ref g6, .ref g7])), (g3, .inl (cg3, 24, .inl f3)), (g6, .inl (cg6, 24, .inl f6)), (fr, .inr (0, [.ref k1, .ref k2, .ref k3, .int (zI n)])), (k3, .inl (ck3, 4, .inl fh))] sz) [(h0, .inr (4, [.ref g1, .ref g2, .ref g3, .ref g4, .ref g5, .int (zI cn), .int (zI ub), .int (zI ru), .ref g6, .ref g7])), (g3, .inl (cg3, 24, .inl v3)), (g6, .inl (cg6, 24, .inl f6)), (fr, .inr (0, [.ref k1, .ref k2, .ref k3, .int (zI n)])), (k3, .inl (ck3, 4, .inl fh))]) (va_A [(h0, .inr (4, [.ref g1, .ref g2, .ref g3, .ref g4, .ref g5, .int (zI cn), .int (zI bo), .int (zI ru), .ref g6, .ref g7])), (g3, .inl (cg3, 24, .inl f3)), (g6, .inl (cg6, 24, .inl f6)), (fr, .inr (0, [.ref k1, .ref k2, .ref k3, .int (zI n)])), (k3, .inl (ck3, 4, .inl fh))] sz)) 0 0 (va_A [(h0, .inr (4, [.ref g1, .ref g2, .ref g3, .ref g4, .ref g5, .int (zI cn), .int (zI bo), .int (zI ru), .ref g6, .ref g7])), (g3, .inl (cg3, 24, .inl f3)), (g6, .inl (cg6, 24, .inl f6)), (fr, .inr (0, [.ref k1, .ref k2, .ref k3, .int (zI n)])), (k3, .inl (ck3, 4, .inl fh))] sz) := by
  refine Met.ofW (cc := cX4_findFitting) (maxL := 4) (ret := none) (by decide) rfl ?_
  intro p e s m args below meth c s₁ B hml hv
  obtain ⟨rfl, hsz, hP, hK, hD0, hN⟩ := hv
  have hx := B.exec
  have hb := B.bytes
  have hr := B.returns
  have hts := atoms_spec (ws := wsX4_findFitting) B.pre
  have hown : s.vm.findClass RX4 = some m.cls := findClass_of_methodNamed B.named
  have hlocks := B.notSynchronized
  subst hsz
  have hD := hD0.self (sz := s.heap.size)
  generalize hAe : va_A [(h0, .inr (4, [.ref g1, .ref g2, .ref g3, .ref g4, .ref g5, .int (zI cn), .int (zI bo), .int (zI ru), .ref g6, .ref g7])), (g3, .inl (cg3, 24, .inl f3)), (g6, .inl (cg6, 24, .inl f6)), (fr, .inr (0, [.ref k1, .ref k2, .ref k3, .int (zI n)])), (k3, .inl (ck3, 4, .inl fh))] s.heap.size = A at hD ⊢
  have hA : ∀ q : Nat, s.heap.size ≤ q → A q := fun q h => by rw [← hAe]; exact Or.inr h
  have hS : va_S A s.heap s.heap [] := va_S.rf
  have hP : va_P D vwCl [(h0, .inr (4, [.ref g1, .ref g2, .ref g3, .ref g4, .ref g5, .int (zI cn), .int (zI bo), .int (zI ru), .ref g6, .ref g7])), (g3, .inl (cg3, 24, .inl f3)), (g6, .inl (cg6, 24, .inl f6)), (fr, .inr (0, [.ref k1, .ref k2, .ref k3, .int (zI n)])), (k3, .inl (ck3, 4, .inl fh))] s.heap := hP
  have hl := lv_entry ([.ref h0, .ref fr, .int (zI al)]) (n := 4) (Nat.le_of_ble_eq_true rfl)
  rw [lg_entry_eq]
  generalize (lg_sl ([.ref h0, .ref fr, .int (zI al)]) ++ List.replicate (4 - (lg_sl ([.ref h0, .ref fr, .int (zI al)])).length) Slot.unset).toArray = ls at hl ⊢
  have hl : lv_has ls 4 [(0, .ref h0), (1, .ref fr), (2, .int (zI al))] := hl
  refine lv_aload_n hx hb dX4_findFitting_0 rfl (lv_at hl 0 rfl) ?_
  refine lv_iconst (v := zI 0) hx hb dX4_findFitting_1 rfl ?_
  refine va_put (D := D) (ci := 4) (v := .int (zI 0)) (ty := .int) (C := RX4) (T := TX4) (N := 10) hx hb hts (fun _ h9 => List.mem_cons_of_mem _ (List.mem_append_left _ (List.mem_append_right _ h9))) tyX4 tyX4_ok nmX4 hown hK hP hD hS 0 rfl rfl 6 (by decide) (hts (.fieldLink RX4 80 "FontRuns$Setting" "boxes" "I") mw_X4_findFitting_b_0) (fun _ h9 => h9) rfl (by decide +kernel) rfl rfl (Nat.le_of_ble_eq_true rfl) dX4_findFitting_2 (fun H locs hP hD hS => ?_)
  have hP : va_P D vwCl [(h0, .inr (4, [.ref g1, .ref g2, .ref g3, .ref g4, .ref g5, .int (zI cn), .int (zI 0), .int (zI ru), .ref g6, .ref g7])), (g3, .inl (cg3, 24, .inl f3)), (g6, .inl (cg6, 24, .inl f6)), (fr, .inr (0, [.ref k1, .ref k2, .ref k3, .int (zI n)])), (k3, .inl (ck3, 4, .inl fh))] H := hP
  have hD : va_D A [(h0, .inr (4, [.ref g1, .ref g2, .ref g3, .ref g4, .ref g5, .int (zI cn), .int (zI 0), .int (zI ru), .ref g6, .ref g7])), (g3, .inl (cg3, 24, .inl f3)), (g6, .inl (cg6, 24, .inl f6)), (fr, .inr (0, [.ref k1, .ref k2, .ref k3, .int (zI n)])), (k3, .inl (ck3, 4, .inl fh))] := hD
  refine lv_iconst (v := zI 0) hx hb dX4_findFitting_5 rfl ?_
  refine lv_istore_n (lv' := [(3, .int (zI 0)), (0, .ref h0), (1, .ref fr), (2, .int (zI al))]) hx hb dX4_findFitting_6 rfl hl (by decide) rfl (fun ls hl => ?_)
  refine k_loopM (I := fun n9 H locs ls => ∃ (jk : Int) (jc : Int) (ja : Nat → Int32), n9 = (cn - jk).toNat ∧ (0 ≤ jk ∧ jk ≤ cn) ∧ (0 ≤ jc ∧ jc ≤ jk) ∧ (kFz ja f6 fh n al jk) ∧ (jc = kBx ja (kNa jk)) ∧ va_P D vwCl [(h0, .inr (4, [.ref g1, .ref g2, .ref g3, .ref g4, .ref g5, .int (zI cn), .int (zI jc), .int (zI ru), .ref g6, .ref g7])), (g3, .inl (cg3, 24, .inl ja)), (g6, .inl (cg6, 24, .inl f6)), (fr, .inr (0, [.ref k1, .ref k2, .ref k3, .int (zI n)])), (k3, .inl (ck3, 4, .inl fh))] H ∧ va_D A [(h0, .inr (4, [.ref g1, .ref g2, .ref g3, .ref g4, .ref g5, .int (zI cn), .int (zI jc), .int (zI ru), .ref g6, .ref g7])), (g3, .inl (cg3, 24, .inl ja)), (g6, .inl (cg6, 24, .inl f6)), (fr, .inr (0, [.ref k1, .ref k2, .ref k3, .int (zI n)])), (k3, .inl (ck3, 4, .inl fh))] ∧ va_S A s.heap H locs ∧ lv_has ls 4 [(3, .int (zI jk)), (0, .ref h0), (1, .ref fr), (2, .int (zI al))]) ?_ _ ⟨0, 0, f3, rfl, (by omega), (by omega), kFz_0, rfl, hP, hD, hS, hl⟩
  intro n7 ih7 H locs ls hI
  obtain ⟨jk, jc, ja, en7, v_70, v_71, v_72, v_73, hP, hD, hS, hl⟩ := hI
  refine lv_iload_n hx hb dX4_findFitting_7 rfl (lv_at hl 0 rfl) ?_
  refine lv_aload_n hx hb dX4_findFitting_8 rfl (lv_at hl 1 rfl) ?_
  refine va_get (D := D) (ci := 4) (v := .int (zI cn)) (C := RX4) (T := TX4) (N := 10) hx hb hts (fun _ h9 => List.mem_cons_of_mem _ (List.mem_append_left _ (List.mem_append_right _ h9))) hown hK hP 0 rfl rfl 5 (by decide) (hts (.fieldLink RX4 51 "FontRuns$Setting" "count" "I") mw_X4_findFitting_b_1) (fun _ h9 => h9) rfl dX4_findFitting_9 ?_
  refine kz_icmp_ge (tgt := 58) hx hb dX4_findFitting_12 (by decide) (by omega) (by omega) (fun c_1 => ?_) (fun c_1 => ?_)
  · have hP9 := hP.sub (ws' := [(h0, .inr (4, [.ref g1, .ref g2, .ref g3, .ref g4, .ref g5, .int (zI cn), .int (zI jc), .int (zI ru), .ref g6, .ref g7])), (g3, .inl (cg3, 24, .inl ja)), (g6, .inl (cg6, 24, .inl f6)), (fr, .inr (0, [.ref k1, .ref k2, .ref k3, .int (zI n)])), (k3, .inl (ck3, 4, .inl fh))]) [0, 1, 2, 3, 4] rfl
    have hD9 := hD.sub (ws' := [(h0, .inr (4, [.ref g1, .ref g2, .ref g3, .ref g4, .ref g5, .int (zI cn), .int (zI jc), .int (zI ru), .ref g6, .ref g7])), (g3, .inl (cg3, 24, .inl ja)), (g6, .inl (cg6, 24, .inl f6)), (fr, .inr (0, [.ref k1, .ref k2, .ref k3, .int (zI n)])), (k3, .inl (ck3, 4, .inl fh))]) [0, 1, 2, 3, 4] (by decide +kernel) rfl
    exact W.vret hx hb hr (fun t ht hW => kQV_of ⟨jc, ja, (by omega), (kFz_le v_72 (by omega)), (by have q9 : jk = cn := (by omega); rw [← q9]; exact v_73), by rw [ht]; exact hP9, hD9⟩ (hS.F ht)) hS.2.2 dX4_findFitting_58
  · refine lv_aload_n hx hb dX4_findFitting_15 rfl (lv_at hl 1 rfl) ?_
    refine va_get (D := D) (ci := 4) (v := .ref g3) (C := RX4) (T := TX4) (N := 10) hx hb hts (fun _ h9 => List.mem_cons_of_mem _ (List.mem_append_left _ (List.mem_append_right _ h9))) hown hK hP 0 rfl rfl 2 (by decide) (hts (.fieldLink RX4 18 "FontRuns$Setting" "fitting" "[I") mw_X4_findFitting_b_2) (fun _ h9 => h9) rfl dX4_findFitting_16 ?_
    refine lv_iload_n hx hb dX4_findFitting_19 rfl (lv_at hl 0 rfl) ?_
    refine lv_aload_n hx hb dX4_findFitting_20 rfl (lv_at hl 2 rfl) ?_
    refine lv_aload_n hx hb dX4_findFitting_21 rfl (lv_at hl 1 rfl) ?_
    refine va_get (D := D) (ci := 4) (v := .ref g6) (C := RX4) (T := TX4) (N := 10) hx hb hts (fun _ h9 => List.mem_cons_of_mem _ (List.mem_append_left _ (List.mem_append_right _ h9))) hown hK hP 0 rfl rfl 8 (by decide) (hts (.fieldLink RX4 27 "FontRuns$Setting" "letters" "[I") mw_X4_findFitting_b_3) (fun _ h9 => h9) rfl dX4_findFitting_22 ?_
    refine lv_iload_n hx hb dX4_findFitting_25 rfl (lv_at hl 0 rfl) ?_
    refine kz_iald hx hb hK hP 2 1 rfl rfl (by omega) dX4_findFitting_26 (fun z_2 rz_2 ez_2 => ?_)
    refine k_callP (va_runV (As := [.int (zI z_2)]) (rest := [.int (zI jk), .ref g3]) ⟨hx, hb, hml, hown, hts⟩ (c_X0_fitting_b l D H.size (le := z_2) (h0 := fr) (k1 := k1) (k2 := k2) (k3 := k3) (n := n) (ck3 := ck3) (fh := fh) (by omega) q2) (cwV 1 hts gX4_findFitting_X0_fitting rfl rfl rfl (by decide +kernel) ⟨Nat.le_of_ble_eq_true rfl, Nat.le_of_ble_eq_true rfl⟩) (kPreV hP (kD0 hD) hK hN [3, 4] [2] ax_X4_findFitting_b_1 rfl (by decide +kernel) 3 0 rfl rfl) rfl rfl hl.1 rfl (lv_room (Nat.le_of_ble_eq_true rfl)) dX4_findFitting_27 ⟨Nat.le_of_ble_eq_true rfl, Nat.le_of_ble_eq_true rfl⟩) (fun z_3 rz_3 h_4 => ?_)
    refine lv_iload_n hx hb dX4_findFitting_30 rfl (lv_at hl 3 rfl) ?_
    refine lv_iand hx hb dX4_findFitting_31 ?_
    refine kz_any (fun z_5 rz_5 ez_5 => ?_)
    refine kz_iast hx hb hK hP hD hS 1 0 rfl rfl (by omega) dX4_findFitting_32 (fun H locs hP hD hS => ?_)
    have hP : va_P D vwCl [(h0, .inr (4, [.ref g1, .ref g2, .ref g3, .ref g4, .ref g5, .int (zI cn), .int (zI jc), .int (zI ru), .ref g6, .ref g7])), (g3, .inl (cg3, 24, .inl (upd ja (jk).toNat (zI z_5)))), (g6, .inl (cg6, 24, .inl f6)), (fr, .inr (0, [.ref k1, .ref k2, .ref k3, .int (zI n)])), (k3, .inl (ck3, 4, .inl fh))] H := hP
    have hD : va_D A [(h0, .inr (4, [.ref g1, .ref g2, .ref g3, .ref g4, .ref g5, .int (zI cn), .int (zI jc), .int (zI ru), .ref g6, .ref g7])), (g3, .inl (cg3, 24, .inl (upd ja (jk).toNat (zI z_5)))), (g6, .inl (cg6, 24, .inl f6)), (fr, .inr (0, [.ref k1, .ref k2, .ref k3, .int (zI n)])), (k3, .inl (ck3, 4, .inl fh))] := hD
    generalize ef_6 : upd ja (jk).toNat (zI z_5) = f_6 at hP hD
    refine lv_aload_n hx hb dX4_findFitting_33 rfl (lv_at hl 1 rfl) ?_
    refine va_get (D := D) (ci := 4) (v := .ref g3) (C := RX4) (T := TX4) (N := 10) hx hb hts (fun _ h9 => List.mem_cons_of_mem _ (List.mem_append_left _ (List.mem_append_right _ h9))) hown hK hP 0 rfl rfl 2 (by decide) (hts (.fieldLink RX4 18 "FontRuns$Setting" "fitting" "[I") mw_X4_findFitting_b_2) (fun _ h9 => h9) rfl dX4_findFitting_34 ?_
    refine lv_iload_n hx hb dX4_findFitting_37 rfl (lv_at hl 0 rfl) ?_
    refine kz_iald hx hb hK hP 1 0 rfl rfl (by omega) dX4_findFitting_38 (fun z_7 rz_7 ez_7 => ?_)
    refine kz_if_ne (tgt := 52) hx hb dX4_findFitting_39 (by decide) (by omega) (fun c_8 => ?_) (fun c_8 => ?_)
    · refine lv_iinc (v := (zI (jk + 1))) (lv' := [(3, .int (zI (jk + 1))), (0, .ref h0), (1, .ref fr), (2, .int (zI al))]) hx hb dX4_findFitting_52 hl (k := 0) rfl (kz_inc _ 1) (by decide) rfl (fun ls hl => ?_)
      refine lv_goto (tgt := 7) hx hb dX4_findFitting_55 (by decide) ?_
      exact ih7 _ (by omega) _ _ _ ⟨(jk + 1), jc, f_6, rfl, (by omega), (by omega), (kFz_s v_72 (by omega) ez_2 h_4 ez_5 ef_6), (kBx_n v_73 (by omega) ef_6 ez_7 rz_7 (by omega)), hP, hD, hS, lv_sub hl [0, 1, 2, 3] rfl⟩
    · refine lv_aload_n hx hb dX4_findFitting_42 rfl (lv_at hl 1 rfl) ?_
      refine lv_dup hx hb dX4_findFitting_43 rfl ?_
      refine va_get (D := D) (ci := 4) (v := .int (zI jc)) (C := RX4) (T := TX4) (N := 10) hx hb hts (fun _ h9 => List.mem_cons_of_mem _ (List.mem_append_left _ (List.mem_append_right _ h9))) hown hK hP 0 rfl rfl 6 (by decide) (hts (.fieldLink RX4 80 "FontRuns$Setting" "boxes" "I") mw_X4_findFitting_b_0) (fun _ h9 => h9) rfl dX4_findFitting_44 ?_
      refine lv_iconst (v := zI 1) hx hb dX4_findFitting_47 rfl ?_
      refine kz_iadd hx hb dX4_findFitting_48 ?_
      refine va_put (D := D) (ci := 4) (v := .int (zI (jc + 1))) (ty := .int) (C := RX4) (T := TX4) (N := 10) hx hb hts (fun _ h9 => List.mem_cons_of_mem _ (List.mem_append_left _ (List.mem_append_right _ h9))) tyX4 tyX4_ok nmX4 hown hK hP hD hS 0 rfl rfl 6 (by decide) (hts (.fieldLink RX4 80 "FontRuns$Setting" "boxes" "I") mw_X4_findFitting_b_0) (fun _ h9 => h9) rfl (by decide +kernel) rfl rfl (Nat.le_of_ble_eq_true rfl) dX4_findFitting_49 (fun H locs hP hD hS => ?_)
      have hP : va_P D vwCl [(h0, .inr (4, [.ref g1, .ref g2, .ref g3, .ref g4, .ref g5, .int (zI cn), .int (zI (jc + 1)), .int (zI ru), .ref g6, .ref g7])), (g3, .inl (cg3, 24, .inl f_6)), (g6, .inl (cg6, 24, .inl f6)), (fr, .inr (0, [.ref k1, .ref k2, .ref k3, .int (zI n)])), (k3, .inl (ck3, 4, .inl fh))] H := hP
      have hD : va_D A [(h0, .inr (4, [.ref g1, .ref g2, .ref g3, .ref g4, .ref g5, .int (zI cn), .int (zI (jc + 1)), .int (zI ru), .ref g6, .ref g7])), (g3, .inl (cg3, 24, .inl f_6)), (g6, .inl (cg6, 24, .inl f6)), (fr, .inr (0, [.ref k1, .ref k2, .ref k3, .int (zI n)])), (k3, .inl (ck3, 4, .inl fh))] := hD
      refine lv_iinc (v := (zI (jk + 1))) (lv' := [(3, .int (zI (jk + 1))), (0, .ref h0), (1, .ref fr), (2, .int (zI al))]) hx hb dX4_findFitting_52 hl (k := 0) rfl (kz_inc _ 1) (by decide) rfl (fun ls hl => ?_)
      refine lv_goto (tgt := 7) hx hb dX4_findFitting_55 (by decide) ?_
      exact ih7 _ (by omega) _ _ _ ⟨(jk + 1), (jc + 1), f_6, rfl, (by omega), (by omega), (kFz_s v_72 (by omega) ez_2 h_4 ez_5 ef_6), (kBx_y v_73 (by omega) ef_6 ez_7 (by omega)), hP, hD, hS, lv_sub hl [0, 1, 2, 3] rfl⟩
set_option maxRecDepth 20000 in
theorem mw_X4_findBehind_b_0 : (.fieldLink RX4 51 "FontRuns$Setting" "count" "I" : Cond) ∈ wsX4_findBehind := List.mem_cons_of_mem _ (List.mem_append_left _ (List.mem_of_getElem? (i := 0) rfl))
set_option maxRecDepth 20000 in
theorem mw_X4_findBehind_b_1 : (.fieldLink RX4 18 "FontRuns$Setting" "fitting" "[I" : Cond) ∈ wsX4_findBehind := List.mem_cons_of_mem _ (List.mem_append_left _ (List.mem_of_getElem? (i := 1) rfl))
set_option maxRecDepth 20000 in
theorem mw_X4_findBehind_b_2 : (.fieldLink RX4 32 "FontRuns$Setting" "behind" "[[I" : Cond) ∈ wsX4_findBehind := List.mem_cons_of_mem _ (List.mem_append_left _ (List.mem_of_getElem? (i := 2) rfl))
set_option maxRecDepth 20000 in
theorem mw_X4_findBehind_b_3 : (.methodLink RX4 85 Lib.Math.min.name : Cond) ∈ wsX4_findBehind := List.mem_cons_of_mem _ (List.mem_append_left _ (List.mem_of_getElem? (i := 3) rfl))
set_option maxRecDepth 20000 in
theorem mw_X4_findBehind_b_4 : (.static Lib.Math.min.name : Cond) ∈ wsX4_findBehind := List.mem_cons_of_mem _ (List.mem_append_left _ (List.mem_of_getElem? (i := 4) rfl))
set_option maxRecDepth 20000 in
theorem mw_X4_findBehind_b_5 : (.initialized "java/lang/Math" : Cond) ∈ wsX4_findBehind := List.mem_cons_of_mem _ (List.mem_append_left _ (List.mem_of_getElem? (i := 5) rfl))
set_option maxRecDepth 20000 in
theorem mw_X4_findBehind_b_6 : (.code Lib.Math.min.name Lib.Math.min.code 2 (some .int) : Cond) ∈ wsX4_findBehind := List.mem_cons_of_mem _ (List.mem_append_left _ (List.mem_of_getElem? (i := 6) rfl))
theorem ax_X4_findBehind_b_0 {e0 e1 e2 : Nat × va_E} : ([0, 1, 2] : List Nat).map (fun i => ([e0, e1, e2] : va_W)[i]?) = ([e0, e1, e2] : va_W).map some := rfl
set_option maxHeartbeats 4000000 in
set_option maxRecDepth 100000 in
theorem c_X4_findBehind_b (l : Launch) (D : va_G) (sz : Nat) (al : Int) (h0 : Nat) (g1 : Nat) (g2 : Nat) (g3 : Nat) (g4 : Nat) (g5 : Nat) (cn : Int) (bo : Int) (ru : Int) (g6 : Nat) (g7 : Nat) (cg3 : ClassId) (f3 : Nat → Int32) (cg7 : ClassId) (fo : Nat → Option Nat) (o : Nat) (pr : Nat → Nat) (gp : Nat → Nat → Int32) (cy : ClassId) (q0 : rg al) (q1 : 0 ≤ cn ∧ cn ≤ 24) (q2 : kOut fo pr o 24) (q3 : o + 24 ≤ 56) : Met l yX4_findBehind wsX4_findBehind ({ frames := 1, cells := 0, slots := 0, locals := 21 }) (kPre [.ref h0, .int (zI al)] D (([(h0, .inr (4, [.ref g1, .ref g2, .ref g3, .ref g4, .ref g5, .int (zI cn), .int (zI bo), .int (zI ru), .ref g6, .ref g7])), (g3, .inl (cg3, 24, .inl f3)), (g7, .inl (cg7, 24, .inr (.inr (.inr (.inr (fo))))))] : va_W) ++ kRows pr gp cy) [(cg3, .int), (cg7, .array .int), (cy, .int)] sz) (kQV (fun t => ∃ (ug : Nat → Nat → Int32), (kBh ug o f3 (zI al) cn 0) ∧ va_P D vwCl (([(h0, .inr (4, [.ref g1, .ref g2, .ref g3, .ref g4, .ref g5, .int (zI cn), .int (zI bo), .int (zI ru), .ref g6, .ref g7])), (g3, .inl (cg3, 24, .inl f3)), (g7, .inl (cg7, 24, .inr (.inr (.inr (.inr (fo))))))] : va_W) ++ kRows pr ug cy) t.heap ∧ va_D (va_A (([(h0, .inr (4, [.ref g1, .ref g2, .ref g3, .ref g4, .ref g5, .int (zI cn), .int (zI bo), .int (zI ru), .ref g6, .ref g7])), (g3, .inl (cg3, 24, .inl f3)), (g7, .inl (cg7, 24, .inr (.inr (.inr (.inr (fo))))))] : va_W) ++ kRows pr gp cy) sz) (([(h0, .inr (4, [.ref g1, .ref g2, .ref g3, .ref g4, .ref g5, .int (zI cn), .int (zI bo), .int (zI ru), .ref g6, .ref g7])), (g3, .inl (cg3, 24, .inl f3)), (g7, .inl (cg7, 24, .inr (.inr (.inr (.inr (fo))))))] : va_W) ++ kRows pr ug cy)) (va_A (([(h0, .inr (4, [.ref g1, .ref g2, .ref g3, .ref g4, .ref g5, .int (zI cn), .int (zI bo), .int (zI ru), .ref g6, .ref g7])), (g3, .inl (cg3, 24, .inl f3)), (g7, .inl (cg7, 24, .inr (.inr (.inr (.inr (fo))))))] : va_W) ++ kRows pr gp cy) sz)) 0 0 (va_A (([(h0, .inr (4, [.ref g1, .ref g2, .ref g3, .ref g4, .ref g5, .int (zI cn), .int (zI bo), .int (zI ru), .ref g6, .ref g7])), (g3, .inl (cg3, 24, .inl f3)), (g7, .inl (cg7, 24, .inr (.inr (.inr (.inr (fo))))))] : va_W) ++ kRows pr gp cy) sz) := by
  refine Met.ofW (cc := cX4_findBehind) (maxL := 8) (ret := none) (by decide) rfl ?_
  intro p e s m args below meth c s₁ B hml hv
  obtain ⟨rfl, hsz, hP, hK, hD0, hN⟩ := hv
  have hx := B.exec
  have hb := B.bytes
  have hr := B.returns
  have hts := atoms_spec (ws := wsX4_findBehind) B.pre
  have hown : s.vm.findClass RX4 = some m.cls := findClass_of_methodNamed B.named
  have hlocks := B.notSynchronized
  subst hsz
  have hD := hD0.self (sz := s.heap.size)
  generalize hAe : va_A (([(h0, .inr (4, [.ref g1, .ref g2, .ref g3, .ref g4, .ref g5, .int (zI cn), .int (zI bo), .int (zI ru), .ref g6, .ref g7])), (g3, .inl (cg3, 24, .inl f3)), (g7, .inl (cg7, 24, .inr (.inr (.inr (.inr (fo))))))] : va_W) ++ kRows pr gp cy) s.heap.size = A at hD ⊢
  have hA : ∀ q : Nat, s.heap.size ≤ q → A q := fun q h => by rw [← hAe]; exact Or.inr h
  have hS : va_S A s.heap s.heap [] := va_S.rf
  have hP : va_P D vwCl (([(h0, .inr (4, [.ref g1, .ref g2, .ref g3, .ref g4, .ref g5, .int (zI cn), .int (zI bo), .int (zI ru), .ref g6, .ref g7])), (g3, .inl (cg3, 24, .inl f3)), (g7, .inl (cg7, 24, .inr (.inr (.inr (.inr (fo))))))] : va_W) ++ kRows pr gp cy) s.heap := hP
  have hl := lv_entry ([.ref h0, .int (zI al)]) (n := 8) (Nat.le_of_ble_eq_true rfl)
  rw [lg_entry_eq]
  generalize (lg_sl ([.ref h0, .int (zI al)]) ++ List.replicate (8 - (lg_sl ([.ref h0, .int (zI al)])).length) Slot.unset).toArray = ls at hl ⊢
  have hl : lv_has ls 8 [(0, .ref h0), (1, .int (zI al))] := hl
  refine lv_iconst (v := zI 0) hx hb dX4_findBehind_0 rfl ?_
  refine lv_istore_n (lv' := [(2, .int (zI 0)), (0, .ref h0), (1, .int (zI al))]) hx hb dX4_findBehind_1 rfl hl (by decide) rfl (fun ls hl => ?_)
  refine lv_aload_n hx hb dX4_findBehind_2 rfl (lv_at hl 1 rfl) ?_
  refine va_get (D := D) (ci := 4) (v := .int (zI cn)) (C := RX4) (T := TX4) (N := 10) hx hb hts (fun _ h9 => List.mem_cons_of_mem _ (List.mem_append_right _ h9)) hown hK hP 0 rfl rfl 5 (by decide) (hts (.fieldLink RX4 51 "FontRuns$Setting" "count" "I") mw_X4_findBehind_b_0) (fun _ h9 => h9) rfl dX4_findBehind_3 ?_
  refine lv_iconst (v := zI 1) hx hb dX4_findBehind_6 rfl ?_
  refine kz_isub hx hb dX4_findBehind_7 ?_
  refine lv_istore_n (lv' := [(3, .int (zI (cn - 1))), (2, .int (zI 0)), (0, .ref h0), (1, .int (zI al))]) hx hb dX4_findBehind_8 rfl hl (by decide) rfl (fun ls hl => ?_)
  refine k_loopM (I := fun n9 H locs ls => ∃ (jl : Int) (jk : Int) (jp : Nat → Nat → Int32), n9 = (jk + 1).toNat ∧ (0 ≤ jl ∧ jl ≤ 1000) ∧ (-1 ≤ jk ∧ jk ≤ cn - 1) ∧ (kBh jp o f3 (zI al) cn (jk + 1)) ∧ (kLl jp o cn (jk + 1) jl) ∧ va_P D vwCl (([(h0, .inr (4, [.ref g1, .ref g2, .ref g3, .ref g4, .ref g5, .int (zI cn), .int (zI bo), .int (zI ru), .ref g6, .ref g7])), (g3, .inl (cg3, 24, .inl f3)), (g7, .inl (cg7, 24, .inr (.inr (.inr (.inr (fo))))))] : va_W) ++ kRows pr jp cy) H ∧ va_D A (([(h0, .inr (4, [.ref g1, .ref g2, .ref g3, .ref g4, .ref g5, .int (zI cn), .int (zI bo), .int (zI ru), .ref g6, .ref g7])), (g3, .inl (cg3, 24, .inl f3)), (g7, .inl (cg7, 24, .inr (.inr (.inr (.inr (fo))))))] : va_W) ++ kRows pr jp cy) ∧ va_S A s.heap H locs ∧ lv_has ls 8 [(3, .int (zI jk)), (2, .int (zI jl)), (0, .ref h0), (1, .int (zI al))]) ?_ _ ⟨0, (cn - 1), gp, rfl, (by omega), (by omega), (kBh_top (by omega)), (kLl_top (by omega)), hP, hD, hS, hl⟩
  intro n9 ih9 H locs ls hI
  obtain ⟨jl, jk, jp, en9, v_90, v_91, v_92, v_93, hP, hD, hS, hl⟩ := hI
  refine lv_iload_n hx hb dX4_findBehind_9 rfl (lv_at hl 0 rfl) ?_
  refine kz_if_lt (tgt := 139) hx hb dX4_findBehind_10 (by decide) (by omega) (fun c_1 => ?_) (fun c_1 => ?_)
  · have hP9 : va_P D vwCl (([(h0, .inr (4, [.ref g1, .ref g2, .ref g3, .ref g4, .ref g5, .int (zI cn), .int (zI bo), .int (zI ru), .ref g6, .ref g7])), (g3, .inl (cg3, 24, .inl f3)), (g7, .inl (cg7, 24, .inr (.inr (.inr (.inr (fo))))))] : va_W) ++ kRows pr jp cy) H := hP.part [0, 1, 2] ax_X4_findBehind_b_0
    have hD9 : va_D A (([(h0, .inr (4, [.ref g1, .ref g2, .ref g3, .ref g4, .ref g5, .int (zI cn), .int (zI bo), .int (zI ru), .ref g6, .ref g7])), (g3, .inl (cg3, 24, .inl f3)), (g7, .inl (cg7, 24, .inr (.inr (.inr (.inr (fo))))))] : va_W) ++ kRows pr jp cy) := hD.part [0, 1, 2] (by decide +kernel) ax_X4_findBehind_b_0
    exact W.vret hx hb hr (fun t ht hW => kQV_of ⟨jp, (by have q9 : jk + 1 = 0 := (by omega); rw [← q9]; exact v_92), by rw [ht]; exact hP9, hD9⟩ (hS.F ht)) hS.2.2 dX4_findBehind_139
  · refine lv_aload_n hx hb dX4_findBehind_13 rfl (lv_at hl 2 rfl) ?_
    refine va_get (D := D) (ci := 4) (v := .ref g3) (C := RX4) (T := TX4) (N := 10) hx hb hts (fun _ h9 => List.mem_cons_of_mem _ (List.mem_append_right _ h9)) hown hK hP 0 rfl rfl 2 (by decide) (hts (.fieldLink RX4 18 "FontRuns$Setting" "fitting" "[I") mw_X4_findBehind_b_1) (fun _ h9 => h9) rfl dX4_findBehind_14 ?_
    refine lv_iload_n hx hb dX4_findBehind_17 rfl (lv_at hl 0 rfl) ?_
    refine kz_iald hx hb hK hP 1 0 rfl rfl (by omega) dX4_findBehind_18 (fun z_2 rz_2 ez_2 => ?_)
    refine kz_if_ne (tgt := 26) hx hb dX4_findBehind_19 (by decide) (by omega) (fun c_3 => ?_) (fun c_3 => ?_)
    · refine lv_aload_n hx hb dX4_findBehind_26 rfl (lv_at hl 2 rfl) ?_
      refine va_get (D := D) (ci := 4) (v := .ref g3) (C := RX4) (T := TX4) (N := 10) hx hb hts (fun _ h9 => List.mem_cons_of_mem _ (List.mem_append_right _ h9)) hown hK hP 0 rfl rfl 2 (by decide) (hts (.fieldLink RX4 18 "FontRuns$Setting" "fitting" "[I") mw_X4_findBehind_b_1) (fun _ h9 => h9) rfl dX4_findBehind_27 ?_
      refine lv_iload_n hx hb dX4_findBehind_30 rfl (lv_at hl 0 rfl) ?_
      refine kz_iald hx hb hK hP 1 0 rfl rfl (by omega) dX4_findBehind_31 (fun z_4 rz_4 ez_4 => ?_)
      have q9 : z_2 = z_4 := (zI_eq rz_2 rz_4).mp (ez_2.symm.trans ez_4)
      subst q9
      refine kz_any (fun z_5 rz_5 ez_5 => ?_)
      refine lv_istore (lv' := [(4, .int (zI z_5)), (3, .int (zI jk)), (2, .int (zI jl)), (0, .ref h0), (1, .int (zI al))]) hx hb dX4_findBehind_32 hl (by decide) rfl (fun ls hl => ?_)
      refine lv_sipush (v := zI 1000) hx hb dX4_findBehind_34 (by decide) ?_
      refine lv_istore (lv' := [(5, .int (zI 1000)), (4, .int (zI z_5)), (3, .int (zI jk)), (2, .int (zI jl)), (0, .ref h0), (1, .int (zI al))]) hx hb dX4_findBehind_37 hl (by decide) rfl (fun ls hl => ?_)
      refine lv_iconst (v := zI 0) hx hb dX4_findBehind_39 rfl ?_
      refine lv_istore (lv' := [(6, .int (zI 0)), (5, .int (zI 1000)), (4, .int (zI z_5)), (3, .int (zI jk)), (2, .int (zI jl)), (0, .ref h0), (1, .int (zI al))]) hx hb dX4_findBehind_40 hl (by decide) rfl (fun ls hl => ?_)
      refine k_loopM (I := fun n9 H locs ls => ∃ (jh : Int) (jf : Int) (jq : Nat → Nat → Int32), n9 = (4 - jf).toNat ∧ (0 ≤ jh ∧ jh ≤ 1000) ∧ (0 ≤ jf ∧ jf ≤ 4) ∧ (kBh jq o f3 (zI al) cn (jk + 1)) ∧ (kLl jq o cn (jk + 1) jl) ∧ (kBw jq o f3 (zI al) cn jk jf) ∧ (kLs jq o jk jf jh) ∧ va_P D vwCl (([(h0, .inr (4, [.ref g1, .ref g2, .ref g3, .ref g4, .ref g5, .int (zI cn), .int (zI bo), .int (zI ru), .ref g6, .ref g7])), (g3, .inl (cg3, 24, .inl f3)), (g7, .inl (cg7, 24, .inr (.inr (.inr (.inr (fo))))))] : va_W) ++ kRows pr jq cy) H ∧ va_D A (([(h0, .inr (4, [.ref g1, .ref g2, .ref g3, .ref g4, .ref g5, .int (zI cn), .int (zI bo), .int (zI ru), .ref g6, .ref g7])), (g3, .inl (cg3, 24, .inl f3)), (g7, .inl (cg7, 24, .inr (.inr (.inr (.inr (fo))))))] : va_W) ++ kRows pr jq cy) ∧ va_S A s.heap H locs ∧ lv_has ls 8 [(6, .int (zI jf)), (5, .int (zI jh)), (4, .int (zI z_5)), (3, .int (zI jk)), (2, .int (zI jl)), (0, .ref h0), (1, .int (zI al))]) ?_ _ ⟨1000, 0, jp, rfl, (by omega), (by omega), v_92, v_93, kBw_0, kLs_0, hP, hD, hS, hl⟩
      intro n42 ih42 H locs ls hI
      obtain ⟨jh, jf, jq, en42, v_420, v_421, v_422, v_423, v_424, v_425, hP, hD, hS, hl⟩ := hI
      have ox : zI z_5 = kOx (f3 jk.toNat) (zI al) := kOx_1 ez_2 rz_2 c_3 ez_2 ez_5
      refine lv_iload hx hb dX4_findBehind_42 (lv_at hl 0 rfl) ?_
      refine lv_iconst (v := zI 4) hx hb dX4_findBehind_44 rfl ?_
      refine kz_icmp_ge (tgt := 130) hx hb dX4_findBehind_45 (by decide) (by omega) (by omega) (fun c_6 => ?_) (fun c_6 => ?_)
      · refine lv_iload hx hb dX4_findBehind_130 (lv_at hl 1 rfl) ?_
        refine lv_istore_n (lv' := [(2, .int (zI jh)), (6, .int (zI jf)), (5, .int (zI jh)), (4, .int (zI z_5)), (3, .int (zI jk)), (0, .ref h0), (1, .int (zI al))]) hx hb dX4_findBehind_132 rfl hl (by decide) rfl (fun ls hl => ?_)
        refine lv_iinc (v := (zI (jk - 1))) (lv' := [(3, .int (zI (jk - 1))), (2, .int (zI jh)), (6, .int (zI jf)), (5, .int (zI jh)), (4, .int (zI z_5)), (0, .ref h0), (1, .int (zI al))]) hx hb dX4_findBehind_133 hl (k := 4) rfl (kz_dec _ 1) (by decide) rfl (fun ls hl => ?_)
        refine lv_goto (tgt := 9) hx hb dX4_findBehind_136 (by decide) ?_
        exact ih9 _ (by omega) _ _ _ ⟨jh, (jk - 1), jq, rfl, v_420, (by omega), (kBh_dn v_422 v_424 (by omega) (by omega)), (kLl_of ((show jf = 4 by omega) ▸ v_425) (by omega) (by omega) ((show jf = 4 by omega) ▸ v_424)), hP, hD, hS, lv_sub hl [0, 1, 5, 6] rfl⟩
      · refine lv_iload_n hx hb dX4_findBehind_48 rfl (lv_at hl 3 rfl) ?_
        refine lv_iconst (v := zI 1) hx hb dX4_findBehind_49 rfl ?_
        refine kz_iadd hx hb dX4_findBehind_50 ?_
        refine lv_aload_n hx hb dX4_findBehind_51 rfl (lv_at hl 5 rfl) ?_
        refine va_get (D := D) (ci := 4) (v := .int (zI cn)) (C := RX4) (T := TX4) (N := 10) hx hb hts (fun _ h9 => List.mem_cons_of_mem _ (List.mem_append_right _ h9)) hown hK hP 0 rfl rfl 5 (by decide) (hts (.fieldLink RX4 51 "FontRuns$Setting" "count" "I") mw_X4_findBehind_b_0) (fun _ h9 => h9) rfl dX4_findBehind_52 ?_
        refine kz_icmp_ge (tgt := 72) hx hb dX4_findBehind_55 (by decide) (by omega) (by omega) (fun c_7 => ?_) (fun c_7 => ?_)
        · refine lv_iconst (v := zI 0) hx hb dX4_findBehind_72 rfl ?_
          refine lv_istore (lv' := [(7, .int (zI 0)), (6, .int (zI jf)), (5, .int (zI jh)), (4, .int (zI z_5)), (3, .int (zI jk)), (2, .int (zI jl)), (0, .ref h0), (1, .int (zI al))]) hx hb dX4_findBehind_73 hl (by decide) rfl (fun ls hl => ?_)
          refine lv_aload_n hx hb dX4_findBehind_75 rfl (lv_at hl 6 rfl) ?_
          refine va_get (D := D) (ci := 4) (v := .ref g7) (C := RX4) (T := TX4) (N := 10) hx hb hts (fun _ h9 => List.mem_cons_of_mem _ (List.mem_append_right _ h9)) hown hK hP 0 rfl rfl 9 (by decide) (hts (.fieldLink RX4 32 "FontRuns$Setting" "behind" "[[I") mw_X4_findBehind_b_2) (fun _ h9 => h9) rfl dX4_findBehind_76 ?_
          refine lv_iload_n hx hb dX4_findBehind_79 rfl (lv_at hl 4 rfl) ?_
          refine kz_aald hx hb hK hP 2 1 rfl rfl (by omega) dX4_findBehind_80 (q2 _ (by omega)) ?_
          refine lv_iload hx hb dX4_findBehind_81 (lv_at hl 1 rfl) ?_
          refine lv_iload hx hb dX4_findBehind_83 (lv_at hl 3 rfl) ?_
          refine lv_iload hx hb dX4_findBehind_85 (lv_at hl 1 rfl) ?_
          refine lv_ishr hx hb dX4_findBehind_87 ?_
          refine kz_any (fun z_8 rz_8 ez_8 => ?_)
          refine lv_iconst (v := zI 1) hx hb dX4_findBehind_88 rfl ?_
          refine lv_iand hx hb dX4_findBehind_89 ?_
          refine kz_any (fun z_9 rz_9 ez_9 => ?_)
          refine kz_if_ne (tgt := 99) hx hb dX4_findBehind_90 (by decide) (by omega) (fun c_10 => ?_) (fun c_10 => ?_)
          · refine lv_iload hx hb dX4_findBehind_99 (lv_at hl 0 rfl) ?_
            refine lv_iload_n hx hb dX4_findBehind_101 rfl (lv_at hl 5 rfl) ?_
            refine lv_iconst (v := zI 1) hx hb dX4_findBehind_102 rfl ?_
            refine kz_iadd hx hb dX4_findBehind_103 ?_
            refine kz_min hx hb (by rw [hml]; exact hl.1.symm) hown (hts (.methodLink RX4 85 Lib.Math.min.name) mw_X4_findBehind_b_3) (hts (.static Lib.Math.min.name) mw_X4_findBehind_b_4) (hts (.initialized "java/lang/Math") mw_X4_findBehind_b_5) (hts (.code Lib.Math.min.name Lib.Math.min.code 2 (some .int)) mw_X4_findBehind_b_6) (Nat.le_of_ble_eq_true rfl) (Nat.le_of_ble_eq_true rfl) (Nat.le_of_ble_eq_true rfl) (Nat.le_of_ble_eq_true rfl) (by omega) (by omega) dX4_findBehind_104 (fun z_11 rz_11 ez_11 => ?_)
            refine kz_rowst (X := [(h0, .inr (4, [.ref g1, .ref g2, .ref g3, .ref g4, .ref g5, .int (zI cn), .int (zI bo), .int (zI ru), .ref g6, .ref g7])), (g3, .inl (cg3, 24, .inl f3)), (g7, .inl (cg7, 24, .inr (.inr (.inr (.inr (fo))))))]) hx hb hK hP hD hS 2 rfl (by omega) (by omega) dX4_findBehind_107 (fun H locs hP hD hS => ?_)
            generalize egp_12 : va_up jq (o + (jk).toNat) (upd (jq (o + (jk).toNat)) (jf).toNat (zI z_11)) = gp_12 at hP hD
            have hP : va_P D vwCl (([(h0, .inr (4, [.ref g1, .ref g2, .ref g3, .ref g4, .ref g5, .int (zI cn), .int (zI bo), .int (zI ru), .ref g6, .ref g7])), (g3, .inl (cg3, 24, .inl f3)), (g7, .inl (cg7, 24, .inr (.inr (.inr (.inr (fo))))))] : va_W) ++ kRows pr gp_12 cy) H := hP
            have hD : va_D A (([(h0, .inr (4, [.ref g1, .ref g2, .ref g3, .ref g4, .ref g5, .int (zI cn), .int (zI bo), .int (zI ru), .ref g6, .ref g7])), (g3, .inl (cg3, 24, .inl f3)), (g7, .inl (cg7, 24, .inr (.inr (.inr (.inr (fo))))))] : va_W) ++ kRows pr gp_12 cy) := hD
            refine lv_iload hx hb dX4_findBehind_108 (lv_at hl 2 rfl) ?_
            refine lv_aload_n hx hb dX4_findBehind_110 rfl (lv_at hl 6 rfl) ?_
            refine va_get (D := D) (ci := 4) (v := .ref g7) (C := RX4) (T := TX4) (N := 10) hx hb hts (fun _ h9 => List.mem_cons_of_mem _ (List.mem_append_right _ h9)) hown hK hP 0 rfl rfl 9 (by decide) (hts (.fieldLink RX4 32 "FontRuns$Setting" "behind" "[[I") mw_X4_findBehind_b_2) (fun _ h9 => h9) rfl dX4_findBehind_111 ?_
            refine lv_iload_n hx hb dX4_findBehind_114 rfl (lv_at hl 4 rfl) ?_
            refine kz_aald hx hb hK hP 2 1 rfl rfl (by omega) dX4_findBehind_115 (q2 _ (by omega)) ?_
            refine lv_iload hx hb dX4_findBehind_116 (lv_at hl 1 rfl) ?_
            refine kz_rowld (X := [(h0, .inr (4, [.ref g1, .ref g2, .ref g3, .ref g4, .ref g5, .int (zI cn), .int (zI bo), .int (zI ru), .ref g6, .ref g7])), (g3, .inl (cg3, 24, .inl f3)), (g7, .inl (cg7, 24, .inr (.inr (.inr (.inr (fo))))))]) hx hb hK hP 2 rfl (by omega) (by omega) dX4_findBehind_118 (fun z_13 rz_13 ez_13 => ?_)
            refine kz_min hx hb (by rw [hml]; exact hl.1.symm) hown (hts (.methodLink RX4 85 Lib.Math.min.name) mw_X4_findBehind_b_3) (hts (.static Lib.Math.min.name) mw_X4_findBehind_b_4) (hts (.initialized "java/lang/Math") mw_X4_findBehind_b_5) (hts (.code Lib.Math.min.name Lib.Math.min.code 2 (some .int)) mw_X4_findBehind_b_6) (Nat.le_of_ble_eq_true rfl) (Nat.le_of_ble_eq_true rfl) (Nat.le_of_ble_eq_true rfl) (Nat.le_of_ble_eq_true rfl) (by omega) (by omega) dX4_findBehind_119 (fun z_14 rz_14 ez_14 => ?_)
            refine lv_istore (lv' := [(5, .int (zI z_14)), (7, .int (zI 0)), (6, .int (zI jf)), (4, .int (zI z_5)), (3, .int (zI jk)), (2, .int (zI jl)), (0, .ref h0), (1, .int (zI al))]) hx hb dX4_findBehind_122 hl (by decide) rfl (fun ls hl => ?_)
            refine lv_iinc (v := (zI (jf + 1))) (lv' := [(6, .int (zI (jf + 1))), (5, .int (zI z_14)), (7, .int (zI 0)), (4, .int (zI z_5)), (3, .int (zI jk)), (2, .int (zI jl)), (0, .ref h0), (1, .int (zI al))]) hx hb dX4_findBehind_124 hl (k := 2) rfl (kz_inc _ 1) (by decide) rfl (fun ls hl => ?_)
            refine lv_goto (tgt := 42) hx hb dX4_findBehind_127 (by decide) ?_
            exact ih42 _ (by omega) _ _ _ ⟨z_14, (jf + 1), gp_12, rfl, (kLs_b (kLs_s v_425 (by omega) egp_12 rz_13 ez_13 ez_14) (kBw_last v_424 (by omega) egp_12 (kOp_y ox ez_8 ez_9 rz_9 c_10) v_423 (by omega) ez_11)), (by omega), (kBh_keep v_422 (by omega) egp_12), (kLl_keep v_423 (by omega) egp_12), (kBw_last v_424 (by omega) egp_12 (kOp_y ox ez_8 ez_9 rz_9 c_10) v_423 (by omega) ez_11), (kLs_s v_425 (by omega) egp_12 rz_13 ez_13 ez_14), hP, hD, hS, lv_sub hl [0, 1, 3, 4, 5, 6, 7] rfl⟩
          · refine lv_sipush (v := zI 1000) hx hb dX4_findBehind_93 (by decide) ?_
            refine lv_goto (tgt := 107) hx hb dX4_findBehind_96 (by decide) ?_
            refine kz_rowst (X := [(h0, .inr (4, [.ref g1, .ref g2, .ref g3, .ref g4, .ref g5, .int (zI cn), .int (zI bo), .int (zI ru), .ref g6, .ref g7])), (g3, .inl (cg3, 24, .inl f3)), (g7, .inl (cg7, 24, .inr (.inr (.inr (.inr (fo))))))]) hx hb hK hP hD hS 2 rfl (by omega) (by omega) dX4_findBehind_107 (fun H locs hP hD hS => ?_)
            generalize egp_15 : va_up jq (o + (jk).toNat) (upd (jq (o + (jk).toNat)) (jf).toNat (zI 1000)) = gp_15 at hP hD
            have hP : va_P D vwCl (([(h0, .inr (4, [.ref g1, .ref g2, .ref g3, .ref g4, .ref g5, .int (zI cn), .int (zI bo), .int (zI ru), .ref g6, .ref g7])), (g3, .inl (cg3, 24, .inl f3)), (g7, .inl (cg7, 24, .inr (.inr (.inr (.inr (fo))))))] : va_W) ++ kRows pr gp_15 cy) H := hP
            have hD : va_D A (([(h0, .inr (4, [.ref g1, .ref g2, .ref g3, .ref g4, .ref g5, .int (zI cn), .int (zI bo), .int (zI ru), .ref g6, .ref g7])), (g3, .inl (cg3, 24, .inl f3)), (g7, .inl (cg7, 24, .inr (.inr (.inr (.inr (fo))))))] : va_W) ++ kRows pr gp_15 cy) := hD
            refine lv_iload hx hb dX4_findBehind_108 (lv_at hl 2 rfl) ?_
            refine lv_aload_n hx hb dX4_findBehind_110 rfl (lv_at hl 6 rfl) ?_
            refine va_get (D := D) (ci := 4) (v := .ref g7) (C := RX4) (T := TX4) (N := 10) hx hb hts (fun _ h9 => List.mem_cons_of_mem _ (List.mem_append_right _ h9)) hown hK hP 0 rfl rfl 9 (by decide) (hts (.fieldLink RX4 32 "FontRuns$Setting" "behind" "[[I") mw_X4_findBehind_b_2) (fun _ h9 => h9) rfl dX4_findBehind_111 ?_
            refine lv_iload_n hx hb dX4_findBehind_114 rfl (lv_at hl 4 rfl) ?_
            refine kz_aald hx hb hK hP 2 1 rfl rfl (by omega) dX4_findBehind_115 (q2 _ (by omega)) ?_
            refine lv_iload hx hb dX4_findBehind_116 (lv_at hl 1 rfl) ?_
            refine kz_rowld (X := [(h0, .inr (4, [.ref g1, .ref g2, .ref g3, .ref g4, .ref g5, .int (zI cn), .int (zI bo), .int (zI ru), .ref g6, .ref g7])), (g3, .inl (cg3, 24, .inl f3)), (g7, .inl (cg7, 24, .inr (.inr (.inr (.inr (fo))))))]) hx hb hK hP 2 rfl (by omega) (by omega) dX4_findBehind_118 (fun z_16 rz_16 ez_16 => ?_)
            refine kz_min hx hb (by rw [hml]; exact hl.1.symm) hown (hts (.methodLink RX4 85 Lib.Math.min.name) mw_X4_findBehind_b_3) (hts (.static Lib.Math.min.name) mw_X4_findBehind_b_4) (hts (.initialized "java/lang/Math") mw_X4_findBehind_b_5) (hts (.code Lib.Math.min.name Lib.Math.min.code 2 (some .int)) mw_X4_findBehind_b_6) (Nat.le_of_ble_eq_true rfl) (Nat.le_of_ble_eq_true rfl) (Nat.le_of_ble_eq_true rfl) (Nat.le_of_ble_eq_true rfl) (by omega) (by omega) dX4_findBehind_119 (fun z_17 rz_17 ez_17 => ?_)
            refine lv_istore (lv' := [(5, .int (zI z_17)), (7, .int (zI 0)), (6, .int (zI jf)), (4, .int (zI z_5)), (3, .int (zI jk)), (2, .int (zI jl)), (0, .ref h0), (1, .int (zI al))]) hx hb dX4_findBehind_122 hl (by decide) rfl (fun ls hl => ?_)
            refine lv_iinc (v := (zI (jf + 1))) (lv' := [(6, .int (zI (jf + 1))), (5, .int (zI z_17)), (7, .int (zI 0)), (4, .int (zI z_5)), (3, .int (zI jk)), (2, .int (zI jl)), (0, .ref h0), (1, .int (zI al))]) hx hb dX4_findBehind_124 hl (k := 2) rfl (kz_inc _ 1) (by decide) rfl (fun ls hl => ?_)
            refine lv_goto (tgt := 42) hx hb dX4_findBehind_127 (by decide) ?_
            exact ih42 _ (by omega) _ _ _ ⟨z_17, (jf + 1), gp_15, rfl, (kLs_b (kLs_s v_425 (by omega) egp_15 rz_16 ez_16 ez_17) (kBw_no v_424 (by omega) egp_15 (kOp_n ox ez_8 ez_9 c_10))), (by omega), (kBh_keep v_422 (by omega) egp_15), (kLl_keep v_423 (by omega) egp_15), (kBw_no v_424 (by omega) egp_15 (kOp_n ox ez_8 ez_9 c_10)), (kLs_s v_425 (by omega) egp_15 rz_16 ez_16 ez_17), hP, hD, hS, lv_sub hl [0, 1, 3, 4, 5, 6, 7] rfl⟩
        · refine lv_aload_n hx hb dX4_findBehind_58 rfl (lv_at hl 5 rfl) ?_
          refine va_get (D := D) (ci := 4) (v := .ref g7) (C := RX4) (T := TX4) (N := 10) hx hb hts (fun _ h9 => List.mem_cons_of_mem _ (List.mem_append_right _ h9)) hown hK hP 0 rfl rfl 9 (by decide) (hts (.fieldLink RX4 32 "FontRuns$Setting" "behind" "[[I") mw_X4_findBehind_b_2) (fun _ h9 => h9) rfl dX4_findBehind_59 ?_
          refine lv_iload_n hx hb dX4_findBehind_62 rfl (lv_at hl 3 rfl) ?_
          refine lv_iconst (v := zI 1) hx hb dX4_findBehind_63 rfl ?_
          refine kz_iadd hx hb dX4_findBehind_64 ?_
          refine kz_aald hx hb hK hP 2 1 rfl rfl (by omega) dX4_findBehind_65 (q2 _ (by omega)) ?_
          refine lv_iload hx hb dX4_findBehind_66 (lv_at hl 0 rfl) ?_
          refine kz_rowld (X := [(h0, .inr (4, [.ref g1, .ref g2, .ref g3, .ref g4, .ref g5, .int (zI cn), .int (zI bo), .int (zI ru), .ref g6, .ref g7])), (g3, .inl (cg3, 24, .inl f3)), (g7, .inl (cg7, 24, .inr (.inr (.inr (.inr (fo))))))]) hx hb hK hP 2 rfl (by omega) (by omega) dX4_findBehind_68 (fun z_18 rz_18 ez_18 => ?_)
          refine lv_goto (tgt := 73) hx hb dX4_findBehind_69 (by decide) ?_
          refine lv_istore (lv' := [(7, .int (zI z_18)), (6, .int (zI jf)), (5, .int (zI jh)), (4, .int (zI z_5)), (3, .int (zI jk)), (2, .int (zI jl)), (0, .ref h0), (1, .int (zI al))]) hx hb dX4_findBehind_73 hl (by decide) rfl (fun ls hl => ?_)
          refine lv_aload_n hx hb dX4_findBehind_75 rfl (lv_at hl 6 rfl) ?_
          refine va_get (D := D) (ci := 4) (v := .ref g7) (C := RX4) (T := TX4) (N := 10) hx hb hts (fun _ h9 => List.mem_cons_of_mem _ (List.mem_append_right _ h9)) hown hK hP 0 rfl rfl 9 (by decide) (hts (.fieldLink RX4 32 "FontRuns$Setting" "behind" "[[I") mw_X4_findBehind_b_2) (fun _ h9 => h9) rfl dX4_findBehind_76 ?_
          refine lv_iload_n hx hb dX4_findBehind_79 rfl (lv_at hl 4 rfl) ?_
          refine kz_aald hx hb hK hP 2 1 rfl rfl (by omega) dX4_findBehind_80 (q2 _ (by omega)) ?_
          refine lv_iload hx hb dX4_findBehind_81 (lv_at hl 1 rfl) ?_
          refine lv_iload hx hb dX4_findBehind_83 (lv_at hl 3 rfl) ?_
          refine lv_iload hx hb dX4_findBehind_85 (lv_at hl 1 rfl) ?_
          refine lv_ishr hx hb dX4_findBehind_87 ?_
          refine kz_any (fun z_19 rz_19 ez_19 => ?_)
          refine lv_iconst (v := zI 1) hx hb dX4_findBehind_88 rfl ?_
          refine lv_iand hx hb dX4_findBehind_89 ?_
          refine kz_any (fun z_20 rz_20 ez_20 => ?_)
          refine kz_if_ne (tgt := 99) hx hb dX4_findBehind_90 (by decide) (by omega) (fun c_21 => ?_) (fun c_21 => ?_)
          · refine lv_iload hx hb dX4_findBehind_99 (lv_at hl 0 rfl) ?_
            refine lv_iload_n hx hb dX4_findBehind_101 rfl (lv_at hl 5 rfl) ?_
            refine lv_iconst (v := zI 1) hx hb dX4_findBehind_102 rfl ?_
            refine kz_iadd hx hb dX4_findBehind_103 ?_
            refine kz_min hx hb (by rw [hml]; exact hl.1.symm) hown (hts (.methodLink RX4 85 Lib.Math.min.name) mw_X4_findBehind_b_3) (hts (.static Lib.Math.min.name) mw_X4_findBehind_b_4) (hts (.initialized "java/lang/Math") mw_X4_findBehind_b_5) (hts (.code Lib.Math.min.name Lib.Math.min.code 2 (some .int)) mw_X4_findBehind_b_6) (Nat.le_of_ble_eq_true rfl) (Nat.le_of_ble_eq_true rfl) (Nat.le_of_ble_eq_true rfl) (Nat.le_of_ble_eq_true rfl) (by omega) (by omega) dX4_findBehind_104 (fun z_22 rz_22 ez_22 => ?_)
            refine kz_rowst (X := [(h0, .inr (4, [.ref g1, .ref g2, .ref g3, .ref g4, .ref g5, .int (zI cn), .int (zI bo), .int (zI ru), .ref g6, .ref g7])), (g3, .inl (cg3, 24, .inl f3)), (g7, .inl (cg7, 24, .inr (.inr (.inr (.inr (fo))))))]) hx hb hK hP hD hS 2 rfl (by omega) (by omega) dX4_findBehind_107 (fun H locs hP hD hS => ?_)
            generalize egp_23 : va_up jq (o + (jk).toNat) (upd (jq (o + (jk).toNat)) (jf).toNat (zI z_22)) = gp_23 at hP hD
            have hP : va_P D vwCl (([(h0, .inr (4, [.ref g1, .ref g2, .ref g3, .ref g4, .ref g5, .int (zI cn), .int (zI bo), .int (zI ru), .ref g6, .ref g7])), (g3, .inl (cg3, 24, .inl f3)), (g7, .inl (cg7, 24, .inr (.inr (.inr (.inr (fo))))))] : va_W) ++ kRows pr gp_23 cy) H := hP
            have hD : va_D A (([(h0, .inr (4, [.ref g1, .ref g2, .ref g3, .ref g4, .ref g5, .int (zI cn), .int (zI bo), .int (zI ru), .ref g6, .ref g7])), (g3, .inl (cg3, 24, .inl f3)), (g7, .inl (cg7, 24, .inr (.inr (.inr (.inr (fo))))))] : va_W) ++ kRows pr gp_23 cy) := hD
            refine lv_iload hx hb dX4_findBehind_108 (lv_at hl 2 rfl) ?_
            refine lv_aload_n hx hb dX4_findBehind_110 rfl (lv_at hl 6 rfl) ?_
            refine va_get (D := D) (ci := 4) (v := .ref g7) (C := RX4) (T := TX4) (N := 10) hx hb hts (fun _ h9 => List.mem_cons_of_mem _ (List.mem_append_right _ h9)) hown hK hP 0 rfl rfl 9 (by decide) (hts (.fieldLink RX4 32 "FontRuns$Setting" "behind" "[[I") mw_X4_findBehind_b_2) (fun _ h9 => h9) rfl dX4_findBehind_111 ?_
            refine lv_iload_n hx hb dX4_findBehind_114 rfl (lv_at hl 4 rfl) ?_
            refine kz_aald hx hb hK hP 2 1 rfl rfl (by omega) dX4_findBehind_115 (q2 _ (by omega)) ?_
            refine lv_iload hx hb dX4_findBehind_116 (lv_at hl 1 rfl) ?_
            refine kz_rowld (X := [(h0, .inr (4, [.ref g1, .ref g2, .ref g3, .ref g4, .ref g5, .int (zI cn), .int (zI bo), .int (zI ru), .ref g6, .ref g7])), (g3, .inl (cg3, 24, .inl f3)), (g7, .inl (cg7, 24, .inr (.inr (.inr (.inr (fo))))))]) hx hb hK hP 2 rfl (by omega) (by omega) dX4_findBehind_118 (fun z_24 rz_24 ez_24 => ?_)
            refine kz_min hx hb (by rw [hml]; exact hl.1.symm) hown (hts (.methodLink RX4 85 Lib.Math.min.name) mw_X4_findBehind_b_3) (hts (.static Lib.Math.min.name) mw_X4_findBehind_b_4) (hts (.initialized "java/lang/Math") mw_X4_findBehind_b_5) (hts (.code Lib.Math.min.name Lib.Math.min.code 2 (some .int)) mw_X4_findBehind_b_6) (Nat.le_of_ble_eq_true rfl) (Nat.le_of_ble_eq_true rfl) (Nat.le_of_ble_eq_true rfl) (Nat.le_of_ble_eq_true rfl) (by omega) (by omega) dX4_findBehind_119 (fun z_25 rz_25 ez_25 => ?_)
            refine lv_istore (lv' := [(5, .int (zI z_25)), (7, .int (zI z_18)), (6, .int (zI jf)), (4, .int (zI z_5)), (3, .int (zI jk)), (2, .int (zI jl)), (0, .ref h0), (1, .int (zI al))]) hx hb dX4_findBehind_122 hl (by decide) rfl (fun ls hl => ?_)
            refine lv_iinc (v := (zI (jf + 1))) (lv' := [(6, .int (zI (jf + 1))), (5, .int (zI z_25)), (7, .int (zI z_18)), (4, .int (zI z_5)), (3, .int (zI jk)), (2, .int (zI jl)), (0, .ref h0), (1, .int (zI al))]) hx hb dX4_findBehind_124 hl (k := 2) rfl (kz_inc _ 1) (by decide) rfl (fun ls hl => ?_)
            refine lv_goto (tgt := 42) hx hb dX4_findBehind_127 (by decide) ?_
            exact ih42 _ (by omega) _ _ _ ⟨z_25, (jf + 1), gp_23, rfl, (kLs_b (kLs_s v_425 (by omega) egp_23 rz_24 ez_24 ez_25) (kBw_more v_424 (by omega) egp_23 (kOp_y ox ez_19 ez_20 rz_20 c_21) v_423 v_422 (by omega) (by omega) rz_18 ez_18 ez_22)), (by omega), (kBh_keep v_422 (by omega) egp_23), (kLl_keep v_423 (by omega) egp_23), (kBw_more v_424 (by omega) egp_23 (kOp_y ox ez_19 ez_20 rz_20 c_21) v_423 v_422 (by omega) (by omega) rz_18 ez_18 ez_22), (kLs_s v_425 (by omega) egp_23 rz_24 ez_24 ez_25), hP, hD, hS, lv_sub hl [0, 1, 3, 4, 5, 6, 7] rfl⟩
          · refine lv_sipush (v := zI 1000) hx hb dX4_findBehind_93 (by decide) ?_
            refine lv_goto (tgt := 107) hx hb dX4_findBehind_96 (by decide) ?_
            refine kz_rowst (X := [(h0, .inr (4, [.ref g1, .ref g2, .ref g3, .ref g4, .ref g5, .int (zI cn), .int (zI bo), .int (zI ru), .ref g6, .ref g7])), (g3, .inl (cg3, 24, .inl f3)), (g7, .inl (cg7, 24, .inr (.inr (.inr (.inr (fo))))))]) hx hb hK hP hD hS 2 rfl (by omega) (by omega) dX4_findBehind_107 (fun H locs hP hD hS => ?_)
            generalize egp_26 : va_up jq (o + (jk).toNat) (upd (jq (o + (jk).toNat)) (jf).toNat (zI 1000)) = gp_26 at hP hD
            have hP : va_P D vwCl (([(h0, .inr (4, [.ref g1, .ref g2, .ref g3, .ref g4, .ref g5, .int (zI cn), .int (zI bo), .int (zI ru), .ref g6, .ref g7])), (g3, .inl (cg3, 24, .inl f3)), (g7, .inl (cg7, 24, .inr (.inr (.inr (.inr (fo))))))] : va_W) ++ kRows pr gp_26 cy) H := hP
            have hD : va_D A (([(h0, .inr (4, [.ref g1, .ref g2, .ref g3, .ref g4, .ref g5, .int (zI cn), .int (zI bo), .int (zI ru), .ref g6, .ref g7])), (g3, .inl (cg3, 24, .inl f3)), (g7, .inl (cg7, 24, .inr (.inr (.inr (.inr (fo))))))] : va_W) ++ kRows pr gp_26 cy) := hD
            refine lv_iload hx hb dX4_findBehind_108 (lv_at hl 2 rfl) ?_
            refine lv_aload_n hx hb dX4_findBehind_110 rfl (lv_at hl 6 rfl) ?_
            refine va_get (D := D) (ci := 4) (v := .ref g7) (C := RX4) (T := TX4) (N := 10) hx hb hts (fun _ h9 => List.mem_cons_of_mem _ (List.mem_append_right _ h9)) hown hK hP 0 rfl rfl 9 (by decide) (hts (.fieldLink RX4 32 "FontRuns$Setting" "behind" "[[I") mw_X4_findBehind_b_2) (fun _ h9 => h9) rfl dX4_findBehind_111 ?_
            refine lv_iload_n hx hb dX4_findBehind_114 rfl (lv_at hl 4 rfl) ?_
            refine kz_aald hx hb hK hP 2 1 rfl rfl (by omega) dX4_findBehind_115 (q2 _ (by omega)) ?_
            refine lv_iload hx hb dX4_findBehind_116 (lv_at hl 1 rfl) ?_
            refine kz_rowld (X := [(h0, .inr (4, [.ref g1, .ref g2, .ref g3, .ref g4, .ref g5, .int (zI cn), .int (zI bo), .int (zI ru), .ref g6, .ref g7])), (g3, .inl (cg3, 24, .inl f3)), (g7, .inl (cg7, 24, .inr (.inr (.inr (.inr (fo))))))]) hx hb hK hP 2 rfl (by omega) (by omega) dX4_findBehind_118 (fun z_27 rz_27 ez_27 => ?_)
            refine kz_min hx hb (by rw [hml]; exact hl.1.symm) hown (hts (.methodLink RX4 85 Lib.Math.min.name) mw_X4_findBehind_b_3) (hts (.static Lib.Math.min.name) mw_X4_findBehind_b_4) (hts (.initialized "java/lang/Math") mw_X4_findBehind_b_5) (hts (.code Lib.Math.min.name Lib.Math.min.code 2 (some .int)) mw_X4_findBehind_b_6) (Nat.le_of_ble_eq_true rfl) (Nat.le_of_ble_eq_true rfl) (Nat.le_of_ble_eq_true rfl) (Nat.le_of_ble_eq_true rfl) (by omega) (by omega) dX4_findBehind_119 (fun z_28 rz_28 ez_28 => ?_)
            refine lv_istore (lv' := [(5, .int (zI z_28)), (7, .int (zI z_18)), (6, .int (zI jf)), (4, .int (zI z_5)), (3, .int (zI jk)), (2, .int (zI jl)), (0, .ref h0), (1, .int (zI al))]) hx hb dX4_findBehind_122 hl (by decide) rfl (fun ls hl => ?_)
            refine lv_iinc (v := (zI (jf + 1))) (lv' := [(6, .int (zI (jf + 1))), (5, .int (zI z_28)), (7, .int (zI z_18)), (4, .int (zI z_5)), (3, .int (zI jk)), (2, .int (zI jl)), (0, .ref h0), (1, .int (zI al))]) hx hb dX4_findBehind_124 hl (k := 2) rfl (kz_inc _ 1) (by decide) rfl (fun ls hl => ?_)
            refine lv_goto (tgt := 42) hx hb dX4_findBehind_127 (by decide) ?_
            exact ih42 _ (by omega) _ _ _ ⟨z_28, (jf + 1), gp_26, rfl, (kLs_b (kLs_s v_425 (by omega) egp_26 rz_27 ez_27 ez_28) (kBw_no v_424 (by omega) egp_26 (kOp_n ox ez_19 ez_20 c_21))), (by omega), (kBh_keep v_422 (by omega) egp_26), (kLl_keep v_423 (by omega) egp_26), (kBw_no v_424 (by omega) egp_26 (kOp_n ox ez_19 ez_20 c_21)), (kLs_s v_425 (by omega) egp_26 rz_27 ez_27 ez_28), hP, hD, hS, lv_sub hl [0, 1, 3, 4, 5, 6, 7] rfl⟩
    · refine lv_iload_n hx hb dX4_findBehind_22 rfl (lv_at hl 3 rfl) ?_
      refine lv_goto (tgt := 32) hx hb dX4_findBehind_23 (by decide) ?_
      refine kz_any (fun z_29 rz_29 ez_29 => ?_)
      refine lv_istore (lv' := [(4, .int (zI z_29)), (3, .int (zI jk)), (2, .int (zI jl)), (0, .ref h0), (1, .int (zI al))]) hx hb dX4_findBehind_32 hl (by decide) rfl (fun ls hl => ?_)
      refine lv_sipush (v := zI 1000) hx hb dX4_findBehind_34 (by decide) ?_
      refine lv_istore (lv' := [(5, .int (zI 1000)), (4, .int (zI z_29)), (3, .int (zI jk)), (2, .int (zI jl)), (0, .ref h0), (1, .int (zI al))]) hx hb dX4_findBehind_37 hl (by decide) rfl (fun ls hl => ?_)
      refine lv_iconst (v := zI 0) hx hb dX4_findBehind_39 rfl ?_
      refine lv_istore (lv' := [(6, .int (zI 0)), (5, .int (zI 1000)), (4, .int (zI z_29)), (3, .int (zI jk)), (2, .int (zI jl)), (0, .ref h0), (1, .int (zI al))]) hx hb dX4_findBehind_40 hl (by decide) rfl (fun ls hl => ?_)
      refine k_loopM (I := fun n9 H locs ls => ∃ (jh : Int) (jf : Int) (jq : Nat → Nat → Int32), n9 = (4 - jf).toNat ∧ (0 ≤ jh ∧ jh ≤ 1000) ∧ (0 ≤ jf ∧ jf ≤ 4) ∧ (kBh jq o f3 (zI al) cn (jk + 1)) ∧ (kLl jq o cn (jk + 1) jl) ∧ (kBw jq o f3 (zI al) cn jk jf) ∧ (kLs jq o jk jf jh) ∧ va_P D vwCl (([(h0, .inr (4, [.ref g1, .ref g2, .ref g3, .ref g4, .ref g5, .int (zI cn), .int (zI bo), .int (zI ru), .ref g6, .ref g7])), (g3, .inl (cg3, 24, .inl f3)), (g7, .inl (cg7, 24, .inr (.inr (.inr (.inr (fo))))))] : va_W) ++ kRows pr jq cy) H ∧ va_D A (([(h0, .inr (4, [.ref g1, .ref g2, .ref g3, .ref g4, .ref g5, .int (zI cn), .int (zI bo), .int (zI ru), .ref g6, .ref g7])), (g3, .inl (cg3, 24, .inl f3)), (g7, .inl (cg7, 24, .inr (.inr (.inr (.inr (fo))))))] : va_W) ++ kRows pr jq cy) ∧ va_S A s.heap H locs ∧ lv_has ls 8 [(6, .int (zI jf)), (5, .int (zI jh)), (4, .int (zI z_29)), (3, .int (zI jk)), (2, .int (zI jl)), (0, .ref h0), (1, .int (zI al))]) ?_ _ ⟨1000, 0, jp, rfl, (by omega), (by omega), v_92, v_93, kBw_0, kLs_0, hP, hD, hS, hl⟩
      intro n42 ih42 H locs ls hI
      obtain ⟨jh, jf, jq, en42, v_420, v_421, v_422, v_423, v_424, v_425, hP, hD, hS, hl⟩ := hI
      have ox : zI z_29 = kOx (f3 jk.toNat) (zI al) := kOx_0 ez_2 c_3 ez_29
      refine lv_iload hx hb dX4_findBehind_42 (lv_at hl 0 rfl) ?_
      refine lv_iconst (v := zI 4) hx hb dX4_findBehind_44 rfl ?_
      refine kz_icmp_ge (tgt := 130) hx hb dX4_findBehind_45 (by decide) (by omega) (by omega) (fun c_30 => ?_) (fun c_30 => ?_)
      · refine lv_iload hx hb dX4_findBehind_130 (lv_at hl 1 rfl) ?_
        refine lv_istore_n (lv' := [(2, .int (zI jh)), (6, .int (zI jf)), (5, .int (zI jh)), (4, .int (zI z_29)), (3, .int (zI jk)), (0, .ref h0), (1, .int (zI al))]) hx hb dX4_findBehind_132 rfl hl (by decide) rfl (fun ls hl => ?_)
        refine lv_iinc (v := (zI (jk - 1))) (lv' := [(3, .int (zI (jk - 1))), (2, .int (zI jh)), (6, .int (zI jf)), (5, .int (zI jh)), (4, .int (zI z_29)), (0, .ref h0), (1, .int (zI al))]) hx hb dX4_findBehind_133 hl (k := 4) rfl (kz_dec _ 1) (by decide) rfl (fun ls hl => ?_)
        refine lv_goto (tgt := 9) hx hb dX4_findBehind_136 (by decide) ?_
        exact ih9 _ (by omega) _ _ _ ⟨jh, (jk - 1), jq, rfl, v_420, (by omega), (kBh_dn v_422 v_424 (by omega) (by omega)), (kLl_of ((show jf = 4 by omega) ▸ v_425) (by omega) (by omega) ((show jf = 4 by omega) ▸ v_424)), hP, hD, hS, lv_sub hl [0, 1, 5, 6] rfl⟩
      · refine lv_iload_n hx hb dX4_findBehind_48 rfl (lv_at hl 3 rfl) ?_
        refine lv_iconst (v := zI 1) hx hb dX4_findBehind_49 rfl ?_
        refine kz_iadd hx hb dX4_findBehind_50 ?_
        refine lv_aload_n hx hb dX4_findBehind_51 rfl (lv_at hl 5 rfl) ?_
        refine va_get (D := D) (ci := 4) (v := .int (zI cn)) (C := RX4) (T := TX4) (N := 10) hx hb hts (fun _ h9 => List.mem_cons_of_mem _ (List.mem_append_right _ h9)) hown hK hP 0 rfl rfl 5 (by decide) (hts (.fieldLink RX4 51 "FontRuns$Setting" "count" "I") mw_X4_findBehind_b_0) (fun _ h9 => h9) rfl dX4_findBehind_52 ?_
        refine kz_icmp_ge (tgt := 72) hx hb dX4_findBehind_55 (by decide) (by omega) (by omega) (fun c_31 => ?_) (fun c_31 => ?_)
        · refine lv_iconst (v := zI 0) hx hb dX4_findBehind_72 rfl ?_
          refine lv_istore (lv' := [(7, .int (zI 0)), (6, .int (zI jf)), (5, .int (zI jh)), (4, .int (zI z_29)), (3, .int (zI jk)), (2, .int (zI jl)), (0, .ref h0), (1, .int (zI al))]) hx hb dX4_findBehind_73 hl (by decide) rfl (fun ls hl => ?_)
          refine lv_aload_n hx hb dX4_findBehind_75 rfl (lv_at hl 6 rfl) ?_
          refine va_get (D := D) (ci := 4) (v := .ref g7) (C := RX4) (T := TX4) (N := 10) hx hb hts (fun _ h9 => List.mem_cons_of_mem _ (List.mem_append_right _ h9)) hown hK hP 0 rfl rfl 9 (by decide) (hts (.fieldLink RX4 32 "FontRuns$Setting" "behind" "[[I") mw_X4_findBehind_b_2) (fun _ h9 => h9) rfl dX4_findBehind_76 ?_
          refine lv_iload_n hx hb dX4_findBehind_79 rfl (lv_at hl 4 rfl) ?_
          refine kz_aald hx hb hK hP 2 1 rfl rfl (by omega) dX4_findBehind_80 (q2 _ (by omega)) ?_
          refine lv_iload hx hb dX4_findBehind_81 (lv_at hl 1 rfl) ?_
          refine lv_iload hx hb dX4_findBehind_83 (lv_at hl 3 rfl) ?_
          refine lv_iload hx hb dX4_findBehind_85 (lv_at hl 1 rfl) ?_
          refine lv_ishr hx hb dX4_findBehind_87 ?_
          refine kz_any (fun z_32 rz_32 ez_32 => ?_)
          refine lv_iconst (v := zI 1) hx hb dX4_findBehind_88 rfl ?_
          refine lv_iand hx hb dX4_findBehind_89 ?_
          refine kz_any (fun z_33 rz_33 ez_33 => ?_)
          refine kz_if_ne (tgt := 99) hx hb dX4_findBehind_90 (by decide) (by omega) (fun c_34 => ?_) (fun c_34 => ?_)
          · refine lv_iload hx hb dX4_findBehind_99 (lv_at hl 0 rfl) ?_
            refine lv_iload_n hx hb dX4_findBehind_101 rfl (lv_at hl 5 rfl) ?_
            refine lv_iconst (v := zI 1) hx hb dX4_findBehind_102 rfl ?_
            refine kz_iadd hx hb dX4_findBehind_103 ?_
            refine kz_min hx hb (by rw [hml]; exact hl.1.symm) hown (hts (.methodLink RX4 85 Lib.Math.min.name) mw_X4_findBehind_b_3) (hts (.static Lib.Math.min.name) mw_X4_findBehind_b_4) (hts (.initialized "java/lang/Math") mw_X4_findBehind_b_5) (hts (.code Lib.Math.min.name Lib.Math.min.code 2 (some .int)) mw_X4_findBehind_b_6) (Nat.le_of_ble_eq_true rfl) (Nat.le_of_ble_eq_true rfl) (Nat.le_of_ble_eq_true rfl) (Nat.le_of_ble_eq_true rfl) (by omega) (by omega) dX4_findBehind_104 (fun z_35 rz_35 ez_35 => ?_)
            refine kz_rowst (X := [(h0, .inr (4, [.ref g1, .ref g2, .ref g3, .ref g4, .ref g5, .int (zI cn), .int (zI bo), .int (zI ru), .ref g6, .ref g7])), (g3, .inl (cg3, 24, .inl f3)), (g7, .inl (cg7, 24, .inr (.inr (.inr (.inr (fo))))))]) hx hb hK hP hD hS 2 rfl (by omega) (by omega) dX4_findBehind_107 (fun H locs hP hD hS => ?_)
            generalize egp_36 : va_up jq (o + (jk).toNat) (upd (jq (o + (jk).toNat)) (jf).toNat (zI z_35)) = gp_36 at hP hD
            have hP : va_P D vwCl (([(h0, .inr (4, [.ref g1, .ref g2, .ref g3, .ref g4, .ref g5, .int (zI cn), .int (zI bo), .int (zI ru), .ref g6, .ref g7])), (g3, .inl (cg3, 24, .inl f3)), (g7, .inl (cg7, 24, .inr (.inr (.inr (.inr (fo))))))] : va_W) ++ kRows pr gp_36 cy) H := hP
            have hD : va_D A (([(h0, .inr (4, [.ref g1, .ref g2, .ref g3, .ref g4, .ref g5, .int (zI cn), .int (zI bo), .int (zI ru), .ref g6, .ref g7])), (g3, .inl (cg3, 24, .inl f3)), (g7, .inl (cg7, 24, .inr (.inr (.inr (.inr (fo))))))] : va_W) ++ kRows pr gp_36 cy) := hD
            refine lv_iload hx hb dX4_findBehind_108 (lv_at hl 2 rfl) ?_
            refine lv_aload_n hx hb dX4_findBehind_110 rfl (lv_at hl 6 rfl) ?_
            refine va_get (D := D) (ci := 4) (v := .ref g7) (C := RX4) (T := TX4) (N := 10) hx hb hts (fun _ h9 => List.mem_cons_of_mem _ (List.mem_append_right _ h9)) hown hK hP 0 rfl rfl 9 (by decide) (hts (.fieldLink RX4 32 "FontRuns$Setting" "behind" "[[I") mw_X4_findBehind_b_2) (fun _ h9 => h9) rfl dX4_findBehind_111 ?_
            refine lv_iload_n hx hb dX4_findBehind_114 rfl (lv_at hl 4 rfl) ?_
            refine kz_aald hx hb hK hP 2 1 rfl rfl (by omega) dX4_findBehind_115 (q2 _ (by omega)) ?_
            refine lv_iload hx hb dX4_findBehind_116 (lv_at hl 1 rfl) ?_
            refine kz_rowld (X := [(h0, .inr (4, [.ref g1, .ref g2, .ref g3, .ref g4, .ref g5, .int (zI cn), .int (zI bo), .int (zI ru), .ref g6, .ref g7])), (g3, .inl (cg3, 24, .inl f3)), (g7, .inl (cg7, 24, .inr (.inr (.inr (.inr (fo))))))]) hx hb hK hP 2 rfl (by omega) (by omega) dX4_findBehind_118 (fun z_37 rz_37 ez_37 => ?_)
            refine kz_min hx hb (by rw [hml]; exact hl.1.symm) hown (hts (.methodLink RX4 85 Lib.Math.min.name) mw_X4_findBehind_b_3) (hts (.static Lib.Math.min.name) mw_X4_findBehind_b_4) (hts (.initialized "java/lang/Math") mw_X4_findBehind_b_5) (hts (.code Lib.Math.min.name Lib.Math.min.code 2 (some .int)) mw_X4_findBehind_b_6) (Nat.le_of_ble_eq_true rfl) (Nat.le_of_ble_eq_true rfl) (Nat.le_of_ble_eq_true rfl) (Nat.le_of_ble_eq_true rfl) (by omega) (by omega) dX4_findBehind_119 (fun z_38 rz_38 ez_38 => ?_)
            refine lv_istore (lv' := [(5, .int (zI z_38)), (7, .int (zI 0)), (6, .int (zI jf)), (4, .int (zI z_29)), (3, .int (zI jk)), (2, .int (zI jl)), (0, .ref h0), (1, .int (zI al))]) hx hb dX4_findBehind_122 hl (by decide) rfl (fun ls hl => ?_)
            refine lv_iinc (v := (zI (jf + 1))) (lv' := [(6, .int (zI (jf + 1))), (5, .int (zI z_38)), (7, .int (zI 0)), (4, .int (zI z_29)), (3, .int (zI jk)), (2, .int (zI jl)), (0, .ref h0), (1, .int (zI al))]) hx hb dX4_findBehind_124 hl (k := 2) rfl (kz_inc _ 1) (by decide) rfl (fun ls hl => ?_)
            refine lv_goto (tgt := 42) hx hb dX4_findBehind_127 (by decide) ?_
            exact ih42 _ (by omega) _ _ _ ⟨z_38, (jf + 1), gp_36, rfl, (kLs_b (kLs_s v_425 (by omega) egp_36 rz_37 ez_37 ez_38) (kBw_last v_424 (by omega) egp_36 (kOp_y ox ez_32 ez_33 rz_33 c_34) v_423 (by omega) ez_35)), (by omega), (kBh_keep v_422 (by omega) egp_36), (kLl_keep v_423 (by omega) egp_36), (kBw_last v_424 (by omega) egp_36 (kOp_y ox ez_32 ez_33 rz_33 c_34) v_423 (by omega) ez_35), (kLs_s v_425 (by omega) egp_36 rz_37 ez_37 ez_38), hP, hD, hS, lv_sub hl [0, 1, 3, 4, 5, 6, 7] rfl⟩
          · refine lv_sipush (v := zI 1000) hx hb dX4_findBehind_93 (by decide) ?_
            refine lv_goto (tgt := 107) hx hb dX4_findBehind_96 (by decide) ?_
            refine kz_rowst (X := [(h0, .inr (4, [.ref g1, .ref g2, .ref g3, .ref g4, .ref g5, .int (zI cn), .int (zI bo), .int (zI ru), .ref g6, .ref g7])), (g3, .inl (cg3, 24, .inl f3)), (g7, .inl (cg7, 24, .inr (.inr (.inr (.inr (fo))))))]) hx hb hK hP hD hS 2 rfl (by omega) (by omega) dX4_findBehind_107 (fun H locs hP hD hS => ?_)
            generalize egp_39 : va_up jq (o + (jk).toNat) (upd (jq (o + (jk).toNat)) (jf).toNat (zI 1000)) = gp_39 at hP hD
            have hP : va_P D vwCl (([(h0, .inr (4, [.ref g1, .ref g2, .ref g3, .ref g4, .ref g5, .int (zI cn), .int (zI bo), .int (zI ru), .ref g6, .ref g7])), (g3, .inl (cg3, 24, .inl f3)), (g7, .inl (cg7, 24, .inr (.inr (.inr (.inr (fo))))))] : va_W) ++ kRows pr gp_39 cy) H := hP
            have hD : va_D A (([(h0, .inr (4, [.ref g1, .ref g2, .ref g3, .ref g4, .ref g5, .int (zI cn), .int (zI bo), .int (zI ru), .ref g6, .ref g7])), (g3, .inl (cg3, 24, .inl f3)), (g7, .inl (cg7, 24, .inr (.inr (.inr (.inr (fo))))))] : va_W) ++ kRows pr gp_39 cy) := hD
            refine lv_iload hx hb dX4_findBehind_108 (lv_at hl 2 rfl) ?_
            refine lv_aload_n hx hb dX4_findBehind_110 rfl (lv_at hl 6 rfl) ?_
            refine va_get (D := D) (ci := 4) (v := .ref g7) (C := RX4) (T := TX4) (N := 10) hx hb hts (fun _ h9 => List.mem_cons_of_mem _ (List.mem_append_right _ h9)) hown hK hP 0 rfl rfl 9 (by decide) (hts (.fieldLink RX4 32 "FontRuns$Setting" "behind" "[[I") mw_X4_findBehind_b_2) (fun _ h9 => h9) rfl dX4_findBehind_111 ?_
            refine lv_iload_n hx hb dX4_findBehind_114 rfl (lv_at hl 4 rfl) ?_
            refine kz_aald hx hb hK hP 2 1 rfl rfl (by omega) dX4_findBehind_115 (q2 _ (by omega)) ?_
            refine lv_iload hx hb dX4_findBehind_116 (lv_at hl 1 rfl) ?_
            refine kz_rowld (X := [(h0, .inr (4, [.ref g1, .ref g2, .ref g3, .ref g4, .ref g5, .int (zI cn), .int (zI bo), .int (zI ru), .ref g6, .ref g7])), (g3, .inl (cg3, 24, .inl f3)), (g7, .inl (cg7, 24, .inr (.inr (.inr (.inr (fo))))))]) hx hb hK hP 2 rfl (by omega) (by omega) dX4_findBehind_118 (fun z_40 rz_40 ez_40 => ?_)
            refine kz_min hx hb (by rw [hml]; exact hl.1.symm) hown (hts (.methodLink RX4 85 Lib.Math.min.name) mw_X4_findBehind_b_3) (hts (.static Lib.Math.min.name) mw_X4_findBehind_b_4) (hts (.initialized "java/lang/Math") mw_X4_findBehind_b_5) (hts (.code Lib.Math.min.name Lib.Math.min.code 2 (some .int)) mw_X4_findBehind_b_6) (Nat.le_of_ble_eq_true rfl) (Nat.le_of_ble_eq_true rfl) (Nat.le_of_ble_eq_true rfl) (Nat.le_of_ble_eq_true rfl) (by omega) (by omega) dX4_findBehind_119 (fun z_41 rz_41 ez_41 => ?_)
            refine lv_istore (lv' := [(5, .int (zI z_41)), (7, .int (zI 0)), (6, .int (zI jf)), (4, .int (zI z_29)), (3, .int (zI jk)), (2, .int (zI jl)), (0, .ref h0), (1, .int (zI al))]) hx hb dX4_findBehind_122 hl (by decide) rfl (fun ls hl => ?_)
            refine lv_iinc (v := (zI (jf + 1))) (lv' := [(6, .int (zI (jf + 1))), (5, .int (zI z_41)), (7, .int (zI 0)), (4, .int (zI z_29)), (3, .int (zI jk)), (2, .int (zI jl)), (0, .ref h0), (1, .int (zI al))]) hx hb dX4_findBehind_124 hl (k := 2) rfl (kz_inc _ 1) (by decide) rfl (fun ls hl => ?_)
            refine lv_goto (tgt := 42) hx hb dX4_findBehind_127 (by decide) ?_
            exact ih42 _ (by omega) _ _ _ ⟨z_41, (jf + 1), gp_39, rfl, (kLs_b (kLs_s v_425 (by omega) egp_39 rz_40 ez_40 ez_41) (kBw_no v_424 (by omega) egp_39 (kOp_n ox ez_32 ez_33 c_34))), (by omega), (kBh_keep v_422 (by omega) egp_39), (kLl_keep v_423 (by omega) egp_39), (kBw_no v_424 (by omega) egp_39 (kOp_n ox ez_32 ez_33 c_34)), (kLs_s v_425 (by omega) egp_39 rz_40 ez_40 ez_41), hP, hD, hS, lv_sub hl [0, 1, 3, 4, 5, 6, 7] rfl⟩
        · refine lv_aload_n hx hb dX4_findBehind_58 rfl (lv_at hl 5 rfl) ?_
          refine va_get (D := D) (ci := 4) (v := .ref g7) (C := RX4) (T := TX4) (N := 10) hx hb hts (fun _ h9 => List.mem_cons_of_mem _ (List.mem_append_right _ h9)) hown hK hP 0 rfl rfl 9 (by decide) (hts (.fieldLink RX4 32 "FontRuns$Setting" "behind" "[[I") mw_X4_findBehind_b_2) (fun _ h9 => h9) rfl dX4_findBehind_59 ?_
          refine lv_iload_n hx hb dX4_findBehind_62 rfl (lv_at hl 3 rfl) ?_
          refine lv_iconst (v := zI 1) hx hb dX4_findBehind_63 rfl ?_
          refine kz_iadd hx hb dX4_findBehind_64 ?_
          refine kz_aald hx hb hK hP 2 1 rfl rfl (by omega) dX4_findBehind_65 (q2 _ (by omega)) ?_
          refine lv_iload hx hb dX4_findBehind_66 (lv_at hl 0 rfl) ?_
          refine kz_rowld (X := [(h0, .inr (4, [.ref g1, .ref g2, .ref g3, .ref g4, .ref g5, .int (zI cn), .int (zI bo), .int (zI ru), .ref g6, .ref g7])), (g3, .inl (cg3, 24, .inl f3)), (g7, .inl (cg7, 24, .inr (.inr (.inr (.inr (fo))))))]) hx hb hK hP 2 rfl (by omega) (by omega) dX4_findBehind_68 (fun z_42 rz_42 ez_42 => ?_)
          refine lv_goto (tgt := 73) hx hb dX4_findBehind_69 (by decide) ?_
          refine lv_istore (lv' := [(7, .int (zI z_42)), (6, .int (zI jf)), (5, .int (zI jh)), (4, .int (zI z_29)), (3, .int (zI jk)), (2, .int (zI jl)), (0, .ref h0), (1, .int (zI al))]) hx hb dX4_findBehind_73 hl (by decide) rfl (fun ls hl => ?_)
          refine lv_aload_n hx hb dX4_findBehind_75 rfl (lv_at hl 6 rfl) ?_
          refine va_get (D := D) (ci := 4) (v := .ref g7) (C := RX4) (T := TX4) (N := 10) hx hb hts (fun _ h9 => List.mem_cons_of_mem _ (List.mem_append_right _ h9)) hown hK hP 0 rfl rfl 9 (by decide) (hts (.fieldLink RX4 32 "FontRuns$Setting" "behind" "[[I") mw_X4_findBehind_b_2) (fun _ h9 => h9) rfl dX4_findBehind_76 ?_
          refine lv_iload_n hx hb dX4_findBehind_79 rfl (lv_at hl 4 rfl) ?_
          refine kz_aald hx hb hK hP 2 1 rfl rfl (by omega) dX4_findBehind_80 (q2 _ (by omega)) ?_
          refine lv_iload hx hb dX4_findBehind_81 (lv_at hl 1 rfl) ?_
          refine lv_iload hx hb dX4_findBehind_83 (lv_at hl 3 rfl) ?_
          refine lv_iload hx hb dX4_findBehind_85 (lv_at hl 1 rfl) ?_
          refine lv_ishr hx hb dX4_findBehind_87 ?_
          refine kz_any (fun z_43 rz_43 ez_43 => ?_)
          refine lv_iconst (v := zI 1) hx hb dX4_findBehind_88 rfl ?_
          refine lv_iand hx hb dX4_findBehind_89 ?_
          refine kz_any (fun z_44 rz_44 ez_44 => ?_)
          refine kz_if_ne (tgt := 99) hx hb dX4_findBehind_90 (by decide) (by omega) (fun c_45 => ?_) (fun c_45 => ?_)
          · refine lv_iload hx hb dX4_findBehind_99 (lv_at hl 0 rfl) ?_
            refine lv_iload_n hx hb dX4_findBehind_101 rfl (lv_at hl 5 rfl) ?_
            refine lv_iconst (v := zI 1) hx hb dX4_findBehind_102 rfl ?_
            refine kz_iadd hx hb dX4_findBehind_103 ?_
            refine kz_min hx hb (by rw [hml]; exact hl.1.symm) hown (hts (.methodLink RX4 85 Lib.Math.min.name) mw_X4_findBehind_b_3) (hts (.static Lib.Math.min.name) mw_X4_findBehind_b_4) (hts (.initialized "java/lang/Math") mw_X4_findBehind_b_5) (hts (.code Lib.Math.min.name Lib.Math.min.code 2 (some .int)) mw_X4_findBehind_b_6) (Nat.le_of_ble_eq_true rfl) (Nat.le_of_ble_eq_true rfl) (Nat.le_of_ble_eq_true rfl) (Nat.le_of_ble_eq_true rfl) (by omega) (by omega) dX4_findBehind_104 (fun z_46 rz_46 ez_46 => ?_)
            refine kz_rowst (X := [(h0, .inr (4, [.ref g1, .ref g2, .ref g3, .ref g4, .ref g5, .int (zI cn), .int (zI bo), .int (zI ru), .ref g6, .ref g7])), (g3, .inl (cg3, 24, .inl f3)), (g7, .inl (cg7, 24, .inr (.inr (.inr (.inr (fo))))))]) hx hb hK hP hD hS 2 rfl (by omega) (by omega) dX4_findBehind_107 (fun H locs hP hD hS => ?_)
            generalize egp_47 : va_up jq (o + (jk).toNat) (upd (jq (o + (jk).toNat)) (jf).toNat (zI z_46)) = gp_47 at hP hD
            have hP : va_P D vwCl (([(h0, .inr (4, [.ref g1, .ref g2, .ref g3, .ref g4, .ref g5, .int (zI cn), .int (zI bo), .int (zI ru), .ref g6, .ref g7])), (g3, .inl (cg3, 24, .inl f3)), (g7, .inl (cg7, 24, .inr (.inr (.inr (.inr (fo))))))] : va_W) ++ kRows pr gp_47 cy) H := hP
            have hD : va_D A (([(h0, .inr (4, [.ref g1, .ref g2, .ref g3, .ref g4, .ref g5, .int (zI cn), .int (zI bo), .int (zI ru), .ref g6, .ref g7])), (g3, .inl (cg3, 24, .inl f3)), (g7, .inl (cg7, 24, .inr (.inr (.inr (.inr (fo))))))] : va_W) ++ kRows pr gp_47 cy) := hD
            refine lv_iload hx hb dX4_findBehind_108 (lv_at hl 2 rfl) ?_
            refine lv_aload_n hx hb dX4_findBehind_110 rfl (lv_at hl 6 rfl) ?_
            refine va_get (D := D) (ci := 4) (v := .ref g7) (C := RX4) (T := TX4) (N := 10) hx hb hts (fun _ h9 => List.mem_cons_of_mem _ (List.mem_append_right _ h9)) hown hK hP 0 rfl rfl 9 (by decide) (hts (.fieldLink RX4 32 "FontRuns$Setting" "behind" "[[I") mw_X4_findBehind_b_2) (fun _ h9 => h9) rfl dX4_findBehind_111 ?_
            refine lv_iload_n hx hb dX4_findBehind_114 rfl (lv_at hl 4 rfl) ?_
            refine kz_aald hx hb hK hP 2 1 rfl rfl (by omega) dX4_findBehind_115 (q2 _ (by omega)) ?_
            refine lv_iload hx hb dX4_findBehind_116 (lv_at hl 1 rfl) ?_
            refine kz_rowld (X := [(h0, .inr (4, [.ref g1, .ref g2, .ref g3, .ref g4, .ref g5, .int (zI cn), .int (zI bo), .int (zI ru), .ref g6, .ref g7])), (g3, .inl (cg3, 24, .inl f3)), (g7, .inl (cg7, 24, .inr (.inr (.inr (.inr (fo))))))]) hx hb hK hP 2 rfl (by omega) (by omega) dX4_findBehind_118 (fun z_48 rz_48 ez_48 => ?_)
            refine kz_min hx hb (by rw [hml]; exact hl.1.symm) hown (hts (.methodLink RX4 85 Lib.Math.min.name) mw_X4_findBehind_b_3) (hts (.static Lib.Math.min.name) mw_X4_findBehind_b_4) (hts (.initialized "java/lang/Math") mw_X4_findBehind_b_5) (hts (.code Lib.Math.min.name Lib.Math.min.code 2 (some .int)) mw_X4_findBehind_b_6) (Nat.le_of_ble_eq_true rfl) (Nat.le_of_ble_eq_true rfl) (Nat.le_of_ble_eq_true rfl) (Nat.le_of_ble_eq_true rfl) (by omega) (by omega) dX4_findBehind_119 (fun z_49 rz_49 ez_49 => ?_)
            refine lv_istore (lv' := [(5, .int (zI z_49)), (7, .int (zI z_42)), (6, .int (zI jf)), (4, .int (zI z_29)), (3, .int (zI jk)), (2, .int (zI jl)), (0, .ref h0), (1, .int (zI al))]) hx hb dX4_findBehind_122 hl (by decide) rfl (fun ls hl => ?_)
            refine lv_iinc (v := (zI (jf + 1))) (lv' := [(6, .int (zI (jf + 1))), (5, .int (zI z_49)), (7, .int (zI z_42)), (4, .int (zI z_29)), (3, .int (zI jk)), (2, .int (zI jl)), (0, .ref h0), (1, .int (zI al))]) hx hb dX4_findBehind_124 hl (k := 2) rfl (kz_inc _ 1) (by decide) rfl (fun ls hl => ?_)
            refine lv_goto (tgt := 42) hx hb dX4_findBehind_127 (by decide) ?_
            exact ih42 _ (by omega) _ _ _ ⟨z_49, (jf + 1), gp_47, rfl, (kLs_b (kLs_s v_425 (by omega) egp_47 rz_48 ez_48 ez_49) (kBw_more v_424 (by omega) egp_47 (kOp_y ox ez_43 ez_44 rz_44 c_45) v_423 v_422 (by omega) (by omega) rz_42 ez_42 ez_46)), (by omega), (kBh_keep v_422 (by omega) egp_47), (kLl_keep v_423 (by omega) egp_47), (kBw_more v_424 (by omega) egp_47 (kOp_y ox ez_43 ez_44 rz_44 c_45) v_423 v_422 (by omega) (by omega) rz_42 ez_42 ez_46), (kLs_s v_425 (by omega) egp_47 rz_48 ez_48 ez_49), hP, hD, hS, lv_sub hl [0, 1, 3, 4, 5, 6, 7] rfl⟩
          · refine lv_sipush (v := zI 1000) hx hb dX4_findBehind_93 (by decide) ?_
            refine lv_goto (tgt := 107) hx hb dX4_findBehind_96 (by decide) ?_
            refine kz_rowst (X := [(h0, .inr (4, [.ref g1, .ref g2, .ref g3, .ref g4, .ref g5, .int (zI cn), .int (zI bo), .int (zI ru), .ref g6, .ref g7])), (g3, .inl (cg3, 24, .inl f3)), (g7, .inl (cg7, 24, .inr (.inr (.inr (.inr (fo))))))]) hx hb hK hP hD hS 2 rfl (by omega) (by omega) dX4_findBehind_107 (fun H locs hP hD hS => ?_)
            generalize egp_50 : va_up jq (o + (jk).toNat) (upd (jq (o + (jk).toNat)) (jf).toNat (zI 1000)) = gp_50 at hP hD
            have hP : va_P D vwCl (([(h0, .inr (4, [.ref g1, .ref g2, .ref g3, .ref g4, .ref g5, .int (zI cn), .int (zI bo), .int (zI ru), .ref g6, .ref g7])), (g3, .inl (cg3, 24, .inl f3)), (g7, .inl (cg7, 24, .inr (.inr (.inr (.inr (fo))))))] : va_W) ++ kRows pr gp_50 cy) H := hP
            have hD : va_D A (([(h0, .inr (4, [.ref g1, .ref g2, .ref g3, .ref g4, .ref g5, .int (zI cn), .int (zI bo), .int (zI ru), .ref g6, .ref g7])), (g3, .inl (cg3, 24, .inl f3)), (g7, .inl (cg7, 24, .inr (.inr (.inr (.inr (fo))))))] : va_W) ++ kRows pr gp_50 cy) := hD
            refine lv_iload hx hb dX4_findBehind_108 (lv_at hl 2 rfl) ?_
            refine lv_aload_n hx hb dX4_findBehind_110 rfl (lv_at hl 6 rfl) ?_
            refine va_get (D := D) (ci := 4) (v := .ref g7) (C := RX4) (T := TX4) (N := 10) hx hb hts (fun _ h9 => List.mem_cons_of_mem _ (List.mem_append_right _ h9)) hown hK hP 0 rfl rfl 9 (by decide) (hts (.fieldLink RX4 32 "FontRuns$Setting" "behind" "[[I") mw_X4_findBehind_b_2) (fun _ h9 => h9) rfl dX4_findBehind_111 ?_
            refine lv_iload_n hx hb dX4_findBehind_114 rfl (lv_at hl 4 rfl) ?_
            refine kz_aald hx hb hK hP 2 1 rfl rfl (by omega) dX4_findBehind_115 (q2 _ (by omega)) ?_
            refine lv_iload hx hb dX4_findBehind_116 (lv_at hl 1 rfl) ?_
            refine kz_rowld (X := [(h0, .inr (4, [.ref g1, .ref g2, .ref g3, .ref g4, .ref g5, .int (zI cn), .int (zI bo), .int (zI ru), .ref g6, .ref g7])), (g3, .inl (cg3, 24, .inl f3)), (g7, .inl (cg7, 24, .inr (.inr (.inr (.inr (fo))))))]) hx hb hK hP 2 rfl (by omega) (by omega) dX4_findBehind_118 (fun z_51 rz_51 ez_51 => ?_)
            refine kz_min hx hb (by rw [hml]; exact hl.1.symm) hown (hts (.methodLink RX4 85 Lib.Math.min.name) mw_X4_findBehind_b_3) (hts (.static Lib.Math.min.name) mw_X4_findBehind_b_4) (hts (.initialized "java/lang/Math") mw_X4_findBehind_b_5) (hts (.code Lib.Math.min.name Lib.Math.min.code 2 (some .int)) mw_X4_findBehind_b_6) (Nat.le_of_ble_eq_true rfl) (Nat.le_of_ble_eq_true rfl) (Nat.le_of_ble_eq_true rfl) (Nat.le_of_ble_eq_true rfl) (by omega) (by omega) dX4_findBehind_119 (fun z_52 rz_52 ez_52 => ?_)
            refine lv_istore (lv' := [(5, .int (zI z_52)), (7, .int (zI z_42)), (6, .int (zI jf)), (4, .int (zI z_29)), (3, .int (zI jk)), (2, .int (zI jl)), (0, .ref h0), (1, .int (zI al))]) hx hb dX4_findBehind_122 hl (by decide) rfl (fun ls hl => ?_)
            refine lv_iinc (v := (zI (jf + 1))) (lv' := [(6, .int (zI (jf + 1))), (5, .int (zI z_52)), (7, .int (zI z_42)), (4, .int (zI z_29)), (3, .int (zI jk)), (2, .int (zI jl)), (0, .ref h0), (1, .int (zI al))]) hx hb dX4_findBehind_124 hl (k := 2) rfl (kz_inc _ 1) (by decide) rfl (fun ls hl => ?_)
            refine lv_goto (tgt := 42) hx hb dX4_findBehind_127 (by decide) ?_
            exact ih42 _ (by omega) _ _ _ ⟨z_52, (jf + 1), gp_50, rfl, (kLs_b (kLs_s v_425 (by omega) egp_50 rz_51 ez_51 ez_52) (kBw_no v_424 (by omega) egp_50 (kOp_n ox ez_43 ez_44 c_45))), (by omega), (kBh_keep v_422 (by omega) egp_50), (kLl_keep v_423 (by omega) egp_50), (kBw_no v_424 (by omega) egp_50 (kOp_n ox ez_43 ez_44 c_45)), (kLs_s v_425 (by omega) egp_50 rz_51 ez_51 ez_52), hP, hD, hS, lv_sub hl [0, 1, 3, 4, 5, 6, 7] rfl⟩
set_option maxRecDepth 20000 in
theorem mw_X4_firstOfBest_b_0 : (.fieldLink RX4 92 "FontRuns$Preference" "count" "I" : Cond) ∈ wsX4_firstOfBest := List.mem_cons_of_mem _ (List.mem_append_left _ (List.mem_append_left _ (List.mem_of_getElem? (i := 0) rfl)))
set_option maxRecDepth 20000 in
theorem mw_X4_firstOfBest_b_1 : (.fieldLink RX4 95 "FontRuns$Preference" "row" "[I" : Cond) ∈ wsX4_firstOfBest := List.mem_cons_of_mem _ (List.mem_append_left _ (List.mem_append_left _ (List.mem_of_getElem? (i := 1) rfl)))
set_option maxRecDepth 20000 in
theorem mw_X4_firstOfBest_b_2 : (.fieldLink RX4 32 "FontRuns$Setting" "behind" "[[I" : Cond) ∈ wsX4_firstOfBest := List.mem_cons_of_mem _ (List.mem_append_left _ (List.mem_append_left _ (List.mem_of_getElem? (i := 2) rfl)))
set_option maxHeartbeats 4000000 in
set_option maxRecDepth 100000 in
theorem c_X4_firstOfBest_b (l : Launch) (D : va_G) (sz : Nat) (k : Int) (be : Int) (pf : Nat) (h0 : Nat) (g1 : Nat) (g2 : Nat) (g3 : Nat) (g4 : Nat) (g5 : Nat) (cn : Int) (bo : Int) (ru : Int) (g6 : Nat) (g7 : Nat) (cg7 : ClassId) (fo : Nat → Option Nat) (o : Nat) (p1 : Nat) (pn : Int) (cp1 : ClassId) (fp : Nat → Int32) (pr : Nat → Nat) (gp : Nat → Nat → Int32) (cy : ClassId) (q0 : 0 ≤ k ∧ k ≤ 23) (q1 : rg be) (q2 : 0 ≤ pn ∧ pn ≤ 4) (q3 : kPr fp) (q4 : kOut fo pr o 24) (q5 : o + 24 ≤ 56) (q6 : kBk gp o k) : Met l yX4_firstOfBest wsX4_firstOfBest ({ frames := 0, cells := 0, slots := 0, locals := 0 }) (kPre [.ref h0, .int (zI k), .int (zI be), .ref pf] D (([(h0, .inr (4, [.ref g1, .ref g2, .ref g3, .ref g4, .ref g5, .int (zI cn), .int (zI bo), .int (zI ru), .ref g6, .ref g7])), (g7, .inl (cg7, 24, .inr (.inr (.inr (.inr (fo)))))), (pf, .inr (1, [.ref p1, .int (zI pn)])), (p1, .inl (cp1, 4, .inl fp))] : va_W) ++ kRows pr gp cy) [(cg7, .array .int), (cp1, .int), (cy, .int)] sz) (QcP (fun rz => (0 ≤ rz ∧ rz ≤ 3) ∧ kFx gp o k be fp pn rz)) 0 0 (fun _ => False) := by
  refine Met.ofW (cc := cX4_firstOfBest) (maxL := 9) (ret := (some .int)) (by decide) rfl ?_
  intro p e s m args below meth c s₁ B hml hv
  obtain ⟨rfl, hsz, hP, hK, hD0, hN⟩ := hv
  have hx := B.exec
  have hb := B.bytes
  have hr := B.returns
  have hts := atoms_spec (ws := wsX4_firstOfBest) B.pre
  have hown : s.vm.findClass RX4 = some m.cls := findClass_of_methodNamed B.named
  have hlocks := B.notSynchronized
  subst hsz
  have hD := hD0
  have hP : va_P D vwCl (([(h0, .inr (4, [.ref g1, .ref g2, .ref g3, .ref g4, .ref g5, .int (zI cn), .int (zI bo), .int (zI ru), .ref g6, .ref g7])), (g7, .inl (cg7, 24, .inr (.inr (.inr (.inr (fo)))))), (pf, .inr (1, [.ref p1, .int (zI pn)])), (p1, .inl (cp1, 4, .inl fp))] : va_W) ++ kRows pr gp cy) s.heap := hP
  have hl := lv_entry ([.ref h0, .int (zI k), .int (zI be), .ref pf]) (n := 9) (Nat.le_of_ble_eq_true rfl)
  rw [lg_entry_eq]
  generalize (lg_sl ([.ref h0, .int (zI k), .int (zI be), .ref pf]) ++ List.replicate (9 - (lg_sl ([.ref h0, .int (zI k), .int (zI be), .ref pf])).length) Slot.unset).toArray = ls at hl ⊢
  have hl : lv_has ls 9 [(0, .ref h0), (1, .int (zI k)), (2, .int (zI be)), (3, .ref pf)] := hl
  refine lv_iconst (v := zI 0) hx hb dX4_firstOfBest_0 rfl ?_
  refine lv_istore (lv' := [(4, .int (zI 0)), (0, .ref h0), (1, .int (zI k)), (2, .int (zI be)), (3, .ref pf)]) hx hb dX4_firstOfBest_1 hl (by decide) rfl (fun ls hl => ?_)
  refine lv_sipush (v := zI 1000) hx hb dX4_firstOfBest_3 (by decide) ?_
  refine lv_istore (lv' := [(5, .int (zI 1000)), (4, .int (zI 0)), (0, .ref h0), (1, .int (zI k)), (2, .int (zI be)), (3, .ref pf)]) hx hb dX4_firstOfBest_6 hl (by decide) rfl (fun ls hl => ?_)
  refine lv_iconst (v := zI 0) hx hb dX4_firstOfBest_8 rfl ?_
  refine lv_istore (lv' := [(6, .int (zI 0)), (5, .int (zI 1000)), (4, .int (zI 0)), (0, .ref h0), (1, .int (zI k)), (2, .int (zI be)), (3, .ref pf)]) hx hb dX4_firstOfBest_9 hl (by decide) rfl (fun ls hl => ?_)
  refine k_loopM (I := fun n9 H locs ls => ∃ (jx : Int) (jl : Int) (jk : Int), n9 = (pn - jk).toNat ∧ (0 ≤ jx ∧ jx ≤ 3) ∧ (rg jl ∧ jl ≤ 1000) ∧ (0 ≤ jk ∧ jk ≤ pn) ∧ (kFo gp o k be fp jk jx jl) ∧ H = s.heap ∧ locs = [] ∧ lv_has ls 9 [(6, .int (zI jk)), (5, .int (zI jl)), (4, .int (zI jx)), (0, .ref h0), (1, .int (zI k)), (2, .int (zI be)), (3, .ref pf)]) ?_ _ ⟨0, 1000, 0, rfl, (by omega), (by omega), (by omega), kFo_0, rfl, rfl, hl⟩
  intro n11 ih11 H locs ls hI
  obtain ⟨jx, jl, jk, en11, v_110, v_111, v_112, v_113, eH, eL, hl⟩ := hI
  subst eH
  subst eL
  refine lv_iload hx hb dX4_firstOfBest_11 (lv_at hl 0 rfl) ?_
  refine lv_aload_n hx hb dX4_firstOfBest_13 rfl (lv_at hl 6 rfl) ?_
  refine va_get (D := D) (ci := 1) (v := .int (zI pn)) (C := RX1) (T := TX1) (N := 2) hx hb hts (fun _ h9 => List.mem_cons_of_mem _ (List.mem_append_left _ (List.mem_append_right _ h9))) hown hK hP 2 rfl rfl 1 (by decide) (hts (.fieldLink RX4 92 "FontRuns$Preference" "count" "I") mw_X4_firstOfBest_b_0) (fun _ h9 => h9) rfl dX4_firstOfBest_14 ?_
  refine kz_icmp_ge (tgt := 79) hx hb dX4_firstOfBest_17 (by decide) (by omega) (by omega) (fun c_1 => ?_) (fun c_1 => ?_)
  · refine lv_iload hx hb dX4_firstOfBest_79 (lv_at hl 2 rfl) ?_
    exact W.iret (v := (zI jx)) hx hb hr (fun t ht hW => QcP_of (by omega) ⟨by omega, kFx_of v_113 (by omega)⟩ ht) (fun _ h9 => by cases h9) dX4_firstOfBest_81
  · refine lv_aload_n hx hb dX4_firstOfBest_20 rfl (lv_at hl 6 rfl) ?_
    refine va_get (D := D) (ci := 1) (v := .ref p1) (C := RX1) (T := TX1) (N := 2) hx hb hts (fun _ h9 => List.mem_cons_of_mem _ (List.mem_append_left _ (List.mem_append_right _ h9))) hown hK hP 2 rfl rfl 0 (by decide) (hts (.fieldLink RX4 95 "FontRuns$Preference" "row" "[I") mw_X4_firstOfBest_b_1) (fun _ h9 => h9) rfl dX4_firstOfBest_21 ?_
    refine lv_iload hx hb dX4_firstOfBest_24 (lv_at hl 0 rfl) ?_
    refine kz_iald hx hb hK hP 3 1 rfl rfl (by omega) dX4_firstOfBest_26 (fun z_2 rz_2 ez_2 => ?_)
    have bz_2 := kPr_at q3 (by omega) rz_2 ez_2
    refine lv_istore (lv' := [(7, .int (zI z_2)), (6, .int (zI jk)), (5, .int (zI jl)), (4, .int (zI jx)), (0, .ref h0), (1, .int (zI k)), (2, .int (zI be)), (3, .ref pf)]) hx hb dX4_firstOfBest_27 hl (by decide) rfl (fun ls hl => ?_)
    refine lv_aload_n hx hb dX4_firstOfBest_29 rfl (lv_at hl 4 rfl) ?_
    refine va_get (D := D) (ci := 4) (v := .ref g7) (C := RX4) (T := TX4) (N := 10) hx hb hts (fun _ h9 => List.mem_cons_of_mem _ (List.mem_append_right _ h9)) hown hK hP 0 rfl rfl 9 (by decide) (hts (.fieldLink RX4 32 "FontRuns$Setting" "behind" "[[I") mw_X4_firstOfBest_b_2) (fun _ h9 => h9) rfl dX4_firstOfBest_30 ?_
    refine lv_iload_n hx hb dX4_firstOfBest_33 rfl (lv_at hl 5 rfl) ?_
    refine kz_aald hx hb hK hP 1 0 rfl rfl (by omega) dX4_firstOfBest_34 (q4 _ (by omega)) ?_
    refine lv_iload hx hb dX4_firstOfBest_35 (lv_at hl 0 rfl) ?_
    refine kz_rowld (X := [(h0, .inr (4, [.ref g1, .ref g2, .ref g3, .ref g4, .ref g5, .int (zI cn), .int (zI bo), .int (zI ru), .ref g6, .ref g7])), (g7, .inl (cg7, 24, .inr (.inr (.inr (.inr (fo)))))), (pf, .inr (1, [.ref p1, .int (zI pn)])), (p1, .inl (cp1, 4, .inl fp))]) hx hb hK hP 2 rfl (by omega) (by omega) dX4_firstOfBest_37 (fun z_3 rz_3 ez_3 => ?_)
    refine lv_iload hx hb dX4_firstOfBest_38 (lv_at hl 0 rfl) ?_
    refine lv_iload_n hx hb dX4_firstOfBest_40 rfl (lv_at hl 6 rfl) ?_
    refine kz_icmp_eq (tgt := 50) hx hb dX4_firstOfBest_41 (by decide) (by omega) (by omega) (fun c_4 => ?_) (fun c_4 => ?_)
    · refine lv_iconst (v := zI 0) hx hb dX4_firstOfBest_50 rfl ?_
      refine lv_goto (tgt := 55) hx hb dX4_firstOfBest_51 (by decide) ?_
      refine kz_iadd hx hb dX4_firstOfBest_55 ?_
      refine kz_any (fun z_5 rz_5 ez_5 => ?_)
      refine lv_istore (lv' := [(8, .int (zI z_5)), (7, .int (zI z_2)), (6, .int (zI jk)), (5, .int (zI jl)), (4, .int (zI jx)), (0, .ref h0), (1, .int (zI k)), (2, .int (zI be)), (3, .ref pf)]) hx hb dX4_firstOfBest_56 hl (by decide) rfl (fun ls hl => ?_)
      refine lv_iload hx hb dX4_firstOfBest_58 (lv_at hl 0 rfl) ?_
      refine lv_iload hx hb dX4_firstOfBest_60 (lv_at hl 3 rfl) ?_
      refine kz_icmp_ge (tgt := 73) hx hb dX4_firstOfBest_62 (by decide) (by omega) (by omega) (fun c_6 => ?_) (fun c_6 => ?_)
      · refine lv_iinc (v := (zI (jk + 1))) (lv' := [(6, .int (zI (jk + 1))), (8, .int (zI z_5)), (7, .int (zI z_2)), (5, .int (zI jl)), (4, .int (zI jx)), (0, .ref h0), (1, .int (zI k)), (2, .int (zI be)), (3, .ref pf)]) hx hb dX4_firstOfBest_73 hl (k := 2) rfl (kz_inc _ 1) (by decide) rfl (fun ls hl => ?_)
        refine lv_goto (tgt := 11) hx hb dX4_firstOfBest_76 (by decide) ?_
        exact ih11 _ (by omega) _ _ _ ⟨jx, jl, (jk + 1), rfl, v_110, v_111, (by omega), (kFo_ge v_113 (by omega) (kVq_at q6 rz_2 ez_2 bz_2 rz_3 ez_3 (Or.inl ⟨by omega, rfl⟩) rz_5 ez_5) (by omega)), rfl, rfl, lv_sub hl [0, 3, 4, 5, 6, 7, 8] rfl⟩
      · refine lv_iload hx hb dX4_firstOfBest_65 (lv_at hl 0 rfl) ?_
        refine lv_istore (lv' := [(5, .int (zI z_5)), (8, .int (zI z_5)), (7, .int (zI z_2)), (6, .int (zI jk)), (4, .int (zI jx)), (0, .ref h0), (1, .int (zI k)), (2, .int (zI be)), (3, .ref pf)]) hx hb dX4_firstOfBest_67 hl (by decide) rfl (fun ls hl => ?_)
        refine lv_iload hx hb dX4_firstOfBest_69 (lv_at hl 2 rfl) ?_
        refine lv_istore (lv' := [(4, .int (zI z_2)), (5, .int (zI z_5)), (8, .int (zI z_5)), (7, .int (zI z_2)), (6, .int (zI jk)), (0, .ref h0), (1, .int (zI k)), (2, .int (zI be)), (3, .ref pf)]) hx hb dX4_firstOfBest_71 hl (by decide) rfl (fun ls hl => ?_)
        refine lv_iinc (v := (zI (jk + 1))) (lv' := [(6, .int (zI (jk + 1))), (4, .int (zI z_2)), (5, .int (zI z_5)), (8, .int (zI z_5)), (7, .int (zI z_2)), (0, .ref h0), (1, .int (zI k)), (2, .int (zI be)), (3, .ref pf)]) hx hb dX4_firstOfBest_73 hl (k := 4) rfl (kz_inc _ 1) (by decide) rfl (fun ls hl => ?_)
        refine lv_goto (tgt := 11) hx hb dX4_firstOfBest_76 (by decide) ?_
        exact ih11 _ (by omega) _ _ _ ⟨z_2, z_5, (jk + 1), rfl, (by omega), (by omega), (by omega), (kFo_lt v_113 (by omega) rz_2 ez_2 (kVq_at q6 rz_2 ez_2 bz_2 rz_3 ez_3 (Or.inl ⟨by omega, rfl⟩) rz_5 ez_5) (by omega)), rfl, rfl, lv_sub hl [0, 2, 1, 5, 6, 7, 8] rfl⟩
    · refine lv_iload_n hx hb dX4_firstOfBest_44 rfl (lv_at hl 6 rfl) ?_
      refine lv_bipush (v := zI (-9)) hx hb dX4_firstOfBest_45 (by decide) ?_
      refine kz_icmp_ne (tgt := 54) hx hb dX4_firstOfBest_47 (by decide) (by omega) (by omega) (fun c_7 => ?_) (fun c_7 => ?_)
      · refine lv_iconst (v := zI 1) hx hb dX4_firstOfBest_54 rfl ?_
        refine kz_iadd hx hb dX4_firstOfBest_55 ?_
        refine kz_any (fun z_8 rz_8 ez_8 => ?_)
        refine lv_istore (lv' := [(8, .int (zI z_8)), (7, .int (zI z_2)), (6, .int (zI jk)), (5, .int (zI jl)), (4, .int (zI jx)), (0, .ref h0), (1, .int (zI k)), (2, .int (zI be)), (3, .ref pf)]) hx hb dX4_firstOfBest_56 hl (by decide) rfl (fun ls hl => ?_)
        refine lv_iload hx hb dX4_firstOfBest_58 (lv_at hl 0 rfl) ?_
        refine lv_iload hx hb dX4_firstOfBest_60 (lv_at hl 3 rfl) ?_
        refine kz_icmp_ge (tgt := 73) hx hb dX4_firstOfBest_62 (by decide) (by omega) (by omega) (fun c_9 => ?_) (fun c_9 => ?_)
        · refine lv_iinc (v := (zI (jk + 1))) (lv' := [(6, .int (zI (jk + 1))), (8, .int (zI z_8)), (7, .int (zI z_2)), (5, .int (zI jl)), (4, .int (zI jx)), (0, .ref h0), (1, .int (zI k)), (2, .int (zI be)), (3, .ref pf)]) hx hb dX4_firstOfBest_73 hl (k := 2) rfl (kz_inc _ 1) (by decide) rfl (fun ls hl => ?_)
          refine lv_goto (tgt := 11) hx hb dX4_firstOfBest_76 (by decide) ?_
          exact ih11 _ (by omega) _ _ _ ⟨jx, jl, (jk + 1), rfl, v_110, v_111, (by omega), (kFo_ge v_113 (by omega) (kVq_at q6 rz_2 ez_2 bz_2 rz_3 ez_3 (Or.inr ⟨by omega, rfl⟩) rz_8 ez_8) (by omega)), rfl, rfl, lv_sub hl [0, 3, 4, 5, 6, 7, 8] rfl⟩
        · refine lv_iload hx hb dX4_firstOfBest_65 (lv_at hl 0 rfl) ?_
          refine lv_istore (lv' := [(5, .int (zI z_8)), (8, .int (zI z_8)), (7, .int (zI z_2)), (6, .int (zI jk)), (4, .int (zI jx)), (0, .ref h0), (1, .int (zI k)), (2, .int (zI be)), (3, .ref pf)]) hx hb dX4_firstOfBest_67 hl (by decide) rfl (fun ls hl => ?_)
          refine lv_iload hx hb dX4_firstOfBest_69 (lv_at hl 2 rfl) ?_
          refine lv_istore (lv' := [(4, .int (zI z_2)), (5, .int (zI z_8)), (8, .int (zI z_8)), (7, .int (zI z_2)), (6, .int (zI jk)), (0, .ref h0), (1, .int (zI k)), (2, .int (zI be)), (3, .ref pf)]) hx hb dX4_firstOfBest_71 hl (by decide) rfl (fun ls hl => ?_)
          refine lv_iinc (v := (zI (jk + 1))) (lv' := [(6, .int (zI (jk + 1))), (4, .int (zI z_2)), (5, .int (zI z_8)), (8, .int (zI z_8)), (7, .int (zI z_2)), (0, .ref h0), (1, .int (zI k)), (2, .int (zI be)), (3, .ref pf)]) hx hb dX4_firstOfBest_73 hl (k := 4) rfl (kz_inc _ 1) (by decide) rfl (fun ls hl => ?_)
          refine lv_goto (tgt := 11) hx hb dX4_firstOfBest_76 (by decide) ?_
          exact ih11 _ (by omega) _ _ _ ⟨z_2, z_8, (jk + 1), rfl, (by omega), (by omega), (by omega), (kFo_lt v_113 (by omega) rz_2 ez_2 (kVq_at q6 rz_2 ez_2 bz_2 rz_3 ez_3 (Or.inr ⟨by omega, rfl⟩) rz_8 ez_8) (by omega)), rfl, rfl, lv_sub hl [0, 2, 1, 5, 6, 7, 8] rfl⟩
      · refine lv_iconst (v := zI 0) hx hb dX4_firstOfBest_50 rfl ?_
        refine lv_goto (tgt := 55) hx hb dX4_firstOfBest_51 (by decide) ?_
        refine kz_iadd hx hb dX4_firstOfBest_55 ?_
        refine kz_any (fun z_10 rz_10 ez_10 => ?_)
        refine lv_istore (lv' := [(8, .int (zI z_10)), (7, .int (zI z_2)), (6, .int (zI jk)), (5, .int (zI jl)), (4, .int (zI jx)), (0, .ref h0), (1, .int (zI k)), (2, .int (zI be)), (3, .ref pf)]) hx hb dX4_firstOfBest_56 hl (by decide) rfl (fun ls hl => ?_)
        refine lv_iload hx hb dX4_firstOfBest_58 (lv_at hl 0 rfl) ?_
        refine lv_iload hx hb dX4_firstOfBest_60 (lv_at hl 3 rfl) ?_
        refine kz_icmp_ge (tgt := 73) hx hb dX4_firstOfBest_62 (by decide) (by omega) (by omega) (fun c_11 => ?_) (fun c_11 => ?_)
        · refine lv_iinc (v := (zI (jk + 1))) (lv' := [(6, .int (zI (jk + 1))), (8, .int (zI z_10)), (7, .int (zI z_2)), (5, .int (zI jl)), (4, .int (zI jx)), (0, .ref h0), (1, .int (zI k)), (2, .int (zI be)), (3, .ref pf)]) hx hb dX4_firstOfBest_73 hl (k := 2) rfl (kz_inc _ 1) (by decide) rfl (fun ls hl => ?_)
          refine lv_goto (tgt := 11) hx hb dX4_firstOfBest_76 (by decide) ?_
          exact ih11 _ (by omega) _ _ _ ⟨jx, jl, (jk + 1), rfl, v_110, v_111, (by omega), (kFo_ge v_113 (by omega) (kVq_at q6 rz_2 ez_2 bz_2 rz_3 ez_3 (Or.inl ⟨by omega, rfl⟩) rz_10 ez_10) (by omega)), rfl, rfl, lv_sub hl [0, 3, 4, 5, 6, 7, 8] rfl⟩
        · refine lv_iload hx hb dX4_firstOfBest_65 (lv_at hl 0 rfl) ?_
          refine lv_istore (lv' := [(5, .int (zI z_10)), (8, .int (zI z_10)), (7, .int (zI z_2)), (6, .int (zI jk)), (4, .int (zI jx)), (0, .ref h0), (1, .int (zI k)), (2, .int (zI be)), (3, .ref pf)]) hx hb dX4_firstOfBest_67 hl (by decide) rfl (fun ls hl => ?_)
          refine lv_iload hx hb dX4_firstOfBest_69 (lv_at hl 2 rfl) ?_
          refine lv_istore (lv' := [(4, .int (zI z_2)), (5, .int (zI z_10)), (8, .int (zI z_10)), (7, .int (zI z_2)), (6, .int (zI jk)), (0, .ref h0), (1, .int (zI k)), (2, .int (zI be)), (3, .ref pf)]) hx hb dX4_firstOfBest_71 hl (by decide) rfl (fun ls hl => ?_)
          refine lv_iinc (v := (zI (jk + 1))) (lv' := [(6, .int (zI (jk + 1))), (4, .int (zI z_2)), (5, .int (zI z_10)), (8, .int (zI z_10)), (7, .int (zI z_2)), (0, .ref h0), (1, .int (zI k)), (2, .int (zI be)), (3, .ref pf)]) hx hb dX4_firstOfBest_73 hl (k := 4) rfl (kz_inc _ 1) (by decide) rfl (fun ls hl => ?_)
          refine lv_goto (tgt := 11) hx hb dX4_firstOfBest_76 (by decide) ?_
          exact ih11 _ (by omega) _ _ _ ⟨z_2, z_10, (jk + 1), rfl, (by omega), (by omega), (by omega), (kFo_lt v_113 (by omega) rz_2 ez_2 (kVq_at q6 rz_2 ez_2 bz_2 rz_3 ez_3 (Or.inl ⟨by omega, rfl⟩) rz_10 ez_10) (by omega)), rfl, rfl, lv_sub hl [0, 2, 1, 5, 6, 7, 8] rfl⟩
set_option maxRecDepth 20000 in
theorem mw_X4_choose_b_0 : (.fieldLink RX4 59 "FontRuns$Setting" "runs" "I" : Cond) ∈ wsX4_choose := List.mem_cons_of_mem _ (List.mem_append_left _ (List.mem_append_left _ (List.mem_of_getElem? (i := 0) rfl)))
set_option maxRecDepth 20000 in
theorem mw_X4_choose_b_1 : (.fieldLink RX4 51 "FontRuns$Setting" "count" "I" : Cond) ∈ wsX4_choose := List.mem_cons_of_mem _ (List.mem_append_left _ (List.mem_append_left _ (List.mem_of_getElem? (i := 1) rfl)))
set_option maxRecDepth 20000 in
theorem mw_X4_choose_b_2 : (.fieldLink RX4 21 "FontRuns$Setting" "chosen" "[I" : Cond) ∈ wsX4_choose := List.mem_cons_of_mem _ (List.mem_append_left _ (List.mem_append_left _ (List.mem_of_getElem? (i := 2) rfl)))
set_option maxRecDepth 20000 in
theorem mw_X4_choose_b_3 : (.fieldLink RX4 24 "FontRuns$Setting" "runOf" "[I" : Cond) ∈ wsX4_choose := List.mem_cons_of_mem _ (List.mem_append_left _ (List.mem_append_left _ (List.mem_of_getElem? (i := 3) rfl)))
theorem ax_X4_choose_b_0 {e0 e1 e2 e3 e4 e5 : Nat × va_E} : ([0, 1, 2, 3, 4, 5] : List Nat).map (fun i => ([e0, e1, e2, e3, e4, e5] : va_W)[i]?) = ([e0, e1, e2, e3, e4, e5] : va_W).map some := rfl
theorem ax_X4_choose_b_1 {e0 e1 e2 e3 e4 e5 : Nat × va_E} : ([0, 3, 4, 5] : List Nat).map (fun i => ([e0, e1, e2, e3, e4, e5] : va_W)[i]?) = ([e0, e3, e4, e5] : va_W).map some := rfl
set_option maxHeartbeats 4000000 in
set_option maxRecDepth 100000 in
theorem c_X4_choose_b (l : Launch) (D : va_G) (sz : Nat) (pf : Nat) (h0 : Nat) (g1 : Nat) (g2 : Nat) (g3 : Nat) (g4 : Nat) (g5 : Nat) (cn : Int) (bo : Int) (ru : Int) (g6 : Nat) (g7 : Nat) (cg4 : ClassId) (f4 : Nat → Int32) (cg5 : ClassId) (f5 : Nat → Int32) (cg7 : ClassId) (fo : Nat → Option Nat) (o : Nat) (p1 : Nat) (pn : Int) (cp1 : ClassId) (fp : Nat → Int32) (pr : Nat → Nat) (gp : Nat → Nat → Int32) (cy : ClassId) (q0 : 0 ≤ cn ∧ cn ≤ 24) (q1 : 0 ≤ pn ∧ pn ≤ 4) (q2 : kPr fp) (q3 : kOut fo pr o 24) (q4 : o + 24 ≤ 56) (q5 : kBa gp o cn) : Met l yX4_choose wsX4_choose ({ frames := 1, cells := 0, slots := 0, locals := 28 }) (kPre [.ref h0, .ref pf] D (([(h0, .inr (4, [.ref g1, .ref g2, .ref g3, .ref g4, .ref g5, .int (zI cn), .int (zI bo), .int (zI ru), .ref g6, .ref g7])), (g4, .inl (cg4, 24, .inl f4)), (g5, .inl (cg5, 24, .inl f5)), (g7, .inl (cg7, 24, .inr (.inr (.inr (.inr (fo)))))), (pf, .inr (1, [.ref p1, .int (zI pn)])), (p1, .inl (cp1, 4, .inl fp))] : va_W) ++ kRows pr gp cy) [(cg4, .int), (cg5, .int), (cg7, .array .int), (cp1, .int), (cy, .int)] sz) (kQV (fun t => ∃ (ur : Int) (v4 : Nat → Int32) (v5 : Nat → Int32), (0 ≤ ur ∧ ur ≤ cn) ∧ (kCe gp o fp pn v4 cn) ∧ (ur = kRn v4 (kNa cn)) ∧ (kRo v5 v4 cn) ∧ va_P D vwCl (([(h0, .inr (4, [.ref g1, .ref g2, .ref g3, .ref g4, .ref g5, .int (zI cn), .int (zI bo), .int (zI ur), .ref g6, .ref g7])), (g4, .inl (cg4, 24, .inl v4)), (g5, .inl (cg5, 24, .inl v5)), (g7, .inl (cg7, 24, .inr (.inr (.inr (.inr (fo)))))), (pf, .inr (1, [.ref p1, .int (zI pn)])), (p1, .inl (cp1, 4, .inl fp))] : va_W) ++ kRows pr gp cy) t.heap ∧ va_D (va_A (([(h0, .inr (4, [.ref g1, .ref g2, .ref g3, .ref g4, .ref g5, .int (zI cn), .int (zI bo), .int (zI ru), .ref g6, .ref g7])), (g4, .inl (cg4, 24, .inl f4)), (g5, .inl (cg5, 24, .inl f5)), (g7, .inl (cg7, 24, .inr (.inr (.inr (.inr (fo)))))), (pf, .inr (1, [.ref p1, .int (zI pn)])), (p1, .inl (cp1, 4, .inl fp))] : va_W) ++ kRows pr gp cy) sz) (([(h0, .inr (4, [.ref g1, .ref g2, .ref g3, .ref g4, .ref g5, .int (zI cn), .int (zI bo), .int (zI ur), .ref g6, .ref g7])), (g4, .inl (cg4, 24, .inl v4)), (g5, .inl (cg5, 24, .inl v5)), (g7, .inl (cg7, 24, .inr (.inr (.inr (.inr (fo)))))), (pf, .inr (1, [.ref p1, .int (zI pn)])), (p1, .inl (cp1, 4, .inl fp))] : va_W) ++ kRows pr gp cy)) (va_A (([(h0, .inr (4, [.ref g1, .ref g2, .ref g3, .ref g4, .ref g5, .int (zI cn), .int (zI bo), .int (zI ru), .ref g6, .ref g7])), (g4, .inl (cg4, 24, .inl f4)), (g5, .inl (cg5, 24, .inl f5)), (g7, .inl (cg7, 24, .inr (.inr (.inr (.inr (fo)))))), (pf, .inr (1, [.ref p1, .int (zI pn)])), (p1, .inl (cp1, 4, .inl fp))] : va_W) ++ kRows pr gp cy) sz)) 0 0 (va_A (([(h0, .inr (4, [.ref g1, .ref g2, .ref g3, .ref g4, .ref g5, .int (zI cn), .int (zI bo), .int (zI ru), .ref g6, .ref g7])), (g4, .inl (cg4, 24, .inl f4)), (g5, .inl (cg5, 24, .inl f5)), (g7, .inl (cg7, 24, .inr (.inr (.inr (.inr (fo)))))), (pf, .inr (1, [.ref p1, .int (zI pn)])), (p1, .inl (cp1, 4, .inl fp))] : va_W) ++ kRows pr gp cy) sz) := by
  refine Met.ofW (cc := cX4_choose) (maxL := 4) (ret := none) (by decide) rfl ?_
  intro p e s m args below meth c s₁ B hml hv
  obtain ⟨rfl, hsz, hP, hK, hD0, hN⟩ := hv
  have hx := B.exec
  have hb := B.bytes
  have hr := B.returns
  have hts := atoms_spec (ws := wsX4_choose) B.pre
  have hown : s.vm.findClass RX4 = some m.cls := findClass_of_methodNamed B.named
  have hlocks := B.notSynchronized
  subst hsz
  have hD := hD0.self (sz := s.heap.size)
  generalize hAe : va_A (([(h0, .inr (4, [.ref g1, .ref g2, .ref g3, .ref g4, .ref g5, .int (zI cn), .int (zI bo), .int (zI ru), .ref g6, .ref g7])), (g4, .inl (cg4, 24, .inl f4)), (g5, .inl (cg5, 24, .inl f5)), (g7, .inl (cg7, 24, .inr (.inr (.inr (.inr (fo)))))), (pf, .inr (1, [.ref p1, .int (zI pn)])), (p1, .inl (cp1, 4, .inl fp))] : va_W) ++ kRows pr gp cy) s.heap.size = A at hD ⊢
  have hA : ∀ q : Nat, s.heap.size ≤ q → A q := fun q h => by rw [← hAe]; exact Or.inr h
  have hS : va_S A s.heap s.heap [] := va_S.rf
  have hP : va_P D vwCl (([(h0, .inr (4, [.ref g1, .ref g2, .ref g3, .ref g4, .ref g5, .int (zI cn), .int (zI bo), .int (zI ru), .ref g6, .ref g7])), (g4, .inl (cg4, 24, .inl f4)), (g5, .inl (cg5, 24, .inl f5)), (g7, .inl (cg7, 24, .inr (.inr (.inr (.inr (fo)))))), (pf, .inr (1, [.ref p1, .int (zI pn)])), (p1, .inl (cp1, 4, .inl fp))] : va_W) ++ kRows pr gp cy) s.heap := hP
  have hl := lv_entry ([.ref h0, .ref pf]) (n := 4) (Nat.le_of_ble_eq_true rfl)
  rw [lg_entry_eq]
  generalize (lg_sl ([.ref h0, .ref pf]) ++ List.replicate (4 - (lg_sl ([.ref h0, .ref pf])).length) Slot.unset).toArray = ls at hl ⊢
  have hl : lv_has ls 4 [(0, .ref h0), (1, .ref pf)] := hl
  refine lv_aload_n hx hb dX4_choose_0 rfl (lv_at hl 0 rfl) ?_
  refine lv_iconst (v := zI 0) hx hb dX4_choose_1 rfl ?_
  refine va_put (D := D) (ci := 4) (v := .int (zI 0)) (ty := .int) (C := RX4) (T := TX4) (N := 10) hx hb hts (fun _ h9 => List.mem_cons_of_mem _ (List.mem_append_left _ (List.mem_append_right _ h9))) tyX4 tyX4_ok nmX4 hown hK hP hD hS 0 rfl rfl 7 (by decide) (hts (.fieldLink RX4 59 "FontRuns$Setting" "runs" "I") mw_X4_choose_b_0) (fun _ h9 => h9) rfl (by decide +kernel) rfl rfl (Nat.le_of_ble_eq_true rfl) dX4_choose_2 (fun H locs hP hD hS => ?_)
  have hP : va_P D vwCl (([(h0, .inr (4, [.ref g1, .ref g2, .ref g3, .ref g4, .ref g5, .int (zI cn), .int (zI bo), .int (zI 0), .ref g6, .ref g7])), (g4, .inl (cg4, 24, .inl f4)), (g5, .inl (cg5, 24, .inl f5)), (g7, .inl (cg7, 24, .inr (.inr (.inr (.inr (fo)))))), (pf, .inr (1, [.ref p1, .int (zI pn)])), (p1, .inl (cp1, 4, .inl fp))] : va_W) ++ kRows pr gp cy) H := hP
  have hD : va_D A (([(h0, .inr (4, [.ref g1, .ref g2, .ref g3, .ref g4, .ref g5, .int (zI cn), .int (zI bo), .int (zI 0), .ref g6, .ref g7])), (g4, .inl (cg4, 24, .inl f4)), (g5, .inl (cg5, 24, .inl f5)), (g7, .inl (cg7, 24, .inr (.inr (.inr (.inr (fo)))))), (pf, .inr (1, [.ref p1, .int (zI pn)])), (p1, .inl (cp1, 4, .inl fp))] : va_W) ++ kRows pr gp cy) := hD
  refine lv_iconst (v := zI 0) hx hb dX4_choose_5 rfl ?_
  refine lv_istore_n (lv' := [(2, .int (zI 0)), (0, .ref h0), (1, .ref pf)]) hx hb dX4_choose_6 rfl hl (by decide) rfl (fun ls hl => ?_)
  refine k_loopM (I := fun n9 H locs ls => ∃ (jk : Int) (jr : Int) (ja : Nat → Int32) (jb : Nat → Int32), n9 = (cn - jk).toNat ∧ (0 ≤ jk ∧ jk ≤ cn) ∧ (0 ≤ jr ∧ jr ≤ jk) ∧ (kCe gp o fp pn ja jk) ∧ (jr = kRn ja (kNa jk)) ∧ (kRo jb ja jk) ∧ va_P D vwCl (([(h0, .inr (4, [.ref g1, .ref g2, .ref g3, .ref g4, .ref g5, .int (zI cn), .int (zI bo), .int (zI jr), .ref g6, .ref g7])), (g4, .inl (cg4, 24, .inl ja)), (g5, .inl (cg5, 24, .inl jb)), (g7, .inl (cg7, 24, .inr (.inr (.inr (.inr (fo)))))), (pf, .inr (1, [.ref p1, .int (zI pn)])), (p1, .inl (cp1, 4, .inl fp))] : va_W) ++ kRows pr gp cy) H ∧ va_D A (([(h0, .inr (4, [.ref g1, .ref g2, .ref g3, .ref g4, .ref g5, .int (zI cn), .int (zI bo), .int (zI jr), .ref g6, .ref g7])), (g4, .inl (cg4, 24, .inl ja)), (g5, .inl (cg5, 24, .inl jb)), (g7, .inl (cg7, 24, .inr (.inr (.inr (.inr (fo)))))), (pf, .inr (1, [.ref p1, .int (zI pn)])), (p1, .inl (cp1, 4, .inl fp))] : va_W) ++ kRows pr gp cy) ∧ va_S A s.heap H locs ∧ lv_has ls 4 [(2, .int (zI jk)), (0, .ref h0), (1, .ref pf)]) ?_ _ ⟨0, 0, f4, f5, rfl, (by omega), (by omega), kCe_0, rfl, kRo_0, hP, hD, hS, hl⟩
  intro n7 ih7 H locs ls hI
  obtain ⟨jk, jr, ja, jb, en7, v_70, v_71, v_72, v_73, v_74, hP, hD, hS, hl⟩ := hI
  refine lv_iload_n hx hb dX4_choose_7 rfl (lv_at hl 0 rfl) ?_
  refine lv_aload_n hx hb dX4_choose_8 rfl (lv_at hl 1 rfl) ?_
  refine va_get (D := D) (ci := 4) (v := .int (zI cn)) (C := RX4) (T := TX4) (N := 10) hx hb hts (fun _ h9 => List.mem_cons_of_mem _ (List.mem_append_left _ (List.mem_append_right _ h9))) hown hK hP 0 rfl rfl 5 (by decide) (hts (.fieldLink RX4 51 "FontRuns$Setting" "count" "I") mw_X4_choose_b_1) (fun _ h9 => h9) rfl dX4_choose_9 ?_
  refine kz_icmp_ge (tgt := 84) hx hb dX4_choose_12 (by decide) (by omega) (by omega) (fun c_1 => ?_) (fun c_1 => ?_)
  · have hP9 : va_P D vwCl (([(h0, .inr (4, [.ref g1, .ref g2, .ref g3, .ref g4, .ref g5, .int (zI cn), .int (zI bo), .int (zI jr), .ref g6, .ref g7])), (g4, .inl (cg4, 24, .inl ja)), (g5, .inl (cg5, 24, .inl jb)), (g7, .inl (cg7, 24, .inr (.inr (.inr (.inr (fo)))))), (pf, .inr (1, [.ref p1, .int (zI pn)])), (p1, .inl (cp1, 4, .inl fp))] : va_W) ++ kRows pr gp cy) H := hP.part [0, 1, 2, 3, 4, 5] ax_X4_choose_b_0
    have hD9 : va_D A (([(h0, .inr (4, [.ref g1, .ref g2, .ref g3, .ref g4, .ref g5, .int (zI cn), .int (zI bo), .int (zI jr), .ref g6, .ref g7])), (g4, .inl (cg4, 24, .inl ja)), (g5, .inl (cg5, 24, .inl jb)), (g7, .inl (cg7, 24, .inr (.inr (.inr (.inr (fo)))))), (pf, .inr (1, [.ref p1, .int (zI pn)])), (p1, .inl (cp1, 4, .inl fp))] : va_W) ++ kRows pr gp cy) := hD.part [0, 1, 2, 3, 4, 5] (by decide +kernel) ax_X4_choose_b_0
    exact W.vret hx hb hr (fun t ht hW => kQV_of ⟨jr, ja, jb, (by omega), (kCe_le v_72 (by omega)), (by have q9 : jk = cn := (by omega); rw [← q9]; exact v_73), (kRo_le v_74 (by omega)), by rw [ht]; exact hP9, hD9⟩ (hS.F ht)) hS.2.2 dX4_choose_84
  · refine lv_iload_n hx hb dX4_choose_15 rfl (lv_at hl 0 rfl) ?_
    refine kz_if_ne (tgt := 24) hx hb dX4_choose_16 (by decide) (by omega) (fun c_2 => ?_) (fun c_2 => ?_)
    · refine lv_aload_n hx hb dX4_choose_24 rfl (lv_at hl 1 rfl) ?_
      refine va_get (D := D) (ci := 4) (v := .ref g4) (C := RX4) (T := TX4) (N := 10) hx hb hts (fun _ h9 => List.mem_cons_of_mem _ (List.mem_append_left _ (List.mem_append_right _ h9))) hown hK hP 0 rfl rfl 3 (by decide) (hts (.fieldLink RX4 21 "FontRuns$Setting" "chosen" "[I") mw_X4_choose_b_2) (fun _ h9 => h9) rfl dX4_choose_25 ?_
      refine lv_iload_n hx hb dX4_choose_28 rfl (lv_at hl 0 rfl) ?_
      refine lv_iconst (v := zI 1) hx hb dX4_choose_29 rfl ?_
      refine kz_isub hx hb dX4_choose_30 ?_
      refine kz_iald hx hb hK hP 1 0 rfl rfl (by omega) dX4_choose_31 (fun z_3 rz_3 ez_3 => ?_)
      refine lv_istore_n (lv' := [(3, .int (zI z_3)), (2, .int (zI jk)), (0, .ref h0), (1, .ref pf)]) hx hb dX4_choose_32 rfl hl (by decide) rfl (fun ls hl => ?_)
      refine lv_aload_n hx hb dX4_choose_33 rfl (lv_at hl 2 rfl) ?_
      refine va_get (D := D) (ci := 4) (v := .ref g4) (C := RX4) (T := TX4) (N := 10) hx hb hts (fun _ h9 => List.mem_cons_of_mem _ (List.mem_append_left _ (List.mem_append_right _ h9))) hown hK hP 0 rfl rfl 3 (by decide) (hts (.fieldLink RX4 21 "FontRuns$Setting" "chosen" "[I") mw_X4_choose_b_2) (fun _ h9 => h9) rfl dX4_choose_34 ?_
      refine lv_iload_n hx hb dX4_choose_37 rfl (lv_at hl 1 rfl) ?_
      refine lv_aload_n hx hb dX4_choose_38 rfl (lv_at hl 2 rfl) ?_
      refine lv_iload_n hx hb dX4_choose_39 rfl (lv_at hl 1 rfl) ?_
      refine lv_iload_n hx hb dX4_choose_40 rfl (lv_at hl 0 rfl) ?_
      refine lv_aload_n hx hb dX4_choose_41 rfl (lv_at hl 3 rfl) ?_
      refine k_callP (va_runV (As := [.int (zI jk), .int (zI z_3), .ref pf]) (rest := [.int (zI jk), .ref g4]) ⟨hx, hb, hml, hown, hts⟩ (c_X4_firstOfBest_b l D H.size (k := jk) (be := z_3) (pf := pf) (h0 := h0) (g1 := g1) (g2 := g2) (g3 := g3) (g4 := g4) (g5 := g5) (cn := cn) (bo := bo) (ru := jr) (g6 := g6) (g7 := g7) (cg7 := cg7) (fo := fo) (o := o) (p1 := p1) (pn := pn) (cp1 := cp1) (fp := fp) (pr := pr) (gp := gp) (cy := cy) (by omega) (by omega) q1 q2 q3 q4 (q5 jk (by omega) (by omega))) (cwV 3 hts gX4_choose_X4_firstOfBest rfl rfl rfl (by decide +kernel) ⟨Nat.le_of_ble_eq_true rfl, Nat.le_of_ble_eq_true rfl⟩) (kPreVP hP (kD0 hD) hK hN [0, 3, 4, 5] [2, 3, 4] ax_X4_choose_b_1 rfl (by decide +kernel) 0 4 rfl rfl) rfl rfl hl.1 rfl (lv_room (Nat.le_of_ble_eq_true rfl)) dX4_choose_42 ⟨Nat.le_of_ble_eq_true rfl, Nat.le_of_ble_eq_true rfl⟩) (fun z_4 rz_4 h_5 => ?_)
      refine kz_iast hx hb hK hP hD hS 1 0 rfl rfl (by omega) dX4_choose_45 (fun H locs hP hD hS => ?_)
      have hP : va_P D vwCl (([(h0, .inr (4, [.ref g1, .ref g2, .ref g3, .ref g4, .ref g5, .int (zI cn), .int (zI bo), .int (zI jr), .ref g6, .ref g7])), (g4, .inl (cg4, 24, .inl (upd ja (jk).toNat (zI z_4)))), (g5, .inl (cg5, 24, .inl jb)), (g7, .inl (cg7, 24, .inr (.inr (.inr (.inr (fo)))))), (pf, .inr (1, [.ref p1, .int (zI pn)])), (p1, .inl (cp1, 4, .inl fp))] : va_W) ++ kRows pr gp cy) H := hP
      have hD : va_D A (([(h0, .inr (4, [.ref g1, .ref g2, .ref g3, .ref g4, .ref g5, .int (zI cn), .int (zI bo), .int (zI jr), .ref g6, .ref g7])), (g4, .inl (cg4, 24, .inl (upd ja (jk).toNat (zI z_4)))), (g5, .inl (cg5, 24, .inl jb)), (g7, .inl (cg7, 24, .inr (.inr (.inr (.inr (fo)))))), (pf, .inr (1, [.ref p1, .int (zI pn)])), (p1, .inl (cp1, 4, .inl fp))] : va_W) ++ kRows pr gp cy) := hD
      generalize ef_6 : upd ja (jk).toNat (zI z_4) = f_6 at hP hD
      refine lv_aload_n hx hb dX4_choose_46 rfl (lv_at hl 2 rfl) ?_
      refine va_get (D := D) (ci := 4) (v := .ref g4) (C := RX4) (T := TX4) (N := 10) hx hb hts (fun _ h9 => List.mem_cons_of_mem _ (List.mem_append_left _ (List.mem_append_right _ h9))) hown hK hP 0 rfl rfl 3 (by decide) (hts (.fieldLink RX4 21 "FontRuns$Setting" "chosen" "[I") mw_X4_choose_b_2) (fun _ h9 => h9) rfl dX4_choose_47 ?_
      refine lv_iload_n hx hb dX4_choose_50 rfl (lv_at hl 1 rfl) ?_
      refine kz_iald hx hb hK hP 1 0 rfl rfl (by omega) dX4_choose_51 (fun z_7 rz_7 ez_7 => ?_)
      have bz_7 : z_7 = z_4 := k_back rz_4 rz_7 ef_6 ez_7
      refine lv_iload_n hx hb dX4_choose_52 rfl (lv_at hl 0 rfl) ?_
      refine kz_icmp_eq (tgt := 66) hx hb dX4_choose_53 (by decide) (by omega) (by omega) (fun c_8 => ?_) (fun c_8 => ?_)
      · refine lv_aload_n hx hb dX4_choose_66 rfl (lv_at hl 2 rfl) ?_
        refine va_get (D := D) (ci := 4) (v := .ref g5) (C := RX4) (T := TX4) (N := 10) hx hb hts (fun _ h9 => List.mem_cons_of_mem _ (List.mem_append_left _ (List.mem_append_right _ h9))) hown hK hP 0 rfl rfl 4 (by decide) (hts (.fieldLink RX4 24 "FontRuns$Setting" "runOf" "[I") mw_X4_choose_b_3) (fun _ h9 => h9) rfl dX4_choose_67 ?_
        refine lv_iload_n hx hb dX4_choose_70 rfl (lv_at hl 1 rfl) ?_
        refine lv_aload_n hx hb dX4_choose_71 rfl (lv_at hl 2 rfl) ?_
        refine va_get (D := D) (ci := 4) (v := .int (zI jr)) (C := RX4) (T := TX4) (N := 10) hx hb hts (fun _ h9 => List.mem_cons_of_mem _ (List.mem_append_left _ (List.mem_append_right _ h9))) hown hK hP 0 rfl rfl 7 (by decide) (hts (.fieldLink RX4 59 "FontRuns$Setting" "runs" "I") mw_X4_choose_b_0) (fun _ h9 => h9) rfl dX4_choose_72 ?_
        refine lv_iconst (v := zI 1) hx hb dX4_choose_75 rfl ?_
        refine kz_isub hx hb dX4_choose_76 ?_
        refine kz_iast hx hb hK hP hD hS 2 1 rfl rfl (by omega) dX4_choose_77 (fun H locs hP hD hS => ?_)
        have hP : va_P D vwCl (([(h0, .inr (4, [.ref g1, .ref g2, .ref g3, .ref g4, .ref g5, .int (zI cn), .int (zI bo), .int (zI jr), .ref g6, .ref g7])), (g4, .inl (cg4, 24, .inl f_6)), (g5, .inl (cg5, 24, .inl (upd jb (jk).toNat (zI (jr - 1))))), (g7, .inl (cg7, 24, .inr (.inr (.inr (.inr (fo)))))), (pf, .inr (1, [.ref p1, .int (zI pn)])), (p1, .inl (cp1, 4, .inl fp))] : va_W) ++ kRows pr gp cy) H := hP
        have hD : va_D A (([(h0, .inr (4, [.ref g1, .ref g2, .ref g3, .ref g4, .ref g5, .int (zI cn), .int (zI bo), .int (zI jr), .ref g6, .ref g7])), (g4, .inl (cg4, 24, .inl f_6)), (g5, .inl (cg5, 24, .inl (upd jb (jk).toNat (zI (jr - 1))))), (g7, .inl (cg7, 24, .inr (.inr (.inr (.inr (fo)))))), (pf, .inr (1, [.ref p1, .int (zI pn)])), (p1, .inl (cp1, 4, .inl fp))] : va_W) ++ kRows pr gp cy) := hD
        generalize ef_9 : upd jb (jk).toNat (zI (jr - 1)) = f_9 at hP hD
        refine lv_iinc (v := (zI (jk + 1))) (lv' := [(2, .int (zI (jk + 1))), (3, .int (zI z_3)), (0, .ref h0), (1, .ref pf)]) hx hb dX4_choose_78 hl (k := 1) rfl (kz_inc _ 1) (by decide) rfl (fun ls hl => ?_)
        refine lv_goto (tgt := 7) hx hb dX4_choose_81 (by decide) ?_
        exact ih7 _ (by omega) _ _ _ ⟨(jk + 1), jr, f_6, f_9, rfl, (by omega), (by omega), (kCe_s v_72 (by omega) (Or.inr ⟨by omega, rz_3, ez_3⟩) h_5.2 h_5.1 ef_6), (kRn_y v_73 (by omega) (by omega) rz_3 ez_3 (by omega) ef_6 (by omega)), (kRo_s v_74 (by omega) ef_6 (kRn_y v_73 (by omega) (by omega) rz_3 ez_3 (by omega) ef_6 (by omega)) (by omega) ef_9), hP, hD, hS, lv_sub hl [0, 2, 3] rfl⟩
      · refine lv_aload_n hx hb dX4_choose_56 rfl (lv_at hl 2 rfl) ?_
        refine lv_dup hx hb dX4_choose_57 rfl ?_
        refine va_get (D := D) (ci := 4) (v := .int (zI jr)) (C := RX4) (T := TX4) (N := 10) hx hb hts (fun _ h9 => List.mem_cons_of_mem _ (List.mem_append_left _ (List.mem_append_right _ h9))) hown hK hP 0 rfl rfl 7 (by decide) (hts (.fieldLink RX4 59 "FontRuns$Setting" "runs" "I") mw_X4_choose_b_0) (fun _ h9 => h9) rfl dX4_choose_58 ?_
        refine lv_iconst (v := zI 1) hx hb dX4_choose_61 rfl ?_
        refine kz_iadd hx hb dX4_choose_62 ?_
        refine va_put (D := D) (ci := 4) (v := .int (zI (jr + 1))) (ty := .int) (C := RX4) (T := TX4) (N := 10) hx hb hts (fun _ h9 => List.mem_cons_of_mem _ (List.mem_append_left _ (List.mem_append_right _ h9))) tyX4 tyX4_ok nmX4 hown hK hP hD hS 0 rfl rfl 7 (by decide) (hts (.fieldLink RX4 59 "FontRuns$Setting" "runs" "I") mw_X4_choose_b_0) (fun _ h9 => h9) rfl (by decide +kernel) rfl rfl (Nat.le_of_ble_eq_true rfl) dX4_choose_63 (fun H locs hP hD hS => ?_)
        have hP : va_P D vwCl (([(h0, .inr (4, [.ref g1, .ref g2, .ref g3, .ref g4, .ref g5, .int (zI cn), .int (zI bo), .int (zI (jr + 1)), .ref g6, .ref g7])), (g4, .inl (cg4, 24, .inl f_6)), (g5, .inl (cg5, 24, .inl jb)), (g7, .inl (cg7, 24, .inr (.inr (.inr (.inr (fo)))))), (pf, .inr (1, [.ref p1, .int (zI pn)])), (p1, .inl (cp1, 4, .inl fp))] : va_W) ++ kRows pr gp cy) H := hP
        have hD : va_D A (([(h0, .inr (4, [.ref g1, .ref g2, .ref g3, .ref g4, .ref g5, .int (zI cn), .int (zI bo), .int (zI (jr + 1)), .ref g6, .ref g7])), (g4, .inl (cg4, 24, .inl f_6)), (g5, .inl (cg5, 24, .inl jb)), (g7, .inl (cg7, 24, .inr (.inr (.inr (.inr (fo)))))), (pf, .inr (1, [.ref p1, .int (zI pn)])), (p1, .inl (cp1, 4, .inl fp))] : va_W) ++ kRows pr gp cy) := hD
        refine lv_aload_n hx hb dX4_choose_66 rfl (lv_at hl 2 rfl) ?_
        refine va_get (D := D) (ci := 4) (v := .ref g5) (C := RX4) (T := TX4) (N := 10) hx hb hts (fun _ h9 => List.mem_cons_of_mem _ (List.mem_append_left _ (List.mem_append_right _ h9))) hown hK hP 0 rfl rfl 4 (by decide) (hts (.fieldLink RX4 24 "FontRuns$Setting" "runOf" "[I") mw_X4_choose_b_3) (fun _ h9 => h9) rfl dX4_choose_67 ?_
        refine lv_iload_n hx hb dX4_choose_70 rfl (lv_at hl 1 rfl) ?_
        refine lv_aload_n hx hb dX4_choose_71 rfl (lv_at hl 2 rfl) ?_
        refine va_get (D := D) (ci := 4) (v := .int (zI (jr + 1))) (C := RX4) (T := TX4) (N := 10) hx hb hts (fun _ h9 => List.mem_cons_of_mem _ (List.mem_append_left _ (List.mem_append_right _ h9))) hown hK hP 0 rfl rfl 7 (by decide) (hts (.fieldLink RX4 59 "FontRuns$Setting" "runs" "I") mw_X4_choose_b_0) (fun _ h9 => h9) rfl dX4_choose_72 ?_
        refine lv_iconst (v := zI 1) hx hb dX4_choose_75 rfl ?_
        refine kz_isub hx hb dX4_choose_76 ?_
        refine kz_iast hx hb hK hP hD hS 2 1 rfl rfl (by omega) dX4_choose_77 (fun H locs hP hD hS => ?_)
        have hP : va_P D vwCl (([(h0, .inr (4, [.ref g1, .ref g2, .ref g3, .ref g4, .ref g5, .int (zI cn), .int (zI bo), .int (zI (jr + 1)), .ref g6, .ref g7])), (g4, .inl (cg4, 24, .inl f_6)), (g5, .inl (cg5, 24, .inl (upd jb (jk).toNat (zI ((jr + 1) - 1))))), (g7, .inl (cg7, 24, .inr (.inr (.inr (.inr (fo)))))), (pf, .inr (1, [.ref p1, .int (zI pn)])), (p1, .inl (cp1, 4, .inl fp))] : va_W) ++ kRows pr gp cy) H := hP
        have hD : va_D A (([(h0, .inr (4, [.ref g1, .ref g2, .ref g3, .ref g4, .ref g5, .int (zI cn), .int (zI bo), .int (zI (jr + 1)), .ref g6, .ref g7])), (g4, .inl (cg4, 24, .inl f_6)), (g5, .inl (cg5, 24, .inl (upd jb (jk).toNat (zI ((jr + 1) - 1))))), (g7, .inl (cg7, 24, .inr (.inr (.inr (.inr (fo)))))), (pf, .inr (1, [.ref p1, .int (zI pn)])), (p1, .inl (cp1, 4, .inl fp))] : va_W) ++ kRows pr gp cy) := hD
        generalize ef_10 : upd jb (jk).toNat (zI ((jr + 1) - 1)) = f_10 at hP hD
        refine lv_iinc (v := (zI (jk + 1))) (lv' := [(2, .int (zI (jk + 1))), (3, .int (zI z_3)), (0, .ref h0), (1, .ref pf)]) hx hb dX4_choose_78 hl (k := 1) rfl (kz_inc _ 1) (by decide) rfl (fun ls hl => ?_)
        refine lv_goto (tgt := 7) hx hb dX4_choose_81 (by decide) ?_
        exact ih7 _ (by omega) _ _ _ ⟨(jk + 1), (jr + 1), f_6, f_10, rfl, (by omega), (by omega), (kCe_s v_72 (by omega) (Or.inr ⟨by omega, rz_3, ez_3⟩) h_5.2 h_5.1 ef_6), (kRn_n v_73 (by omega) (by omega) rz_3 ez_3 (by omega) ef_6 (by omega)), (kRo_s v_74 (by omega) ef_6 (kRn_n v_73 (by omega) (by omega) rz_3 ez_3 (by omega) ef_6 (by omega)) (by omega) ef_10), hP, hD, hS, lv_sub hl [0, 2, 3] rfl⟩
    · refine lv_bipush (v := zI (-9)) hx hb dX4_choose_19 (by decide) ?_
      refine lv_goto (tgt := 32) hx hb dX4_choose_21 (by decide) ?_
      refine lv_istore_n (lv' := [(3, .int (zI (-9))), (2, .int (zI jk)), (0, .ref h0), (1, .ref pf)]) hx hb dX4_choose_32 rfl hl (by decide) rfl (fun ls hl => ?_)
      refine lv_aload_n hx hb dX4_choose_33 rfl (lv_at hl 2 rfl) ?_
      refine va_get (D := D) (ci := 4) (v := .ref g4) (C := RX4) (T := TX4) (N := 10) hx hb hts (fun _ h9 => List.mem_cons_of_mem _ (List.mem_append_left _ (List.mem_append_right _ h9))) hown hK hP 0 rfl rfl 3 (by decide) (hts (.fieldLink RX4 21 "FontRuns$Setting" "chosen" "[I") mw_X4_choose_b_2) (fun _ h9 => h9) rfl dX4_choose_34 ?_
      refine lv_iload_n hx hb dX4_choose_37 rfl (lv_at hl 1 rfl) ?_
      refine lv_aload_n hx hb dX4_choose_38 rfl (lv_at hl 2 rfl) ?_
      refine lv_iload_n hx hb dX4_choose_39 rfl (lv_at hl 1 rfl) ?_
      refine lv_iload_n hx hb dX4_choose_40 rfl (lv_at hl 0 rfl) ?_
      refine lv_aload_n hx hb dX4_choose_41 rfl (lv_at hl 3 rfl) ?_
      refine k_callP (va_runV (As := [.int (zI jk), .int (zI (-9)), .ref pf]) (rest := [.int (zI jk), .ref g4]) ⟨hx, hb, hml, hown, hts⟩ (c_X4_firstOfBest_b l D H.size (k := jk) (be := (-9)) (pf := pf) (h0 := h0) (g1 := g1) (g2 := g2) (g3 := g3) (g4 := g4) (g5 := g5) (cn := cn) (bo := bo) (ru := jr) (g6 := g6) (g7 := g7) (cg7 := cg7) (fo := fo) (o := o) (p1 := p1) (pn := pn) (cp1 := cp1) (fp := fp) (pr := pr) (gp := gp) (cy := cy) (by omega) (by omega) q1 q2 q3 q4 (q5 jk (by omega) (by omega))) (cwV 3 hts gX4_choose_X4_firstOfBest rfl rfl rfl (by decide +kernel) ⟨Nat.le_of_ble_eq_true rfl, Nat.le_of_ble_eq_true rfl⟩) (kPreVP hP (kD0 hD) hK hN [0, 3, 4, 5] [2, 3, 4] ax_X4_choose_b_1 rfl (by decide +kernel) 0 4 rfl rfl) rfl rfl hl.1 rfl (lv_room (Nat.le_of_ble_eq_true rfl)) dX4_choose_42 ⟨Nat.le_of_ble_eq_true rfl, Nat.le_of_ble_eq_true rfl⟩) (fun z_11 rz_11 h_12 => ?_)
      refine kz_iast hx hb hK hP hD hS 1 0 rfl rfl (by omega) dX4_choose_45 (fun H locs hP hD hS => ?_)
      have hP : va_P D vwCl (([(h0, .inr (4, [.ref g1, .ref g2, .ref g3, .ref g4, .ref g5, .int (zI cn), .int (zI bo), .int (zI jr), .ref g6, .ref g7])), (g4, .inl (cg4, 24, .inl (upd ja (jk).toNat (zI z_11)))), (g5, .inl (cg5, 24, .inl jb)), (g7, .inl (cg7, 24, .inr (.inr (.inr (.inr (fo)))))), (pf, .inr (1, [.ref p1, .int (zI pn)])), (p1, .inl (cp1, 4, .inl fp))] : va_W) ++ kRows pr gp cy) H := hP
      have hD : va_D A (([(h0, .inr (4, [.ref g1, .ref g2, .ref g3, .ref g4, .ref g5, .int (zI cn), .int (zI bo), .int (zI jr), .ref g6, .ref g7])), (g4, .inl (cg4, 24, .inl (upd ja (jk).toNat (zI z_11)))), (g5, .inl (cg5, 24, .inl jb)), (g7, .inl (cg7, 24, .inr (.inr (.inr (.inr (fo)))))), (pf, .inr (1, [.ref p1, .int (zI pn)])), (p1, .inl (cp1, 4, .inl fp))] : va_W) ++ kRows pr gp cy) := hD
      generalize ef_13 : upd ja (jk).toNat (zI z_11) = f_13 at hP hD
      refine lv_aload_n hx hb dX4_choose_46 rfl (lv_at hl 2 rfl) ?_
      refine va_get (D := D) (ci := 4) (v := .ref g4) (C := RX4) (T := TX4) (N := 10) hx hb hts (fun _ h9 => List.mem_cons_of_mem _ (List.mem_append_left _ (List.mem_append_right _ h9))) hown hK hP 0 rfl rfl 3 (by decide) (hts (.fieldLink RX4 21 "FontRuns$Setting" "chosen" "[I") mw_X4_choose_b_2) (fun _ h9 => h9) rfl dX4_choose_47 ?_
      refine lv_iload_n hx hb dX4_choose_50 rfl (lv_at hl 1 rfl) ?_
      refine kz_iald hx hb hK hP 1 0 rfl rfl (by omega) dX4_choose_51 (fun z_14 rz_14 ez_14 => ?_)
      have bz_14 : z_14 = z_11 := k_back rz_11 rz_14 ef_13 ez_14
      refine lv_iload_n hx hb dX4_choose_52 rfl (lv_at hl 0 rfl) ?_
      refine kz_icmp_eq (tgt := 66) hx hb dX4_choose_53 (by decide) (by omega) (by omega) (fun c_15 => ?_) (fun c_15 => ?_)
      · omega
      · refine lv_aload_n hx hb dX4_choose_56 rfl (lv_at hl 2 rfl) ?_
        refine lv_dup hx hb dX4_choose_57 rfl ?_
        refine va_get (D := D) (ci := 4) (v := .int (zI jr)) (C := RX4) (T := TX4) (N := 10) hx hb hts (fun _ h9 => List.mem_cons_of_mem _ (List.mem_append_left _ (List.mem_append_right _ h9))) hown hK hP 0 rfl rfl 7 (by decide) (hts (.fieldLink RX4 59 "FontRuns$Setting" "runs" "I") mw_X4_choose_b_0) (fun _ h9 => h9) rfl dX4_choose_58 ?_
        refine lv_iconst (v := zI 1) hx hb dX4_choose_61 rfl ?_
        refine kz_iadd hx hb dX4_choose_62 ?_
        refine va_put (D := D) (ci := 4) (v := .int (zI (jr + 1))) (ty := .int) (C := RX4) (T := TX4) (N := 10) hx hb hts (fun _ h9 => List.mem_cons_of_mem _ (List.mem_append_left _ (List.mem_append_right _ h9))) tyX4 tyX4_ok nmX4 hown hK hP hD hS 0 rfl rfl 7 (by decide) (hts (.fieldLink RX4 59 "FontRuns$Setting" "runs" "I") mw_X4_choose_b_0) (fun _ h9 => h9) rfl (by decide +kernel) rfl rfl (Nat.le_of_ble_eq_true rfl) dX4_choose_63 (fun H locs hP hD hS => ?_)
        have hP : va_P D vwCl (([(h0, .inr (4, [.ref g1, .ref g2, .ref g3, .ref g4, .ref g5, .int (zI cn), .int (zI bo), .int (zI (jr + 1)), .ref g6, .ref g7])), (g4, .inl (cg4, 24, .inl f_13)), (g5, .inl (cg5, 24, .inl jb)), (g7, .inl (cg7, 24, .inr (.inr (.inr (.inr (fo)))))), (pf, .inr (1, [.ref p1, .int (zI pn)])), (p1, .inl (cp1, 4, .inl fp))] : va_W) ++ kRows pr gp cy) H := hP
        have hD : va_D A (([(h0, .inr (4, [.ref g1, .ref g2, .ref g3, .ref g4, .ref g5, .int (zI cn), .int (zI bo), .int (zI (jr + 1)), .ref g6, .ref g7])), (g4, .inl (cg4, 24, .inl f_13)), (g5, .inl (cg5, 24, .inl jb)), (g7, .inl (cg7, 24, .inr (.inr (.inr (.inr (fo)))))), (pf, .inr (1, [.ref p1, .int (zI pn)])), (p1, .inl (cp1, 4, .inl fp))] : va_W) ++ kRows pr gp cy) := hD
        refine lv_aload_n hx hb dX4_choose_66 rfl (lv_at hl 2 rfl) ?_
        refine va_get (D := D) (ci := 4) (v := .ref g5) (C := RX4) (T := TX4) (N := 10) hx hb hts (fun _ h9 => List.mem_cons_of_mem _ (List.mem_append_left _ (List.mem_append_right _ h9))) hown hK hP 0 rfl rfl 4 (by decide) (hts (.fieldLink RX4 24 "FontRuns$Setting" "runOf" "[I") mw_X4_choose_b_3) (fun _ h9 => h9) rfl dX4_choose_67 ?_
        refine lv_iload_n hx hb dX4_choose_70 rfl (lv_at hl 1 rfl) ?_
        refine lv_aload_n hx hb dX4_choose_71 rfl (lv_at hl 2 rfl) ?_
        refine va_get (D := D) (ci := 4) (v := .int (zI (jr + 1))) (C := RX4) (T := TX4) (N := 10) hx hb hts (fun _ h9 => List.mem_cons_of_mem _ (List.mem_append_left _ (List.mem_append_right _ h9))) hown hK hP 0 rfl rfl 7 (by decide) (hts (.fieldLink RX4 59 "FontRuns$Setting" "runs" "I") mw_X4_choose_b_0) (fun _ h9 => h9) rfl dX4_choose_72 ?_
        refine lv_iconst (v := zI 1) hx hb dX4_choose_75 rfl ?_
        refine kz_isub hx hb dX4_choose_76 ?_
        refine kz_iast hx hb hK hP hD hS 2 1 rfl rfl (by omega) dX4_choose_77 (fun H locs hP hD hS => ?_)
        have hP : va_P D vwCl (([(h0, .inr (4, [.ref g1, .ref g2, .ref g3, .ref g4, .ref g5, .int (zI cn), .int (zI bo), .int (zI (jr + 1)), .ref g6, .ref g7])), (g4, .inl (cg4, 24, .inl f_13)), (g5, .inl (cg5, 24, .inl (upd jb (jk).toNat (zI ((jr + 1) - 1))))), (g7, .inl (cg7, 24, .inr (.inr (.inr (.inr (fo)))))), (pf, .inr (1, [.ref p1, .int (zI pn)])), (p1, .inl (cp1, 4, .inl fp))] : va_W) ++ kRows pr gp cy) H := hP
        have hD : va_D A (([(h0, .inr (4, [.ref g1, .ref g2, .ref g3, .ref g4, .ref g5, .int (zI cn), .int (zI bo), .int (zI (jr + 1)), .ref g6, .ref g7])), (g4, .inl (cg4, 24, .inl f_13)), (g5, .inl (cg5, 24, .inl (upd jb (jk).toNat (zI ((jr + 1) - 1))))), (g7, .inl (cg7, 24, .inr (.inr (.inr (.inr (fo)))))), (pf, .inr (1, [.ref p1, .int (zI pn)])), (p1, .inl (cp1, 4, .inl fp))] : va_W) ++ kRows pr gp cy) := hD
        generalize ef_16 : upd jb (jk).toNat (zI ((jr + 1) - 1)) = f_16 at hP hD
        refine lv_iinc (v := (zI (jk + 1))) (lv' := [(2, .int (zI (jk + 1))), (3, .int (zI (-9))), (0, .ref h0), (1, .ref pf)]) hx hb dX4_choose_78 hl (k := 1) rfl (kz_inc _ 1) (by decide) rfl (fun ls hl => ?_)
        refine lv_goto (tgt := 7) hx hb dX4_choose_81 (by decide) ?_
        exact ih7 _ (by omega) _ _ _ ⟨(jk + 1), (jr + 1), f_13, f_16, rfl, (by omega), (by omega), (kCe_s v_72 (by omega) (Or.inl ⟨by omega, rfl⟩) h_12.2 h_12.1 ef_13), (kRn_z v_73 (by omega)), (kRo_s v_74 (by omega) ef_13 (kRn_z v_73 (by omega)) (by omega) ef_16), hP, hD, hS, lv_sub hl [0, 2, 3] rfl⟩
theorem ax_X4_make_b_0 {e0 e1 e2 e3 e4 e5 e6 e7 e8 e9 e10 e11 e12 e13 : Nat × va_E} {k : va_W} : ([0, 1, 2, 6, 8, 9] : List Nat).map (fun i => (([e0, e1, e2, e3, e4, e5, e6, e7, e8, e9, e10, e11, e12, e13] : va_W) ++ k)[i]?) = ([e0, e1, e2, e6, e8, e9] : va_W).map some := rfl
theorem ax_X4_make_b_1 {e0 e1 e2 e3 e4 e5 e6 e7 e8 e9 e10 e11 e12 e13 : Nat × va_E} : ([0, 1, 2, 6, 8, 9] : List Nat).map (fun i => ([e0, e1, e2, e3, e4, e5, e6, e7, e8, e9, e10, e11, e12, e13] : va_W)[i]?) = ([e0, e1, e2, e6, e8, e9] : va_W).map some := rfl
theorem ax_X4_make_b_2 {e0 e1 e2 e3 e4 e5 e6 e7 e8 e9 e10 e11 e12 e13 : Nat × va_E} : ([3, 4, 5, 7, 10, 11, 12, 13] : List Nat).map (fun i => ([e0, e1, e2, e3, e4, e5, e6, e7, e8, e9, e10, e11, e12, e13] : va_W)[i]?) = ([e3, e4, e5, e7, e10, e11, e12, e13] : va_W).map some := rfl
theorem ax_X4_make_b_3 {D : va_G} {cl : List vw_C} {H : Heap} {e0 e1 e2 e3 e4 e5 e6 e7 f0 f1 f2 f3 f4 f5 : Nat × va_E} {k : va_W} (h : va_P D cl ((([e0, e1, e2, e3, e4, e5, e6, e7] : va_W) ++ ([f0, f1, f2, f3, f4, f5] : va_W)) ++ k) H) : va_P D cl (([e0, e1, e2, e3, e4, e5, e6, e7, f0, f1, f2, f3, f4, f5] : va_W) ++ k) H := h
theorem ax_X4_make_b_4 {A : Nat → Prop} {e0 e1 e2 e3 e4 e5 e6 e7 f0 f1 f2 f3 f4 f5 : Nat × va_E} {k : va_W} (h : va_D A ((([e0, e1, e2, e3, e4, e5, e6, e7] : va_W) ++ ([f0, f1, f2, f3, f4, f5] : va_W)) ++ k)) : va_D A (([e0, e1, e2, e3, e4, e5, e6, e7, f0, f1, f2, f3, f4, f5] : va_W) ++ k) := h
theorem ax_X4_make_b_5 {e0 e1 e2 e3 e4 e5 e6 e7 e8 e9 e10 e11 e12 e13 : Nat × va_E} {k : va_W} : ([8, 0, 11, 4, 5] : List Nat).map (fun i => (([e0, e1, e2, e3, e4, e5, e6, e7, e8, e9, e10, e11, e12, e13] : va_W) ++ k)[i]?) = ([e8, e0, e11, e4, e5] : va_W).map some := rfl
theorem ax_X4_make_b_6 {e0 e1 e2 e3 e4 e5 e6 e7 e8 e9 e10 e11 e12 e13 : Nat × va_E} : ([8, 0, 11, 4, 5] : List Nat).map (fun i => ([e0, e1, e2, e3, e4, e5, e6, e7, e8, e9, e10, e11, e12, e13] : va_W)[i]?) = ([e8, e0, e11, e4, e5] : va_W).map some := rfl
theorem ax_X4_make_b_7 {e0 e1 e2 e3 e4 e5 e6 e7 e8 e9 e10 e11 e12 e13 : Nat × va_E} : ([1, 2, 3, 6, 7, 9, 10, 12, 13] : List Nat).map (fun i => ([e0, e1, e2, e3, e4, e5, e6, e7, e8, e9, e10, e11, e12, e13] : va_W)[i]?) = ([e1, e2, e3, e6, e7, e9, e10, e12, e13] : va_W).map some := rfl
theorem ax_X4_make_b_8 {D : va_G} {cl : List vw_C} {H : Heap} {e0 e1 e2 e3 e4 e5 e6 e7 e8 f0 f1 f2 f3 f4 : Nat × va_E} {k : va_W} (h : va_P D cl ((([e0, e1, e2, e3, e4, e5, e6, e7, e8] : va_W) ++ ([f0, f1, f2, f3, f4] : va_W)) ++ k) H) : va_P D cl (([e0, e1, e2, e3, e4, e5, e6, e7, e8, f0, f1, f2, f3, f4] : va_W) ++ k) H := h
theorem ax_X4_make_b_9 {A : Nat → Prop} {e0 e1 e2 e3 e4 e5 e6 e7 e8 f0 f1 f2 f3 f4 : Nat × va_E} {k : va_W} (h : va_D A ((([e0, e1, e2, e3, e4, e5, e6, e7, e8] : va_W) ++ ([f0, f1, f2, f3, f4] : va_W)) ++ k)) : va_D A (([e0, e1, e2, e3, e4, e5, e6, e7, e8, f0, f1, f2, f3, f4] : va_W) ++ k) := h
theorem ax_X4_make_b_10 {e0 e1 e2 e3 e4 e5 e6 e7 e8 e9 e10 e11 e12 e13 : Nat × va_E} : ([9, 10, 2] : List Nat).map (fun i => ([e0, e1, e2, e3, e4, e5, e6, e7, e8, e9, e10, e11, e12, e13] : va_W)[i]?) = ([e9, e10, e2] : va_W).map some := rfl
theorem ax_X4_make_b_11 {e0 e1 e2 e3 e4 e5 e6 e7 e8 e9 e10 e11 e12 e13 : Nat × va_E} : ([0, 1, 3, 4, 5, 6, 7, 8, 11, 12, 13] : List Nat).map (fun i => ([e0, e1, e2, e3, e4, e5, e6, e7, e8, e9, e10, e11, e12, e13] : va_W)[i]?) = ([e0, e1, e3, e4, e5, e6, e7, e8, e11, e12, e13] : va_W).map some := rfl
theorem ax_X4_make_b_12 {D : va_G} {cl : List vw_C} {H : Heap} {e0 e1 e2 e3 e4 e5 e6 e7 e8 e9 e10 f0 f1 f2 : Nat × va_E} {k : va_W} (h : va_P D cl ((([e0, e1, e2, e3, e4, e5, e6, e7, e8, e9, e10] : va_W) ++ ([f0, f1, f2] : va_W)) ++ k) H) : va_P D cl (([e0, e1, e2, e3, e4, e5, e6, e7, e8, e9, e10, f0, f1, f2] : va_W) ++ k) H := h
theorem ax_X4_make_b_13 {A : Nat → Prop} {e0 e1 e2 e3 e4 e5 e6 e7 e8 e9 e10 f0 f1 f2 : Nat × va_E} {k : va_W} (h : va_D A ((([e0, e1, e2, e3, e4, e5, e6, e7, e8, e9, e10] : va_W) ++ ([f0, f1, f2] : va_W)) ++ k)) : va_D A (([e0, e1, e2, e3, e4, e5, e6, e7, e8, e9, e10, f0, f1, f2] : va_W) ++ k) := h
theorem ax_X4_make_b_14 {e0 e1 e2 e3 e4 e5 e6 e7 e8 e9 e10 e11 e12 e13 : Nat × va_E} : ([11, 0, 1, 13, 2, 3] : List Nat).map (fun i => ([e0, e1, e2, e3, e4, e5, e6, e7, e8, e9, e10, e11, e12, e13] : va_W)[i]?) = ([e11, e0, e1, e13, e2, e3] : va_W).map some := rfl
theorem ax_X4_make_b_15 {e0 e1 e2 e3 e4 e5 e6 e7 e8 e9 e10 e11 e12 e13 : Nat × va_E} : ([4, 5, 6, 7, 8, 9, 10, 12] : List Nat).map (fun i => ([e0, e1, e2, e3, e4, e5, e6, e7, e8, e9, e10, e11, e12, e13] : va_W)[i]?) = ([e4, e5, e6, e7, e8, e9, e10, e12] : va_W).map some := rfl
theorem ax_X4_make_b_16 {e0 e1 e2 e3 e4 e5 e6 e7 e8 e9 e10 e11 e12 e13 : Nat × va_E} : ([8, 0, 1, 7, 9, 10, 4, 11, 2, 3, 5, 6, 12, 13] : List Nat).map (fun i => ([e0, e1, e2, e3, e4, e5, e6, e7, e8, e9, e10, e11, e12, e13] : va_W)[i]?) = ([e8, e0, e1, e7, e9, e10, e4, e11, e2, e3, e5, e6, e12, e13] : va_W).map some := rfl
set_option maxHeartbeats 4000000 in
set_option maxRecDepth 100000 in
theorem c_X4_make_b (l : Launch) (D : va_G) (sz : Nat) (wr : Nat) (fr : Nat) (pf : Nat) (al : Int) (h0 : Nat) (g1 : Nat) (g2 : Nat) (g3 : Nat) (g4 : Nat) (g5 : Nat) (cn : Int) (bo : Int) (ru : Int) (g6 : Nat) (g7 : Nat) (cg1 : ClassId) (f1 : Nat → Int32) (cg2 : ClassId) (f2 : Nat → Int32) (cg3 : ClassId) (f3 : Nat → Int32) (cg4 : ClassId) (f4 : Nat → Int32) (cg5 : ClassId) (f5 : Nat → Int32) (cg6 : ClassId) (f6 : Nat → Int32) (cg7 : ClassId) (fo : Nat → Option Nat) (o : Nat) (w1 : Nat) (wn : Int) (cw1 : ClassId) (fw : Nat → Int32) (k1 : Nat) (k2 : Nat) (k3 : Nat) (n : Int) (ck3 : ClassId) (fh : Nat → Int32) (p1 : Nat) (pn : Int) (cp1 : ClassId) (fp : Nat → Int32) (pr : Nat → Nat) (gp : Nat → Nat → Int32) (cy : ClassId) (q0 : rg al) (q1 : 0 ≤ wn ∧ wn ≤ 24) (q2 : 0 ≤ n ∧ n ≤ 4) (q3 : 0 ≤ pn ∧ pn ≤ 4) (q4 : kPr fp) (q5 : kOut fo pr o 24) (q6 : o + 24 ≤ 56) : Met l yX4_make wsX4_make ({ frames := 2, cells := 0, slots := 0, locals := 51 }) (kPre [.ref h0, .ref wr, .ref fr, .ref pf, .int (zI al)] D (([(h0, .inr (4, [.ref g1, .ref g2, .ref g3, .ref g4, .ref g5, .int (zI cn), .int (zI bo), .int (zI ru), .ref g6, .ref g7])), (g1, .inl (cg1, 24, .inl f1)), (g2, .inl (cg2, 24, .inl f2)), (g3, .inl (cg3, 24, .inl f3)), (g4, .inl (cg4, 24, .inl f4)), (g5, .inl (cg5, 24, .inl f5)), (g6, .inl (cg6, 24, .inl f6)), (g7, .inl (cg7, 24, .inr (.inr (.inr (.inr (fo)))))), (wr, .inr (7, [.ref w1, .int (zI wn)])), (w1, .inl (cw1, 24, .inl fw)), (fr, .inr (0, [.ref k1, .ref k2, .ref k3, .int (zI n)])), (k3, .inl (ck3, 4, .inl fh)), (pf, .inr (1, [.ref p1, .int (zI pn)])), (p1, .inl (cp1, 4, .inl fp))] : va_W) ++ kRows pr gp cy) [(cg1, .int), (cg2, .int), (cg3, .int), (cg4, .int), (cg5, .int), (cg6, .int), (cg7, .array .int), (cw1, .int), (ck3, .int), (cp1, .int), (cy, .int)] sz) (kQV (fun t => ∃ (uc : Int) (ub : Int) (ur : Int) (v1 : Nat → Int32) (v2 : Nat → Int32) (v3 : Nat → Int32) (v4 : Nat → Int32) (v5 : Nat → Int32) (v6 : Nat → Int32) (ug : Nat → Nat → Int32), (0 ≤ uc ∧ uc ≤ 24) ∧ (0 ≤ ub ∧ ub ≤ 24) ∧ (0 ≤ ur ∧ ur ≤ uc) ∧ (kCu fw (kNa wn) uc v1 v2 v6) ∧ (kFz v3 v6 fh n al uc) ∧ (ub = kBx v3 (kNa uc)) ∧ (kBh ug o v3 (zI al) uc 0) ∧ (kCe ug o fp pn v4 uc) ∧ (ur = kRn v4 (kNa uc)) ∧ (kRo v5 v4 uc) ∧ va_P D vwCl (([(h0, .inr (4, [.ref g1, .ref g2, .ref g3, .ref g4, .ref g5, .int (zI uc), .int (zI ub), .int (zI ur), .ref g6, .ref g7])), (g1, .inl (cg1, 24, .inl v1)), (g2, .inl (cg2, 24, .inl v2)), (g3, .inl (cg3, 24, .inl v3)), (g4, .inl (cg4, 24, .inl v4)), (g5, .inl (cg5, 24, .inl v5)), (g6, .inl (cg6, 24, .inl v6)), (g7, .inl (cg7, 24, .inr (.inr (.inr (.inr (fo)))))), (wr, .inr (7, [.ref w1, .int (zI wn)])), (w1, .inl (cw1, 24, .inl fw)), (fr, .inr (0, [.ref k1, .ref k2, .ref k3, .int (zI n)])), (k3, .inl (ck3, 4, .inl fh)), (pf, .inr (1, [.ref p1, .int (zI pn)])), (p1, .inl (cp1, 4, .inl fp))] : va_W) ++ kRows pr ug cy) t.heap ∧ va_D (va_A (([(h0, .inr (4, [.ref g1, .ref g2, .ref g3, .ref g4, .ref g5, .int (zI cn), .int (zI bo), .int (zI ru), .ref g6, .ref g7])), (g1, .inl (cg1, 24, .inl f1)), (g2, .inl (cg2, 24, .inl f2)), (g3, .inl (cg3, 24, .inl f3)), (g4, .inl (cg4, 24, .inl f4)), (g5, .inl (cg5, 24, .inl f5)), (g6, .inl (cg6, 24, .inl f6)), (g7, .inl (cg7, 24, .inr (.inr (.inr (.inr (fo)))))), (wr, .inr (7, [.ref w1, .int (zI wn)])), (w1, .inl (cw1, 24, .inl fw)), (fr, .inr (0, [.ref k1, .ref k2, .ref k3, .int (zI n)])), (k3, .inl (ck3, 4, .inl fh)), (pf, .inr (1, [.ref p1, .int (zI pn)])), (p1, .inl (cp1, 4, .inl fp))] : va_W) ++ kRows pr gp cy) sz) (([(h0, .inr (4, [.ref g1, .ref g2, .ref g3, .ref g4, .ref g5, .int (zI uc), .int (zI ub), .int (zI ur), .ref g6, .ref g7])), (g1, .inl (cg1, 24, .inl v1)), (g2, .inl (cg2, 24, .inl v2)), (g3, .inl (cg3, 24, .inl v3)), (g4, .inl (cg4, 24, .inl v4)), (g5, .inl (cg5, 24, .inl v5)), (g6, .inl (cg6, 24, .inl v6)), (g7, .inl (cg7, 24, .inr (.inr (.inr (.inr (fo)))))), (wr, .inr (7, [.ref w1, .int (zI wn)])), (w1, .inl (cw1, 24, .inl fw)), (fr, .inr (0, [.ref k1, .ref k2, .ref k3, .int (zI n)])), (k3, .inl (ck3, 4, .inl fh)), (pf, .inr (1, [.ref p1, .int (zI pn)])), (p1, .inl (cp1, 4, .inl fp))] : va_W) ++ kRows pr ug cy)) (va_A (([(h0, .inr (4, [.ref g1, .ref g2, .ref g3, .ref g4, .ref g5, .int (zI cn), .int (zI bo), .int (zI ru), .ref g6, .ref g7])), (g1, .inl (cg1, 24, .inl f1)), (g2, .inl (cg2, 24, .inl f2)), (g3, .inl (cg3, 24, .inl f3)), (g4, .inl (cg4, 24, .inl f4)), (g5, .inl (cg5, 24, .inl f5)), (g6, .inl (cg6, 24, .inl f6)), (g7, .inl (cg7, 24, .inr (.inr (.inr (.inr (fo)))))), (wr, .inr (7, [.ref w1, .int (zI wn)])), (w1, .inl (cw1, 24, .inl fw)), (fr, .inr (0, [.ref k1, .ref k2, .ref k3, .int (zI n)])), (k3, .inl (ck3, 4, .inl fh)), (pf, .inr (1, [.ref p1, .int (zI pn)])), (p1, .inl (cp1, 4, .inl fp))] : va_W) ++ kRows pr gp cy) sz)) 0 0 (va_A (([(h0, .inr (4, [.ref g1, .ref g2, .ref g3, .ref g4, .ref g5, .int (zI cn), .int (zI bo), .int (zI ru), .ref g6, .ref g7])), (g1, .inl (cg1, 24, .inl f1)), (g2, .inl (cg2, 24, .inl f2)), (g3, .inl (cg3, 24, .inl f3)), (g4, .inl (cg4, 24, .inl f4)), (g5, .inl (cg5, 24, .inl f5)), (g6, .inl (cg6, 24, .inl f6)), (g7, .inl (cg7, 24, .inr (.inr (.inr (.inr (fo)))))), (wr, .inr (7, [.ref w1, .int (zI wn)])), (w1, .inl (cw1, 24, .inl fw)), (fr, .inr (0, [.ref k1, .ref k2, .ref k3, .int (zI n)])), (k3, .inl (ck3, 4, .inl fh)), (pf, .inr (1, [.ref p1, .int (zI pn)])), (p1, .inl (cp1, 4, .inl fp))] : va_W) ++ kRows pr gp cy) sz) := by
  refine Met.ofW (cc := cX4_make) (maxL := 5) (ret := none) (by decide) rfl ?_
  intro p e s m args below meth c s₁ B hml hv
  obtain ⟨rfl, hsz, hP, hK, hD0, hN⟩ := hv
  have hx := B.exec
  have hb := B.bytes
  have hr := B.returns
  have hts := atoms_spec (ws := wsX4_make) B.pre
  have hown : s.vm.findClass RX4 = some m.cls := findClass_of_methodNamed B.named
  have hlocks := B.notSynchronized
  subst hsz
  have hD := hD0.self (sz := s.heap.size)
  generalize hAe : va_A (([(h0, .inr (4, [.ref g1, .ref g2, .ref g3, .ref g4, .ref g5, .int (zI cn), .int (zI bo), .int (zI ru), .ref g6, .ref g7])), (g1, .inl (cg1, 24, .inl f1)), (g2, .inl (cg2, 24, .inl f2)), (g3, .inl (cg3, 24, .inl f3)), (g4, .inl (cg4, 24, .inl f4)), (g5, .inl (cg5, 24, .inl f5)), (g6, .inl (cg6, 24, .inl f6)), (g7, .inl (cg7, 24, .inr (.inr (.inr (.inr (fo)))))), (wr, .inr (7, [.ref w1, .int (zI wn)])), (w1, .inl (cw1, 24, .inl fw)), (fr, .inr (0, [.ref k1, .ref k2, .ref k3, .int (zI n)])), (k3, .inl (ck3, 4, .inl fh)), (pf, .inr (1, [.ref p1, .int (zI pn)])), (p1, .inl (cp1, 4, .inl fp))] : va_W) ++ kRows pr gp cy) s.heap.size = A at hD ⊢
  have hA : ∀ q : Nat, s.heap.size ≤ q → A q := fun q h => by rw [← hAe]; exact Or.inr h
  have hS : va_S A s.heap s.heap [] := va_S.rf
  have hP : va_P D vwCl (([(h0, .inr (4, [.ref g1, .ref g2, .ref g3, .ref g4, .ref g5, .int (zI cn), .int (zI bo), .int (zI ru), .ref g6, .ref g7])), (g1, .inl (cg1, 24, .inl f1)), (g2, .inl (cg2, 24, .inl f2)), (g3, .inl (cg3, 24, .inl f3)), (g4, .inl (cg4, 24, .inl f4)), (g5, .inl (cg5, 24, .inl f5)), (g6, .inl (cg6, 24, .inl f6)), (g7, .inl (cg7, 24, .inr (.inr (.inr (.inr (fo)))))), (wr, .inr (7, [.ref w1, .int (zI wn)])), (w1, .inl (cw1, 24, .inl fw)), (fr, .inr (0, [.ref k1, .ref k2, .ref k3, .int (zI n)])), (k3, .inl (ck3, 4, .inl fh)), (pf, .inr (1, [.ref p1, .int (zI pn)])), (p1, .inl (cp1, 4, .inl fp))] : va_W) ++ kRows pr gp cy) s.heap := hP
  have hl := lv_entry ([.ref h0, .ref wr, .ref fr, .ref pf, .int (zI al)]) (n := 5) (Nat.le_of_ble_eq_true rfl)
  rw [lg_entry_eq]
  generalize (lg_sl ([.ref h0, .ref wr, .ref fr, .ref pf, .int (zI al)]) ++ List.replicate (5 - (lg_sl ([.ref h0, .ref wr, .ref fr, .ref pf, .int (zI al)])).length) Slot.unset).toArray = ls at hl ⊢
  have hl : lv_has ls 5 [(0, .ref h0), (1, .ref wr), (2, .ref fr), (3, .ref pf), (4, .int (zI al))] := hl
  refine lv_aload_n hx hb dX4_make_0 rfl (lv_at hl 0 rfl) ?_
  refine lv_aload_n hx hb dX4_make_1 rfl (lv_at hl 1 rfl) ?_
  have hFc := va_free (wc := [(h0, .inr (4, [.ref g1, .ref g2, .ref g3, .ref g4, .ref g5, .int (zI cn), .int (zI bo), .int (zI ru), .ref g6, .ref g7])), (g1, .inl (cg1, 24, .inl f1)), (g2, .inl (cg2, 24, .inl f2)), (g6, .inl (cg6, 24, .inl f6)), (wr, .inr (7, [.ref w1, .int (zI wn)])), (w1, .inl (cw1, 24, .inl fw))]) hD hS hA [0, 1, 2, 6, 8, 9] ax_X4_make_b_0
  refine va_callv (va_runV (As := [.ref wr]) (rest := []) ⟨hx, hb, hml, hown, hts⟩ (c_X4_cut_b l D s.heap.size (wr := wr) (h0 := h0) (g1 := g1) (g2 := g2) (g3 := g3) (g4 := g4) (g5 := g5) (cn := cn) (bo := bo) (ru := ru) (g6 := g6) (g7 := g7) (cg1 := cg1) (f1 := f1) (cg2 := cg2) (f2 := f2) (cg6 := cg6) (f6 := f6) (w1 := w1) (wn := wn) (cw1 := cw1) (fw := fw) q1) (cwV 1 hts gX4_make_X4_cut rfl rfl rfl (by decide +kernel) ⟨Nat.le_of_ble_eq_true rfl, Nat.le_of_ble_eq_true rfl⟩) (kPreV hP (kD0 hD) hK hN [0, 1, 2, 6, 8, 9] [0, 1, 5, 7] ax_X4_make_b_0 rfl (by decide +kernel) 0 4 rfl rfl) rfl rfl hl.1 rfl (lv_room (Nat.le_of_ble_eq_true rfl)) dX4_make_2 ⟨Nat.le_of_ble_eq_true rfl, Nat.le_of_ble_eq_true rfl⟩) hS (fun q _ h => hFc q h) hFc (fun u t H1 locs ht hvm hw hB hz1 hk1 hS => ?_)
  refine Exists.elim hB (fun uc_1 hB1 => Exists.elim hB1 (fun v1_2 hB2 => Exists.elim hB2 (fun v2_3 hB3 => Exists.elim hB3 (fun v6_4 hB4 => ?_))))
  have h_5 := hB4.1
  have h_6 := hB4.2.1
  have hP1 := hB4.2.2.1
  have hD1 := hB4.2.2.2
  clear hB hB1 hB2 hB3 hB4
  rw [ht] at hP1
  obtain ⟨hP, hD⟩ := va_joinQ (X := [(h0, .inr (4, [.ref g1, .ref g2, .ref g3, .ref g4, .ref g5, .int (zI cn), .int (zI bo), .int (zI ru), .ref g6, .ref g7])), (g1, .inl (cg1, 24, .inl f1)), (g2, .inl (cg2, 24, .inl f2)), (g3, .inl (cg3, 24, .inl f3)), (g4, .inl (cg4, 24, .inl f4)), (g5, .inl (cg5, 24, .inl f5)), (g6, .inl (cg6, 24, .inl f6)), (g7, .inl (cg7, 24, .inr (.inr (.inr (.inr (fo)))))), (wr, .inr (7, [.ref w1, .int (zI wn)])), (w1, .inl (cw1, 24, .inl fw)), (fr, .inr (0, [.ref k1, .ref k2, .ref k3, .int (zI n)])), (k3, .inl (ck3, 4, .inl fh)), (pf, .inr (1, [.ref p1, .int (zI pn)])), (p1, .inl (cp1, 4, .inl fp))]) (wr := [(g3, .inl (cg3, 24, .inl f3)), (g4, .inl (cg4, 24, .inl f4)), (g5, .inl (cg5, 24, .inl f5)), (g7, .inl (cg7, 24, .inr (.inr (.inr (.inr (fo)))))), (fr, .inr (0, [.ref k1, .ref k2, .ref k3, .int (zI n)])), (k3, .inl (ck3, 4, .inl fh)), (pf, .inr (1, [.ref p1, .int (zI pn)])), (p1, .inl (cp1, 4, .inl fp))]) (w1 := [(h0, .inr (4, [.ref g1, .ref g2, .ref g3, .ref g4, .ref g5, .int (zI uc_1), .int (zI bo), .int (zI ru), .ref g6, .ref g7])), (g1, .inl (cg1, 24, .inl v1_2)), (g2, .inl (cg2, 24, .inl v2_3)), (g6, .inl (cg6, 24, .inl v6_4)), (wr, .inr (7, [.ref w1, .int (zI wn)])), (w1, .inl (cw1, 24, .inl fw))]) hP hD [0, 1, 2, 6, 8, 9] [3, 4, 5, 7, 10, 11, 12, 13] ax_X4_make_b_1 ax_X4_make_b_2 (by decide +kernel) (by decide +kernel) hk1 hFc hP1 hD1
  have hP := ax_X4_make_b_3 hP
  have hD := ax_X4_make_b_4 hD
  generalize H1 = H at hP hS ⊢
  have hP : va_P D vwCl (([(g3, .inl (cg3, 24, .inl f3)), (g4, .inl (cg4, 24, .inl f4)), (g5, .inl (cg5, 24, .inl f5)), (g7, .inl (cg7, 24, .inr (.inr (.inr (.inr (fo)))))), (fr, .inr (0, [.ref k1, .ref k2, .ref k3, .int (zI n)])), (k3, .inl (ck3, 4, .inl fh)), (pf, .inr (1, [.ref p1, .int (zI pn)])), (p1, .inl (cp1, 4, .inl fp)), (h0, .inr (4, [.ref g1, .ref g2, .ref g3, .ref g4, .ref g5, .int (zI uc_1), .int (zI bo), .int (zI ru), .ref g6, .ref g7])), (g1, .inl (cg1, 24, .inl v1_2)), (g2, .inl (cg2, 24, .inl v2_3)), (g6, .inl (cg6, 24, .inl v6_4)), (wr, .inr (7, [.ref w1, .int (zI wn)])), (w1, .inl (cw1, 24, .inl fw))] : va_W) ++ kRows pr gp cy) H := hP
  have hD : va_D A (([(g3, .inl (cg3, 24, .inl f3)), (g4, .inl (cg4, 24, .inl f4)), (g5, .inl (cg5, 24, .inl f5)), (g7, .inl (cg7, 24, .inr (.inr (.inr (.inr (fo)))))), (fr, .inr (0, [.ref k1, .ref k2, .ref k3, .int (zI n)])), (k3, .inl (ck3, 4, .inl fh)), (pf, .inr (1, [.ref p1, .int (zI pn)])), (p1, .inl (cp1, 4, .inl fp)), (h0, .inr (4, [.ref g1, .ref g2, .ref g3, .ref g4, .ref g5, .int (zI uc_1), .int (zI bo), .int (zI ru), .ref g6, .ref g7])), (g1, .inl (cg1, 24, .inl v1_2)), (g2, .inl (cg2, 24, .inl v2_3)), (g6, .inl (cg6, 24, .inl v6_4)), (wr, .inr (7, [.ref w1, .int (zI wn)])), (w1, .inl (cw1, 24, .inl fw))] : va_W) ++ kRows pr gp cy) := hD
  refine lv_aload_n hx hb dX4_make_5 rfl (lv_at hl 0 rfl) ?_
  refine lv_aload_n hx hb dX4_make_6 rfl (lv_at hl 2 rfl) ?_
  refine lv_iload hx hb dX4_make_7 (lv_at hl 4 rfl) ?_
  have hFc := va_free (wc := [(h0, .inr (4, [.ref g1, .ref g2, .ref g3, .ref g4, .ref g5, .int (zI uc_1), .int (zI bo), .int (zI ru), .ref g6, .ref g7])), (g3, .inl (cg3, 24, .inl f3)), (g6, .inl (cg6, 24, .inl v6_4)), (fr, .inr (0, [.ref k1, .ref k2, .ref k3, .int (zI n)])), (k3, .inl (ck3, 4, .inl fh))]) hD hS hA [8, 0, 11, 4, 5] ax_X4_make_b_5
  refine va_callv (va_runV (As := [.ref fr, .int (zI al)]) (rest := []) ⟨hx, hb, hml, hown, hts⟩ (c_X4_findFitting_b l D H.size (fr := fr) (al := al) (h0 := h0) (g1 := g1) (g2 := g2) (g3 := g3) (g4 := g4) (g5 := g5) (cn := uc_1) (bo := bo) (ru := ru) (g6 := g6) (g7 := g7) (cg3 := cg3) (f3 := f3) (cg6 := cg6) (f6 := v6_4) (k1 := k1) (k2 := k2) (k3 := k3) (n := n) (ck3 := ck3) (fh := fh) q0 h_5 q2) (cwV 2 hts gX4_make_X4_findFitting rfl rfl rfl (by decide +kernel) ⟨Nat.le_of_ble_eq_true rfl, Nat.le_of_ble_eq_true rfl⟩) (kPreV hP (kD0 hD) hK hN [8, 0, 11, 4, 5] [2, 5, 8] ax_X4_make_b_5 rfl (by decide +kernel) 8 4 rfl rfl) rfl rfl hl.1 rfl (lv_room (Nat.le_of_ble_eq_true rfl)) dX4_make_9 ⟨Nat.le_of_ble_eq_true rfl, Nat.le_of_ble_eq_true rfl⟩) hS (fun q _ h => hFc q h) hFc (fun u t H1 locs ht hvm hw hB hz1 hk1 hS => ?_)
  refine Exists.elim hB (fun ub_7 hB1 => Exists.elim hB1 (fun v3_8 hB2 => ?_))
  have h_9 := hB2.1
  have h_10 := hB2.2.1
  have h_11 := hB2.2.2.1
  have hP1 := hB2.2.2.2.1
  have hD1 := hB2.2.2.2.2
  clear hB hB1 hB2
  rw [ht] at hP1
  obtain ⟨hP, hD⟩ := va_joinQ (X := [(g3, .inl (cg3, 24, .inl f3)), (g4, .inl (cg4, 24, .inl f4)), (g5, .inl (cg5, 24, .inl f5)), (g7, .inl (cg7, 24, .inr (.inr (.inr (.inr (fo)))))), (fr, .inr (0, [.ref k1, .ref k2, .ref k3, .int (zI n)])), (k3, .inl (ck3, 4, .inl fh)), (pf, .inr (1, [.ref p1, .int (zI pn)])), (p1, .inl (cp1, 4, .inl fp)), (h0, .inr (4, [.ref g1, .ref g2, .ref g3, .ref g4, .ref g5, .int (zI uc_1), .int (zI bo), .int (zI ru), .ref g6, .ref g7])), (g1, .inl (cg1, 24, .inl v1_2)), (g2, .inl (cg2, 24, .inl v2_3)), (g6, .inl (cg6, 24, .inl v6_4)), (wr, .inr (7, [.ref w1, .int (zI wn)])), (w1, .inl (cw1, 24, .inl fw))]) (wr := [(g4, .inl (cg4, 24, .inl f4)), (g5, .inl (cg5, 24, .inl f5)), (g7, .inl (cg7, 24, .inr (.inr (.inr (.inr (fo)))))), (pf, .inr (1, [.ref p1, .int (zI pn)])), (p1, .inl (cp1, 4, .inl fp)), (g1, .inl (cg1, 24, .inl v1_2)), (g2, .inl (cg2, 24, .inl v2_3)), (wr, .inr (7, [.ref w1, .int (zI wn)])), (w1, .inl (cw1, 24, .inl fw))]) (w1 := [(h0, .inr (4, [.ref g1, .ref g2, .ref g3, .ref g4, .ref g5, .int (zI uc_1), .int (zI ub_7), .int (zI ru), .ref g6, .ref g7])), (g3, .inl (cg3, 24, .inl v3_8)), (g6, .inl (cg6, 24, .inl v6_4)), (fr, .inr (0, [.ref k1, .ref k2, .ref k3, .int (zI n)])), (k3, .inl (ck3, 4, .inl fh))]) hP hD [8, 0, 11, 4, 5] [1, 2, 3, 6, 7, 9, 10, 12, 13] ax_X4_make_b_6 ax_X4_make_b_7 (by decide +kernel) (by decide +kernel) hk1 hFc hP1 hD1
  have hP := ax_X4_make_b_8 hP
  have hD := ax_X4_make_b_9 hD
  generalize H1 = H at hP hS ⊢
  have hP : va_P D vwCl (([(g4, .inl (cg4, 24, .inl f4)), (g5, .inl (cg5, 24, .inl f5)), (g7, .inl (cg7, 24, .inr (.inr (.inr (.inr (fo)))))), (pf, .inr (1, [.ref p1, .int (zI pn)])), (p1, .inl (cp1, 4, .inl fp)), (g1, .inl (cg1, 24, .inl v1_2)), (g2, .inl (cg2, 24, .inl v2_3)), (wr, .inr (7, [.ref w1, .int (zI wn)])), (w1, .inl (cw1, 24, .inl fw)), (h0, .inr (4, [.ref g1, .ref g2, .ref g3, .ref g4, .ref g5, .int (zI uc_1), .int (zI ub_7), .int (zI ru), .ref g6, .ref g7])), (g3, .inl (cg3, 24, .inl v3_8)), (g6, .inl (cg6, 24, .inl v6_4)), (fr, .inr (0, [.ref k1, .ref k2, .ref k3, .int (zI n)])), (k3, .inl (ck3, 4, .inl fh))] : va_W) ++ kRows pr gp cy) H := hP
  have hD : va_D A (([(g4, .inl (cg4, 24, .inl f4)), (g5, .inl (cg5, 24, .inl f5)), (g7, .inl (cg7, 24, .inr (.inr (.inr (.inr (fo)))))), (pf, .inr (1, [.ref p1, .int (zI pn)])), (p1, .inl (cp1, 4, .inl fp)), (g1, .inl (cg1, 24, .inl v1_2)), (g2, .inl (cg2, 24, .inl v2_3)), (wr, .inr (7, [.ref w1, .int (zI wn)])), (w1, .inl (cw1, 24, .inl fw)), (h0, .inr (4, [.ref g1, .ref g2, .ref g3, .ref g4, .ref g5, .int (zI uc_1), .int (zI ub_7), .int (zI ru), .ref g6, .ref g7])), (g3, .inl (cg3, 24, .inl v3_8)), (g6, .inl (cg6, 24, .inl v6_4)), (fr, .inr (0, [.ref k1, .ref k2, .ref k3, .int (zI n)])), (k3, .inl (ck3, 4, .inl fh))] : va_W) ++ kRows pr gp cy) := hD
  refine lv_aload_n hx hb dX4_make_12 rfl (lv_at hl 0 rfl) ?_
  refine lv_iload hx hb dX4_make_13 (lv_at hl 4 rfl) ?_
  have hFc := va_freeP (cx := [(h0, .inr (4, [.ref g1, .ref g2, .ref g3, .ref g4, .ref g5, .int (zI uc_1), .int (zI ub_7), .int (zI ru), .ref g6, .ref g7])), (g3, .inl (cg3, 24, .inl v3_8)), (g7, .inl (cg7, 24, .inr (.inr (.inr (.inr (fo))))))]) hD hS hA [9, 10, 2] ax_X4_make_b_10
  refine va_callv (va_runV (As := [.int (zI al)]) (rest := []) ⟨hx, hb, hml, hown, hts⟩ (c_X4_findBehind_b l D H.size (al := al) (h0 := h0) (g1 := g1) (g2 := g2) (g3 := g3) (g4 := g4) (g5 := g5) (cn := uc_1) (bo := ub_7) (ru := ru) (g6 := g6) (g7 := g7) (cg3 := cg3) (f3 := v3_8) (cg7 := cg7) (fo := fo) (o := o) (pr := pr) (gp := gp) (cy := cy) q0 h_5 q5 q6) (cwV 1 hts gX4_make_X4_findBehind rfl rfl rfl (by decide +kernel) ⟨Nat.le_of_ble_eq_true rfl, Nat.le_of_ble_eq_true rfl⟩) (kPreVP hP (kD0 hD) hK hN [9, 10, 2] [2, 6, 10] ax_X4_make_b_10 rfl (by decide +kernel) 9 4 rfl rfl) rfl rfl hl.1 rfl (lv_room (Nat.le_of_ble_eq_true rfl)) dX4_make_15 ⟨Nat.le_of_ble_eq_true rfl, Nat.le_of_ble_eq_true rfl⟩) hS (fun q _ h => hFc q h) hFc (fun u t H1 locs ht hvm hw hB hz1 hk1 hS => ?_)
  refine Exists.elim hB (fun ug_12 hB1 => ?_)
  have h_13 := hB1.1
  have hP1 := hB1.2.1
  have hD1 := hB1.2.2
  clear hB hB1
  rw [ht] at hP1
  obtain ⟨hP, hD⟩ := va_joinP (X := [(g4, .inl (cg4, 24, .inl f4)), (g5, .inl (cg5, 24, .inl f5)), (g7, .inl (cg7, 24, .inr (.inr (.inr (.inr (fo)))))), (pf, .inr (1, [.ref p1, .int (zI pn)])), (p1, .inl (cp1, 4, .inl fp)), (g1, .inl (cg1, 24, .inl v1_2)), (g2, .inl (cg2, 24, .inl v2_3)), (wr, .inr (7, [.ref w1, .int (zI wn)])), (w1, .inl (cw1, 24, .inl fw)), (h0, .inr (4, [.ref g1, .ref g2, .ref g3, .ref g4, .ref g5, .int (zI uc_1), .int (zI ub_7), .int (zI ru), .ref g6, .ref g7])), (g3, .inl (cg3, 24, .inl v3_8)), (g6, .inl (cg6, 24, .inl v6_4)), (fr, .inr (0, [.ref k1, .ref k2, .ref k3, .int (zI n)])), (k3, .inl (ck3, 4, .inl fh))]) (wr := [(g4, .inl (cg4, 24, .inl f4)), (g5, .inl (cg5, 24, .inl f5)), (pf, .inr (1, [.ref p1, .int (zI pn)])), (p1, .inl (cp1, 4, .inl fp)), (g1, .inl (cg1, 24, .inl v1_2)), (g2, .inl (cg2, 24, .inl v2_3)), (wr, .inr (7, [.ref w1, .int (zI wn)])), (w1, .inl (cw1, 24, .inl fw)), (g6, .inl (cg6, 24, .inl v6_4)), (fr, .inr (0, [.ref k1, .ref k2, .ref k3, .int (zI n)])), (k3, .inl (ck3, 4, .inl fh))]) (rx := [(h0, .inr (4, [.ref g1, .ref g2, .ref g3, .ref g4, .ref g5, .int (zI uc_1), .int (zI ub_7), .int (zI ru), .ref g6, .ref g7])), (g3, .inl (cg3, 24, .inl v3_8)), (g7, .inl (cg7, 24, .inr (.inr (.inr (.inr (fo))))))]) hP hD [9, 10, 2] [0, 1, 3, 4, 5, 6, 7, 8, 11, 12, 13] ax_X4_make_b_10 ax_X4_make_b_11 (by decide +kernel) (by decide +kernel) hk1 hFc hP1 hD1
  have hP := ax_X4_make_b_12 hP
  have hD := ax_X4_make_b_13 hD
  generalize H1 = H at hP hS ⊢
  have hP : va_P D vwCl (([(g4, .inl (cg4, 24, .inl f4)), (g5, .inl (cg5, 24, .inl f5)), (pf, .inr (1, [.ref p1, .int (zI pn)])), (p1, .inl (cp1, 4, .inl fp)), (g1, .inl (cg1, 24, .inl v1_2)), (g2, .inl (cg2, 24, .inl v2_3)), (wr, .inr (7, [.ref w1, .int (zI wn)])), (w1, .inl (cw1, 24, .inl fw)), (g6, .inl (cg6, 24, .inl v6_4)), (fr, .inr (0, [.ref k1, .ref k2, .ref k3, .int (zI n)])), (k3, .inl (ck3, 4, .inl fh)), (h0, .inr (4, [.ref g1, .ref g2, .ref g3, .ref g4, .ref g5, .int (zI uc_1), .int (zI ub_7), .int (zI ru), .ref g6, .ref g7])), (g3, .inl (cg3, 24, .inl v3_8)), (g7, .inl (cg7, 24, .inr (.inr (.inr (.inr (fo))))))] : va_W) ++ kRows pr ug_12 cy) H := hP
  have hD : va_D A (([(g4, .inl (cg4, 24, .inl f4)), (g5, .inl (cg5, 24, .inl f5)), (pf, .inr (1, [.ref p1, .int (zI pn)])), (p1, .inl (cp1, 4, .inl fp)), (g1, .inl (cg1, 24, .inl v1_2)), (g2, .inl (cg2, 24, .inl v2_3)), (wr, .inr (7, [.ref w1, .int (zI wn)])), (w1, .inl (cw1, 24, .inl fw)), (g6, .inl (cg6, 24, .inl v6_4)), (fr, .inr (0, [.ref k1, .ref k2, .ref k3, .int (zI n)])), (k3, .inl (ck3, 4, .inl fh)), (h0, .inr (4, [.ref g1, .ref g2, .ref g3, .ref g4, .ref g5, .int (zI uc_1), .int (zI ub_7), .int (zI ru), .ref g6, .ref g7])), (g3, .inl (cg3, 24, .inl v3_8)), (g7, .inl (cg7, 24, .inr (.inr (.inr (.inr (fo))))))] : va_W) ++ kRows pr ug_12 cy) := hD
  refine lv_aload_n hx hb dX4_make_18 rfl (lv_at hl 0 rfl) ?_
  refine lv_aload_n hx hb dX4_make_19 rfl (lv_at hl 3 rfl) ?_
  have hFc := va_freeP (cx := [(h0, .inr (4, [.ref g1, .ref g2, .ref g3, .ref g4, .ref g5, .int (zI uc_1), .int (zI ub_7), .int (zI ru), .ref g6, .ref g7])), (g4, .inl (cg4, 24, .inl f4)), (g5, .inl (cg5, 24, .inl f5)), (g7, .inl (cg7, 24, .inr (.inr (.inr (.inr (fo)))))), (pf, .inr (1, [.ref p1, .int (zI pn)])), (p1, .inl (cp1, 4, .inl fp))]) hD hS hA [11, 0, 1, 13, 2, 3] ax_X4_make_b_14
  refine va_callv (va_runV (As := [.ref pf]) (rest := []) ⟨hx, hb, hml, hown, hts⟩ (c_X4_choose_b l D H.size (pf := pf) (h0 := h0) (g1 := g1) (g2 := g2) (g3 := g3) (g4 := g4) (g5 := g5) (cn := uc_1) (bo := ub_7) (ru := ru) (g6 := g6) (g7 := g7) (cg4 := cg4) (f4 := f4) (cg5 := cg5) (f5 := f5) (cg7 := cg7) (fo := fo) (o := o) (p1 := p1) (pn := pn) (cp1 := cp1) (fp := fp) (pr := pr) (gp := ug_12) (cy := cy) h_5 q3 q4 q5 q6 (fun c9 h8 h9 => kBk_of h_13 ⟨h8, h9⟩)) (cwV 1 hts gX4_make_X4_choose rfl rfl rfl (by decide +kernel) ⟨Nat.le_of_ble_eq_true rfl, Nat.le_of_ble_eq_true rfl⟩) (kPreVP hP (kD0 hD) hK hN [11, 0, 1, 13, 2, 3] [3, 4, 6, 9, 10] ax_X4_make_b_14 rfl (by decide +kernel) 11 4 rfl rfl) rfl rfl hl.1 rfl (lv_room (Nat.le_of_ble_eq_true rfl)) dX4_make_20 ⟨Nat.le_of_ble_eq_true rfl, Nat.le_of_ble_eq_true rfl⟩) hS (fun q _ h => hFc q h) hFc (fun u t H1 locs ht hvm hw hB hz1 hk1 hS => ?_)
  refine Exists.elim hB (fun ur_14 hB1 => Exists.elim hB1 (fun v4_15 hB2 => Exists.elim hB2 (fun v5_16 hB3 => ?_)))
  have h_17 := hB3.1
  have h_18 := hB3.2.1
  have h_19 := hB3.2.2.1
  have h_20 := hB3.2.2.2.1
  have hP1 := hB3.2.2.2.2.1
  have hD1 := hB3.2.2.2.2.2
  clear hB hB1 hB2 hB3
  rw [ht] at hP1
  obtain ⟨hP, hD⟩ := va_joinP (X := [(g4, .inl (cg4, 24, .inl f4)), (g5, .inl (cg5, 24, .inl f5)), (pf, .inr (1, [.ref p1, .int (zI pn)])), (p1, .inl (cp1, 4, .inl fp)), (g1, .inl (cg1, 24, .inl v1_2)), (g2, .inl (cg2, 24, .inl v2_3)), (wr, .inr (7, [.ref w1, .int (zI wn)])), (w1, .inl (cw1, 24, .inl fw)), (g6, .inl (cg6, 24, .inl v6_4)), (fr, .inr (0, [.ref k1, .ref k2, .ref k3, .int (zI n)])), (k3, .inl (ck3, 4, .inl fh)), (h0, .inr (4, [.ref g1, .ref g2, .ref g3, .ref g4, .ref g5, .int (zI uc_1), .int (zI ub_7), .int (zI ru), .ref g6, .ref g7])), (g3, .inl (cg3, 24, .inl v3_8)), (g7, .inl (cg7, 24, .inr (.inr (.inr (.inr (fo))))))]) (wr := [(g1, .inl (cg1, 24, .inl v1_2)), (g2, .inl (cg2, 24, .inl v2_3)), (wr, .inr (7, [.ref w1, .int (zI wn)])), (w1, .inl (cw1, 24, .inl fw)), (g6, .inl (cg6, 24, .inl v6_4)), (fr, .inr (0, [.ref k1, .ref k2, .ref k3, .int (zI n)])), (k3, .inl (ck3, 4, .inl fh)), (g3, .inl (cg3, 24, .inl v3_8))]) (rx := [(h0, .inr (4, [.ref g1, .ref g2, .ref g3, .ref g4, .ref g5, .int (zI uc_1), .int (zI ub_7), .int (zI ur_14), .ref g6, .ref g7])), (g4, .inl (cg4, 24, .inl v4_15)), (g5, .inl (cg5, 24, .inl v5_16)), (g7, .inl (cg7, 24, .inr (.inr (.inr (.inr (fo)))))), (pf, .inr (1, [.ref p1, .int (zI pn)])), (p1, .inl (cp1, 4, .inl fp))]) hP hD [11, 0, 1, 13, 2, 3] [4, 5, 6, 7, 8, 9, 10, 12] ax_X4_make_b_14 ax_X4_make_b_15 (by decide +kernel) (by decide +kernel) hk1 hFc hP1 hD1
  have hP := ax_X4_make_b_3 hP
  have hD := ax_X4_make_b_4 hD
  generalize H1 = H at hP hS ⊢
  have hP : va_P D vwCl (([(g1, .inl (cg1, 24, .inl v1_2)), (g2, .inl (cg2, 24, .inl v2_3)), (wr, .inr (7, [.ref w1, .int (zI wn)])), (w1, .inl (cw1, 24, .inl fw)), (g6, .inl (cg6, 24, .inl v6_4)), (fr, .inr (0, [.ref k1, .ref k2, .ref k3, .int (zI n)])), (k3, .inl (ck3, 4, .inl fh)), (g3, .inl (cg3, 24, .inl v3_8)), (h0, .inr (4, [.ref g1, .ref g2, .ref g3, .ref g4, .ref g5, .int (zI uc_1), .int (zI ub_7), .int (zI ur_14), .ref g6, .ref g7])), (g4, .inl (cg4, 24, .inl v4_15)), (g5, .inl (cg5, 24, .inl v5_16)), (g7, .inl (cg7, 24, .inr (.inr (.inr (.inr (fo)))))), (pf, .inr (1, [.ref p1, .int (zI pn)])), (p1, .inl (cp1, 4, .inl fp))] : va_W) ++ kRows pr ug_12 cy) H := hP
  have hD : va_D A (([(g1, .inl (cg1, 24, .inl v1_2)), (g2, .inl (cg2, 24, .inl v2_3)), (wr, .inr (7, [.ref w1, .int (zI wn)])), (w1, .inl (cw1, 24, .inl fw)), (g6, .inl (cg6, 24, .inl v6_4)), (fr, .inr (0, [.ref k1, .ref k2, .ref k3, .int (zI n)])), (k3, .inl (ck3, 4, .inl fh)), (g3, .inl (cg3, 24, .inl v3_8)), (h0, .inr (4, [.ref g1, .ref g2, .ref g3, .ref g4, .ref g5, .int (zI uc_1), .int (zI ub_7), .int (zI ur_14), .ref g6, .ref g7])), (g4, .inl (cg4, 24, .inl v4_15)), (g5, .inl (cg5, 24, .inl v5_16)), (g7, .inl (cg7, 24, .inr (.inr (.inr (.inr (fo)))))), (pf, .inr (1, [.ref p1, .int (zI pn)])), (p1, .inl (cp1, 4, .inl fp))] : va_W) ++ kRows pr ug_12 cy) := hD
  have hP9 : va_P D vwCl (([(h0, .inr (4, [.ref g1, .ref g2, .ref g3, .ref g4, .ref g5, .int (zI uc_1), .int (zI ub_7), .int (zI ur_14), .ref g6, .ref g7])), (g1, .inl (cg1, 24, .inl v1_2)), (g2, .inl (cg2, 24, .inl v2_3)), (g3, .inl (cg3, 24, .inl v3_8)), (g4, .inl (cg4, 24, .inl v4_15)), (g5, .inl (cg5, 24, .inl v5_16)), (g6, .inl (cg6, 24, .inl v6_4)), (g7, .inl (cg7, 24, .inr (.inr (.inr (.inr (fo)))))), (wr, .inr (7, [.ref w1, .int (zI wn)])), (w1, .inl (cw1, 24, .inl fw)), (fr, .inr (0, [.ref k1, .ref k2, .ref k3, .int (zI n)])), (k3, .inl (ck3, 4, .inl fh)), (pf, .inr (1, [.ref p1, .int (zI pn)])), (p1, .inl (cp1, 4, .inl fp))] : va_W) ++ kRows pr ug_12 cy) H := hP.part [8, 0, 1, 7, 9, 10, 4, 11, 2, 3, 5, 6, 12, 13] ax_X4_make_b_16
  have hD9 : va_D A (([(h0, .inr (4, [.ref g1, .ref g2, .ref g3, .ref g4, .ref g5, .int (zI uc_1), .int (zI ub_7), .int (zI ur_14), .ref g6, .ref g7])), (g1, .inl (cg1, 24, .inl v1_2)), (g2, .inl (cg2, 24, .inl v2_3)), (g3, .inl (cg3, 24, .inl v3_8)), (g4, .inl (cg4, 24, .inl v4_15)), (g5, .inl (cg5, 24, .inl v5_16)), (g6, .inl (cg6, 24, .inl v6_4)), (g7, .inl (cg7, 24, .inr (.inr (.inr (.inr (fo)))))), (wr, .inr (7, [.ref w1, .int (zI wn)])), (w1, .inl (cw1, 24, .inl fw)), (fr, .inr (0, [.ref k1, .ref k2, .ref k3, .int (zI n)])), (k3, .inl (ck3, 4, .inl fh)), (pf, .inr (1, [.ref p1, .int (zI pn)])), (p1, .inl (cp1, 4, .inl fp))] : va_W) ++ kRows pr ug_12 cy) := hD.part [8, 0, 1, 7, 9, 10, 4, 11, 2, 3, 5, 6, 12, 13] (by decide +kernel) ax_X4_make_b_16
  exact W.vret hx hb hr (fun t ht hW => kQV_of ⟨uc_1, ub_7, ur_14, v1_2, v2_3, v3_8, v4_15, v5_16, v6_4, ug_12, h_5, h_9, h_17, h_6, h_10, h_11, h_13, h_18, h_19, h_20, by rw [ht]; exact hP9, hD9⟩ (hS.F ht)) hS.2.2 dX4_make_23
set_option maxRecDepth 20000 in
theorem mw_X8_settle_b_0 : (.fieldLink RX8 56 "FontRuns" "setting" "LFontRuns$Setting;" : Cond) ∈ wsX8_settle := List.mem_cons_of_mem _ (List.mem_append_left _ (List.mem_append_left _ (List.mem_append_left _ (List.mem_append_left _ (List.mem_append_left _ (List.mem_append_left _ (List.mem_of_getElem? (i := 0) rfl)))))))
set_option maxRecDepth 20000 in
theorem mw_X8_settle_b_1 : (.fieldLink RX8 35 "FontRuns" "writing" "LFontRuns$Writing;" : Cond) ∈ wsX8_settle := List.mem_cons_of_mem _ (List.mem_append_left _ (List.mem_append_left _ (List.mem_append_left _ (List.mem_append_left _ (List.mem_append_left _ (List.mem_append_left _ (List.mem_of_getElem? (i := 1) rfl)))))))
set_option maxRecDepth 20000 in
theorem mw_X8_settle_b_2 : (.fieldLink RX8 28 "FontRuns" "fontRow" "LFontRuns$FontRow;" : Cond) ∈ wsX8_settle := List.mem_cons_of_mem _ (List.mem_append_left _ (List.mem_append_left _ (List.mem_append_left _ (List.mem_append_left _ (List.mem_append_left _ (List.mem_append_left _ (List.mem_of_getElem? (i := 2) rfl)))))))
set_option maxRecDepth 20000 in
theorem mw_X8_settle_b_3 : (.fieldLink RX8 42 "FontRuns" "preference" "LFontRuns$Preference;" : Cond) ∈ wsX8_settle := List.mem_cons_of_mem _ (List.mem_append_left _ (List.mem_append_left _ (List.mem_append_left _ (List.mem_append_left _ (List.mem_append_left _ (List.mem_append_left _ (List.mem_of_getElem? (i := 3) rfl)))))))
theorem ax_X8_settle_b_0 {e0 e1 e2 e3 e4 e5 e6 e7 e8 e9 e10 e11 e12 e13 e14 : Nat × va_E} {k : va_W} : ([11] : List Nat).map (fun i => (([e0, e1, e2, e3, e4, e5, e6, e7, e8, e9, e10, e11, e12, e13, e14] : va_W) ++ k)[i]?) = ([e11] : va_W).map some := rfl
theorem ax_X8_settle_b_1 {e0 e1 e2 e3 e4 e5 e6 e7 e8 e9 e10 e11 e12 e13 e14 : Nat × va_E} : ([1, 2, 3, 4, 5, 6, 7, 8, 9, 10, 11, 12, 13, 14] : List Nat).map (fun i => ([e0, e1, e2, e3, e4, e5, e6, e7, e8, e9, e10, e11, e12, e13, e14] : va_W)[i]?) = ([e1, e2, e3, e4, e5, e6, e7, e8, e9, e10, e11, e12, e13, e14] : va_W).map some := rfl
theorem ax_X8_settle_b_2 {e0 e1 e2 e3 e4 e5 e6 e7 e8 e9 e10 e11 e12 e13 e14 : Nat × va_E} : ([0] : List Nat).map (fun i => ([e0, e1, e2, e3, e4, e5, e6, e7, e8, e9, e10, e11, e12, e13, e14] : va_W)[i]?) = ([e0] : va_W).map some := rfl
theorem ax_X8_settle_b_3 {D : va_G} {cl : List vw_C} {H : Heap} {e0 f0 f1 f2 f3 f4 f5 f6 f7 f8 f9 f10 f11 f12 f13 : Nat × va_E} {k : va_W} (h : va_P D cl ((([e0] : va_W) ++ ([f0, f1, f2, f3, f4, f5, f6, f7, f8, f9, f10, f11, f12, f13] : va_W)) ++ k) H) : va_P D cl (([e0, f0, f1, f2, f3, f4, f5, f6, f7, f8, f9, f10, f11, f12, f13] : va_W) ++ k) H := h
theorem ax_X8_settle_b_4 {A : Nat → Prop} {e0 f0 f1 f2 f3 f4 f5 f6 f7 f8 f9 f10 f11 f12 f13 : Nat × va_E} {k : va_W} (h : va_D A ((([e0] : va_W) ++ ([f0, f1, f2, f3, f4, f5, f6, f7, f8, f9, f10, f11, f12, f13] : va_W)) ++ k)) : va_D A (([e0, f0, f1, f2, f3, f4, f5, f6, f7, f8, f9, f10, f11, f12, f13] : va_W) ++ k) := h
theorem ax_X8_settle_b_5 {e0 e1 e2 e3 e4 e5 e6 e7 e8 e9 e10 e11 e12 e13 e14 : Nat × va_E} : ([0, 1, 2, 3, 4, 5, 6, 7, 8, 9, 10, 11, 12, 13, 14] : List Nat).map (fun i => ([e0, e1, e2, e3, e4, e5, e6, e7, e8, e9, e10, e11, e12, e13, e14] : va_W)[i]?) = ([e0, e1, e2, e3, e4, e5, e6, e7, e8, e9, e10, e11, e12, e13, e14] : va_W).map some := rfl
set_option maxHeartbeats 4000000 in
set_option maxRecDepth 100000 in
theorem c_X8_settle_b (l : Launch) (D : va_G) (sz : Nat) (h0 : Nat) (sh : Nat) (rd : Nat) (fr : Nat) (wr : Nat) (pf : Nat) (rc : Nat) (se : Nat) (rs : Nat) (sw : Nat) (sp : Nat) (ss : Nat) (ew : Int) (wc : Int64) (tr : Int) (lf : Int) (g1 : Nat) (g2 : Nat) (g3 : Nat) (g4 : Nat) (g5 : Nat) (cn : Int) (bo : Int) (ru : Int) (g6 : Nat) (g7 : Nat) (cg1 : ClassId) (f1 : Nat → Int32) (cg2 : ClassId) (f2 : Nat → Int32) (cg3 : ClassId) (f3 : Nat → Int32) (cg4 : ClassId) (f4 : Nat → Int32) (cg5 : ClassId) (f5 : Nat → Int32) (cg6 : ClassId) (f6 : Nat → Int32) (cg7 : ClassId) (fo : Nat → Option Nat) (o : Nat) (w1 : Nat) (wn : Int) (cw1 : ClassId) (fw : Nat → Int32) (k1 : Nat) (k2 : Nat) (k3 : Nat) (fn : Int) (ck3 : ClassId) (fh : Nat → Int32) (p1 : Nat) (pn : Int) (cp1 : ClassId) (fp : Nat → Int32) (pr : Nat → Nat) (gp : Nat → Nat → Int32) (cy : ClassId) (q0 : 0 ≤ wn ∧ wn ≤ 24) (q1 : 0 ≤ fn ∧ fn ≤ 4) (q2 : 0 ≤ pn ∧ pn ≤ 4) (q3 : kPr fp) (q4 : kOut fo pr o 24) (q5 : o + 24 ≤ 56) : Met l yX8_settle wsX8_settle ({ frames := 3, cells := 0, slots := 0, locals := 75 }) (kPre [.ref h0] D (([(h0, .inr (8, [.ref sh, .ref rd, .ref fr, .ref wr, .ref pf, .ref rc, .ref se, .ref rs, .ref sw, .ref sp, .ref ss, .int (zI ew), .long wc, .int (zI tr), .int (zI lf)])), (se, .inr (4, [.ref g1, .ref g2, .ref g3, .ref g4, .ref g5, .int (zI cn), .int (zI bo), .int (zI ru), .ref g6, .ref g7])), (g1, .inl (cg1, 24, .inl f1)), (g2, .inl (cg2, 24, .inl f2)), (g3, .inl (cg3, 24, .inl f3)), (g4, .inl (cg4, 24, .inl f4)), (g5, .inl (cg5, 24, .inl f5)), (g6, .inl (cg6, 24, .inl f6)), (g7, .inl (cg7, 24, .inr (.inr (.inr (.inr (fo)))))), (wr, .inr (7, [.ref w1, .int (zI wn)])), (w1, .inl (cw1, 24, .inl fw)), (fr, .inr (0, [.ref k1, .ref k2, .ref k3, .int (zI fn)])), (k3, .inl (ck3, 4, .inl fh)), (pf, .inr (1, [.ref p1, .int (zI pn)])), (p1, .inl (cp1, 4, .inl fp))] : va_W) ++ kRows pr gp cy) [(cg1, .int), (cg2, .int), (cg3, .int), (cg4, .int), (cg5, .int), (cg6, .int), (cg7, .array .int), (cw1, .int), (ck3, .int), (cp1, .int), (cy, .int)] sz) (kQV (fun t => ∃ (uc : Int) (ub : Int) (ur : Int) (v1 : Nat → Int32) (v2 : Nat → Int32) (v3 : Nat → Int32) (v4 : Nat → Int32) (v5 : Nat → Int32) (v6 : Nat → Int32) (ug : Nat → Nat → Int32), (0 ≤ uc ∧ uc ≤ 24) ∧ (0 ≤ ub ∧ ub ≤ 24) ∧ (0 ≤ ur ∧ ur ≤ uc) ∧ (kSE fw wn fh fn (-9) fp pn uc ub ur v1 v2 v3 v4 v5) ∧ va_P D vwCl (([(h0, .inr (8, [.ref sh, .ref rd, .ref fr, .ref wr, .ref pf, .ref rc, .ref se, .ref rs, .ref sw, .ref sp, .ref ss, .int (zI ew), .long wc, .int (zI tr), .int (zI lf)])), (se, .inr (4, [.ref g1, .ref g2, .ref g3, .ref g4, .ref g5, .int (zI uc), .int (zI ub), .int (zI ur), .ref g6, .ref g7])), (g1, .inl (cg1, 24, .inl v1)), (g2, .inl (cg2, 24, .inl v2)), (g3, .inl (cg3, 24, .inl v3)), (g4, .inl (cg4, 24, .inl v4)), (g5, .inl (cg5, 24, .inl v5)), (g6, .inl (cg6, 24, .inl v6)), (g7, .inl (cg7, 24, .inr (.inr (.inr (.inr (fo)))))), (wr, .inr (7, [.ref w1, .int (zI wn)])), (w1, .inl (cw1, 24, .inl fw)), (fr, .inr (0, [.ref k1, .ref k2, .ref k3, .int (zI fn)])), (k3, .inl (ck3, 4, .inl fh)), (pf, .inr (1, [.ref p1, .int (zI pn)])), (p1, .inl (cp1, 4, .inl fp))] : va_W) ++ kRows pr ug cy) t.heap ∧ va_D (va_A (([(h0, .inr (8, [.ref sh, .ref rd, .ref fr, .ref wr, .ref pf, .ref rc, .ref se, .ref rs, .ref sw, .ref sp, .ref ss, .int (zI ew), .long wc, .int (zI tr), .int (zI lf)])), (se, .inr (4, [.ref g1, .ref g2, .ref g3, .ref g4, .ref g5, .int (zI cn), .int (zI bo), .int (zI ru), .ref g6, .ref g7])), (g1, .inl (cg1, 24, .inl f1)), (g2, .inl (cg2, 24, .inl f2)), (g3, .inl (cg3, 24, .inl f3)), (g4, .inl (cg4, 24, .inl f4)), (g5, .inl (cg5, 24, .inl f5)), (g6, .inl (cg6, 24, .inl f6)), (g7, .inl (cg7, 24, .inr (.inr (.inr (.inr (fo)))))), (wr, .inr (7, [.ref w1, .int (zI wn)])), (w1, .inl (cw1, 24, .inl fw)), (fr, .inr (0, [.ref k1, .ref k2, .ref k3, .int (zI fn)])), (k3, .inl (ck3, 4, .inl fh)), (pf, .inr (1, [.ref p1, .int (zI pn)])), (p1, .inl (cp1, 4, .inl fp))] : va_W) ++ kRows pr gp cy) sz) (([(h0, .inr (8, [.ref sh, .ref rd, .ref fr, .ref wr, .ref pf, .ref rc, .ref se, .ref rs, .ref sw, .ref sp, .ref ss, .int (zI ew), .long wc, .int (zI tr), .int (zI lf)])), (se, .inr (4, [.ref g1, .ref g2, .ref g3, .ref g4, .ref g5, .int (zI uc), .int (zI ub), .int (zI ur), .ref g6, .ref g7])), (g1, .inl (cg1, 24, .inl v1)), (g2, .inl (cg2, 24, .inl v2)), (g3, .inl (cg3, 24, .inl v3)), (g4, .inl (cg4, 24, .inl v4)), (g5, .inl (cg5, 24, .inl v5)), (g6, .inl (cg6, 24, .inl v6)), (g7, .inl (cg7, 24, .inr (.inr (.inr (.inr (fo)))))), (wr, .inr (7, [.ref w1, .int (zI wn)])), (w1, .inl (cw1, 24, .inl fw)), (fr, .inr (0, [.ref k1, .ref k2, .ref k3, .int (zI fn)])), (k3, .inl (ck3, 4, .inl fh)), (pf, .inr (1, [.ref p1, .int (zI pn)])), (p1, .inl (cp1, 4, .inl fp))] : va_W) ++ kRows pr ug cy)) (va_A (([(h0, .inr (8, [.ref sh, .ref rd, .ref fr, .ref wr, .ref pf, .ref rc, .ref se, .ref rs, .ref sw, .ref sp, .ref ss, .int (zI ew), .long wc, .int (zI tr), .int (zI lf)])), (se, .inr (4, [.ref g1, .ref g2, .ref g3, .ref g4, .ref g5, .int (zI cn), .int (zI bo), .int (zI ru), .ref g6, .ref g7])), (g1, .inl (cg1, 24, .inl f1)), (g2, .inl (cg2, 24, .inl f2)), (g3, .inl (cg3, 24, .inl f3)), (g4, .inl (cg4, 24, .inl f4)), (g5, .inl (cg5, 24, .inl f5)), (g6, .inl (cg6, 24, .inl f6)), (g7, .inl (cg7, 24, .inr (.inr (.inr (.inr (fo)))))), (wr, .inr (7, [.ref w1, .int (zI wn)])), (w1, .inl (cw1, 24, .inl fw)), (fr, .inr (0, [.ref k1, .ref k2, .ref k3, .int (zI fn)])), (k3, .inl (ck3, 4, .inl fh)), (pf, .inr (1, [.ref p1, .int (zI pn)])), (p1, .inl (cp1, 4, .inl fp))] : va_W) ++ kRows pr gp cy) sz)) 0 0 (va_A (([(h0, .inr (8, [.ref sh, .ref rd, .ref fr, .ref wr, .ref pf, .ref rc, .ref se, .ref rs, .ref sw, .ref sp, .ref ss, .int (zI ew), .long wc, .int (zI tr), .int (zI lf)])), (se, .inr (4, [.ref g1, .ref g2, .ref g3, .ref g4, .ref g5, .int (zI cn), .int (zI bo), .int (zI ru), .ref g6, .ref g7])), (g1, .inl (cg1, 24, .inl f1)), (g2, .inl (cg2, 24, .inl f2)), (g3, .inl (cg3, 24, .inl f3)), (g4, .inl (cg4, 24, .inl f4)), (g5, .inl (cg5, 24, .inl f5)), (g6, .inl (cg6, 24, .inl f6)), (g7, .inl (cg7, 24, .inr (.inr (.inr (.inr (fo)))))), (wr, .inr (7, [.ref w1, .int (zI wn)])), (w1, .inl (cw1, 24, .inl fw)), (fr, .inr (0, [.ref k1, .ref k2, .ref k3, .int (zI fn)])), (k3, .inl (ck3, 4, .inl fh)), (pf, .inr (1, [.ref p1, .int (zI pn)])), (p1, .inl (cp1, 4, .inl fp))] : va_W) ++ kRows pr gp cy) sz) := by
  refine Met.ofW (cc := cX8_settle) (maxL := 1) (ret := none) (by decide) rfl ?_
  intro p e s m args below meth c s₁ B hml hv
  obtain ⟨rfl, hsz, hP, hK, hD0, hN⟩ := hv
  have hx := B.exec
  have hb := B.bytes
  have hr := B.returns
  have hts := atoms_spec (ws := wsX8_settle) B.pre
  have hown : s.vm.findClass RX8 = some m.cls := findClass_of_methodNamed B.named
  have hlocks := B.notSynchronized
  subst hsz
  have hD := hD0.self (sz := s.heap.size)
  generalize hAe : va_A (([(h0, .inr (8, [.ref sh, .ref rd, .ref fr, .ref wr, .ref pf, .ref rc, .ref se, .ref rs, .ref sw, .ref sp, .ref ss, .int (zI ew), .long wc, .int (zI tr), .int (zI lf)])), (se, .inr (4, [.ref g1, .ref g2, .ref g3, .ref g4, .ref g5, .int (zI cn), .int (zI bo), .int (zI ru), .ref g6, .ref g7])), (g1, .inl (cg1, 24, .inl f1)), (g2, .inl (cg2, 24, .inl f2)), (g3, .inl (cg3, 24, .inl f3)), (g4, .inl (cg4, 24, .inl f4)), (g5, .inl (cg5, 24, .inl f5)), (g6, .inl (cg6, 24, .inl f6)), (g7, .inl (cg7, 24, .inr (.inr (.inr (.inr (fo)))))), (wr, .inr (7, [.ref w1, .int (zI wn)])), (w1, .inl (cw1, 24, .inl fw)), (fr, .inr (0, [.ref k1, .ref k2, .ref k3, .int (zI fn)])), (k3, .inl (ck3, 4, .inl fh)), (pf, .inr (1, [.ref p1, .int (zI pn)])), (p1, .inl (cp1, 4, .inl fp))] : va_W) ++ kRows pr gp cy) s.heap.size = A at hD ⊢
  have hA : ∀ q : Nat, s.heap.size ≤ q → A q := fun q h => by rw [← hAe]; exact Or.inr h
  have hS : va_S A s.heap s.heap [] := va_S.rf
  have hP : va_P D vwCl (([(h0, .inr (8, [.ref sh, .ref rd, .ref fr, .ref wr, .ref pf, .ref rc, .ref se, .ref rs, .ref sw, .ref sp, .ref ss, .int (zI ew), .long wc, .int (zI tr), .int (zI lf)])), (se, .inr (4, [.ref g1, .ref g2, .ref g3, .ref g4, .ref g5, .int (zI cn), .int (zI bo), .int (zI ru), .ref g6, .ref g7])), (g1, .inl (cg1, 24, .inl f1)), (g2, .inl (cg2, 24, .inl f2)), (g3, .inl (cg3, 24, .inl f3)), (g4, .inl (cg4, 24, .inl f4)), (g5, .inl (cg5, 24, .inl f5)), (g6, .inl (cg6, 24, .inl f6)), (g7, .inl (cg7, 24, .inr (.inr (.inr (.inr (fo)))))), (wr, .inr (7, [.ref w1, .int (zI wn)])), (w1, .inl (cw1, 24, .inl fw)), (fr, .inr (0, [.ref k1, .ref k2, .ref k3, .int (zI fn)])), (k3, .inl (ck3, 4, .inl fh)), (pf, .inr (1, [.ref p1, .int (zI pn)])), (p1, .inl (cp1, 4, .inl fp))] : va_W) ++ kRows pr gp cy) s.heap := hP
  have hl := lv_entry ([.ref h0]) (n := 1) (Nat.le_of_ble_eq_true rfl)
  rw [lg_entry_eq]
  generalize (lg_sl ([.ref h0]) ++ List.replicate (1 - (lg_sl ([.ref h0])).length) Slot.unset).toArray = ls at hl ⊢
  have hl : lv_has ls 1 [(0, .ref h0)] := hl
  refine lv_aload_n hx hb dX8_settle_0 rfl (lv_at hl 0 rfl) ?_
  refine va_get (D := D) (ci := 8) (v := .ref se) (C := RX8) (T := TX8) (N := 15) hx hb hts (fun _ h9 => List.mem_cons_of_mem _ (List.mem_append_left _ (List.mem_append_left _ (List.mem_append_left _ (List.mem_append_left _ (List.mem_append_right _ h9)))))) hown hK hP 0 rfl rfl 6 (by decide) (hts (.fieldLink RX8 56 "FontRuns" "setting" "LFontRuns$Setting;") mw_X8_settle_b_0) (fun _ h9 => h9) rfl dX8_settle_1 ?_
  refine lv_aload_n hx hb dX8_settle_4 rfl (lv_at hl 0 rfl) ?_
  refine va_get (D := D) (ci := 8) (v := .ref wr) (C := RX8) (T := TX8) (N := 15) hx hb hts (fun _ h9 => List.mem_cons_of_mem _ (List.mem_append_left _ (List.mem_append_left _ (List.mem_append_left _ (List.mem_append_left _ (List.mem_append_right _ h9)))))) hown hK hP 0 rfl rfl 3 (by decide) (hts (.fieldLink RX8 35 "FontRuns" "writing" "LFontRuns$Writing;") mw_X8_settle_b_1) (fun _ h9 => h9) rfl dX8_settle_5 ?_
  refine lv_aload_n hx hb dX8_settle_8 rfl (lv_at hl 0 rfl) ?_
  refine va_get (D := D) (ci := 8) (v := .ref fr) (C := RX8) (T := TX8) (N := 15) hx hb hts (fun _ h9 => List.mem_cons_of_mem _ (List.mem_append_left _ (List.mem_append_left _ (List.mem_append_left _ (List.mem_append_left _ (List.mem_append_right _ h9)))))) hown hK hP 0 rfl rfl 2 (by decide) (hts (.fieldLink RX8 28 "FontRuns" "fontRow" "LFontRuns$FontRow;") mw_X8_settle_b_2) (fun _ h9 => h9) rfl dX8_settle_9 ?_
  refine lv_aload_n hx hb dX8_settle_12 rfl (lv_at hl 0 rfl) ?_
  refine va_get (D := D) (ci := 8) (v := .ref pf) (C := RX8) (T := TX8) (N := 15) hx hb hts (fun _ h9 => List.mem_cons_of_mem _ (List.mem_append_left _ (List.mem_append_left _ (List.mem_append_left _ (List.mem_append_left _ (List.mem_append_right _ h9)))))) hown hK hP 0 rfl rfl 4 (by decide) (hts (.fieldLink RX8 42 "FontRuns" "preference" "LFontRuns$Preference;") mw_X8_settle_b_3) (fun _ h9 => h9) rfl dX8_settle_13 ?_
  refine lv_aload_n hx hb dX8_settle_16 rfl (lv_at hl 0 rfl) ?_
  refine va_get (D := D) (ci := 8) (v := .ref fr) (C := RX8) (T := TX8) (N := 15) hx hb hts (fun _ h9 => List.mem_cons_of_mem _ (List.mem_append_left _ (List.mem_append_left _ (List.mem_append_left _ (List.mem_append_left _ (List.mem_append_right _ h9)))))) hown hK hP 0 rfl rfl 2 (by decide) (hts (.fieldLink RX8 28 "FontRuns" "fontRow" "LFontRuns$FontRow;") mw_X8_settle_b_2) (fun _ h9 => h9) rfl dX8_settle_17 ?_
  refine k_callP (va_runV (As := []) (rest := [.ref pf, .ref fr, .ref wr, .ref se]) ⟨hx, hb, hml, hown, hts⟩ (c_X0_all_b l D s.heap.size (h0 := fr) (k1 := k1) (k2 := k2) (k3 := k3) (n := fn) q1) (cwV 0 hts gX8_settle_X0_all rfl rfl rfl (by decide +kernel) ⟨Nat.le_of_ble_eq_true rfl, Nat.le_of_ble_eq_true rfl⟩) (kPreV hP (kD0 hD) hK hN [11] [] ax_X8_settle_b_0 rfl (by decide +kernel) 11 0 rfl rfl) rfl rfl hl.1 rfl (lv_room (Nat.le_of_ble_eq_true rfl)) dX8_settle_20 ⟨Nat.le_of_ble_eq_true rfl, Nat.le_of_ble_eq_true rfl⟩) (fun z_1 rz_1 h_2 => ?_)
  have hFc := va_freeP (cx := [(se, .inr (4, [.ref g1, .ref g2, .ref g3, .ref g4, .ref g5, .int (zI cn), .int (zI bo), .int (zI ru), .ref g6, .ref g7])), (g1, .inl (cg1, 24, .inl f1)), (g2, .inl (cg2, 24, .inl f2)), (g3, .inl (cg3, 24, .inl f3)), (g4, .inl (cg4, 24, .inl f4)), (g5, .inl (cg5, 24, .inl f5)), (g6, .inl (cg6, 24, .inl f6)), (g7, .inl (cg7, 24, .inr (.inr (.inr (.inr (fo)))))), (wr, .inr (7, [.ref w1, .int (zI wn)])), (w1, .inl (cw1, 24, .inl fw)), (fr, .inr (0, [.ref k1, .ref k2, .ref k3, .int (zI fn)])), (k3, .inl (ck3, 4, .inl fh)), (pf, .inr (1, [.ref p1, .int (zI pn)])), (p1, .inl (cp1, 4, .inl fp))]) hD hS hA [1, 2, 3, 4, 5, 6, 7, 8, 9, 10, 11, 12, 13, 14] ax_X8_settle_b_1
  refine va_callv (va_runV (As := [.ref wr, .ref fr, .ref pf, .int (zI z_1)]) (rest := []) ⟨hx, hb, hml, hown, hts⟩ (c_X4_make_b l D s.heap.size (wr := wr) (fr := fr) (pf := pf) (al := z_1) (h0 := se) (g1 := g1) (g2 := g2) (g3 := g3) (g4 := g4) (g5 := g5) (cn := cn) (bo := bo) (ru := ru) (g6 := g6) (g7 := g7) (cg1 := cg1) (f1 := f1) (cg2 := cg2) (f2 := f2) (cg3 := cg3) (f3 := f3) (cg4 := cg4) (f4 := f4) (cg5 := cg5) (f5 := f5) (cg6 := cg6) (f6 := f6) (cg7 := cg7) (fo := fo) (o := o) (w1 := w1) (wn := wn) (cw1 := cw1) (fw := fw) (k1 := k1) (k2 := k2) (k3 := k3) (n := fn) (ck3 := ck3) (fh := fh) (p1 := p1) (pn := pn) (cp1 := cp1) (fp := fp) (pr := pr) (gp := gp) (cy := cy) (by omega) q0 q1 q2 q3 q4 q5) (cwV 4 hts gX8_settle_X4_make rfl rfl rfl (by decide +kernel) ⟨Nat.le_of_ble_eq_true rfl, Nat.le_of_ble_eq_true rfl⟩) (kPreVP hP (kD0 hD) hK hN [1, 2, 3, 4, 5, 6, 7, 8, 9, 10, 11, 12, 13, 14] [0, 1, 2, 3, 4, 5, 6, 7, 8, 9, 10] ax_X8_settle_b_1 rfl (by decide +kernel) 1 4 rfl rfl) rfl rfl hl.1 rfl (lv_room (Nat.le_of_ble_eq_true rfl)) dX8_settle_23 ⟨Nat.le_of_ble_eq_true rfl, Nat.le_of_ble_eq_true rfl⟩) hS (fun q _ h => hFc q h) hFc (fun u t H1 locs ht hvm hw hB hz1 hk1 hS => ?_)
  refine Exists.elim hB (fun uc_3 hB1 => Exists.elim hB1 (fun ub_4 hB2 => Exists.elim hB2 (fun ur_5 hB3 => Exists.elim hB3 (fun v1_6 hB4 => Exists.elim hB4 (fun v2_7 hB5 => Exists.elim hB5 (fun v3_8 hB6 => Exists.elim hB6 (fun v4_9 hB7 => Exists.elim hB7 (fun v5_10 hB8 => Exists.elim hB8 (fun v6_11 hB9 => Exists.elim hB9 (fun ug_12 hB10 => ?_))))))))))
  have h_13 := hB10.1
  have h_14 := hB10.2.1
  have h_15 := hB10.2.2.1
  have h_16 := hB10.2.2.2.1
  have h_17 := hB10.2.2.2.2.1
  have h_18 := hB10.2.2.2.2.2.1
  have h_19 := hB10.2.2.2.2.2.2.1
  have h_20 := hB10.2.2.2.2.2.2.2.1
  have h_21 := hB10.2.2.2.2.2.2.2.2.1
  have h_22 := hB10.2.2.2.2.2.2.2.2.2.1
  have hP1 := hB10.2.2.2.2.2.2.2.2.2.2.1
  have hD1 := hB10.2.2.2.2.2.2.2.2.2.2.2
  clear hB hB1 hB2 hB3 hB4 hB5 hB6 hB7 hB8 hB9 hB10
  rw [ht] at hP1
  obtain ⟨hP, hD⟩ := va_joinP (X := [(h0, .inr (8, [.ref sh, .ref rd, .ref fr, .ref wr, .ref pf, .ref rc, .ref se, .ref rs, .ref sw, .ref sp, .ref ss, .int (zI ew), .long wc, .int (zI tr), .int (zI lf)])), (se, .inr (4, [.ref g1, .ref g2, .ref g3, .ref g4, .ref g5, .int (zI cn), .int (zI bo), .int (zI ru), .ref g6, .ref g7])), (g1, .inl (cg1, 24, .inl f1)), (g2, .inl (cg2, 24, .inl f2)), (g3, .inl (cg3, 24, .inl f3)), (g4, .inl (cg4, 24, .inl f4)), (g5, .inl (cg5, 24, .inl f5)), (g6, .inl (cg6, 24, .inl f6)), (g7, .inl (cg7, 24, .inr (.inr (.inr (.inr (fo)))))), (wr, .inr (7, [.ref w1, .int (zI wn)])), (w1, .inl (cw1, 24, .inl fw)), (fr, .inr (0, [.ref k1, .ref k2, .ref k3, .int (zI fn)])), (k3, .inl (ck3, 4, .inl fh)), (pf, .inr (1, [.ref p1, .int (zI pn)])), (p1, .inl (cp1, 4, .inl fp))]) (wr := [(h0, .inr (8, [.ref sh, .ref rd, .ref fr, .ref wr, .ref pf, .ref rc, .ref se, .ref rs, .ref sw, .ref sp, .ref ss, .int (zI ew), .long wc, .int (zI tr), .int (zI lf)]))]) (rx := [(se, .inr (4, [.ref g1, .ref g2, .ref g3, .ref g4, .ref g5, .int (zI uc_3), .int (zI ub_4), .int (zI ur_5), .ref g6, .ref g7])), (g1, .inl (cg1, 24, .inl v1_6)), (g2, .inl (cg2, 24, .inl v2_7)), (g3, .inl (cg3, 24, .inl v3_8)), (g4, .inl (cg4, 24, .inl v4_9)), (g5, .inl (cg5, 24, .inl v5_10)), (g6, .inl (cg6, 24, .inl v6_11)), (g7, .inl (cg7, 24, .inr (.inr (.inr (.inr (fo)))))), (wr, .inr (7, [.ref w1, .int (zI wn)])), (w1, .inl (cw1, 24, .inl fw)), (fr, .inr (0, [.ref k1, .ref k2, .ref k3, .int (zI fn)])), (k3, .inl (ck3, 4, .inl fh)), (pf, .inr (1, [.ref p1, .int (zI pn)])), (p1, .inl (cp1, 4, .inl fp))]) hP hD [1, 2, 3, 4, 5, 6, 7, 8, 9, 10, 11, 12, 13, 14] [0] ax_X8_settle_b_1 ax_X8_settle_b_2 (by decide +kernel) (by decide +kernel) hk1 hFc hP1 hD1
  have hP := ax_X8_settle_b_3 hP
  have hD := ax_X8_settle_b_4 hD
  generalize H1 = H at hP hS ⊢
  have hP : va_P D vwCl (([(h0, .inr (8, [.ref sh, .ref rd, .ref fr, .ref wr, .ref pf, .ref rc, .ref se, .ref rs, .ref sw, .ref sp, .ref ss, .int (zI ew), .long wc, .int (zI tr), .int (zI lf)])), (se, .inr (4, [.ref g1, .ref g2, .ref g3, .ref g4, .ref g5, .int (zI uc_3), .int (zI ub_4), .int (zI ur_5), .ref g6, .ref g7])), (g1, .inl (cg1, 24, .inl v1_6)), (g2, .inl (cg2, 24, .inl v2_7)), (g3, .inl (cg3, 24, .inl v3_8)), (g4, .inl (cg4, 24, .inl v4_9)), (g5, .inl (cg5, 24, .inl v5_10)), (g6, .inl (cg6, 24, .inl v6_11)), (g7, .inl (cg7, 24, .inr (.inr (.inr (.inr (fo)))))), (wr, .inr (7, [.ref w1, .int (zI wn)])), (w1, .inl (cw1, 24, .inl fw)), (fr, .inr (0, [.ref k1, .ref k2, .ref k3, .int (zI fn)])), (k3, .inl (ck3, 4, .inl fh)), (pf, .inr (1, [.ref p1, .int (zI pn)])), (p1, .inl (cp1, 4, .inl fp))] : va_W) ++ kRows pr ug_12 cy) H := hP
  have hD : va_D A (([(h0, .inr (8, [.ref sh, .ref rd, .ref fr, .ref wr, .ref pf, .ref rc, .ref se, .ref rs, .ref sw, .ref sp, .ref ss, .int (zI ew), .long wc, .int (zI tr), .int (zI lf)])), (se, .inr (4, [.ref g1, .ref g2, .ref g3, .ref g4, .ref g5, .int (zI uc_3), .int (zI ub_4), .int (zI ur_5), .ref g6, .ref g7])), (g1, .inl (cg1, 24, .inl v1_6)), (g2, .inl (cg2, 24, .inl v2_7)), (g3, .inl (cg3, 24, .inl v3_8)), (g4, .inl (cg4, 24, .inl v4_9)), (g5, .inl (cg5, 24, .inl v5_10)), (g6, .inl (cg6, 24, .inl v6_11)), (g7, .inl (cg7, 24, .inr (.inr (.inr (.inr (fo)))))), (wr, .inr (7, [.ref w1, .int (zI wn)])), (w1, .inl (cw1, 24, .inl fw)), (fr, .inr (0, [.ref k1, .ref k2, .ref k3, .int (zI fn)])), (k3, .inl (ck3, 4, .inl fh)), (pf, .inr (1, [.ref p1, .int (zI pn)])), (p1, .inl (cp1, 4, .inl fp))] : va_W) ++ kRows pr ug_12 cy) := hD
  have hP9 : va_P D vwCl (([(h0, .inr (8, [.ref sh, .ref rd, .ref fr, .ref wr, .ref pf, .ref rc, .ref se, .ref rs, .ref sw, .ref sp, .ref ss, .int (zI ew), .long wc, .int (zI tr), .int (zI lf)])), (se, .inr (4, [.ref g1, .ref g2, .ref g3, .ref g4, .ref g5, .int (zI uc_3), .int (zI ub_4), .int (zI ur_5), .ref g6, .ref g7])), (g1, .inl (cg1, 24, .inl v1_6)), (g2, .inl (cg2, 24, .inl v2_7)), (g3, .inl (cg3, 24, .inl v3_8)), (g4, .inl (cg4, 24, .inl v4_9)), (g5, .inl (cg5, 24, .inl v5_10)), (g6, .inl (cg6, 24, .inl v6_11)), (g7, .inl (cg7, 24, .inr (.inr (.inr (.inr (fo)))))), (wr, .inr (7, [.ref w1, .int (zI wn)])), (w1, .inl (cw1, 24, .inl fw)), (fr, .inr (0, [.ref k1, .ref k2, .ref k3, .int (zI fn)])), (k3, .inl (ck3, 4, .inl fh)), (pf, .inr (1, [.ref p1, .int (zI pn)])), (p1, .inl (cp1, 4, .inl fp))] : va_W) ++ kRows pr ug_12 cy) H := hP.part [0, 1, 2, 3, 4, 5, 6, 7, 8, 9, 10, 11, 12, 13, 14] ax_X8_settle_b_5
  have hD9 : va_D A (([(h0, .inr (8, [.ref sh, .ref rd, .ref fr, .ref wr, .ref pf, .ref rc, .ref se, .ref rs, .ref sw, .ref sp, .ref ss, .int (zI ew), .long wc, .int (zI tr), .int (zI lf)])), (se, .inr (4, [.ref g1, .ref g2, .ref g3, .ref g4, .ref g5, .int (zI uc_3), .int (zI ub_4), .int (zI ur_5), .ref g6, .ref g7])), (g1, .inl (cg1, 24, .inl v1_6)), (g2, .inl (cg2, 24, .inl v2_7)), (g3, .inl (cg3, 24, .inl v3_8)), (g4, .inl (cg4, 24, .inl v4_9)), (g5, .inl (cg5, 24, .inl v5_10)), (g6, .inl (cg6, 24, .inl v6_11)), (g7, .inl (cg7, 24, .inr (.inr (.inr (.inr (fo)))))), (wr, .inr (7, [.ref w1, .int (zI wn)])), (w1, .inl (cw1, 24, .inl fw)), (fr, .inr (0, [.ref k1, .ref k2, .ref k3, .int (zI fn)])), (k3, .inl (ck3, 4, .inl fh)), (pf, .inr (1, [.ref p1, .int (zI pn)])), (p1, .inl (cp1, 4, .inl fp))] : va_W) ++ kRows pr ug_12 cy) := hD.part [0, 1, 2, 3, 4, 5, 6, 7, 8, 9, 10, 11, 12, 13, 14] (by decide +kernel) ax_X8_settle_b_5
  exact W.vret hx hb hr (fun t ht hW => kQV_of ⟨uc_3, ub_4, ur_5, v1_6, v2_7, v3_8, v4_9, v5_10, v6_11, ug_12, h_13, h_14, h_15, ⟨v6_11, ug_12, o, z_1, (kAw9 h_2), h_16, h_17, h_18, h_19, h_20, h_21, h_22⟩, by rw [ht]; exact hP9, hD9⟩ (hS.F ht)) hS.2.2 dX8_settle_26
