/-! PREFERENCE: the first place of a FONT; it comes first -/
def kNo (f : Nat → Int32) (x j : Int) : Prop := ∀ i : Nat, (i : Int) < j → ¬ f i = zI x
theorem kNo_0 {f : Nat → Int32} {x : Int} : kNo f x 0 := fun i h => by omega
theorem kNo_s {f : Nat → Int32} {x j z : Int} (h : kNo f x j) (h0 : 0 ≤ j) (rz : rg z) (rx : rg x) (e : f j.toNat = zI z) (ne : ¬ z = x) : kNo f x (j + 1) := by
  intro i hi
  by_cases q : i = j.toNat
  · subst q
    rw [e]
    exact fun c => ne ((zI_eq rz rx).mp c)
  · exact h i (by omega)
def kPl (f : Nat → Int32) (n x w : Int) : Prop := (w = -9 ∧ kNo f x n) ∨ ((0 ≤ w ∧ w < n) ∧ f w.toNat = zI x ∧ kNo f x w)
theorem kPl_1 {f : Nat → Int32} {n x w j : Int} (h : kNo f x j) (e : n ≤ j) (ew : w = -9) : kPl f n x w := Or.inl ⟨ew, fun i hi => h i (by omega)⟩
theorem kPl_2 {f : Nat → Int32} {n x j z : Int} (h : kNo f x j) (hj : 0 ≤ j ∧ j < n) (e : f j.toNat = zI z) (ez : z = x) : kPl f n x j := Or.inr ⟨hj, by rw [e, ez], h⟩
def kLd (f : Nat → Int32) (n x : Int) (g : Nat → Int32) (r : Int) : Prop := (r = 0 ∧ g = f ∧ kPl f n x (-9)) ∨ (r = 1 ∧ ∃ w : Int, (0 ≤ w ∧ w < n) ∧ kPl f n x w ∧ g = upd (kMv f w 0) 0 (zI x))
theorem kLd_1 {f : Nat → Int32} {n x w r : Int} (h : kPl f n x w) (e : w = -9) (er : r = 0) : kLd f n x f r := Or.inl ⟨er, rfl, e ▸ h⟩
theorem kLd_2 {f g a : Nat → Int32} {n x w r j : Int} (h : kPl f n x w) (hw : 0 ≤ w ∧ w < n) (er : r = 1) (ea : a = kMv f w j) (ej : j = 0) (eg : upd a 0 (zI x) = g) : kLd f n x g r := Or.inr ⟨er, w, hw, h, by rw [← eg, ea, ej]⟩
theorem kLd_0 {f : Nat → Int32} {n x w : Int} {g : Nat → Int32} {r : Int} (h : kLd f n x g r) (hw : 0 ≤ w ∧ w < n) (e : f w.toNat = zI x) (no : kNo f x w) : g = upd (kMv f w 0) 0 (zI x) := by
  rcases h with ⟨-, -, q⟩ | ⟨-, v, h1, h2, h3⟩
  · rcases q with ⟨-, q⟩ | ⟨q, -⟩
    · exact absurd e (q w.toNat (by omega))
    · omega
  · have ev : v = w := by
      rcases h2 with ⟨q, -⟩ | ⟨-, q2, q3⟩
      · omega
      · rcases Int.lt_trichotomy v w with c | c | c
        · exact absurd q2 (no v.toNat (by omega))
        · exact c
        · exact absurd e (q3 w.toNat (by omega))
    rw [h3, ev]
theorem kPl_0 {f : Nat → Int32} {n x w v : Int} (h : kPl f n x v) (hw : 0 ≤ w ∧ w < n) (e : f w.toNat = zI x) (no : kNo f x w) : v = w := by
  rcases h with ⟨-, q⟩ | ⟨q1, q2, q3⟩
  · exact absurd e (q w.toNat (by omega))
  · rcases Int.lt_trichotomy v w with c | c | c
    · exact absurd q2 (no v.toNat (by omega))
    · exact c
    · exact absurd e (q3 w.toNat (by omega))
theorem kNo_eq {f g : Nat → Int32} {x w n : Int} (h : kNo g x w) (e : kEq f g n) (hw : w ≤ n) : kNo f x w := fun i hi c => h i hi (by rw [← e i (by omega)]; exact c)
theorem kMv_eq {f g : Nat → Int32} {x w n : Int} (e : kEq f g n) (hw : w < n) : kEq (upd (kMv f w 0) 0 (zI x)) (upd (kMv g w 0) 0 (zI x)) n := by
  intro i hi
  by_cases c : i = 0
  · subst c
    rw [pk_us, pk_us]
  · rw [pk_un c, pk_un c]
    unfold kMv
    by_cases q : (0 : Int) < (i : Int) ∧ (i : Int) ≤ w
    · rw [if_pos q, if_pos q]
      exact e (i - 1) (by omega)
    · rw [if_neg q, if_neg q]
      exact e i hi
def kPrX (f fn pn : Int) (fp fp2 : Nat → Int32) (rn rn2 : Int) (fy fy2 : Nat → Int32) (r : Int) : Prop := (¬ (0 ≤ f ∧ f < fn) ∧ r = -1 ∧ fp2 = fp ∧ rn2 = rn ∧ fy2 = fy) ∨ ((0 ≤ f ∧ f < fn) ∧ kPl fp pn f r ∧ (∃ q : Int, kLd fp pn f fp2 q) ∧ ((rn ≤ 4 ∧ rn2 = rn + 1) ∨ (rn = 5 ∧ rn2 = 5)) ∧ fy2 = upd (kMv fy 4 0) 0 (zI f))
def kPrM (f fn : Int) (pf pf2 lt lt2 : Nat → Int32) (r : Int) : Prop := (¬ (0 ≤ f ∧ f < fn) ∧ r = -1 ∧ pf2 = pf ∧ lt2 = lt) ∨ ((0 ≤ f ∧ f < fn) ∧ ((0 ≤ r ∧ r < fn) ∧ pf r.toNat = zI f ∧ kNo pf f r) ∧ pf2 = upd (kMv pf r 0) 0 (zI f) ∧ lt2 = upd (kMv lt 4 0) 0 (zI f))
theorem kPr_rel {f fn mf pn rn rn2 rx rm : Int} {fk fb fh kd wd hs fp fp2 pf pf2 fy fy2 lt lt2 : Nat → Int32} (hx : kPrX f fn pn fp fp2 rn rn2 fy fy2 rx) (hm : kPrM f mf pf pf2 lt lt2 rm) (r1 : kRF fn fk fb fh mf kd wd hs) (r2 : kRP pn fp fn pf) (r3 : kRL fn rn fy lt) (hr : 0 ≤ rn ∧ rn ≤ 5) : rx = rm ∧ kRP pn fp2 fn pf2 ∧ kRL fn rn2 fy2 lt2 := by
  obtain ⟨rfl, -⟩ := r1
  obtain ⟨rfl, r5⟩ := r2
  rcases hx with ⟨a1, a2, rfl, rfl, rfl⟩ | ⟨a1, a2, ⟨q, a3⟩, a4, a5⟩
  · rcases hm with ⟨b1, b2, rfl, rfl⟩ | ⟨b1, -⟩
    · exact ⟨by omega, ⟨rfl, r5⟩, r3⟩
    · exact absurd b1 a1
  · rcases hm with ⟨b1, -⟩ | ⟨b1, ⟨b2, b3, b4⟩, b5, b6⟩
    · exact absurd a1 b1
    · have e1 : fp rm.toNat = zI f := by rw [r5 rm.toNat (by omega)]; exact b3
      have n1 := kNo_eq b4 r5 (by omega)
      refine ⟨kPl_0 a2 b2 e1 n1, ⟨rfl, ?_⟩, fun c => by omega, fun c i hi => ?_⟩
      · rw [kLd_0 a3 b2 e1 n1, b5]
        exact kMv_eq r5 b2.2
      · rw [b6, a5]
        by_cases c0 : i = 0
        · subst c0
          rw [pk_us, pk_us, if_pos (by omega)]
        · rw [pk_un c0, pk_un c0]
          unfold kMv
          have k1 : (0 : Int) < (i : Int) ∧ (i : Int) ≤ 4 := by omega
          rw [if_pos k1, if_pos k1, r3.2 c (i - 1) (by omega)]
          by_cases c1 : ((i - 1 : Nat) : Int) < rn
          · rw [if_pos c1, if_pos (by omega)]
          · rw [if_neg c1, if_neg (by omega)]
/-! answers that read what is common -/
def kLe (k n : Int) (f : Nat → Int32) (r : Int) : Prop := (¬ (0 ≤ k ∧ k < n) ∧ r = -1) ∨ ((0 ≤ k ∧ k < n) ∧ zI r = f k.toNat)
theorem kLe_eq {k n m rx rm : Int} {f g : Nat → Int32} (hx : kLe k n f rx) (hm : kLe k m g rm) (h : kRW n f m g) (g1 : rg rx) (g2 : rg rm) : rx = rm := by
  obtain ⟨rfl, h⟩ := h
  rcases hx with ⟨a1, a2⟩ | ⟨a1, a2⟩
  · rcases hm with ⟨b1, b2⟩ | ⟨b1, b2⟩
    · omega
    · exact absurd b1 a1
  · rcases hm with ⟨b1, b2⟩ | ⟨b1, b2⟩
    · exact absurd a1 b1
    · exact (zI_eq g1 g2).mp (by rw [a2, b2, h k.toNat (by omega)])
def kLaX (k rn : Int) (fy : Nat → Int32) (r : Int) : Prop := (¬ (0 ≤ k ∧ k ≤ 4) ∧ r = -2) ∨ ((0 ≤ k ∧ k ≤ 4) ∧ ((k < rn ∧ zI r = fy k.toNat) ∨ (rn ≤ k ∧ r = -9)))
def kLaM (k fn : Int) (lt : Nat → Int32) (r : Int) : Prop := (¬ (0 ≤ k ∧ k ≤ 4) ∧ r = -2) ∨ ((0 ≤ k ∧ k ≤ 4) ∧ ((fn = 0 ∧ r = -9) ∨ (¬ fn = 0 ∧ zI r = lt k.toNat)))
theorem kLa_eq {k fn mf rn rx rm : Int} {fy lt : Nat → Int32} (hx : kLaX k rn fy rx) (hm : kLaM k mf lt rm) (e : fn = mf) (h : kRL fn rn fy lt) (g1 : rg rx) (g2 : rg rm) : rx = rm := by
  subst e
  rcases hx with ⟨a1, a2⟩ | ⟨a1, a2⟩
  · rcases hm with ⟨b1, b2⟩ | ⟨b1, b2⟩
    · omega
    · exact absurd b1 a1
  · rcases hm with ⟨b1, b2⟩ | ⟨b1, b2⟩
    · exact absurd a1 b1
    · rcases b2 with ⟨c1, c2⟩ | ⟨c1, c2⟩
      · have := h.1 c1
        omega
      · have q := h.2 c1 k.toNat (by omega)
        rcases a2 with ⟨d1, d2⟩ | ⟨d1, d2⟩
        · rw [if_pos (by omega)] at q
          exact (zI_eq g1 g2).mp (by rw [d2, c2, q])
        · rw [if_neg (by omega)] at q
          exact (zI_eq g1 g2).mp (by rw [c2, q, d2])
/-! tell, sample, as -/
def kLv (t x : Int32) : Int32 := zI 31 * t + x
theorem kLv_of {t x z : Int} (e : zI (31 * t + x) = zI z) : zI z = kLv (zI t) (zI x) := by
  rw [← e, ← zI_add, ← zI_mul]
  rfl
def kTe (f fn : Int) (kd wd : Nat → Int32) (t t2 r : Int) : Prop := (¬ (0 ≤ f ∧ f < fn) ∧ r = -1 ∧ t2 = t) ∨ ((0 ≤ f ∧ f < fn) ∧ ((kd f.toNat = zI 2 ∧ zI t2 = kLv (kLv (kLv (kLv (zI t) (zI 3)) (zI 2)) (zI 1)) (zI 1) ∧ zI r = wd f.toNat + wd f.toNat + zI 100) ∨ (kd f.toNat = zI 1 ∧ zI t2 = kLv (kLv (zI t) (zI 2)) (zI 1) ∧ zI r = wd f.toNat + zI 100) ∨ (¬ kd f.toNat = zI 2 ∧ ¬ kd f.toNat = zI 1 ∧ zI t2 = kLv (zI t) (zI 1) ∧ zI r = wd f.toNat)))
section
variable {f fn t t2 r zk zw v : Int} {kd wd : Nat → Int32}
theorem kTe_0 (h : ¬ (0 ≤ f ∧ f < fn)) (e : r = -1) : kTe f fn kd wd t t r := Or.inl ⟨h, e, rfl⟩
theorem kTe_2 (h : 0 ≤ f ∧ f < fn) (ek : kd f.toNat = zI zk) (ck : zk = 2) (ew : wd f.toNat = zI zw) (et : zI t2 = kLv (kLv (kLv (kLv (zI t) (zI 3)) (zI 2)) (zI 1)) (zI 1)) (er : zI r = zI v) (ev : v = zw + zw + 100) : kTe f fn kd wd t t2 r := Or.inr ⟨h, Or.inl ⟨by rw [ek, ck], et, by rw [er, ev, ew, zI_add, zI_add]⟩⟩
theorem kTe_1 (h : 0 ≤ f ∧ f < fn) (ek : kd f.toNat = zI zk) (ck : zk = 1) (ew : wd f.toNat = zI zw) (et : zI t2 = kLv (kLv (zI t) (zI 2)) (zI 1)) (er : zI r = zI v) (ev : v = zw + 100) : kTe f fn kd wd t t2 r := Or.inr ⟨h, Or.inr (Or.inl ⟨by rw [ek, ck], et, by rw [er, ev, ew, zI_add]⟩)⟩
theorem kTe_3 (h : 0 ≤ f ∧ f < fn) (ek : kd f.toNat = zI zk) (rk : rg zk) (ck : ¬ zk = 1 ∧ ¬ zk = 2) (ew : wd f.toNat = zI zw) (et : zI t2 = kLv (zI t) (zI 1)) (er : zI r = zI v) (ev : v = zw) : kTe f fn kd wd t t2 r := Or.inr ⟨h, Or.inr (Or.inr ⟨by rw [ek, zI_eq rk (by omega)]; exact ck.2, by rw [ek, zI_eq rk (by omega)]; exact ck.1, et, by rw [er, ev, ew]⟩)⟩
end
theorem kTe_rel {f fn mf t t2 tm tm2 rx rm : Int} {fk fb fh kd wd hs : Nat → Int32} (hx : kTe f fn fk fb t t2 rx) (hm : kTe f mf kd wd tm tm2 rm) (r1 : kRF fn fk fb fh mf kd wd hs) (e : t = tm) (g1 : rg t2) (g2 : rg tm2) (g3 : rg rx) (g4 : rg rm) : rx = rm ∧ t2 = tm2 := by
  obtain ⟨rfl, q1, q2, -, -⟩ := r1
  subst e
  rcases hx with ⟨a1, a2, a3⟩ | ⟨a1, a2⟩
  · rcases hm with ⟨b1, b2, b3⟩ | ⟨b1, b2⟩
    · exact ⟨by omega, by omega⟩
    · exact absurd b1 a1
  · rcases hm with ⟨b1, b2, b3⟩ | ⟨b1, b2⟩
    · exact absurd a1 b1
    · rw [← q1 f.toNat (by omega), ← q2 f.toNat (by omega)] at b2
      rcases a2 with ⟨c1, c2, c3⟩ | ⟨c1, c2, c3⟩ | ⟨c1, c0, c2, c3⟩
      · rcases b2 with ⟨d1, d2, d3⟩ | ⟨d1, d2, d3⟩ | ⟨d1, d0, d2, d3⟩
        · exact ⟨(zI_eq g3 g4).mp (by rw [c3, d3]), (zI_eq g1 g2).mp (by rw [c2, d2])⟩
        · rw [c1] at d1
          exact absurd d1 (by decide +kernel)
        · exact absurd c1 d1
      · rcases b2 with ⟨d1, d2, d3⟩ | ⟨d1, d2, d3⟩ | ⟨d1, d0, d2, d3⟩
        · rw [c1] at d1
          exact absurd d1 (by decide +kernel)
        · exact ⟨(zI_eq g3 g4).mp (by rw [c3, d3]), (zI_eq g1 g2).mp (by rw [c2, d2])⟩
        · exact absurd c1 d0
      · rcases b2 with ⟨d1, d2, d3⟩ | ⟨d1, d2, d3⟩ | ⟨d1, d0, d2, d3⟩
        · exact absurd d1 c1
        · exact absurd d1 c0
        · exact ⟨(zI_eq g3 g4).mp (by rw [c3, d3]), (zI_eq g1 g2).mp (by rw [c2, d2])⟩
def kSaX (f fn : Int) (kd hs : Nat → Int32) (t t2 r : Int) : Prop := (¬ (0 ≤ f ∧ f < fn) ∧ r = -1 ∧ t2 = t) ∨ ((0 ≤ f ∧ f < fn) ∧ (((kd f.toNat).toInt = 2 ∧ zI t2 = kLv (zI t) (zI 5) ∧ r = 50) ∨ (¬ (kd f.toNat).toInt = 2 ∧ zI t2 = kLv (zI t) (zI 4) ∧ zI r = kBc (hs f.toNat))))
def kSaM (f fn : Int) (kd hs : Nat → Int32) (t t2 r : Int) : Prop := (¬ (0 ≤ f ∧ f < fn) ∧ r = -1 ∧ t2 = t) ∨ ((0 ≤ f ∧ f < fn) ∧ (((kd f.toNat).toInt = 2 ∧ zI t2 = kLv (zI t) (zI 5) ∧ r = 50) ∨ (¬ (kd f.toNat).toInt = 2 ∧ zI t2 = kLv (zI t) (zI 4) ∧ ((0 ≤ (hs f.toNat).toInt ∧ (hs f.toNat).toInt < 65536) → r = kPop (hs f.toNat).toInt))))
theorem kSa_rel {f fn mf t t2 tm tm2 rx rm : Int} {fk fb fh kd wd hs : Nat → Int32} (hx : kSaX f fn fk fh t t2 rx) (hm : kSaM f mf kd hs tm tm2 rm) (r1 : kRF fn fk fb fh mf kd wd hs) (e : t = tm) (g1 : rg t2) (g2 : rg tm2) (g3 : rg rx) : rx = rm ∧ t2 = tm2 := by
  obtain ⟨rfl, q1, -, q2, q3⟩ := r1
  subst e
  rcases hx with ⟨a1, a2, a3⟩ | ⟨a1, a2⟩
  · rcases hm with ⟨b1, b2, b3⟩ | ⟨b1, b2⟩
    · exact ⟨by omega, by omega⟩
    · exact absurd b1 a1
  · rcases hm with ⟨b1, b2, b3⟩ | ⟨b1, b2⟩
    · exact absurd a1 b1
    · rw [← q1 f.toNat (by omega), ← q2 f.toNat (by omega)] at b2
      have bd := (q3 f.toNat (by omega)).2
      rcases a2 with ⟨c1, c2, c3⟩ | ⟨c1, c2, c3⟩
      · rcases b2 with ⟨d1, d2, d3⟩ | ⟨d1, d2, d3⟩
        · exact ⟨by omega, (zI_eq g1 g2).mp (by rw [c2, d2])⟩
        · exact absurd c1 d1
      · rcases b2 with ⟨d1, d2, d3⟩ | ⟨d1, d2, d3⟩
        · exact absurd d1 c1
        · refine ⟨?_, (zI_eq g1 g2).mp (by rw [c2, d2])⟩
          rw [d3 bd]
          exact kBc_pop bd g3 (by rw [zI_of]; exact c3.symm)
def kAs (f fn x : Int) (kd : Nat → Int32) (lf r : Int) : Prop := (¬ (0 ≤ f ∧ f < fn) ∧ r = -1 ∧ lf = 0) ∨ ((0 ≤ f ∧ f < fn) ∧ ¬ (0 ≤ x ∧ x ≤ 2) ∧ r = -2 ∧ lf = 0) ∨ ((0 ≤ f ∧ f < fn) ∧ (0 ≤ x ∧ x ≤ 2) ∧ x ≤ (kd f.toNat).toInt ∧ r = 1 ∧ lf = 0) ∨ ((0 ≤ f ∧ f < fn) ∧ (0 ≤ x ∧ x ≤ 2) ∧ (kd f.toNat).toInt < x ∧ r = -12 ∧ lf = 2)
theorem kAs_rel {f fn mf x lf fa rx rm : Int} {fk fb fh kd wd hs : Nat → Int32} (hx : kAs f fn x fk lf rx) (hm : kAs f mf x kd fa rm) (r1 : kRF fn fk fb fh mf kd wd hs) : rx = rm ∧ lf = fa := by
  obtain ⟨rfl, q1, -⟩ := r1
  unfold kAs at hx hm
  by_cases c : 0 ≤ f ∧ f < fn
  · rw [← q1 f.toNat (by omega)] at hm
    omega
  · omega
/-! width, ofFont -/
def kWi (f fn x : Int) (fb fb2 : Nat → Int32) (r : Int) : Prop := (¬ (0 ≤ f ∧ f < fn) ∧ r = -1 ∧ fb2 = fb) ∨ ((0 ≤ f ∧ f < fn) ∧ ¬ (1 ≤ x ∧ x ≤ 9) ∧ r = -2 ∧ fb2 = fb) ∨ ((0 ≤ f ∧ f < fn) ∧ (1 ≤ x ∧ x ≤ 9) ∧ zI r = fb f.toNat ∧ fb2 = upd fb f.toNat (zI x))
theorem kWi_rel {f fn mf x rx rm : Int} {fk fb fb2 fh kd wd wd2 hs : Nat → Int32} (hx : kWi f fn x fb fb2 rx) (hm : kWi f mf x wd wd2 rm) (r1 : kRF fn fk fb fh mf kd wd hs) (g3 : rg rx) (g4 : rg rm) : rx = rm ∧ kRF fn fk fb2 fh mf kd wd2 hs := by
  obtain ⟨rfl, q1, q2, q3, q4⟩ := r1
  rcases hx with ⟨a1, a2, rfl⟩ | ⟨a1, a2, a3, rfl⟩ | ⟨a1, a2, a3, a4⟩
  · rcases hm with ⟨b1, b2, rfl⟩ | ⟨b1, b2, b3, rfl⟩ | ⟨b1, b2, b3, b4⟩
    · exact ⟨by omega, rfl, q1, q2, q3, q4⟩
    · exact absurd b1 a1
    · exact absurd b1 a1
  · rcases hm with ⟨b1, b2, rfl⟩ | ⟨b1, b2, b3, rfl⟩ | ⟨b1, b2, b3, b4⟩
    · exact absurd a1 b1
    · exact ⟨by omega, rfl, q1, q2, q3, q4⟩
    · exact absurd b2 a2
  · rcases hm with ⟨b1, b2, rfl⟩ | ⟨b1, b2, b3, rfl⟩ | ⟨b1, b2, b3, b4⟩
    · exact absurd a1 b1
    · exact absurd a2 b2
    · refine ⟨(zI_eq g3 g4).mp (by rw [a3, b3, q2 f.toNat (by omega)]), rfl, q1, ?_, q3, q4⟩
      intro i hi
      rw [a4, b4]
      by_cases c : i = f.toNat
      · subst c
        rw [pk_us, pk_us]
      · rw [pk_un c, pk_un c]
        exact q2 i hi
def kStX (k b : Int32) : Int32 := if k = zI 2 then zI 2 * b else if k = zI 1 then b + zI 1 else b
def kStM (k b : Int32) : Int32 := if k = zI 0 then b else if k = zI 1 then b + zI 1 else zI 2 * b
theorem kSt_eq {k b : Int32} (h : 0 ≤ k.toInt ∧ k.toInt ≤ 2) : kStX k b = kStM k b := by
  obtain ⟨z, hz, rfl⟩ := zI_ex k
  rw [zI_toInt hz] at h
  unfold kStX kStM
  rcases (show z = 0 ∨ z = 1 ∨ z = 2 by omega) with rfl | rfl | rfl
  · rw [if_neg (by decide +kernel), if_neg (by decide +kernel), if_pos rfl]
  · rw [if_neg (by decide +kernel), if_pos rfl, if_neg (by decide +kernel), if_pos rfl]
  · rw [if_pos rfl, if_neg (by decide +kernel), if_neg (by decide +kernel)]
theorem kStX_2 {k b r : Int} (h : k = 2) (e : zI (2 * b) = zI r) : zI r = kStX (zI k) (zI b) := by
  unfold kStX
  rw [if_pos (by rw [h]), zI_mul, e]
theorem kStX_1 {k b r : Int} (h : k = 1) (e : zI (b + 1) = zI r) : zI r = kStX (zI k) (zI b) := by
  unfold kStX
  rw [if_neg (by rw [h]; decide +kernel), if_pos (by rw [h]), zI_add, e]
theorem kStX_0 {k b r : Int} (rk : rg k) (h : ¬ k = 2 ∧ ¬ k = 1) (e : zI b = zI r) : zI r = kStX (zI k) (zI b) := by
  unfold kStX
  rw [if_neg (by rw [zI_eq rk (by omega)]; exact h.1), if_neg (by rw [zI_eq rk (by omega)]; exact h.2), e]
theorem kStM_2 {k b r : Int} (rk : rg k) (h : ¬ k = 0 ∧ ¬ k = 1) (e : zI (2 * b) = zI r) : zI r = kStM (zI k) (zI b) := by
  unfold kStM
  rw [if_neg (by rw [zI_eq rk (by omega)]; exact h.1), if_neg (by rw [zI_eq rk (by omega)]; exact h.2), zI_mul, e]
theorem kStM_1 {k b r : Int} (h : k = 1) (e : zI (b + 1) = zI r) : zI r = kStM (zI k) (zI b) := by
  unfold kStM
  rw [if_neg (by rw [h]; decide +kernel), if_pos (by rw [h]), zI_add, e]
theorem kStM_0 {k b r : Int} (h : k = 0) (e : zI b = zI r) : zI r = kStM (zI k) (zI b) := by
  unfold kStM
  rw [if_pos (by rw [h]), e]
def kOf (f w fn : Int) (kd wd hs : Nat → Int32) (St : Int32) (Pl : Int → Prop) (r : Int) : Prop := (¬ (0 ≤ f ∧ f < fn) ∧ r = -1) ∨ ((0 ≤ f ∧ f < fn) ∧ ((w = 0 ∧ zI r = kd f.toNat) ∨ (w = 1 ∧ zI r = wd f.toNat) ∨ (w = 2 ∧ zI r = St) ∨ (w = 3 ∧ zI r = hs f.toNat) ∨ (w = 4 ∧ Pl r) ∨ (¬ (0 ≤ w ∧ w ≤ 4) ∧ r = -2)))
theorem kOf_eq {f w fn mf pn rx rm : Int} {fk fb fh kd wd hs fp pf : Nat → Int32} (hx : kOf f w fn fk fb fh (kStX (fk f.toNat) (fb f.toNat)) (kPl fp pn f) rx) (hm : kOf f w mf kd wd hs (kStM (kd f.toNat) (wd f.toNat)) (fun r => (0 ≤ r ∧ r < mf) ∧ pf r.toNat = zI f ∧ kNo pf f r) rm) (r1 : kRF fn fk fb fh mf kd wd hs) (r2 : kRP pn fp fn pf) (g3 : rg rx) (g4 : rg rm) : rx = rm := by
  obtain ⟨rfl, q1, q2, q3, q4⟩ := r1
  obtain ⟨rfl, r5⟩ := r2
  rcases hx with ⟨a1, a2⟩ | ⟨a1, a2⟩
  · rcases hm with ⟨b1, b2⟩ | ⟨b1, b2⟩
    · omega
    · exact absurd b1 a1
  · rcases hm with ⟨b1, b2⟩ | ⟨b1, b2⟩
    · exact absurd a1 b1
    · rw [← q1 f.toNat (by omega), ← q2 f.toNat (by omega), ← q3 f.toNat (by omega), ← kSt_eq (q4 f.toNat (by omega)).1] at b2
      rcases a2 with ⟨c1, c2⟩ | ⟨c1, c2⟩ | ⟨c1, c2⟩ | ⟨c1, c2⟩ | ⟨c1, c2⟩ | ⟨c1, c2⟩
      · rcases b2 with ⟨d1, d2⟩ | ⟨d1, d2⟩ | ⟨d1, d2⟩ | ⟨d1, d2⟩ | ⟨d1, d2⟩ | ⟨d1, d2⟩ <;> first | omega | exact (zI_eq g3 g4).mp (by rw [c2, d2])
      · rcases b2 with ⟨d1, d2⟩ | ⟨d1, d2⟩ | ⟨d1, d2⟩ | ⟨d1, d2⟩ | ⟨d1, d2⟩ | ⟨d1, d2⟩ <;> first | omega | exact (zI_eq g3 g4).mp (by rw [c2, d2])
      · rcases b2 with ⟨d1, d2⟩ | ⟨d1, d2⟩ | ⟨d1, d2⟩ | ⟨d1, d2⟩ | ⟨d1, d2⟩ | ⟨d1, d2⟩ <;> first | omega | exact (zI_eq g3 g4).mp (by rw [c2, d2])
      · rcases b2 with ⟨d1, d2⟩ | ⟨d1, d2⟩ | ⟨d1, d2⟩ | ⟨d1, d2⟩ | ⟨d1, d2⟩ | ⟨d1, d2⟩ <;> first | omega | exact (zI_eq g3 g4).mp (by rw [c2, d2])
      · rcases b2 with ⟨d1, d2⟩ | ⟨d1, d2⟩ | ⟨d1, d2⟩ | ⟨d1, d2⟩ | ⟨d1, d2⟩ | ⟨d1, d2⟩
        · omega
        · omega
        · omega
        · omega
        · obtain ⟨e1, e2, e3⟩ := d2
          exact kPl_0 c2 e1 (by rw [r5 rm.toNat (by omega)]; exact e2) (kNo_eq e3 r5 (by omega))
        · omega
      · rcases b2 with ⟨d1, d2⟩ | ⟨d1, d2⟩ | ⟨d1, d2⟩ | ⟨d1, d2⟩ | ⟨d1, d2⟩ | ⟨d1, d2⟩ <;> omega
/-! cell's FAULT; a row but for one place -/
def kCf (k y i : Int) (T L N : Int → Int) (lf : Int) : Prop := (¬ ((0 ≤ k ∧ k ≤ 3) ∧ (0 ≤ y ∧ y ≤ 2)) ∧ lf = 0) ∨ (((0 ≤ k ∧ k ≤ 3) ∧ (0 ≤ y ∧ y ≤ 2)) ∧ ((T k = 0 ∧ lf = 1) ∨ (T k = 1 ∧ ¬ L k = y ∧ lf = 2) ∨ (T k = 1 ∧ L k = y ∧ ¬ (0 ≤ i ∧ i ≤ N k - 1) ∧ lf = 3) ∨ (T k = 1 ∧ L k = y ∧ (0 ≤ i ∧ i ≤ N k - 1) ∧ lf = 0)))
def kCfG (y i t l n lf : Int) : Prop := (t = 0 ∧ lf = 1) ∨ (t = 1 ∧ ¬ l = y ∧ lf = 2) ∨ (t = 1 ∧ l = y ∧ ¬ (0 ≤ i ∧ i ≤ n - 1) ∧ lf = 3) ∨ (t = 1 ∧ l = y ∧ (0 ≤ i ∧ i ≤ n - 1) ∧ lf = 0)
theorem kCf_G {k y i t l n lf : Int} {T L N : Int → Int} (h : (0 ≤ k ∧ k ≤ 3) ∧ (0 ≤ y ∧ y ≤ 2)) (ht : T k = t) (hl : L k = l) (hn : N k = n) (hg : kCfG y i t l n lf) : kCf k y i T L N lf := Or.inr ⟨h, by rw [ht, hl, hn]; exact hg⟩
def kCfM (k y i : Int) (so sl : Nat → Int32) (lf : Int) : Prop := (¬ ((0 ≤ k ∧ k ≤ 3) ∧ (0 ≤ y ∧ y ≤ 2)) ∧ lf = 0) ∨ (((0 ≤ k ∧ k ≤ 3) ∧ (0 ≤ y ∧ y ≤ 2)) ∧ (((so k.toNat).toInt = -9 ∧ lf = 1) ∨ (¬ (so k.toNat).toInt = -9 ∧ ¬ (so k.toNat).toInt = y ∧ lf = 2) ∨ (¬ (so k.toNat).toInt = -9 ∧ (so k.toNat).toInt = y ∧ ¬ (0 ≤ i ∧ i ≤ (sl k.toNat).toInt - 1) ∧ lf = 3) ∨ (¬ (so k.toNat).toInt = -9 ∧ (so k.toNat).toInt = y ∧ (0 ≤ i ∧ i ≤ (sl k.toNat).toInt - 1) ∧ lf = 0)))
theorem kCf_rel {k y i lf fa : Int} {T L N : Int → Int} {F : Int → Nat → Int32} {so sl ce : Nat → Int32} (h : kSR T L N F so sl ce) (hx : kCf k y i T L N lf) (hm : kCfM k y i so sl fa) : lf = fa := by
  unfold kCf at hx
  unfold kCfM at hm
  by_cases c : (0 ≤ k ∧ k ≤ 3) ∧ (0 ≤ y ∧ y ≤ 2)
  · obtain ⟨h1, h2, h3, -⟩ := h k c.1.1 c.1.2
    have e2 : (sl k.toNat).toInt = N k := by rw [h2, zI_toInt (by omega)]
    rw [e2] at hm
    rcases h1 with ⟨a1, a2, a3, a4⟩ | ⟨a1, a2⟩
    · have e1 : (so k.toNat).toInt = L k := by rw [a4, zI_toInt (by omega)]
      rw [e1] at hm
      omega
    · have e1 : (so k.toNat).toInt = -9 := by rw [a2, zI_toInt (by omega)]
      rw [e1] at hm
      omega
  · omega
def kEx (f g : Nat → Int32) (k : Int) : Prop := ∀ i : Nat, ¬ i = k.toNat → f i = g i
theorem kEx_0 {f : Nat → Int32} {k : Int} : kEx f f k := fun _ _ => rfl
theorem kEx_s {f g h : Nat → Int32} {k : Int} {x : Int32} (a : kEx f g k) (e : upd f k.toNat x = h) : kEx h g k := fun i hi => by
  rw [← e, pk_un hi]
  exact a i hi
theorem kEx_e {f g h : Nat → Int32} {k z : Int} (a : kEx f g k) (ez : g k.toNat = zI z) (e : upd f k.toNat (zI z) = h) : h = g := by
  rw [← e]
  funext i
  by_cases c : i = k.toNat
  · subst c
    rw [pk_us, ez]
  · rw [pk_un c]
    exact a i c
theorem kEx_eq {f g : Nat → Int32} {k n : Int} (a : kEx f g k) (h : n ≤ k) (h0 : 0 ≤ k) : kEq f g n := fun i hi => a i (by omega)
theorem kRW_m {wn mn mn2 : Int} {fw wg wg2 : Nat → Int32} (h : kRW wn fw mn wg) (e : mn2 = mn) (q : kEq wg2 wg mn) : kRW wn fw mn2 wg2 := by
  obtain ⟨rfl, h⟩ := h
  exact ⟨e.symm, fun i hi => by rw [h i hi, q i hi]⟩
theorem kRP_m {pn fn : Int} {fp pf pf2 : Nat → Int32} (h : kRP pn fp fn pf) (hn : fn ≤ 4) (q : kEq pf2 pf 4) : kRP pn fp fn pf2 := ⟨h.1, fun i hi => by rw [h.2 i hi, q i (by omega)]⟩
theorem kRW_e {wn wn2 mn mn2 : Int} {fw wg : Nat → Int32} (h : kRW wn fw mn wg) (e : wn2 = mn2) (q : wn2 ≤ wn) : kRW wn2 fw mn2 wg := ⟨e, fun i hi => h.2 i (by omega)⟩
theorem kCd_a {th sz i jk z : Int} {fr : Nat → Int32} (hat : th = 1 ∧ 0 ≤ i + jk ∧ i + jk ≤ sz - 1) (hj : 0 ≤ jk) (rz : rg z) (ez : kAt th sz (i + jk) fr = zI z) : (kCd fr i jk.toNat).toInt = z := kCd_z hj rz ((kAt_in hat).symm.trans ez)
theorem kCd_e {th sz i jk z : Int} {fr : Nat → Int32} (hat : th = 1 ∧ 0 ≤ i + jk ∧ i + jk ≤ sz - 1) (hj : 0 ≤ jk) (ez : kAt th sz (i + jk) fr = zI z) : kCd fr i jk.toNat = zI z := by
  rw [kAt_in hat] at ez
  show fr (i + (jk.toNat : Int)).toNat = zI z
  rw [show i + (jk.toNat : Int) = i + jk by omega, ez]
theorem kCd_m {o jk z : Int} {f : Nat → Int32} (hj : 0 ≤ jk) (e : f (o + jk).toNat = zI z) : kCd f o jk.toNat = zI z := by
  show f (o + (jk.toNat : Int)).toNat = zI z
  rw [show o + (jk.toNat : Int) = o + jk by omega, e]
theorem kAd1 {n r un : Int} {uf U V : Nat → Int32} (h : (n < 24 ∧ r = 1 ∧ un = n + 1 ∧ uf = U) ∨ (24 ≤ n ∧ r = 0 ∧ un = n ∧ uf = V)) (c : n < 24) : uf = U := by
  rcases h with ⟨-, -, -, h⟩ | ⟨h, -⟩
  · exact h
  · omega
theorem kApp_t {f g a d : Nat → Int32} {m n j z : Int} (hu : g = upd a j.toNat (zI z)) (ha : a = kApp f m d n) (hj : j = m + n) (h0 : 0 ≤ n ∧ 0 ≤ m) (e : d n.toNat = zI z) : g = kApp f m d (n + 1) := kApp_s h0 e (by rw [hu, ha, hj])
theorem kLt_y {d : Nat → Int32} {k r : Int} (h : (r = 1 ∧ kLet d k) ∨ (r = 0 ∧ ¬ kLet d k)) (c : ¬ r = 0) : kLet d k := by
  rcases h with ⟨-, h⟩ | ⟨h, -⟩
  · exact h
  · exact absurd h c
theorem kLt_n {d : Nat → Int32} {k r : Int} (h : (r = 1 ∧ kLet d k) ∨ (r = 0 ∧ ¬ kLet d k)) (c : r = 0) : ¬ kLet d k := by
  rcases h with ⟨h, -⟩ | ⟨-, h⟩
  · omega
  · exact h
theorem kMvE {a g f : Nat → Int32} {w j : Int} {x : Int32} (eg : upd a (0 : Int).toNat x = g) (ea : a = kMv f w j) (ej : j = 0) : g = upd (kMv f w 0) 0 x := by
  subst ej
  subst ea
  exact eg.symm
def kCq (f g : Nat → Int32) (n : Int) : Prop := ∀ i : Nat, (i : Int) < n → f (1 + i) = g i
theorem kCq_0 {f g : Nat → Int32} : kCq f g 0 := fun i h => by omega
theorem kCq_f {f f2 g : Nat → Int32} {n z : Int} (h : kCq f g n) (h0 : 0 ≤ n) (e : g n.toNat = zI z) (e2 : upd f (1 + n).toNat (zI z) = f2) : kCq f2 g (n + 1) := by
  intro i hi
  rw [← e2]
  by_cases q : i = n.toNat
  · subst q
    rw [show (1 + n).toNat = 1 + n.toNat by omega, pk_us, e]
  · rw [pk_un (by omega)]
    exact h i (by omega)
theorem kCq_g {f g g2 : Nat → Int32} {n z : Int} (h : kCq f g n) (h0 : 0 ≤ n) (e : f (1 + n).toNat = zI z) (e2 : upd g n.toNat (zI z) = g2) : kCq f g2 (n + 1) := by
  intro i hi
  rw [← e2]
  by_cases q : i = n.toNat
  · subst q
    rw [show 1 + n.toNat = (1 + n).toNat by omega, pk_us, e]
  · rw [pk_un q]
    exact h i (by omega)
theorem kCq_u {f f2 g : Nat → Int32} {n j : Int} {x : Int32} (h : kCq f g n) (hn : n ≤ 24) (hj : 0 ≤ j) (e : upd f (25 + j).toNat x = f2) : kCq f2 g n := fun i hi => by
  rw [← e, pk_un (by omega)]
  exact h i hi
theorem kCq_le {f g : Nat → Int32} {n m : Int} (h : kCq f g n) (e : m ≤ n) : kCq f g m := fun i hi => h i (by omega)
theorem kCp_le {f g : Nat → Int32} {n m : Int} (h : kCp f g n) (e : m ≤ n) : kCp f g m := fun i hi => h i (by omega)
theorem kCq_eq {f g u : Nat → Int32} {n : Int} (h : kCq f g n) (h2 : kCq f u n) : kEq u g n := fun i hi => (h2 i hi).symm.trans (h i hi)
theorem kCp_eq {f g u : Nat → Int32} {n : Int} (h : kCp f g n) (h2 : kCp f u n) : kEq u g n := fun i hi => (h2 i hi).symm.trans (h i hi)
