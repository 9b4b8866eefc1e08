/-! what both sides answer of their SETTINGS -/
theorem kSE_z {w has fp f1 f2 f3 f4 f5 : Nat → Int32} : kSE w 0 has 0 (-9) fp 0 0 0 0 f1 f2 f3 f4 f5 := ⟨fun _ => 0, fun _ _ => 0, 0, 0, by decide, kCu_0, kFz_0, rfl, kBh_top (Int.le_refl 0), kCe_0, rfl, kRo_0⟩
theorem kPm_eq {fp pf : Nat → Int32} {n : Int} (h : kPm pf n) (q : kEq fp pf n) : kPm fp n := by
  refine ⟨fun p hp => ?_, fun x h0 h1 => ?_⟩
  · obtain ⟨z, a, b, c⟩ := h.1 p hp
    exact ⟨z, a, b, by rw [q p hp]; exact c⟩
  · obtain ⟨p, a, b⟩ := h.2 x h0 h1
    exact ⟨p, a, by rw [q p a]; exact b⟩
def kMaX (w fn wn cn dn rz : Int) : Prop := (w = 0 ∧ rz = fn) ∨ (w = 1 ∧ rz = wn) ∨ (w = 2 ∧ rz = cn) ∨ (w = 3 ∧ rz = dn) ∨ (¬ (0 ≤ w ∧ w ≤ 3) ∧ rz = -2)
def kMaM (w fn mn cl dn rz : Int) (wg hs : Nat → Int32) (bo : Int) (sa fi : Nat → Int32) : Prop := (w = 0 ∧ rz = fn) ∨ (w = 1 ∧ rz = mn) ∨ (w = 2 ∧ rz = cl ∧ kRc wg mn hs fn (-9) cl bo sa fi) ∨ (w = 3 ∧ rz = dn) ∨ (¬ (0 ≤ w ∧ w ≤ 3) ∧ rz = -2)
section
variable {w fn wn cn dn bo ru mf mn cl dm b2 rx rm pn ad r2 : Int} {fw fk fb fh fp f1 f2 f3 f4 f5 wg kd wd hs pf sa fi ch cs : Nat → Int32}
theorem kMa_eq (hx : kMaX w fn wn cn dn rx) (hm : kMaM w mf mn cl dm rm wg hs b2 sa fi) (hS : kSE fw wn fh fn (-9) fp pn cn bo ru f1 f2 f3 f4 f5) (hF : kRF fn fk fb fh mf kd wd hs) (hW : kRW wn fw mn wg) (hd : dn = dm) (bw : 0 ≤ wn) (bn : 0 ≤ fn ∧ fn ≤ 4) : rx = rm := by
  have e1 := hF.1
  have e2 := hW.1
  rcases hm with h | h | ⟨h1, h2, h3⟩ | h | h
  · unfold kMaX at hx; omega
  · unfold kMaX at hx; omega
  · have q := (kSR_clu hS h3 e2 hW.2 e1 hF.2.2.2.1 bw bn (Or.inl rfl)).1
    unfold kMaX at hx
    omega
  · unfold kMaX at hx; omega
  · unfold kMaX at hx; omega
/-- the same choice, RUNS, way, CHANGES -/
theorem kBM_rel {few : Int} (hM : kBM wg mn hs mf pf kd wd cl b2 r2 ad sa fi ch cs few) (hS : kSE fw wn fh fn (-9) fp pn cn bo ru f1 f2 f3 f4 f5) (hF : kRF fn fk fb fh mf kd wd hs) (hW : kRW wn fw mn wg) (hP : kRP pn fp fn pf) (hp : kPm pf mf) (bw : 0 ≤ wn ∧ wn ≤ 24) (bn : 0 ≤ fn ∧ fn ≤ 4) (fm : ¬ (mf = 0 ∧ 1 ≤ mn)) : cn = cl ∧ bo = b2 ∧ ru = r2 ∧ ((1 ≤ ru ∧ few = ru - 1) ∨ (ru = 0 ∧ few = 0)) ∧ (0 ≤ cn ∧ cn ≤ wn) ∧ (∀ i : Nat, (i : Int) < cn → f1 i = sa i ∧ f2 i = sa (i + 1) - sa i ∧ f3 i = fi i ∧ f4 i = cs i ∧ f5 i = zI (kRn cs (i + 1) - 1)) ∧ kCi f4 cn fn ∧ kSu (kSx fk fb) f4 (kNa cn) = kSu (kSn kd wd) cs (kNa cl) := by
  obtain ⟨m1, m2, m3, m4, m5, m6, m7, m8⟩ := hM
  have e1 := hF.1
  have e2 := hW.1
  have pm : kPm fp fn := kPm_eq (e1 ▸ hp) hP.2
  obtain ⟨c1, c2, c3, c4, -⟩ := kSR_clu hS m1 e2 hW.2 e1 hF.2.2.2.1 bw.1 bn (Or.inl rfl)
  have chg := kSE_chg hS m1 e2 hW.2 e1 hF.2.2.2.1 bw bn (Or.inl rfl) (by omega) pm hP.1 m2 m3 m4 (by omega)
  have cho := kSE_cho hS m1 e2 hW.2 e1 hF.2.2.2.1 bw bn (by omega) pm hP.1 hP.2 m2 m3 m6
  obtain ⟨gp, o, al, a1, a2, a3, a4, a5, a6, a7, a8⟩ := kSE_all hS m1 e2 hW.2 e1 hF.2.2.2.1 bw bn (Or.inl rfl) (by omega) pm hP.1 m2 m3
  obtain ⟨L, gp2, o2, al2, -, -, -, -, -, -, s7, s8⟩ := hS
  have ci : kCi f4 cn fn := fun i hi => by
    obtain ⟨y1, -, -, -⟩ := kCe_is a1 a2 bn a4 (a5 (by omega)) pm hP.1 (c := (i : Int)) (by omega) (a6 i (by omega) (by omega)).1
    rw [show ((i : Int)).toNat = i by omega] at y1
    exact y1
  refine ⟨c1, c2, ?_, by omega, c4, fun i hi => ?_, ci, ?_⟩
  · rw [s7, m8, c1]
    exact kRn_cong _ (fun i hi => cho i (by have : i < cl.toNat := hi; omega))
  · obtain ⟨t1, t2, t3⟩ := c3 i hi
    refine ⟨t1, t2, t3, cho i (by omega), ?_⟩
    rw [s8 i hi, kRn_cong (f := f4) (g := cs) (i + 1) (fun j hj => cho j (by omega))]
  · rw [c1]
    refine kSu_cong _ (fun i hi => ?_)
    have hi2 : (i : Int) < cl := by have : i < cl.toNat := hi; omega
    have e4 := cho i hi2
    have cii := ci i (by omega)
    rw [e4] at cii
    refine ⟨e4, ?_⟩
    show kStX (fk (cs i).toInt.toNat) (fb (cs i).toInt.toNat) = kStM (kd (cs i).toInt.toNat) (wd (cs i).toInt.toNat)
    rw [kSt_eq (hF.2.2.2.2 _ (by omega)).1, hF.2.1 _ (by omega), hF.2.2.1 _ (by omega)]
def kBsX (w fn cn ru bo : Int) (fk fb f4 : Nat → Int32) (rz : Int) : Prop := (¬ (0 ≤ w ∧ w ≤ 3) ∧ rz = -2) ∨ ((0 ≤ w ∧ w ≤ 3) ∧ fn = 0 ∧ rz = -3) ∨ ((0 ≤ w ∧ w ≤ 3) ∧ ¬ fn = 0 ∧ ((w = 0 ∧ ((1 ≤ ru ∧ rz = ru - 1) ∨ (ru ≤ 0 ∧ rz = 0))) ∨ (w = 1 ∧ rz = ru) ∨ (w = 2 ∧ rz = bo) ∨ (w = 3 ∧ (kCi f4 cn fn → zI rz = kSu (kSx fk fb) f4 (kNa cn)))))
def kBsM (w fn rz : Int) (B : Int → Prop) (ru bo ad : Int) : Prop := (¬ (0 ≤ w ∧ w ≤ 3) ∧ rz = -2) ∨ ((0 ≤ w ∧ w ≤ 3) ∧ fn = 0 ∧ rz = -3) ∨ ((0 ≤ w ∧ w ≤ 3) ∧ ¬ fn = 0 ∧ ∃ few : Int, B few ∧ ((w = 0 ∧ rz = few) ∨ (w = 1 ∧ rz = ru) ∨ (w = 2 ∧ rz = bo) ∨ (w = 3 ∧ rz = ad)))
theorem kBs_eq (hx : kBsX w fn cn ru bo fk fb f4 rx) (hm : kBsM w mf rm (kBM wg mn hs mf pf kd wd cl b2 r2 ad sa fi ch cs) r2 b2 ad) (hS : kSE fw wn fh fn (-9) fp pn cn bo ru f1 f2 f3 f4 f5) (hF : kRF fn fk fb fh mf kd wd hs) (hW : kRW wn fw mn wg) (hP : kRP pn fp fn pf) (hp : kPm pf mf) (bw : 0 ≤ wn ∧ wn ≤ 24) (bn : 0 ≤ fn ∧ fn ≤ 4) (fm : ¬ (mf = 0 ∧ 1 ≤ mn)) (ra : rg rx) (rb : rg rm) : rx = rm := by
  have e1 := hF.1
  rcases hm with h | h | ⟨h1, h2, few, hB, h3⟩
  · unfold kBsX at hx; omega
  · unfold kBsX at hx; omega
  · obtain ⟨c1, c2, c3, c4, c5, -, ci, su⟩ := kBM_rel hB hS hF hW hP hp bw bn fm
    rcases hx with g | g | ⟨g1, g2, g3⟩
    · omega
    · omega
    · rcases g3 with g3 | g3 | g3 | ⟨g3, g4⟩
      · omega
      · omega
      · omega
      · have q := g4 ci
        rw [su, ← hB.2.2.2.2.2.2.1] at q
        have e : rm = ad := by omega
        rw [e] at rb ⊢
        exact (zI_eq ra rb).mp q
end
