/-! how many runs; the search of a FONT by PREFERENCE; what is left behind a choice -/
def kRn (f : Nat → Int32) : Nat → Int
  | 0 => 0
  | 1 => 1
  | n + 2 => kRn f (n + 1) + (if f (n + 1) = f n then 0 else 1)
theorem kRn_cong {f g : Nat → Int32} : ∀ (n : Nat), (∀ i, i < n → f i = g i) → kRn f n = kRn g n
  | 0, _ => rfl
  | 1, _ => rfl
  | n + 2, h => by
    unfold kRn
    rw [kRn_cong (n + 1) (fun i hi => h i (by omega)), h (n + 1) (by omega), h n (by omega)]
theorem kRn_first {ja F : Nat → Int32} {c r : Int} (h0 : c = 0) (hr : r = kRn ja c.toNat) : r + 1 = kRn F (c + 1).toNat := by
  subst h0
  rw [hr]
  rfl
theorem kRn_next {ja F : Nat → Int32} {c r : Int} {x : Int32} (h0 : 0 ≤ c) (h1 : ¬ c = 0) (e : upd ja c.toNat x = F) (hr : r = kRn ja c.toNat) : kRn F (c + 1).toNat = r + (if F c.toNat = F (c - 1).toNat then 0 else 1) := by
  obtain ⟨n, hn⟩ : ∃ n : Nat, c = n + 1 := ⟨(c - 1).toNat, by omega⟩
  subst hn
  rw [show ((n : Int) + 1 + 1).toNat = n + 2 by omega, show ((n : Int) + 1).toNat = n + 1 by omega, show ((n : Int) + 1 - 1).toNat = n by omega] at *
  rw [hr]
  show kRn F (n + 1) + _ = _
  rw [kRn_cong (f := F) (g := ja) (n + 1) (fun i hi => by rw [← e, pk_un (by omega)])]
def kBp (pf ch fi cn : Nat → Int32) (fn c lf j : Int) : Prop := 0 ≤ j ∧ ∃ q : Nat, j ≤ q ∧ (q : Int) < fn ∧ ∃ z : Int, 0 ≤ z ∧ z < fn ∧ pf q = zI z ∧ kIsB ch fi cn c z lf
theorem kBp_0 {pf ch fi cn : Nat → Int32} {fn cl c lf : Int} (hp : kPm pf fn) (h : kLeft ch fi cn fn cl c lf) (hc : c < cl) : kBp pf ch fi cn fn c lf 0 := by
  obtain ⟨g, g1, g2, g3⟩ := h hc
  obtain ⟨p, p1, p2⟩ := hp.2 g g1 g2
  exact ⟨by omega, p, by omega, p1, g, g1, g2, p2, g3⟩
theorem kBp_lt {pf ch fi cn : Nat → Int32} {fn c lf j : Int} (h : kBp pf ch fi cn fn c lf j) : 0 ≤ j ∧ j < fn := by
  obtain ⟨h0, q, h1, h2, -⟩ := h
  omega
theorem kBp_1 {pf ch fi cn : Nat → Int32} {fn c lf j z : Int} (h : kBp pf ch fi cn fn c lf j) (hn : fn ≤ 4) (hz : rg z) (e : pf j.toNat = zI z) (ne : ¬ kIsB ch fi cn c z lf) : kBp pf ch fi cn fn c lf (j + 1) := by
  obtain ⟨h0, q, h1, h2, w, w1, w2, w3, w4⟩ := h
  refine ⟨by omega, q, ?_, h2, w, w1, w2, w3, w4⟩
  by_cases k : (q : Int) = j
  · exfalso
    have k2 : j.toNat = q := by omega
    rw [k2, w3] at e
    have := (zI_eq (by omega) hz).mp e
    subst this
    exact ne w4
  · omega
theorem kLeft_s {ch fi ja F : Nat → Int32} {fn cl c z v : Int} (h : kDp ch fi fn cl (-9) 0) (hf : kFit fi fn cl (-9)) (hcl : cl ≤ 24) (hc : 0 ≤ c) (hz : 0 ≤ z ∧ z < fn ∧ fn ≤ 4) (e : upd ja c.toNat (zI z) = F) (ev : kch ch c z = v) : kLeft ch fi F fn cl (c + 1) v := by
  subst ev
  exact kLeft_1 h hf hcl hc ⟨hz.1, hz.2.1⟩ (by rw [← e, pk_us, zI_toInt (by omega)])
