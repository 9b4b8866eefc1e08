/-! what can be set, and the fewest changes behind -/
abbrev kCan (x : Int32) (f wo : Int) : Prop := ¬ f = wo ∧ (x = 0 ∨ (x >>> (zI f &&& 31)) &&& 1 = 1)
def kdl (g f : Int) : Int := if g = f then 0 else 1
theorem kdl_le (g f : Int) : 0 ≤ kdl g f ∧ kdl g f ≤ 1 := by unfold kdl; split <;> omega
def kch (ch : Nat → Int32) (c f : Int) : Int := (ch (4 * c + f).toNat).toInt
theorem kch_at {ch : Nat → Int32} {c f z : Int} (hz : rg z) (e : ch (4 * c + f).toNat = zI z) : kch ch c f = z := by
  unfold kch
  rw [e, zI_toInt hz]
theorem kch_same {ch : Nat → Int32} {c f v : Int} (hv : rg v) : kch (upd ch (4 * c + f).toNat (zI v)) c f = v := by
  unfold kch
  rw [pk_us, zI_toInt hv]
theorem kch_other {ch : Nat → Int32} {c f c2 f2 : Int} {x : Int32} (h : 0 ≤ c ∧ 0 ≤ f ∧ f < 4) (h2 : 0 ≤ c2 ∧ 0 ≤ f2 ∧ f2 < 4) (ne : ¬ (c2 = c ∧ f2 = f)) : kch (upd ch (4 * c + f).toNat x) c2 f2 = kch ch c2 f2 := by
  unfold kch
  rw [pk_un (by omega)]
def kFewI (ch fi : Nat → Int32) (wo c f j b : Int) : Prop := 0 ≤ b ∧ b ≤ 24 ∧ (∀ g : Int, 0 ≤ g → g < j → kCan (fi (c + 1).toNat) g wo → b ≤ kch ch (c + 1) g + kdl g f) ∧ (b = 24 ∨ ∃ g : Int, 0 ≤ g ∧ g < j ∧ kCan (fi (c + 1).toNat) g wo ∧ b = kch ch (c + 1) g + kdl g f)
section
variable {ch fi : Nat → Int32} {fn cl wo c f j b v : Int}
theorem kFewI_0 : kFewI ch fi wo c f 0 24 := ⟨by omega, by omega, fun g h1 h2 => by omega, Or.inl rfl⟩
theorem kFewI_b (h : kFewI ch fi wo c f j b) : 0 ≤ b ∧ b ≤ 24 := ⟨h.1, h.2.1⟩
theorem kFewI_no (h : kFewI ch fi wo c f j b) (hn : ¬ kCan (fi (c + 1).toNat) j wo) : kFewI ch fi wo c f (j + 1) b := by
  obtain ⟨h1, h2, h3, h4⟩ := h
  refine ⟨h1, h2, fun g g1 g2 g3 => ?_, ?_⟩
  · by_cases e : g = j
    · subst e
      exact absurd g3 hn
    · exact h3 g g1 (by omega) g3
  · rcases h4 with h4 | ⟨g, g1, g2, g3, g4⟩
    · exact Or.inl h4
    · exact Or.inr ⟨g, g1, by omega, g3, g4⟩
theorem kFewI_lt (h : kFewI ch fi wo c f j b) (hj : 0 ≤ j) (hc : kCan (fi (c + 1).toNat) j wo) (h0 : 0 ≤ v) (hv : v = kch ch (c + 1) j + kdl j f) (hlt : v < b) : kFewI ch fi wo c f (j + 1) v := by
  obtain ⟨h1, h2, h3, h4⟩ := h
  refine ⟨h0, by omega, fun g g1 g2 g3 => ?_, Or.inr ⟨j, hj, by omega, hc, hv⟩⟩
  by_cases e : g = j
  · subst e
    omega
  · have := h3 g g1 (by omega) g3
    omega
theorem kFewI_ge (h : kFewI ch fi wo c f j b) (hv : v = kch ch (c + 1) j + kdl j f) (hge : b ≤ v) : kFewI ch fi wo c f (j + 1) b := by
  obtain ⟨h1, h2, h3, h4⟩ := h
  refine ⟨h1, h2, fun g g1 g2 g3 => ?_, ?_⟩
  · by_cases e : g = j
    · subst e
      omega
    · exact h3 g g1 (by omega) g3
  · rcases h4 with h4 | ⟨g, g1, g2, g3, g4⟩
    · exact Or.inl h4
    · exact Or.inr ⟨g, g1, by omega, g3, g4⟩
end
/-- the entry (c, f) is as it must be, by the row behind -/
def kGood (ch fi : Nat → Int32) (fn cl wo c f : Int) : Prop := 0 ≤ kch ch c f ∧ kch ch c f ≤ 24 ∧ (c + 1 = cl → kch ch c f = 0) ∧ (c + 1 < cl → kFewI ch fi wo c f fn (kch ch c f))
def kDp (ch fi : Nat → Int32) (fn cl wo c0 : Int) : Prop := ∀ c f : Int, c0 ≤ c → c < cl → 0 ≤ f → f < fn → kGood ch fi fn cl wo c f
def kRw (ch fi : Nat → Int32) (fn cl wo c j : Int) : Prop := ∀ f : Int, 0 ≤ f → f < j → kGood ch fi fn cl wo c f
def kFit (fi : Nat → Int32) (fn cl wo : Int) : Prop := ∀ c : Int, 0 ≤ c → c < cl → ∃ f : Int, 0 ≤ f ∧ f < fn ∧ kCan (fi c.toNat) f wo
theorem kFewI_upd {ch fi : Nat → Int32} {wo c f j b : Int} {c2 f2 : Int} {x : Int32} (hc : 0 ≤ c) (h2 : 0 ≤ c2 ∧ 0 ≤ f2 ∧ f2 < 4) (hj : j ≤ 4) (ne : ¬ c + 1 = c2) (h : kFewI ch fi wo c f j b) : kFewI (upd ch (4 * c2 + f2).toNat x) fi wo c f j b := by
  obtain ⟨h1, h2', h3, h4⟩ := h
  refine ⟨h1, h2', fun g g1 g2 g3 => ?_, ?_⟩
  · clear h4
    rw [kch_other h2 (by omega) (by omega)]
    exact h3 g g1 g2 g3
  · rcases h4 with h4 | ⟨g, g1, g2, g3, g4⟩
    · exact Or.inl h4
    · exact Or.inr ⟨g, g1, g2, g3, by rw [kch_other h2 (by omega) (by omega)]; exact g4⟩
theorem kGood_upd {ch fi : Nat → Int32} {fn cl wo c f c2 f2 : Int} {x : Int32} (hc : 0 ≤ c ∧ 0 ≤ f ∧ f < fn ∧ fn ≤ 4) (h2 : 0 ≤ c2 ∧ 0 ≤ f2 ∧ f2 < 4) (ne : ¬ (c = c2 ∧ f = f2)) (ne2 : c2 ≤ c) (h : kGood ch fi fn cl wo c f) : kGood (upd ch (4 * c2 + f2).toNat x) fi fn cl wo c f := by
  obtain ⟨h1, h3, h4, h5⟩ := h
  unfold kGood
  rw [kch_other h2 (by omega) ne]
  exact ⟨h1, h3, h4, fun q => kFewI_upd (by omega) h2 (by omega) (by omega) (h5 q)⟩
theorem kDp_top {ch fi : Nat → Int32} {fn cl wo c0 : Int} (h : cl ≤ c0) : kDp ch fi fn cl wo c0 := fun c f h1 h2 => by omega
theorem kRw_0 {ch fi : Nat → Int32} {fn cl wo c : Int} : kRw ch fi fn cl wo c 0 := fun f h1 h2 => by omega
theorem kDp_dn {ch fi : Nat → Int32} {fn cl wo c : Int} (h : kDp ch fi fn cl wo (c + 1)) (h2 : kRw ch fi fn cl wo c fn) : kDp ch fi fn cl wo c := by
  intro c' f h3 h4 h5 h6
  by_cases e : c' = c
  · subst e
    exact h2 f h5 h6
  · exact h c' f (by omega) h4 h5 h6
theorem kDp_upd {ch fi : Nat → Int32} {fn cl wo c f : Int} {x : Int32} (hc : 0 ≤ c ∧ 0 ≤ f ∧ f < fn ∧ fn ≤ 4) (h : kDp ch fi fn cl wo (c + 1)) : kDp (upd ch (4 * c + f).toNat x) fi fn cl wo (c + 1) := fun c' f' h1 h2 h3 h4 => kGood_upd (by omega) (by omega) (by omega) (by omega) (h c' f' h1 h2 h3 h4)
theorem kRw_upd {ch fi : Nat → Int32} {fn cl wo c f v : Int} (hc : 0 ≤ c ∧ 0 ≤ f ∧ f < fn ∧ fn ≤ 4) (h : kRw ch fi fn cl wo c f) (hv : 0 ≤ v ∧ v ≤ 24) (h1 : c + 1 = cl → v = 0) (h2 : c + 1 < cl → kFewI ch fi wo c f fn v) : kRw (upd ch (4 * c + f).toNat (zI v)) fi fn cl wo c (f + 1) := by
  intro f' h3 h4
  by_cases e : f' = f
  · subst e
    unfold kGood
    rw [kch_same (by omega)]
    exact ⟨hv.1, hv.2, h1, fun q => kFewI_upd (by omega) (by omega) (by omega) (by omega) (h2 q)⟩
  · exact kGood_upd (by omega) (by omega) (by omega) (by omega) (h f' h3 (by omega))
/-- the entries are small: so the least is attained -/
theorem kDp_le {ch fi : Nat → Int32} {fn cl wo : Int} (h : kDp ch fi fn cl wo 0) (hf : kFit fi fn cl wo) : ∀ (n : Nat) (c f : Int), (cl - 1 - c).toNat = n → 0 ≤ c → c < cl → 0 ≤ f → f < fn → kch ch c f ≤ cl - 1 - c := by
  intro n
  induction n with
  | zero =>
    intro c f h1 h2 h3 h4 h5
    have := (h c f h2 h3 h4 h5).2.2.1 (by omega)
    omega
  | succ n ih =>
    intro c f h1 h2 h3 h4 h5
    obtain ⟨g, g1, g2, g3⟩ := hf (c + 1) (by omega) (by omega)
    have q := ((h c f h2 h3 h4 h5).2.2.2 (by omega)).2.2.1 g g1 g2 g3
    have q2 := ih (c + 1) g (by omega) (by omega) (by omega) g1 g2
    have q3 := kdl_le g f
    omega
theorem kDp_get {ch fi : Nat → Int32} {fn cl wo c f : Int} (h : kDp ch fi fn cl wo 0) (hf : kFit fi fn cl wo) (hcl : cl ≤ 24) (h2 : 0 ≤ c) (h3 : c + 1 < cl) (h4 : 0 ≤ f) (h5 : f < fn) : ∃ g : Int, 0 ≤ g ∧ g < fn ∧ kCan (fi (c + 1).toNat) g wo ∧ kch ch c f = kch ch (c + 1) g + kdl g f := by
  have q := kDp_le h hf _ c f rfl h2 (by omega) h4 h5
  rcases ((h c f h2 (by omega) h4 h5).2.2.2 h3).2.2.2 with e | e
  · omega
  · exact e
/-- the least over the first cluster -/
def kBe (ch fi : Nat → Int32) (wo j b : Int) : Prop := 0 ≤ b ∧ b ≤ 24 ∧ (∀ g : Int, 0 ≤ g → g < j → kCan (fi (0 : Int).toNat) g wo → b ≤ kch ch 0 g) ∧ (b = 24 ∨ ∃ g : Int, 0 ≤ g ∧ g < j ∧ kCan (fi (0 : Int).toNat) g wo ∧ b = kch ch 0 g)
theorem kBe_0 {ch fi : Nat → Int32} {wo : Int} : kBe ch fi wo 0 24 := ⟨by omega, by omega, fun g h1 h2 => by omega, Or.inl rfl⟩
theorem kBe_no {ch fi : Nat → Int32} {wo j b : Int} (h : kBe ch fi wo j b) (hn : ¬ kCan (fi (0 : Int).toNat) j wo) : kBe ch fi wo (j + 1) b := by
  obtain ⟨h1, h2, h3, h4⟩ := h
  refine ⟨h1, h2, fun g g1 g2 g3 => ?_, ?_⟩
  · by_cases e : g = j
    · subst e
      exact absurd g3 hn
    · exact h3 g g1 (by omega) g3
  · rcases h4 with h4 | ⟨g, g1, g2, g3, g4⟩
    · exact Or.inl h4
    · exact Or.inr ⟨g, g1, by omega, g3, g4⟩
theorem kBe_lt {ch fi : Nat → Int32} {wo j b v : Int} (h : kBe ch fi wo j b) (hj : 0 ≤ j) (hc : kCan (fi (0 : Int).toNat) j wo) (h0 : 0 ≤ v) (hv : v = kch ch 0 j) (hlt : v < b) : kBe ch fi wo (j + 1) v := by
  obtain ⟨h1, h2, h3, h4⟩ := h
  refine ⟨h0, by omega, fun g g1 g2 g3 => ?_, Or.inr ⟨j, hj, by omega, hc, hv⟩⟩
  by_cases e : g = j
  · subst e
    omega
  · have := h3 g g1 (by omega) g3
    omega
theorem kBe_ge {ch fi : Nat → Int32} {wo j b v : Int} (h : kBe ch fi wo j b) (hv : v = kch ch 0 j) (hge : b ≤ v) : kBe ch fi wo (j + 1) b := by
  obtain ⟨h1, h2, h3, h4⟩ := h
  refine ⟨h1, h2, fun g g1 g2 g3 => ?_, ?_⟩
  · by_cases e : g = j
    · subst e
      omega
    · exact h3 g g1 (by omega) g3
  · rcases h4 with h4 | ⟨g, g1, g2, g3, g4⟩
    · exact Or.inl h4
    · exact Or.inr ⟨g, g1, by omega, g3, g4⟩
/-- what is left at cluster c is attained -/
abbrev kIts (cn : Nat → Int32) (c f : Int) : Int := if 0 < c ∧ ¬ (cn (c - 1).toNat).toInt = f then 1 else 0
abbrev kIsB (ch fi cn : Nat → Int32) (c f lf : Int) : Prop := kCan (fi c.toNat) f (-9) ∧ kch ch c f + kIts cn c f = lf
def kLeft (ch fi cn : Nat → Int32) (fn cl c lf : Int) : Prop := c < cl → ∃ g : Int, 0 ≤ g ∧ g < fn ∧ kIsB ch fi cn c g lf
theorem kLeft_0 {ch fi cn : Nat → Int32} {fn cl b : Int} (h : kDp ch fi fn cl (-9) 0) (hf : kFit fi fn cl (-9)) (hcl : cl ≤ 24) (hb : 0 < cl → kBe ch fi (-9) fn b) : kLeft ch fi cn fn cl 0 b := by
  intro hc
  obtain ⟨f, f1, f2, f3⟩ := hf 0 (by omega) hc
  obtain ⟨h1, h2, h3, h4⟩ := hb hc
  have q := kDp_le h hf _ 0 f rfl (by omega) hc f1 f2
  have q2 := h3 f f1 f2 f3
  rcases h4 with e | ⟨g, g1, g2, g3, g4⟩
  · omega
  · exact ⟨g, g1, g2, g3, by unfold kIts; rw [if_neg (by omega)]; omega⟩
theorem kLeft_1 {ch fi cn : Nat → Int32} {fn cl c f : Int} (h : kDp ch fi fn cl (-9) 0) (hf : kFit fi fn cl (-9)) (hcl : cl ≤ 24) (hc : 0 ≤ c) (hf0 : 0 ≤ f ∧ f < fn) (hn : (cn c.toNat).toInt = f) : kLeft ch fi cn fn cl (c + 1) (kch ch c f) := by
  intro hlt
  obtain ⟨g, g1, g2, g3, g4⟩ := kDp_get h hf hcl hc hlt hf0.1 hf0.2
  refine ⟨g, g1, g2, g3, ?_⟩
  unfold kIts
  rw [show (c + 1 - 1).toNat = c.toNat by omega, hn]
  unfold kdl at g4
  by_cases e : g = f
  · rw [if_pos e] at g4
    rw [if_neg (by omega)]
    omega
  · rw [if_neg e] at g4
    rw [if_pos (by omega)]
    omega
