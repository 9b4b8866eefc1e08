/-! the class's table of what lies behind, by CLUSTER and FONT -/
def kB (gp : Nat → Nat → Int32) (o : Nat) (c f : Int) : Int := (gp (o + c.toNat) f.toNat).toInt
section
variable {gp gp2 : Nat → Nat → Int32} {o : Nat} {x : Nat → Int32} {al : Int32} {cn k f j v b z z2 z3 z4 z5 z8 z9 c l : Int}
theorem kB_at (rz : rg z) (e : gp (o + c.toNat) f.toNat = zI z) : kB gp o c f = z := by
  unfold kB
  rw [e, zI_toInt rz]
theorem kB_same (e : va_up gp (o + k.toNat) (upd (gp (o + k.toNat)) j.toNat (zI v)) = gp2) (rv : rg v) : kB gp2 o k j = v := by
  unfold kB
  rw [← e, va_up_self, pk_us, zI_toInt rv]
theorem kB_other (e : va_up gp (o + k.toNat) (upd (gp (o + k.toNat)) j.toNat (zI v)) = gp2) (h : 0 ≤ k ∧ 0 ≤ j ∧ 0 ≤ c ∧ 0 ≤ f) (ne : ¬ (c = k ∧ f = j)) : kB gp2 o c f = kB gp o c f := by
  unfold kB
  rw [← e]
  by_cases q : c = k
  · rw [q, va_up_self, pk_un (by omega)]
  · rw [va_up_ne _ _ (by omega)]
def kLs (gp : Nat → Nat → Int32) (o : Nat) (c j b : Int) : Prop := b ≤ 1000 ∧ (∀ f : Int, 0 ≤ f → f < j → b ≤ kB gp o c f) ∧ (b = 1000 ∨ ∃ f : Int, 0 ≤ f ∧ f < j ∧ b = kB gp o c f)
theorem kLs_0 : kLs gp o c 0 1000 := ⟨by omega, fun f h1 h2 => by omega, Or.inl rfl⟩
theorem kLs_s (h : kLs gp o k j b) (h0 : 0 ≤ j ∧ 0 ≤ k) (e : va_up gp (o + k.toNat) (upd (gp (o + k.toNat)) j.toNat (zI v)) = gp2) (rl : rg z) (l : gp2 (o + k.toNat) j.toNat = zI z) (m : z2 ≤ b ∧ z2 ≤ z ∧ (z2 = b ∨ z2 = z)) : kLs gp2 o k (j + 1) z2 := by
  obtain ⟨h1, h2, h3⟩ := h
  have q := kB_at rl l
  refine ⟨by omega, fun f g1 g2 => ?_, ?_⟩
  · by_cases w : f = j
    · rw [w, q]; omega
    · rw [kB_other e (by omega) (by omega)]
      have := h2 f g1 (by omega)
      omega
  · rcases m.2.2 with m2 | m2
    · rcases h3 with h3 | ⟨f, g1, g2, g3⟩
      · left; omega
      · right
        exact ⟨f, g1, by omega, by rw [kB_other e (by omega) (by omega)]; omega⟩
    · right
      exact ⟨j, h0.1, by omega, by rw [q]; exact m2⟩
theorem kLs_keep (h : kLs gp o c 4 b) (h0 : 0 ≤ j ∧ 0 ≤ k ∧ 0 ≤ c) (ne : ¬ c = k) (e : va_up gp (o + k.toNat) (upd (gp (o + k.toNat)) j.toNat (zI v)) = gp2) : kLs gp2 o c 4 b := by
  obtain ⟨h1, h2, h3⟩ := h
  refine ⟨h1, fun f g1 g2 => ?_, ?_⟩
  · rw [kB_other e (by omega) (by omega)]
    exact h2 f g1 g2
  · rcases h3 with h3 | ⟨f, g1, g2, g3⟩
    · exact Or.inl h3
    · exact Or.inr ⟨f, g1, g2, by rw [kB_other e (by omega) (by omega)]; exact g3⟩
/-- the entry (c, f) is as it must be -/
def kBr (gp : Nat → Nat → Int32) (o : Nat) (x : Nat → Int32) (al : Int32) (cn c f : Int) : Prop := (0 ≤ kB gp o c f ∧ kB gp o c f ≤ 1000) ∧ (¬ kOp (x c.toNat) al f → kB gp o c f = 1000) ∧ (kOp (x c.toNat) al f → c + 1 = cn → kB gp o c f = 0) ∧ (kOp (x c.toNat) al f → c + 1 < cn → ∃ b : Int, kLs gp o (c + 1) 4 b ∧ kB gp o c f ≤ kB gp o (c + 1) f ∧ kB gp o c f ≤ b + 1 ∧ (kB gp o c f = kB gp o (c + 1) f ∨ kB gp o c f = b + 1))
theorem kBr_keep (h : kBr gp o x al cn c f) (h0 : 0 ≤ k ∧ 0 ≤ j ∧ k ≤ c ∧ 0 ≤ f) (ne : ¬ (c = k ∧ f = j)) (e : va_up gp (o + k.toNat) (upd (gp (o + k.toNat)) j.toNat (zI v)) = gp2) : kBr gp2 o x al cn c f := by
  obtain ⟨h1, h2, h3, h4⟩ := h
  unfold kBr
  rw [kB_other e (by omega) ne, kB_other (c := c + 1) e (by omega) (by omega)]
  exact ⟨h1, h2, h3, fun q1 q2 => by
    obtain ⟨b, b1, b2⟩ := h4 q1 q2
    exact ⟨b, kLs_keep b1 (by omega) (by omega) e, b2⟩⟩
def kBh (gp : Nat → Nat → Int32) (o : Nat) (x : Nat → Int32) (al : Int32) (cn c0 : Int) : Prop := ∀ c f : Int, c0 ≤ c → c < cn → 0 ≤ f → f < 4 → kBr gp o x al cn c f
def kBw (gp : Nat → Nat → Int32) (o : Nat) (x : Nat → Int32) (al : Int32) (cn c j : Int) : Prop := ∀ f : Int, 0 ≤ f → f < j → kBr gp o x al cn c f
def kLl (gp : Nat → Nat → Int32) (o : Nat) (cn c b : Int) : Prop := 0 ≤ b ∧ b ≤ 1000 ∧ (c = cn → b = 0) ∧ (c < cn → kLs gp o c 4 b)
theorem kBh_top (h : cn ≤ c) : kBh gp o x al cn c := fun c' f h1 h2 => by omega
theorem kLl_top (h : c = cn) : kLl gp o cn c 0 := ⟨by omega, by omega, fun _ => rfl, fun q => by omega⟩
theorem kLl_of (h : kLs gp o k 4 b) (hc : c = k) (h2 : k < cn) (hb : kBw gp o x al cn k 4) : kLl gp o cn c b := by
  subst hc
  refine ⟨?_, h.1, fun q => by omega, fun _ => h⟩
  rcases h.2.2 with e | ⟨f, g1, g2, g3⟩
  · omega
  · have := (hb f g1 g2).1
    omega
theorem kBw_0 : kBw gp o x al cn c 0 := fun f h1 h2 => by omega
theorem kBh_dn (h : kBh gp o x al cn (k + 1)) (h2 : kBw gp o x al cn k j) (hj : 4 ≤ j) (hc : c = k) : kBh gp o x al cn c := by
  subst hc
  intro c' f h3 h4 h5 h6
  by_cases e : c' = c
  · rw [e]
    exact h2 f h5 (by omega)
  · exact h c' f (by omega) h4 h5 h6
theorem kBh_keep (h : kBh gp o x al cn (k + 1)) (h0 : 0 ≤ k ∧ 0 ≤ j) (e : va_up gp (o + k.toNat) (upd (gp (o + k.toNat)) j.toNat (zI v)) = gp2) : kBh gp2 o x al cn (k + 1) := fun c f h1 h2 h3 h4 => kBr_keep (h c f h1 h2 h3 h4) (by omega) (by omega) e
theorem kLl_keep (h : kLl gp o cn (k + 1) b) (h0 : 0 ≤ k ∧ 0 ≤ j) (e : va_up gp (o + k.toNat) (upd (gp (o + k.toNat)) j.toNat (zI v)) = gp2) : kLl gp2 o cn (k + 1) b := ⟨h.1, h.2.1, h.2.2.1, fun q => kLs_keep (h.2.2.2 q) (by omega) (by omega) e⟩
theorem kBw_keep (h : kBw gp o x al cn k j) (h0 : 0 ≤ k ∧ 0 ≤ j) (e : va_up gp (o + k.toNat) (upd (gp (o + k.toNat)) j.toNat (zI v)) = gp2) : kBw gp2 o x al cn k j := fun f h1 h2 => kBr_keep (h f h1 h2) (by omega) (by omega) e
theorem kBw_s (h : kBw gp o x al cn k j) (h0 : 0 ≤ k ∧ 0 ≤ j) (e : va_up gp (o + k.toNat) (upd (gp (o + k.toNat)) j.toNat (zI v)) = gp2) (hr : kBr gp2 o x al cn k j) : kBw gp2 o x al cn k (j + 1) := by
  intro f h1 h2
  by_cases q : f = j
  · rw [q]; exact hr
  · exact kBr_keep (h f h1 (by omega)) (by omega) (by omega) e
/-- three ways of an entry: not open; open at the last CLUSTER; open before it -/
theorem kBw_no (h : kBw gp o x al cn k j) (h0 : 0 ≤ k ∧ 0 ≤ j) (e : va_up gp (o + k.toNat) (upd (gp (o + k.toNat)) j.toNat (zI 1000)) = gp2) (ho : ¬ kOp (x k.toNat) al j) : kBw gp2 o x al cn k (j + 1) := by
  have q := kB_same e (by omega)
  exact kBw_s h h0 e ⟨by omega, fun _ => q, fun w => absurd w ho, fun w => absurd w ho⟩
theorem kBw_last (h : kBw gp o x al cn k j) (h0 : 0 ≤ k ∧ 0 ≤ j) (e : va_up gp (o + k.toNat) (upd (gp (o + k.toNat)) j.toNat (zI v)) = gp2) (ho : kOp (x k.toNat) al j) (hl : kLl gp o cn (k + 1) l) (hk : cn ≤ k + 1 ∧ k < cn) (m : v ≤ 0 ∧ v ≤ l + 1 ∧ (v = 0 ∨ v = l + 1)) : kBw gp2 o x al cn k (j + 1) := by
  have l0 := hl.2.2.1 (by omega)
  have q := kB_same e (by omega)
  exact kBw_s h h0 e ⟨by omega, fun w => absurd ho w, fun _ _ => by omega, fun _ w => by omega⟩
theorem kBw_more (h : kBw gp o x al cn k j) (h0 : 0 ≤ k ∧ 0 ≤ j) (e : va_up gp (o + k.toNat) (upd (gp (o + k.toNat)) j.toNat (zI v)) = gp2) (ho : kOp (x k.toNat) al j) (hl : kLl gp o cn (k + 1) l) (hb : kBh gp o x al cn (k + 1)) (hj : j < 4) (hk : k + 1 < cn) (rz : rg z) (ez : gp (o + (k + 1).toNat) j.toNat = zI z) (m : v ≤ z ∧ v ≤ l + 1 ∧ (v = z ∨ v = l + 1)) : kBw gp2 o x al cn k (j + 1) := by
  have s := kB_at rz ez
  have b1 := (hb (k + 1) j (by omega) hk h0.2 hj).1
  have l1 := hl.1
  have l2 := hl.2.1
  have q := kB_same e (by omega)
  have s2 : kB gp2 o (k + 1) j = z := by rw [kB_other e (by omega) (by omega)]; exact s
  exact kBw_s h h0 e ⟨by omega, fun w => absurd ho w, fun _ w => by omega, fun _ _ => ⟨l, kLs_keep (hl.2.2.2 hk) (by omega) (by omega) e, by omega, by omega, by omega⟩⟩
theorem kOx_0 (e : x k.toNat = zI z2) (h : z2 = 0) (e5 : zI c = zI z5) : zI z5 = kOx (x k.toNat) (zI c) := by
  unfold kOx
  rw [if_pos (by rw [e, h]; rfl), e5]
theorem kOx_1 (e : x k.toNat = zI z2) (r2 : rg z2) (h : ¬ z2 = 0) (e4 : x k.toNat = zI z4) (e5 : zI z4 = zI z5) : zI z5 = kOx (x k.toNat) (zI c) := by
  unfold kOx
  rw [if_neg (show ¬ x k.toNat = 0 from fun q => h ((zI_eq r2 (by omega)).mp (by rw [← e, q]; rfl))), e4, e5]
theorem kb_01 (y : Int32) : y &&& 1 = 0 ∨ y &&& 1 = 1 := by
  by_cases h : y &&& 1 = 1
  · exact Or.inr h
  · left
    have o1 : ∀ i, i < 32 → bt 1 i = decide (i = 0) := by decide +kernel
    rw [kb_one] at h
    apply b_ext
    intro i hi
    rw [b_and, o1 i hi, show bt (0 : Int32) i = false from b_0 i]
    by_cases e : i = 0
    · subst e
      simp [h]
    · simp [e]
theorem kOp_y (e5 : zI z5 = kOx (x k.toNat) al) (e8 : zI z5 >>> (zI j &&& 31) = zI z8) (e9 : zI z8 &&& zI 1 = zI z9) (r9 : rg z9) (h : ¬ z9 = 0) : kOp (x k.toNat) al j := by
  unfold kOp
  rw [← e5, e8]
  rcases kb_01 (zI z8) with q | q
  · exact absurd ((zI_eq r9 (show rg 0 by omega)).mp (e9.symm.trans q)) h
  · exact q
theorem kOp_n (e5 : zI z5 = kOx (x k.toNat) al) (e8 : zI z5 >>> (zI j &&& 31) = zI z8) (e9 : zI z8 &&& zI 1 = zI z9) (h : z9 = 0) : ¬ kOp (x k.toNat) al j := by
  unfold kOp
  rw [← e5, e8]
  intro q
  have q2 : zI z9 = 1 := e9.symm.trans q
  rw [h] at q2
  exact absurd q2 (by decide)
end
/-! the choice at a CLUSTER: the first by PREFERENCE among the cheapest -/
def kVq (gp : Nat → Nat → Int32) (o : Nat) (c be : Int) (fp : Nat → Int32) (q : Nat) : Int := kB gp o c (fp q).toInt + (if (fp q).toInt = be ∨ be = -9 then 0 else 1)
def kFo (gp : Nat → Nat → Int32) (o : Nat) (c be : Int) (fp : Nat → Int32) (j x l : Int) : Prop := (l = 1000 ∧ x = 0 ∧ ∀ q : Nat, (q : Int) < j → 1000 ≤ kVq gp o c be fp q) ∨ (l < 1000 ∧ ∃ p : Nat, (p : Int) < j ∧ (fp p).toInt = x ∧ kVq gp o c be fp p = l ∧ (∀ q : Nat, q < p → l < kVq gp o c be fp q) ∧ ∀ q : Nat, (q : Int) < j → l ≤ kVq gp o c be fp q)
def kFx (gp : Nat → Nat → Int32) (o : Nat) (c be : Int) (fp : Nat → Int32) (pn x : Int) : Prop := ∃ l : Int, kFo gp o c be fp pn x l
def kBk (gp : Nat → Nat → Int32) (o : Nat) (k : Int) : Prop := ∀ f : Int, 0 ≤ f → f < 4 → 0 ≤ kB gp o k f ∧ kB gp o k f ≤ 1000
section
variable {gp : Nat → Nat → Int32} {o : Nat} {fp : Nat → Int32} {c be j x l v z2 z3 z5 d : Int}
theorem kBk_of {y : Nat → Int32} {al : Int32} {cn : Int} (h : kBh gp o y al cn 0) (hc : 0 ≤ c ∧ c < cn) : kBk gp o c := fun f h1 h2 => (h c f hc.1 hc.2 h1 h2).1
theorem kVq_at (hb : kBk gp o c) (r2 : rg z2) (e2 : fp j.toNat = zI z2) (b2 : 0 ≤ z2 ∧ z2 ≤ 3) (r3 : rg z3) (e3 : gp (o + c.toNat) z2.toNat = zI z3) (hd : ((z2 = be ∨ be = -9) ∧ d = 0) ∨ (¬ (z2 = be ∨ be = -9) ∧ d = 1)) (r5 : rg z5) (e5 : zI (z3 + d) = zI z5) : kVq gp o c be fp (kNa j) = z5 := by
  have a := kB_at (f := z2) r3 e3
  have b := hb z2 (by omega) (by omega)
  have t : (fp (kNa j)).toInt = z2 := by rw [show fp (kNa j) = zI z2 from e2, zI_toInt r2]
  have s := (zI_eq (show rg (z3 + d) by omega) r5).mp e5
  unfold kVq
  rw [t, a]
  rcases hd with ⟨h, hd⟩ | ⟨h, hd⟩
  · rw [if_pos h]; omega
  · rw [if_neg h]; omega
theorem kFo_0 : kFo gp o c be fp 0 0 1000 := Or.inl ⟨rfl, rfl, fun q h => by omega⟩
theorem kFo_ge (h : kFo gp o c be fp j x l) (h0 : 0 ≤ j) (e : kVq gp o c be fp (kNa j) = v) (hv : l ≤ v) : kFo gp o c be fp (j + 1) x l := by
  have key : ∀ q : Nat, (q : Int) < j + 1 → (∀ q : Nat, (q : Int) < j → l ≤ kVq gp o c be fp q) → l ≤ kVq gp o c be fp q := fun q hq hh => by
    by_cases w : q = kNa j
    · rw [w, e]; exact hv
    · exact hh q (by have : ¬ q = j.toNat := w; omega)
  rcases h with ⟨h1, h2, h3⟩ | ⟨h1, p, h2, h3, h4, h5, h6⟩
  · exact Or.inl ⟨h1, h2, fun q hq => h1 ▸ key q hq (fun q hq => h1 ▸ h3 q hq)⟩
  · exact Or.inr ⟨h1, p, by omega, h3, h4, h5, fun q hq => key q hq h6⟩
theorem kFo_lt (h : kFo gp o c be fp j x l) (h0 : 0 ≤ j) (r2 : rg z2) (e2 : fp j.toNat = zI z2) (e : kVq gp o c be fp (kNa j) = v) (hv : v < l) : kFo gp o c be fp (j + 1) z2 v := by
  have jn : ((kNa j : Nat) : Int) = j := kNc h0
  have lo : l ≤ 1000 ∧ ∀ q : Nat, (q : Int) < j → l ≤ kVq gp o c be fp q := by
    rcases h with ⟨h1, h2, h3⟩ | ⟨h1, p, h2, h3, h4, h5, h6⟩
    · exact ⟨by omega, fun q hq => h1 ▸ h3 q hq⟩
    · exact ⟨by omega, h6⟩
  refine Or.inr ⟨by omega, kNa j, by omega, by rw [show fp (kNa j) = zI z2 from e2, zI_toInt r2], e, fun q hq => ?_, fun q hq => ?_⟩
  · have := lo.2 q (by omega)
    omega
  · by_cases w : q = kNa j
    · rw [w, e]; omega
    · have := lo.2 q (by have : ¬ q = j.toNat := w; omega)
      omega
theorem kFx_of {pn : Int} (h : kFo gp o c be fp j x l) (e : j = pn) : kFx gp o c be fp pn x := ⟨l, e ▸ h⟩
end
/-! all choices; runs -/
def kBf (cs : Nat → Int32) (c : Int) : Int := if c = 0 then -9 else (cs (c - 1).toNat).toInt
def kCe (gp : Nat → Nat → Int32) (o : Nat) (fp : Nat → Int32) (pn : Int) (cs : Nat → Int32) (j : Int) : Prop := ∀ c : Int, 0 ≤ c → c < j → kFx gp o c (kBf cs c) fp pn (cs c.toNat).toInt ∧ (0 ≤ (cs c.toNat).toInt ∧ (cs c.toNat).toInt ≤ 3)
def kRo (ro cs : Nat → Int32) (j : Int) : Prop := ∀ i : Nat, (i : Int) < j → ro i = zI (kRn cs (i + 1) - 1)
section
variable {gp : Nat → Nat → Int32} {o : Nat} {fp ja jb F G : Nat → Int32} {pn c be j z z2 r v : Int}
theorem kCe_0 : kCe gp o fp pn ja 0 := fun c h1 h2 => by omega
theorem kCe_le (h : kCe gp o fp pn ja j) (e : c ≤ j) : kCe gp o fp pn ja c := fun q h1 h2 => h q h1 (by omega)
theorem kCe_s (h : kCe gp o fp pn ja j) (h0 : 0 ≤ j) (hb : (j = 0 ∧ be = -9) ∨ (¬ j = 0 ∧ rg be ∧ ja (j - 1).toNat = zI be)) (hf : kFx gp o j be fp pn z) (bz : 0 ≤ z ∧ z ≤ 3) (e : upd ja j.toNat (zI z) = F) : kCe gp o fp pn F (j + 1) := by
  intro c h1 h2
  by_cases q : c = j
  · rw [q, ← e, pk_us, zI_toInt (by omega)]
    refine ⟨?_, bz⟩
    have : kBf (upd ja j.toNat (zI z)) j = be := by
      unfold kBf
      rcases hb with ⟨a, b⟩ | ⟨a, b, d⟩
      · rw [if_pos a, b]
      · rw [if_neg a, pk_un (by omega), d, zI_toInt b]
    rw [this]
    exact hf
  · rw [← e, pk_un (by omega)]
    have : kBf (upd ja j.toNat (zI z)) c = kBf ja c := by
      unfold kBf
      by_cases w : c = 0
      · rw [if_pos w, if_pos w]
      · rw [if_neg w, if_neg w, pk_un (by omega)]
    rw [this]
    exact h c h1 (by omega)
theorem kRn_z (h : r = kRn ja (kNa j)) (h0 : j = 0) : r + 1 = kRn F (kNa (j + 1)) := kRn_first h0 h
theorem kRn_y (h : r = kRn ja (kNa j)) (h0 : 0 ≤ j) (h1 : ¬ j = 0) (rb : rg be) (eb : ja (j - 1).toNat = zI be) (rz : rg z) (e : upd ja j.toNat (zI z) = F) (hz : z = be) : r = kRn F (kNa (j + 1)) := by
  have q := kRn_next h0 h1 e h
  rw [show F j.toNat = F (j - 1).toNat by rw [← e, pk_us, pk_un (by omega), eb, hz], if_pos rfl] at q
  exact (q.trans (Int.add_zero r)).symm
theorem kRn_n (h : r = kRn ja (kNa j)) (h0 : 0 ≤ j) (h1 : ¬ j = 0) (rb : rg be) (eb : ja (j - 1).toNat = zI be) (rz : rg z) (e : upd ja j.toNat (zI z) = F) (hz : ¬ z = be) : r + 1 = kRn F (kNa (j + 1)) := by
  have q := kRn_next h0 h1 e h
  rw [if_neg (show ¬ F j.toNat = F (j - 1).toNat by rw [← e, pk_us, pk_un (by omega), eb]; exact fun w => hz ((zI_eq rz rb).mp w))] at q
  exact q.symm
theorem kRo_0 : kRo jb ja 0 := fun i h => by omega
theorem kRo_s (h : kRo jb ja j) (h0 : 0 ≤ j) (e : upd ja j.toNat (zI z) = F) (hr : r = kRn F (kNa (j + 1))) (hv : v = r - 1) (e2 : upd jb j.toNat (zI v) = G) : kRo G F (j + 1) := by
  intro i hi
  rw [← e2]
  by_cases q : i = j.toNat
  · rw [q, pk_us, hv, hr, kNp h0]
  · rw [pk_un q, h i (by omega), kRn_cong (f := ja) (g := F) (i + 1) (fun k hk => by rw [← e, pk_un (by omega)])]
theorem kRo_le (h : kRo jb ja j) (e : c ≤ j) : kRo jb ja c := fun i hi => h i (by omega)
theorem k_back (rz : rg z) (rz2 : rg z2) (e : upd ja j.toNat (zI z) = F) (l : F j.toNat = zI z2) : z2 = z := by
  rw [← e, pk_us] at l
  exact ((zI_eq rz rz2).mp l).symm
end
theorem kLs_b {gp : Nat → Nat → Int32} {o : Nat} {x : Nat → Int32} {al : Int32} {cn c j b : Int} (h : kLs gp o c j b) (hb : kBw gp o x al cn c j) : 0 ≤ b ∧ b ≤ 1000 := by
  refine ⟨?_, h.1⟩
  rcases h.2.2 with e | ⟨f, g1, g2, g3⟩
  · omega
  · have := (hb f g1 g2).1
    omega
def kBa (gp : Nat → Nat → Int32) (o : Nat) (cn : Int) : Prop := ∀ c : Int, 0 ≤ c → c < cn → kBk gp o c
theorem kAw9 {n al : Int} (h : zI al = kAl n) : zI al = kAw n (-9) := by
  unfold kAw
  rw [if_neg (by omega), h]
