def kPm (f : Nat → Int32) (n : Int) : Prop := (∀ p : Nat, (p : Int) < n → ∃ z : Int, 0 ≤ z ∧ z < n ∧ f p = zI z) ∧ ∀ x : Int, 0 ≤ x → x < n → ∃ p : Nat, (p : Int) < n ∧ f p = zI x
def kHas (f : Nat → Int32) (n x j : Int) : Prop := 0 ≤ j ∧ ∃ q : Nat, j ≤ q ∧ (q : Int) < n ∧ f q = zI x
theorem kHas_0 {f : Nat → Int32} {n x : Int} (h : kPm f n) (h1 : 0 ≤ x) (h2 : x < n) : kHas f n x 0 := by
  obtain ⟨p, h3, h4⟩ := h.2 x h1 h2
  exact ⟨by omega, p, by omega, h3, h4⟩
theorem kHas_lt {f : Nat → Int32} {n x j : Int} (h : kHas f n x j) : 0 ≤ j ∧ j < n := by
  obtain ⟨h0, q, h1, h2, -⟩ := h
  omega
theorem kHas_1 {f : Nat → Int32} {n x j z : Int} (h : kHas f n x j) (hz : rg z) (hx : rg x) (e : f j.toNat = zI z) (ne : ¬ z = x) : kHas f n x (j + 1) := by
  obtain ⟨h0, q, h1, h2, h3⟩ := h
  refine ⟨by omega, q, ?_, h2, h3⟩
  by_cases c : (q : Int) = j
  · exfalso
    have c2 : j.toNat = q := by omega
    rw [c2, h3] at e
    exact ne ((zI_eq hx hz).mp e).symm
  · omega
theorem kPm_at {f : Nat → Int32} {n : Int} (h : kPm f n) {i : Nat} {z : Int} (hn : n ≤ 4) (hi : (i : Int) < n) (hz : rg z) (e : f i = zI z) : 0 ≤ z ∧ z < n := by
  obtain ⟨w, h1, h2, h3⟩ := h.1 i hi
  rw [h3] at e
  have := (zI_eq (by omega) hz).mp e
  omega
/-- the first place + 1 values moved one back, x ahead -/
def kMv (f : Nat → Int32) (w j : Int) : Nat → Int32 := fun i => if j < (i : Int) ∧ (i : Int) ≤ w then f (i - 1) else f i
theorem kMv_0 (f : Nat → Int32) (w : Int) : kMv f w w = f := by
  funext i
  unfold kMv
  rw [if_neg (by omega)]
theorem kMv_1 (f : Nat → Int32) {w j z : Int} (h : 0 < j ∧ j ≤ w) (e : kMv f w j (j - 1).toNat = zI z) : upd (kMv f w j) j.toNat (zI z) = kMv f w (j - 1) := by
  funext i
  unfold kMv at e ⊢
  rw [if_neg (by omega)] at e
  by_cases c : i = j.toNat
  · subst c
    rw [pk_us, if_pos (by omega), ← e]
    congr 1
    omega
  · rw [pk_un c]
    by_cases c2 : j < (i : Int) ∧ (i : Int) ≤ w
    · rw [if_pos c2, if_pos (by omega)]
    · rw [if_neg c2, if_neg (by omega)]
theorem kPm_mv {f : Nat → Int32} {n x w : Int} (h : kPm f n) (hn : n ≤ 4) (hw : 0 ≤ w ∧ w < n) (hx : 0 ≤ x ∧ x < n) (e : f w.toNat = zI x) : kPm (upd (kMv f w 0) 0 (zI x)) n := by
  refine ⟨fun p hp => ?_, fun y h0 h1 => ?_⟩
  · by_cases c : p = 0
    · subst c
      exact ⟨x, hx.1, hx.2, pk_us⟩
    · rw [pk_un c]
      unfold kMv
      by_cases c2 : (0 : Int) < (p : Int) ∧ (p : Int) ≤ w
      · rw [if_pos c2]
        exact h.1 (p - 1) (by omega)
      · rw [if_neg c2]
        exact h.1 p hp
  · by_cases c : y = x
    · subst c
      exact ⟨0, by omega, pk_us⟩
    · obtain ⟨p, h2, h3⟩ := h.2 y h0 h1
      by_cases c2 : (p : Int) < w
      · refine ⟨p + 1, by omega, ?_⟩
        rw [pk_un (by omega)]
        unfold kMv
        rw [if_pos (by omega)]
        exact h3
      · have c3 : ¬ (p : Int) = w := by
          intro q
          have q2 : w.toNat = p := by omega
          rw [q2, h3] at e
          exact c ((zI_eq (by omega) (by omega)).mp e)
        refine ⟨p, h2, ?_⟩
        rw [pk_un (by omega)]
        unfold kMv
        rw [if_neg (by omega)]
        exact h3
