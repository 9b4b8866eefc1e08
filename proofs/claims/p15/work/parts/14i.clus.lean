/-! where CLUSTERS begin; who fits them -/
def kSt (f : Nat → Int32) (n m : Int) : Prop := ∀ i : Nat, (i : Int) < n → ∃ z : Int, 0 ≤ z ∧ z ≤ m ∧ f i = zI z
theorem kSt_0 {f : Nat → Int32} {m : Int} : kSt f 0 m := fun i h => by omega
theorem kSt_upd {f : Nat → Int32} {n m v : Int} (h : kSt f n m) (hn : 0 ≤ n) (hv : 0 ≤ v ∧ v ≤ m) : kSt (upd f n.toNat (zI v)) (n + 1) m := by
  intro i hi
  by_cases e : i = n.toNat
  · subst e
    exact ⟨v, hv.1, hv.2, pk_us⟩
  · rw [pk_un e]
    exact h i (by omega)
theorem kSt_at {f : Nat → Int32} {n m i z : Int} (h : kSt f n m) (hi : 0 ≤ i ∧ i < n) (hm : m ≤ 24) (hz : rg z) (e : f i.toNat = zI z) : 0 ≤ z ∧ z ≤ m := by
  obtain ⟨w, h1, h2, h3⟩ := h i.toNat (by omega)
  rw [h3] at e
  have := (zI_eq (by omega) hz).mp e
  omega
def kFp (x : Int32) (n wo : Int) : Prop := x = 0 ∨ ∃ f : Int, 0 ≤ f ∧ f < n ∧ kCan x f wo
def kFt (fi : Nat → Int32) (fn n wo : Int) : Prop := ∀ c : Int, 0 ≤ c → c < n → kFp (fi c.toNat) fn wo
theorem kFt_0 {fi : Nat → Int32} {fn wo : Int} : kFt fi fn 0 wo := fun c h1 h2 => by omega
theorem kFt_upd {fi : Nat → Int32} {fn c wo : Int} {x : Int32} (h : kFt fi fn c wo) (hc : 0 ≤ c) : kFt (upd fi c.toNat x) fn c wo := by
  intro c' h1 h2
  rw [pk_un (by omega)]
  exact h c' h1 h2
theorem kFt_1 {fi : Nat → Int32} {fn c wo : Int} (h : kFt fi fn c wo) (h2 : kFp (fi c.toNat) fn wo) : kFt fi fn (c + 1) wo := by
  intro c' h3 h4
  by_cases e : c' = c
  · subst e
    exact h2
  · exact h c' h3 (by omega)
theorem kFp_same {x y : Int32} {n wo : Int} (h : kFp x n wo) (e : y = x) : kFp y (n + 1) wo := by
  subst e
  rcases h with h | ⟨f, f1, f2, f3⟩
  · exact Or.inl h
  · exact Or.inr ⟨f, f1, by omega, f3⟩
theorem kFp_set {x y : Int32} {j wo : Int} (hj : 0 ≤ j ∧ j < 4) (hw : ¬ j = wo) (e : y = x ||| (zI 1 <<< (zI j &&& 31))) : kFp y (j + 1) wo := by
  subst e
  exact Or.inr ⟨j, hj.1, by omega, kb_set (by omega) hw⟩
theorem kFt_fit {fi : Nat → Int32} {fn n : Int} (h : kFt fi fn n (-9)) (hf : 1 ≤ fn) : kFit fi fn n (-9) := by
  intro c h1 h2
  rcases h c h1 h2 with e | e
  · exact ⟨0, by omega, by omega, by omega, Or.inl e⟩
  · exact e
