/-! fonts: PREFERENCE becomes 0, 1 .. -/
def kId (f : Nat → Int32) (n : Int) : Prop := ∀ i : Nat, (i : Int) < n → f i = zI i
theorem kId_0 {f : Nat → Int32} : kId f 0 := fun i h => by omega
theorem kId_s {f g : Nat → Int32} {n : Int} (h : kId f n) (h0 : 0 ≤ n) (e : upd f n.toNat (zI n) = g) : kId g (n + 1) := by
  intro i hi
  rw [← e]
  by_cases q : i = n.toNat
  · subst q
    rw [pk_us, show ((n.toNat : Nat) : Int) = n by omega]
  · rw [pk_un q]
    exact h i (by omega)
theorem kId_pm {f : Nat → Int32} {j n : Int} (h : kId f j) (e : n ≤ j) : kPm f n := by
  refine ⟨fun p hp => ⟨p, by omega, hp, h p (by omega)⟩, fun x h0 h1 => ⟨x.toNat, by omega, ?_⟩⟩
  rw [h x.toNat (by omega), show ((x.toNat : Nat) : Int) = x by omega]

