section
variable {t l n y i z w : Int}
theorem kAg_0 (h1 : t = 1) (h2 : l = y) (h3 : 0 ≤ z) (h4 : 0 ≤ i ∧ i ≤ n ∧ z ≤ n - i) : kAg t l n y i z 0 := Or.inr (Or.inr (Or.inr (Or.inr ⟨h1, h2, h3, h4, rfl⟩)))
theorem kAg_3 (h1 : t = 1) (h2 : l = y) (h3 : 0 ≤ z) (h4 : ¬ (0 ≤ i ∧ i ≤ n ∧ z ≤ n - i)) : kAg t l n y i z 3 := Or.inr (Or.inr (Or.inr (Or.inl ⟨h1, h2, h3, h4, rfl⟩)))
theorem kAg_4 (h1 : t = 1) (h2 : l = y) (h3 : z < 0) : kAg t l n y i z 4 := Or.inr (Or.inr (Or.inl ⟨h1, h2, h3, rfl⟩))
theorem kAg_P (h : (w = 1 ∧ t = 0) ∨ (w = 0 ∧ t = 1 ∧ l = y) ∨ (w = 2 ∧ t = 1 ∧ ¬ l = y)) (h0 : ¬ w = 0) : kAg t l n y i z w := by
  rcases h with ⟨a, b⟩ | ⟨a, -, -⟩ | ⟨a, b, c⟩
  · exact Or.inl ⟨b, a⟩
  · exact absurd a h0
  · exact Or.inr (Or.inl ⟨b, c, a⟩)
theorem kAg_C (h : (w = 1 ∧ t = 0) ∨ (w = 2 ∧ t = 1 ∧ ¬ l = y) ∨ (w = 3 ∧ t = 1 ∧ l = y ∧ ¬ (0 ≤ i ∧ i ≤ n ∧ 0 ≤ z ∧ z ≤ n - i)) ∨ (w = 0 ∧ t = 1 ∧ l = y ∧ 0 ≤ i ∧ i ≤ n ∧ 0 ≤ z ∧ z ≤ n - i)) (hz : 0 ≤ z) : kAg t l n y i z w := by
  rcases h with ⟨a, b⟩ | ⟨a, b, c⟩ | ⟨a, b, c, d⟩ | ⟨a, b, c, d, e, f, g⟩
  · exact Or.inl ⟨b, a⟩
  · exact Or.inr (Or.inl ⟨b, c, a⟩)
  · exact Or.inr (Or.inr (Or.inr (Or.inl ⟨b, c, hz, fun q => d ⟨q.1, q.2.1, hz, q.2.2⟩, a⟩)))
  · exact Or.inr (Or.inr (Or.inr (Or.inr ⟨b, c, hz, ⟨d, e, g⟩, a⟩)))
theorem kAg_C0 (h : (w = 1 ∧ t = 0) ∨ (w = 2 ∧ t = 1 ∧ ¬ l = y) ∨ (w = 3 ∧ t = 1 ∧ l = y ∧ ¬ (0 ≤ i ∧ i ≤ n ∧ 0 ≤ z ∧ z ≤ n - i)) ∨ (w = 0 ∧ t = 1 ∧ l = y ∧ 0 ≤ i ∧ i ≤ n ∧ 0 ≤ z ∧ z ≤ n - i)) (hz : 0 ≤ z) (h0 : w = 0) : kAg t l n y i z 0 := h0 ▸ kAg_C h hz
end
