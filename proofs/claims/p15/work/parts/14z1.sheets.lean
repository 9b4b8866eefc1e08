/-! sheets as functions of their number; what each call does to them -/
def kS4 {α : Type} (a b c d : α) (k : Int) : α := if k = 0 then a else if k = 1 then b else if k = 2 then c else d
theorem kS4_0 {α : Type} {a b c d : α} {k : Int} (h : k = 0) : kS4 a b c d k = a := by
  subst h
  rfl
theorem kS4_1 {α : Type} {a b c d : α} {k : Int} (h : k = 1) : kS4 a b c d k = b := by
  subst h
  rfl
theorem kS4_2 {α : Type} {a b c d : α} {k : Int} (h : k = 2) : kS4 a b c d k = c := by
  subst h
  rfl
theorem kS4_3 {α : Type} {a b c d : α} {k : Int} (h : k = 3) : kS4 a b c d k = d := by
  subst h
  rfl
def kSm {α : Type} (U F : Int → α) : Prop := ∀ x : Int, 0 ≤ x → x ≤ 3 → U x = F x
def kUp {α : Type} (U F : Int → α) (k : Int) (g : α) : Prop := ∀ x : Int, 0 ≤ x → x ≤ 3 → U x = if x = k then g else F x
theorem kSm_rf {α : Type} {F : Int → α} : kSm F F := fun _ _ _ => rfl
theorem kx4 {x : Int} (h0 : 0 ≤ x) (h3 : x ≤ 3) : x = 0 ∨ x = 1 ∨ x = 2 ∨ x = 3 := by omega
theorem kUp_0 {α : Type} {a b c d g : α} {k : Int} (h : k = 0) : kUp (kS4 g b c d) (kS4 a b c d) k g := by
  intro x h0 h3
  subst h
  rcases kx4 h0 h3 with e | e | e | e <;> subst e <;> rfl
theorem kUp_1 {α : Type} {a b c d g : α} {k : Int} (h : k = 1) : kUp (kS4 a g c d) (kS4 a b c d) k g := by
  intro x h0 h3
  subst h
  rcases kx4 h0 h3 with e | e | e | e <;> subst e <;> rfl
theorem kUp_2 {α : Type} {a b c d g : α} {k : Int} (h : k = 2) : kUp (kS4 a b g d) (kS4 a b c d) k g := by
  intro x h0 h3
  subst h
  rcases kx4 h0 h3 with e | e | e | e <;> subst e <;> rfl
theorem kUp_3 {α : Type} {a b c d g : α} {k : Int} (h : k = 3) : kUp (kS4 a b c g) (kS4 a b c d) k g := by
  intro x h0 h3
  subst h
  rcases kx4 h0 h3 with e | e | e | e <;> subst e <;> rfl
/-! rows of noughts -/
def kZ (f : Nat → Int32) (n : Int) : Prop := ∀ i : Nat, (i : Int) < n → f i = zI 0
theorem kZ_0 {f : Nat → Int32} : kZ f 0 := fun i h => by omega
theorem kZ_s {f g : Nat → Int32} {n : Int} (h : kZ f n) (h0 : 0 ≤ n) (e : upd f n.toNat (zI 0) = g) : kZ g (n + 1) := by
  intro i hi
  rw [← e]
  by_cases q : i = n.toNat
  · subst q
    exact pk_us
  · rw [pk_un q]
    exact h i (by omega)
theorem kZ_le {f : Nat → Int32} {n m : Int} (h : kZ f n) (e : m ≤ n) : kZ f m := fun i hi => h i (by omega)
def kZr (g f : Nat → Int32) (k n : Int) : Prop := ∀ i : Nat, g i = if 60 * k ≤ (i : Int) ∧ (i : Int) < 60 * k + n then zI 0 else f i
theorem kZr_0 {f : Nat → Int32} {k : Int} : kZr f f k 0 := fun i => by rw [if_neg (by omega)]
theorem kZr_s {f g g2 : Nat → Int32} {k n : Int} (h : kZr g f k n) (h0 : 0 ≤ n) (hk : 0 ≤ k) (e : upd g (60 * k + n).toNat (zI 0) = g2) : kZr g2 f k (n + 1) := by
  intro i
  rw [← e]
  by_cases q : i = (60 * k + n).toNat
  · subst q
    rw [pk_us, if_pos (by omega)]
  · rw [pk_un q, h i]
    by_cases c : 60 * k ≤ (i : Int) ∧ (i : Int) < 60 * k + n
    · rw [if_pos c, if_pos (by omega)]
    · rw [if_neg c, if_neg (by omega)]
theorem kZr_le {f g : Nat → Int32} {k n m : Int} (h : kZr g f k n) (e : n = m) : kZr g f k m := e ▸ h
/-! what is cut to a LANE; a cell -/
def kCut (la x : Int) : Int32 := if la = 0 then (zI x).toInt8.toInt32 else if la = 1 then (zI x).toInt16.toInt32 else zI x
def kAt (th n i : Int) (fr : Nat → Int32) : Int32 := if th = 1 ∧ 0 ≤ i ∧ i ≤ n - 1 then fr i.toNat else zI 0
/-! sheet, lose, put, cell, copy: the class -/
def kShX (k y z : Int) (T L N : Int → Int) (F : Int → Nat → Int32) (T2 L2 N2 : Int → Int) (U : Int → Nat → Int32) : Prop := ((0 ≤ k ∧ k ≤ 3 ∧ 0 ≤ y ∧ y ≤ 2 ∧ 0 ≤ z ∧ z ≤ 60) ∧ kUp T2 T k 1 ∧ kUp L2 L k y ∧ kUp N2 N k z ∧ ∃ g : Nat → Int32, kZ g 60 ∧ kUp U F k g) ∨ (¬ (0 ≤ k ∧ k ≤ 3 ∧ 0 ≤ y ∧ y ≤ 2 ∧ 0 ≤ z ∧ z ≤ 60) ∧ kSm T2 T ∧ kSm L2 L ∧ kSm N2 N ∧ kSm U F)
def kLoX (k : Int) (T T2 : Int → Int) (rz : Int) : Prop := (¬ (0 ≤ k ∧ k ≤ 3) ∧ rz = -1 ∧ kSm T2 T) ∨ ((0 ≤ k ∧ k ≤ 3) ∧ rz = T k ∧ kUp T2 T k 0)
def kPuX (k i z : Int) (T L N : Int → Int) (F U : Int → Nat → Int32) (rz : Int) : Prop := (¬ (0 ≤ k ∧ k ≤ 3) ∧ rz = -1 ∧ kSm U F) ∨ ((0 ≤ k ∧ k ≤ 3) ∧ ¬ T k = 1 ∧ rz = -11 ∧ kSm U F) ∨ ((0 ≤ k ∧ k ≤ 3) ∧ T k = 1 ∧ ¬ (0 ≤ i ∧ i ≤ N k - 1) ∧ rz = -13 ∧ kSm U F) ∨ ((0 ≤ k ∧ k ≤ 3) ∧ T k = 1 ∧ (0 ≤ i ∧ i ≤ N k - 1) ∧ rz = 1 ∧ kUp U F k (upd (F k) i.toNat (kCut (L k) z)))
theorem kPuX_1 {k i z : Int} {T L N : Int → Int} {F : Int → Nat → Int32} {rz : Int} (h : ¬ (0 ≤ k ∧ k ≤ 3)) (e : rz = -1) : kPuX k i z T L N F F rz := Or.inl ⟨h, e, kSm_rf⟩
theorem kPuX_2 {k i z t : Int} {T L N : Int → Int} {F : Int → Nat → Int32} {rz : Int} (h : 0 ≤ k ∧ k ≤ 3) (ht : T k = t) (h1 : ¬ t = 1) (e : rz = -11) : kPuX k i z T L N F F rz := Or.inr (Or.inl ⟨h, by rw [ht]; exact h1, e, kSm_rf⟩)
theorem kPuX_3 {k i z t n : Int} {T L N : Int → Int} {F : Int → Nat → Int32} {rz : Int} (h : 0 ≤ k ∧ k ≤ 3) (ht : T k = t) (hn : N k = n) (h1 : t = 1) (h2 : ¬ (0 ≤ i ∧ i ≤ n - 1)) (e : rz = -13) : kPuX k i z T L N F F rz := Or.inr (Or.inr (Or.inl ⟨h, by rw [ht]; exact h1, by rw [hn]; exact h2, e, kSm_rf⟩))
theorem kPuX_4 {k i z t n l : Int} {T L N : Int → Int} {F U : Int → Nat → Int32} {rz : Int} {f g : Nat → Int32} {x : Int32} (h : 0 ≤ k ∧ k ≤ 3) (ht : T k = t) (hn : N k = n) (hl : L k = l) (hf : F k = f) (h1 : t = 1) (h2 : 0 ≤ i ∧ i ≤ n - 1) (e : rz = 1) (hx : kCut l z = x) (hg : upd f i.toNat x = g) (hU : kUp U F k g) : kPuX k i z T L N F U rz := by
  refine Or.inr (Or.inr (Or.inr ⟨h, by rw [ht]; exact h1, by rw [hn]; exact h2, e, ?_⟩))
  rw [hf, hl, hx, hg]
  exact hU
def kLOST : Int64 := -9223372036854775808
def kCeX (k i y : Int) (T L N : Int → Int) (F : Int → Nat → Int32) (rz : Int64) : Prop := (¬ ((0 ≤ k ∧ k ≤ 3) ∧ (0 ≤ y ∧ y ≤ 2)) ∧ rz = kLOST) ∨ (((0 ≤ k ∧ k ≤ 3) ∧ (0 ≤ y ∧ y ≤ 2)) ∧ ¬ (T k = 1 ∧ L k = y ∧ 0 ≤ i ∧ i ≤ N k - 1) ∧ rz = kLOST) ∨ (((0 ≤ k ∧ k ≤ 3) ∧ (0 ≤ y ∧ y ≤ 2)) ∧ (T k = 1 ∧ L k = y ∧ 0 ≤ i ∧ i ≤ N k - 1) ∧ rz = (F k i.toNat).toInt64)
theorem kCeX_1 {k i y : Int} {T L N : Int → Int} {F : Int → Nat → Int32} {rz : Int64} (h : ¬ ((0 ≤ k ∧ k ≤ 3) ∧ (0 ≤ y ∧ y ≤ 2))) (e : rz = kLOST) : kCeX k i y T L N F rz := Or.inl ⟨h, e⟩
theorem kCeX_2 {k i y t l n : Int} {T L N : Int → Int} {F : Int → Nat → Int32} {rz : Int64} (h : (0 ≤ k ∧ k ≤ 3) ∧ (0 ≤ y ∧ y ≤ 2)) (ht : T k = t) (hl : L k = l) (hn : N k = n) (h2 : ¬ (t = 1 ∧ l = y ∧ 0 ≤ i ∧ i ≤ n - 1)) (e : rz = kLOST) : kCeX k i y T L N F rz := Or.inr (Or.inl ⟨h, by rw [ht, hl, hn]; exact h2, e⟩)
theorem kCeX_3 {k i y t l n z : Int} {T L N : Int → Int} {F : Int → Nat → Int32} {f : Nat → Int32} (h : (0 ≤ k ∧ k ≤ 3) ∧ (0 ≤ y ∧ y ≤ 2)) (ht : T k = t) (hl : L k = l) (hn : N k = n) (hf : F k = f) (h2 : t = 1 ∧ l = y ∧ 0 ≤ i ∧ i ≤ n - 1) (hz : kAt t n i f = zI z) : kCeX k i y T L N F ((zI z).toInt64) := by
  refine Or.inr (Or.inr ⟨h, by rw [ht, hl, hn]; exact h2, ?_⟩)
  rw [hf, ← hz]
  unfold kAt
  rw [if_pos ⟨h2.1, h2.2.2⟩]
def kOkC (i j n a b : Int) : Prop := (0 ≤ i ∧ i ≤ a) ∧ (0 ≤ n ∧ n ≤ a - i) ∧ (0 ≤ j ∧ j ≤ b) ∧ n ≤ b - j
def kRan (k o : Int) : Prop := (0 ≤ k ∧ k ≤ 3) ∧ (0 ≤ o ∧ o ≤ 3)
def kCoX (k i o j n : Int) (T L N : Int → Int) (F U : Int → Nat → Int32) (rz : Int) : Prop := (¬ kRan k o ∧ rz = -1 ∧ kSm U F) ∨ (kRan k o ∧ ¬ (T k = 1 ∧ T o = 1) ∧ rz = -11 ∧ kSm U F) ∨ (kRan k o ∧ (T k = 1 ∧ T o = 1) ∧ ¬ L k = L o ∧ rz = -12 ∧ kSm U F) ∨ (kRan k o ∧ (T k = 1 ∧ T o = 1) ∧ L k = L o ∧ ¬ kOkC i j n (N k) (N o) ∧ rz = -13 ∧ kSm U F) ∨ (kRan k o ∧ (T k = 1 ∧ T o = 1) ∧ L k = L o ∧ kOkC i j n (N k) (N o) ∧ rz = n ∧ kUp U F o (va_cpy (F k) (F o) i.toNat j.toNat n.toNat))
section
variable {k i o j n tk to' lk lo nk no : Int} {T L N : Int → Int} {F U : Int → Nat → Int32} {rz : Int} {fk fo g : Nat → Int32}
theorem kCoX_1 (h : ¬ ((0 ≤ k ∧ k ≤ 3) ∧ (0 ≤ o ∧ o ≤ 3))) (e : rz = -1) : kCoX k i o j n T L N F F rz := Or.inl ⟨h, e, kSm_rf⟩
theorem kCoX_2 (h : (0 ≤ k ∧ k ≤ 3) ∧ (0 ≤ o ∧ o ≤ 3)) (h1 : T k = tk) (h2 : T o = to') (c : ¬ (tk = 1 ∧ to' = 1)) (e : rz = -11) : kCoX k i o j n T L N F F rz := Or.inr (Or.inl ⟨h, by rw [h1, h2]; exact c, e, kSm_rf⟩)
theorem kCoX_3 (h : (0 ≤ k ∧ k ≤ 3) ∧ (0 ≤ o ∧ o ≤ 3)) (h1 : T k = tk) (h2 : T o = to') (h3 : L k = lk) (h4 : L o = lo) (c : tk = 1 ∧ to' = 1) (c2 : ¬ lk = lo) (e : rz = -12) : kCoX k i o j n T L N F F rz := Or.inr (Or.inr (Or.inl ⟨h, by rw [h1, h2]; exact c, by rw [h3, h4]; exact c2, e, kSm_rf⟩))
theorem kCoX_4 (h : (0 ≤ k ∧ k ≤ 3) ∧ (0 ≤ o ∧ o ≤ 3)) (h1 : T k = tk) (h2 : T o = to') (h3 : L k = lk) (h4 : L o = lo) (h5 : N k = nk) (h6 : N o = no) (c : tk = 1 ∧ to' = 1) (c2 : lk = lo) (c3 : ¬ ((0 ≤ i ∧ i ≤ nk) ∧ (0 ≤ n ∧ n ≤ nk - i) ∧ (0 ≤ j ∧ j ≤ no) ∧ n ≤ no - j)) (e : rz = -13) : kCoX k i o j n T L N F F rz := Or.inr (Or.inr (Or.inr (Or.inl ⟨h, by rw [h1, h2]; exact c, by rw [h3, h4]; exact c2, by rw [h5, h6]; exact c3, e, kSm_rf⟩)))
theorem kCoX_5 (h : (0 ≤ k ∧ k ≤ 3) ∧ (0 ≤ o ∧ o ≤ 3)) (h1 : T k = tk) (h2 : T o = to') (h3 : L k = lk) (h4 : L o = lo) (h5 : N k = nk) (h6 : N o = no) (h7 : F k = fk) (h8 : F o = fo) (c : tk = 1 ∧ to' = 1) (c2 : lk = lo) (c3 : (0 ≤ i ∧ i ≤ nk) ∧ (0 ≤ n ∧ n ≤ nk - i) ∧ (0 ≤ j ∧ j ≤ no) ∧ n ≤ no - j) (e : rz = n) (hg : va_cpy fk fo i.toNat j.toNat n.toNat = g) (hU : kUp U F o g) : kCoX k i o j n T L N F U rz := by
  refine Or.inr (Or.inr (Or.inr (Or.inr ⟨h, by rw [h1, h2]; exact c, by rw [h3, h4]; exact c2, by rw [h5, h6]; exact c3, e, ?_⟩)))
  rw [h7, h8, hg]
  exact hU
end
/-! the reference -/
def kShM (k y z : Int) (so sl ce so2 sl2 ce2 : Nat → Int32) : Prop := ((0 ≤ k ∧ k ≤ 3 ∧ 0 ≤ y ∧ y ≤ 2 ∧ 0 ≤ z ∧ z ≤ 60) ∧ so2 = upd so k.toNat (zI y) ∧ sl2 = upd sl k.toNat (zI z) ∧ kZr ce2 ce k 60) ∨ (¬ (0 ≤ k ∧ k ≤ 3 ∧ 0 ≤ y ∧ y ≤ 2 ∧ 0 ≤ z ∧ z ≤ 60) ∧ so2 = so ∧ sl2 = sl ∧ ce2 = ce)
def kLoM (k : Int) (so so2 : Nat → Int32) (rz : Int) : Prop := (¬ (0 ≤ k ∧ k ≤ 3) ∧ rz = -1 ∧ so2 = so) ∨ ((0 ≤ k ∧ k ≤ 3) ∧ so2 = upd so k.toNat (zI (-9)) ∧ ((so k.toNat = zI (-9) ∧ rz = 0) ∨ (¬ so k.toNat = zI (-9) ∧ rz = 1)))
theorem kLoM_2 {k z rz : Int} {so so2 : Nat → Int32} (h : 0 ≤ k ∧ k ≤ 3) (e : upd so k.toNat (zI (-9)) = so2) (hz : rg z) (ez : so k.toNat = zI z) (c : z = -9) (er : rz = 0) : kLoM k so so2 rz := Or.inr ⟨h, e.symm, Or.inl ⟨by rw [ez, c], er⟩⟩
theorem kLoM_3 {k z rz : Int} {so so2 : Nat → Int32} (h : 0 ≤ k ∧ k ≤ 3) (e : upd so k.toNat (zI (-9)) = so2) (hz : rg z) (ez : so k.toNat = zI z) (c : ¬ z = -9) (er : rz = 1) : kLoM k so so2 rz := Or.inr ⟨h, e.symm, Or.inr ⟨fun q => c ((zI_eq hz (by omega)).mp (ez.symm.trans q)), er⟩⟩
def kPuM (k i z : Int) (so sl ce ce2 : Nat → Int32) (rz : Int) : Prop := (¬ (0 ≤ k ∧ k ≤ 3) ∧ rz = -1 ∧ ce2 = ce) ∨ ((0 ≤ k ∧ k ≤ 3) ∧ so k.toNat = zI (-9) ∧ rz = -11 ∧ ce2 = ce) ∨ ((0 ≤ k ∧ k ≤ 3) ∧ ∃ s n : Int, rg s ∧ rg n ∧ so k.toNat = zI s ∧ sl k.toNat = zI n ∧ ¬ s = -9 ∧ ((¬ (0 ≤ i ∧ i ≤ n - 1) ∧ rz = -13 ∧ ce2 = ce) ∨ ((0 ≤ i ∧ i ≤ n - 1) ∧ rz = 1 ∧ ce2 = upd ce (60 * k + i).toNat (kCut s z))))
section
variable {k i z s n x rz : Int} {so sl ce ce2 : Nat → Int32}
theorem kPuM_1 (h : ¬ (0 ≤ k ∧ k ≤ 3)) (e : rz = -1) : kPuM k i z so sl ce ce rz := Or.inl ⟨h, e, rfl⟩
theorem kPuM_2 (h : 0 ≤ k ∧ k ≤ 3) (es : so k.toNat = zI s) (c : s = -9) (e : rz = -11) : kPuM k i z so sl ce ce rz := Or.inr (Or.inl ⟨h, by rw [es, c], e, rfl⟩)
theorem kPuM_3 (h : 0 ≤ k ∧ k ≤ 3) (hs : rg s) (hn : rg n) (es : so k.toNat = zI s) (en : sl k.toNat = zI n) (c : ¬ s = -9) (c2 : ¬ (0 ≤ i ∧ i ≤ n - 1)) (e : rz = -13) : kPuM k i z so sl ce ce rz := Or.inr (Or.inr ⟨h, s, n, hs, hn, es, en, c, Or.inl ⟨c2, e, rfl⟩⟩)
theorem kPuM_4 (h : 0 ≤ k ∧ k ≤ 3) (hs : rg s) (hn : rg n) (es : so k.toNat = zI s) (en : sl k.toNat = zI n) (c : ¬ s = -9) (c2 : 0 ≤ i ∧ i ≤ n - 1) (e : rz = 1) (hx : kCut s z = zI x) (hg : upd ce (60 * k + i).toNat (zI x) = ce2) : kPuM k i z so sl ce ce2 rz := Or.inr (Or.inr ⟨h, s, n, hs, hn, es, en, c, Or.inr ⟨c2, e, by rw [hx, hg]⟩⟩)
end
def kCeM (k i y : Int) (so sl ce : Nat → Int32) (rz : Int64) : Prop := (¬ ((0 ≤ k ∧ k ≤ 3) ∧ (0 ≤ y ∧ y ≤ 2)) ∧ rz = kLOST) ∨ (((0 ≤ k ∧ k ≤ 3) ∧ (0 ≤ y ∧ y ≤ 2)) ∧ ∃ s n : Int, rg s ∧ rg n ∧ so k.toNat = zI s ∧ sl k.toNat = zI n ∧ ((¬ (s = y ∧ 0 ≤ i ∧ i ≤ n - 1) ∧ rz = kLOST) ∨ ((s = y ∧ 0 ≤ i ∧ i ≤ n - 1) ∧ rz = (ce (60 * k + i).toNat).toInt64)))
def kCoM (k i o j n : Int) (so sl ce ce2 : Nat → Int32) (rz : Int) : Prop := (¬ kRan k o ∧ rz = -1 ∧ ce2 = ce) ∨ (kRan k o ∧ (so k.toNat = zI (-9) ∨ so o.toNat = zI (-9)) ∧ rz = -11 ∧ ce2 = ce) ∨ (kRan k o ∧ ¬ (so k.toNat = zI (-9) ∨ so o.toNat = zI (-9)) ∧ ¬ so k.toNat = so o.toNat ∧ rz = -12 ∧ ce2 = ce) ∨ (kRan k o ∧ ¬ (so k.toNat = zI (-9) ∨ so o.toNat = zI (-9)) ∧ so k.toNat = so o.toNat ∧ ∃ a b : Int, rg a ∧ rg b ∧ sl k.toNat = zI a ∧ sl o.toNat = zI b ∧ ((¬ kOkC i j n a b ∧ rz = -13 ∧ ce2 = ce) ∨ (kOkC i j n a b ∧ rz = n ∧ ce2 = va_cpy ce ce (60 * k + i).toNat (60 * o + j).toNat n.toNat)))
section
variable {k i y s n z : Int} {so sl ce : Nat → Int32} {rz : Int64}
theorem kCeM_1 (h : ¬ ((0 ≤ k ∧ k ≤ 3) ∧ (0 ≤ y ∧ y ≤ 2))) (e : rz = kLOST) : kCeM k i y so sl ce rz := Or.inl ⟨h, e⟩
theorem kCeM_2 (h : (0 ≤ k ∧ k ≤ 3) ∧ (0 ≤ y ∧ y ≤ 2)) (hs : rg s) (es : so k.toNat = zI s) (c : ¬ s = y) (e : rz = kLOST) : kCeM k i y so sl ce rz := by
  obtain ⟨n, hn, en⟩ := zI_ex (sl k.toNat)
  exact Or.inr ⟨h, s, n, hs, hn, es, en, Or.inl ⟨fun q => c q.1, e⟩⟩
theorem kCeM_3 (h : (0 ≤ k ∧ k ≤ 3) ∧ (0 ≤ y ∧ y ≤ 2)) (hs : rg s) (hn : rg n) (es : so k.toNat = zI s) (en : sl k.toNat = zI n) (c : ¬ (0 ≤ i ∧ i ≤ n - 1)) (e : rz = kLOST) : kCeM k i y so sl ce rz := Or.inr ⟨h, s, n, hs, hn, es, en, Or.inl ⟨fun q => c q.2, e⟩⟩
theorem kCeM_4 (h : (0 ≤ k ∧ k ≤ 3) ∧ (0 ≤ y ∧ y ≤ 2)) (hs : rg s) (hn : rg n) (es : so k.toNat = zI s) (en : sl k.toNat = zI n) (c1 : s = y) (c : 0 ≤ i ∧ i ≤ n - 1) (ez : ce (60 * k + i).toNat = zI z) : kCeM k i y so sl ce ((zI z).toInt64) := Or.inr ⟨h, s, n, hs, hn, es, en, Or.inr ⟨⟨c1, c⟩, by rw [ez]⟩⟩
end
def kCpL (g f : Nat → Int32) (S Dd n q ah : Int) : Prop := ∀ x : Nat, g x = if (ah = 1 ∧ Dd + n - q ≤ (x : Int) ∧ (x : Int) < Dd + n) ∨ (ah = 0 ∧ Dd ≤ (x : Int) ∧ (x : Int) < Dd + q) then f (S + ((x : Int) - Dd)).toNat else f x
theorem kCpL_0 {f : Nat → Int32} {S Dd n ah : Int} : kCpL f f S Dd n 0 ah := fun x => by rw [if_neg (by omega)]
theorem kCpL_s {g g2 f : Nat → Int32} {S Dd n q ah c z : Int} (h : kCpL g f S Dd n q ah) (hS : 0 ≤ S ∧ 0 ≤ Dd ∧ 0 ≤ q ∧ q < n) (hc : (ah = 1 ∧ c = n - 1 - q) ∨ (ah = 0 ∧ c = q)) (dis : ¬ ((ah = 1 ∧ Dd + n - q ≤ S + c ∧ S + c < Dd + n) ∨ (ah = 0 ∧ Dd ≤ S + c ∧ S + c < Dd + q))) (ez : g (S + c).toNat = zI z) (e : upd g (Dd + c).toNat (zI z) = g2) : kCpL g2 f S Dd n (q + 1) ah := by
  intro x
  rw [← e]
  by_cases q1 : x = (Dd + c).toNat
  · subst q1
    rw [pk_us, ← ez, h (S + c).toNat, if_neg (by omega), if_pos (by omega)]
    congr 1
    omega
  · rw [pk_un q1, h x]
    by_cases c2 : (ah = 1 ∧ Dd + n - q ≤ (x : Int) ∧ (x : Int) < Dd + n) ∨ (ah = 0 ∧ Dd ≤ (x : Int) ∧ (x : Int) < Dd + q)
    · rw [if_pos c2, if_pos (by omega)]
    · rw [if_neg c2, if_neg (by omega)]
theorem kCpL_end {g f : Nat → Int32} {S Dd n q ah : Int} (h : kCpL g f S Dd n q ah) (hq : q = n) (ha : ah = 0 ∨ ah = 1) (hS : 0 ≤ S ∧ 0 ≤ Dd ∧ 0 ≤ n) : g = va_cpy f f S.toNat Dd.toNat n.toNat := by
  funext x
  rw [h x]
  unfold va_cpy
  by_cases c : Dd.toNat ≤ x ∧ x < Dd.toNat + n.toNat
  · rw [if_pos c, if_pos (by omega)]
    congr 1
    omega
  · rw [if_neg c, if_neg (by omega)]
section
variable {k i o j n s1 s2 a b q ah : Int} {so sl ce ce2 : Nat → Int32} {rz : Int}
theorem kCoM_1 (h : ¬ ((0 ≤ k ∧ k ≤ 3) ∧ (0 ≤ o ∧ o ≤ 3))) (e : rz = -1) : kCoM k i o j n so sl ce ce rz := Or.inl ⟨h, e, rfl⟩
theorem kCoM_2 (h : (0 ≤ k ∧ k ≤ 3) ∧ (0 ≤ o ∧ o ≤ 3)) (e1 : so k.toNat = zI s1) (c : s1 = -9) (e : rz = -11) : kCoM k i o j n so sl ce ce rz := Or.inr (Or.inl ⟨h, Or.inl (by rw [e1, c]), e, rfl⟩)
theorem kCoM_2b (h : (0 ≤ k ∧ k ≤ 3) ∧ (0 ≤ o ∧ o ≤ 3)) (e1 : so o.toNat = zI s2) (c : s2 = -9) (e : rz = -11) : kCoM k i o j n so sl ce ce rz := Or.inr (Or.inl ⟨h, Or.inr (by rw [e1, c]), e, rfl⟩)
theorem kCoM_n (r1 : rg s1) (r2 : rg s2) (e1 : so k.toNat = zI s1) (e2 : so o.toNat = zI s2) (c1 : ¬ s1 = -9) (c2 : ¬ s2 = -9) : ¬ (so k.toNat = zI (-9) ∨ so o.toNat = zI (-9)) := by
  rw [e1, e2, zI_eq r1 (by omega), zI_eq r2 (by omega)]
  omega
theorem kCoM_3 (h : (0 ≤ k ∧ k ≤ 3) ∧ (0 ≤ o ∧ o ≤ 3)) (r1 : rg s1) (r2 : rg s2) (e1 : so k.toNat = zI s1) (e2 : so o.toNat = zI s2) (c1 : ¬ s1 = -9) (c2 : ¬ s2 = -9) (c3 : ¬ s1 = s2) (e : rz = -12) : kCoM k i o j n so sl ce ce rz := Or.inr (Or.inr (Or.inl ⟨h, kCoM_n r1 r2 e1 e2 c1 c2, by rw [e1, e2, zI_eq r1 r2]; exact c3, e, rfl⟩))
theorem kCoM_4 (h : (0 ≤ k ∧ k ≤ 3) ∧ (0 ≤ o ∧ o ≤ 3)) (r1 : rg s1) (r2 : rg s2) (e1 : so k.toNat = zI s1) (e2 : so o.toNat = zI s2) (c1 : ¬ s1 = -9) (c2 : ¬ s2 = -9) (c3 : s1 = s2) (c4 : ∀ a b : Int, rg a → rg b → sl k.toNat = zI a → sl o.toNat = zI b → ¬ ((0 ≤ i ∧ i ≤ a) ∧ (0 ≤ n ∧ n ≤ a - i) ∧ (0 ≤ j ∧ j ≤ b) ∧ n ≤ b - j)) (e : rz = -13) : kCoM k i o j n so sl ce ce rz := by
  obtain ⟨a, ra, ea⟩ := zI_ex (sl k.toNat)
  obtain ⟨b, rb, eb⟩ := zI_ex (sl o.toNat)
  exact Or.inr (Or.inr (Or.inr ⟨h, kCoM_n r1 r2 e1 e2 c1 c2, by rw [e1, e2, c3], a, b, ra, rb, ea, eb, Or.inl ⟨c4 a b ra rb ea eb, e, rfl⟩⟩))
theorem kCoM_5 (h : (0 ≤ k ∧ k ≤ 3) ∧ (0 ≤ o ∧ o ≤ 3)) (r1 : rg s1) (r2 : rg s2) (e1 : so k.toNat = zI s1) (e2 : so o.toNat = zI s2) (c1 : ¬ s1 = -9) (c2 : ¬ s2 = -9) (c3 : s1 = s2) (ra : rg a) (rb : rg b) (ea : sl k.toNat = zI a) (eb : sl o.toNat = zI b) (c4 : (0 ≤ i ∧ i ≤ a) ∧ (0 ≤ n ∧ n ≤ a - i) ∧ (0 ≤ j ∧ j ≤ b) ∧ n ≤ b - j) (e : rz = n) (hl : kCpL ce2 ce (60 * k + i) (60 * o + j) n q ah) (hq : q = n) (ha : ah = 0 ∨ ah = 1) : kCoM k i o j n so sl ce ce2 rz :=
  Or.inr (Or.inr (Or.inr ⟨h, kCoM_n r1 r2 e1 e2 c1 c2, by rw [e1, e2, c3], a, b, ra, rb, ea, eb, Or.inr ⟨c4, e, kCpL_end hl hq ha (by omega)⟩⟩))
end
theorem kLoX_1 {k rz : Int} {T : Int → Int} (h : ¬ (0 ≤ k ∧ k ≤ 3)) (e : rz = -1) : kLoX k T T rz := Or.inl ⟨h, e, kSm_rf⟩
theorem kLoX_2 {k rz t : Int} {T T2 : Int → Int} (h : 0 ≤ k ∧ k ≤ 3) (ht : T k = t) (e : rz = t) (hU : kUp T2 T k 0) : kLoX k T T2 rz := Or.inr ⟨h, by rw [ht]; exact e, hU⟩
theorem kShX_1 {k y z : Int} {T L N : Int → Int} {F : Int → Nat → Int32} (h : ¬ (0 ≤ k ∧ k ≤ 3 ∧ 0 ≤ y ∧ y ≤ 2 ∧ 0 ≤ z ∧ z ≤ 60)) : kShX k y z T L N F T L N F := Or.inr ⟨h, kSm_rf, kSm_rf, kSm_rf, kSm_rf⟩
theorem kShX_2 {k y z : Int} {T L N T2 L2 N2 : Int → Int} {F U : Int → Nat → Int32} {g : Nat → Int32} (h : 0 ≤ k ∧ k ≤ 3 ∧ 0 ≤ y ∧ y ≤ 2 ∧ 0 ≤ z ∧ z ≤ 60) (hT : kUp T2 T k 1) (hL : kUp L2 L k y) (hN : kUp N2 N k z) (hg : kZ g 60) (hU : kUp U F k g) : kShX k y z T L N F T2 L2 N2 U := Or.inl ⟨h, hT, hL, hN, g, hg, hU⟩
theorem kShM_1 {k y z : Int} {so sl ce : Nat → Int32} (h : ¬ (0 ≤ k ∧ k ≤ 3 ∧ 0 ≤ y ∧ y ≤ 2 ∧ 0 ≤ z ∧ z ≤ 60)) : kShM k y z so sl ce so sl ce := Or.inr ⟨h, rfl, rfl, rfl⟩
theorem kShM_2 {k y z q : Int} {so sl ce so2 sl2 ce2 : Nat → Int32} (h : 0 ≤ k ∧ k ≤ 3 ∧ 0 ≤ y ∧ y ≤ 2 ∧ 0 ≤ z ∧ z ≤ 60) (h1 : upd so k.toNat (zI y) = so2) (h2 : upd sl k.toNat (zI z) = sl2) (h3 : kZr ce2 ce k q) (hq : q = 60) : kShM k y z so sl ce so2 sl2 ce2 := Or.inl ⟨h, h1.symm, h2.symm, hq ▸ h3⟩
/-! the class's SHEETS and the reference's -/
def kSh (j t l n : Int) (fe so sl ce : Nat → Int32) : Prop := ((t = 1 ∧ 0 ≤ l ∧ l ≤ 2 ∧ so j.toNat = zI l) ∨ (t = 0 ∧ so j.toNat = zI (-9))) ∧ sl j.toNat = zI n ∧ (0 ≤ n ∧ n ≤ 60) ∧ ∀ i : Nat, i < 60 → fe i = ce (60 * j.toNat + i)
def kSR (T L N : Int → Int) (F : Int → Nat → Int32) (so sl ce : Nat → Int32) : Prop := ∀ j : Int, 0 ≤ j → j ≤ 3 → kSh j (T j) (L j) (N j) (F j) so sl ce
section
variable {k i y z o j n rx rm : Int} {T L N T2 L2 N2 : Int → Int} {F U : Int → Nat → Int32} {so sl ce so2 sl2 ce2 : Nat → Int32}
theorem kSR_sheet (h : kSR T L N F so sl ce) (hx : kShX k y z T L N F T2 L2 N2 U) (hm : kShM k y z so sl ce so2 sl2 ce2) : kSR T2 L2 N2 U so2 sl2 ce2 := by
  intro j h0 h3
  obtain ⟨ht, hn, hb, hf⟩ := h j h0 h3
  rcases hx with ⟨ok, a1, a2, a3, g, hz, a4⟩ | ⟨no, a1, a2, a3, a4⟩
  · rcases hm with ⟨_, m1, m2, m3⟩ | ⟨no, _⟩
    · rw [a1 j h0 h3, a2 j h0 h3, a3 j h0 h3, a4 j h0 h3, m1, m2]
      by_cases e : j = k
      · rw [if_pos e, if_pos e, if_pos e, if_pos e]
        subst e
        refine ⟨Or.inl ⟨rfl, by omega, by omega, pk_us⟩, pk_us, by omega, fun i hi => ?_⟩
        rw [hz i (by omega), m3 (60 * j.toNat + i), if_pos (by omega)]
      · rw [if_neg e, if_neg e, if_neg e, if_neg e]
        have ne : j.toNat ≠ k.toNat := by omega
        refine ⟨?_, by rw [pk_un ne]; exact hn, hb, fun i hi => ?_⟩
        · rw [pk_un ne]
          exact ht
        · rw [m3 (60 * j.toNat + i), if_neg (by omega)]
          exact hf i hi
    · exact absurd ok no
  · rcases hm with ⟨ok, _⟩ | ⟨_, m1, m2, m3⟩
    · exact absurd ok no
    · rw [a1 j h0 h3, a2 j h0 h3, a3 j h0 h3, a4 j h0 h3, m1, m2, m3]
      exact ⟨ht, hn, hb, hf⟩
theorem kSR_lose (h : kSR T L N F so sl ce) (hx : kLoX k T T2 rx) (hm : kLoM k so so2 rm) : kSR T2 L N F so2 sl ce ∧ rx = rm := by
  rcases hx with ⟨no, e, a⟩ | ⟨ok, e, a⟩
  · rcases hm with ⟨_, e2, m⟩ | ⟨ok, _⟩
    · refine ⟨fun j h0 h3 => ?_, by rw [e, e2]⟩
      rw [a j h0 h3, m]
      exact h j h0 h3
    · exact absurd ok no
  · rcases hm with ⟨no, _⟩ | ⟨_, m, e2⟩
    · exact absurd ok no
    · obtain ⟨ht, hn, hb, hf⟩ := h k ok.1 ok.2
      refine ⟨fun j h0 h3 => ?_, ?_⟩
      · obtain ⟨ht2, hn2, hb2, hf2⟩ := h j h0 h3
        rw [a j h0 h3, m]
        by_cases c : j = k
        · rw [if_pos c]
          subst c
          exact ⟨Or.inr ⟨rfl, pk_us⟩, hn2, hb2, hf2⟩
        · rw [if_neg c]
          refine ⟨?_, hn2, hb2, hf2⟩
          rw [pk_un (by omega)]
          exact ht2
      · rcases ht with ⟨t1, l0, l1, t2⟩ | ⟨t1, t2⟩
        · rcases e2 with ⟨q, e2⟩ | ⟨q, e2⟩
          · rw [t2] at q
            have := (zI_eq (by omega) (by omega)).mp q
            omega
          · rw [e, e2, t1]
        · rcases e2 with ⟨q, e2⟩ | ⟨q, e2⟩
          · rw [e, e2, t1]
          · exact absurd t2 q
theorem kSR_put (h : kSR T L N F so sl ce) (hx : kPuX k i z T L N F U rx) (hm : kPuM k i z so sl ce ce2 rm) : kSR T L N U so sl ce2 ∧ rx = rm := by
  by_cases R : 0 ≤ k ∧ k ≤ 3
  · obtain ⟨ht, hn, hb, hf⟩ := h k R.1 R.2
    rcases hx with ⟨no, _⟩ | ⟨_, x1, x2, x3⟩ | ⟨_, x1, x2, x3, x4⟩ | ⟨_, x1, x2, x3, x4⟩
    · exact absurd R no
    · have hs : so k.toNat = zI (-9) := by
        rcases ht with ⟨t1, _⟩ | ⟨_, t2⟩
        · exact absurd t1 x1
        · exact t2
      rcases hm with ⟨no, _⟩ | ⟨_, _, m2, m3⟩ | ⟨_, s, n, rs, rn, es, en, ns, _⟩
      · exact absurd R no
      · exact ⟨fun j h0 h3 => by rw [x3 j h0 h3, m3]; exact h j h0 h3, by rw [x2, m2]⟩
      · rw [hs] at es
        exact absurd ((zI_eq (by omega) rs).mp es).symm ns
    · have hs : so k.toNat = zI (L k) ∧ 0 ≤ L k ∧ L k ≤ 2 := by
        rcases ht with ⟨_, l0, l1, t2⟩ | ⟨t1, _⟩
        · exact ⟨t2, l0, l1⟩
        · omega
      rcases hm with ⟨no, _⟩ | ⟨_, q, _⟩ | ⟨_, s, n, rs, rn, es, en, ns, hm⟩
      · exact absurd R no
      · rw [hs.1] at q
        have := (zI_eq (by omega) (by omega)).mp q
        omega
      · have e1 : n = N k := (zI_eq rn (by omega)).mp (en.symm.trans hn)
        rw [e1] at hm
        rcases hm with ⟨_, m2, m3⟩ | ⟨m1, _⟩
        · exact ⟨fun j h0 h3 => by rw [x4 j h0 h3, m3]; exact h j h0 h3, by rw [x3, m2]⟩
        · exact absurd m1 x2
    · have hs : so k.toNat = zI (L k) ∧ 0 ≤ L k ∧ L k ≤ 2 := by
        rcases ht with ⟨_, l0, l1, t2⟩ | ⟨t1, _⟩
        · exact ⟨t2, l0, l1⟩
        · omega
      rcases hm with ⟨no, _⟩ | ⟨_, q, _⟩ | ⟨_, s, n, rs, rn, es, en, ns, hm⟩
      · exact absurd R no
      · rw [hs.1] at q
        have := (zI_eq (by omega) (by omega)).mp q
        omega
      · have e1 : n = N k := (zI_eq rn (by omega)).mp (en.symm.trans hn)
        have e2 : s = L k := (zI_eq rs (by omega)).mp (es.symm.trans hs.1)
        rw [e1, e2] at hm
        rcases hm with ⟨m1, _⟩ | ⟨_, m2, m3⟩
        · exact absurd x2 m1
        · refine ⟨fun j h0 h3 => ?_, by rw [x3, m2]⟩
          obtain ⟨ht2, hn2, hb2, hf2⟩ := h j h0 h3
          rw [x4 j h0 h3]
          by_cases c : j = k
          · rw [if_pos c]
            subst c
            refine ⟨ht2, hn2, hb2, fun i2 hi => ?_⟩
            rw [m3]
            by_cases d : i2 = i.toNat
            · subst d
              rw [pk_us, show 60 * j.toNat + i.toNat = (60 * j + i).toNat by omega, pk_us]
            · rw [pk_un d, pk_un (by omega)]
              exact hf2 i2 hi
          · rw [if_neg c]
            refine ⟨ht2, hn2, hb2, fun i2 hi => ?_⟩
            rw [m3, pk_un (by omega)]
            exact hf2 i2 hi
  · rcases hx with ⟨_, x2, x3⟩ | ⟨ok, _⟩ | ⟨ok, _⟩ | ⟨ok, _⟩
    · rcases hm with ⟨_, m2, m3⟩ | ⟨ok, _⟩ | ⟨ok, _⟩
      · exact ⟨fun j h0 h3 => by rw [x3 j h0 h3, m3]; exact h j h0 h3, by rw [x2, m2]⟩
      · exact absurd ok R
      · exact absurd ok R
    · exact absurd ok R
    · exact absurd ok R
    · exact absurd ok R
theorem kCe_eq {rx rm : Int64} (h : kSR T L N F so sl ce) (hx : kCeX k i y T L N F rx) (hm : kCeM k i y so sl ce rm) : rx = rm := by
  by_cases R : (0 ≤ k ∧ k ≤ 3) ∧ (0 ≤ y ∧ y ≤ 2)
  · obtain ⟨ht, hn, hb, hf⟩ := h k R.1.1 R.1.2
    rcases hm with ⟨no, _⟩ | ⟨_, s, n, rs, rn, es, en, hm⟩
    · exact absurd R no
    · have e1 : n = N k := (zI_eq rn (by omega)).mp (en.symm.trans hn)
      rw [e1] at hm
      rcases hx with ⟨no, _⟩ | ⟨_, x1, x2⟩ | ⟨_, x1, x2⟩
      · exact absurd R no
      · rcases hm with ⟨_, m2⟩ | ⟨m1, m2⟩
        · rw [x2, m2]
        · exfalso
          apply x1
          rcases ht with ⟨t1, l0, l1, t2⟩ | ⟨t1, t2⟩
          · have e2 : s = L k := (zI_eq rs (by omega)).mp (es.symm.trans t2)
            omega
          · have e2 : s = -9 := (zI_eq rs (by omega)).mp (es.symm.trans t2)
            omega
      · rcases ht with ⟨t1, l0, l1, t2⟩ | ⟨t1, t2⟩
        · have e2 : s = L k := (zI_eq rs (by omega)).mp (es.symm.trans t2)
          rcases hm with ⟨m1, m2⟩ | ⟨m1, m2⟩
          · exact absurd (by omega) m1
          · rw [x2, m2, hf i.toNat (by omega), show 60 * k.toNat + i.toNat = (60 * k + i).toNat by omega]
        · omega
  · rcases hx with ⟨_, x2⟩ | ⟨ok, _⟩ | ⟨ok, _⟩
    · rcases hm with ⟨_, m2⟩ | ⟨ok, _⟩
      · rw [x2, m2]
      · exact absurd ok R
    · exact absurd ok R
    · exact absurd ok R
theorem kSR_copy (h : kSR T L N F so sl ce) (hx : kCoX k i o j n T L N F U rx) (hm : kCoM k i o j n so sl ce ce2 rm) : kSR T L N U so sl ce2 ∧ rx = rm := by
  by_cases R : kRan k o
  · have R' := R
    obtain ⟨⟨k0, k3⟩, ⟨o0, o3⟩⟩ := R
    obtain ⟨ht, hn, hb, hf⟩ := h k k0 k3
    obtain ⟨ht2, hn2, hb2, hf2⟩ := h o o0 o3
    have same : kSm U F → ce2 = ce → kSR T L N U so sl ce2 := fun a b j h0 h3 => by rw [a j h0 h3, b]; exact h j h0 h3
    by_cases tt : T k = 1 ∧ T o = 1
    · have hs : so k.toNat = zI (L k) ∧ 0 ≤ L k ∧ L k ≤ 2 := by
        rcases ht with ⟨_, l0, l1, t2⟩ | ⟨t1, _⟩
        · exact ⟨t2, l0, l1⟩
        · omega
      have hs2 : so o.toNat = zI (L o) ∧ 0 ≤ L o ∧ L o ≤ 2 := by
        rcases ht2 with ⟨_, l0, l1, t2⟩ | ⟨t1, _⟩
        · exact ⟨t2, l0, l1⟩
        · omega
      have nn : ¬ (so k.toNat = zI (-9) ∨ so o.toNat = zI (-9)) := by
        rw [hs.1, hs2.1, zI_eq (by omega) (by omega), zI_eq (by omega) (by omega)]
        omega
      have le : so k.toNat = so o.toNat ↔ L k = L o := by rw [hs.1, hs2.1, zI_eq (by omega) (by omega)]
      rcases hm with ⟨no, _⟩ | ⟨_, no, _⟩ | ⟨_, _, c, m1, m2⟩ | ⟨_, _, c, a, b, ra, rb, ea, eb, hm⟩
      · exact absurd R' no
      · exact absurd no nn
      · rcases hx with ⟨no, _⟩ | ⟨_, no, _⟩ | ⟨_, _, x, x1, x2⟩ | ⟨_, _, x, _⟩ | ⟨_, _, x, _⟩
        · exact absurd R' no
        · exact absurd tt no
        · exact ⟨same x2 m2, by rw [x1, m1]⟩
        · exact absurd (le.mpr x) c
        · exact absurd (le.mpr x) c
      · have e1 : a = N k := (zI_eq ra (by omega)).mp (ea.symm.trans hn)
        have e2 : b = N o := (zI_eq rb (by omega)).mp (eb.symm.trans hn2)
        rw [e1, e2] at hm
        rcases hx with ⟨no, _⟩ | ⟨_, no, _⟩ | ⟨_, _, x, _⟩ | ⟨_, _, _, x, x1, x2⟩ | ⟨_, _, _, x, x1, x2⟩
        · exact absurd R' no
        · exact absurd tt no
        · exact absurd (le.mp c) x
        · rcases hm with ⟨_, m1, m2⟩ | ⟨m0, _⟩
          · exact ⟨same x2 m2, by rw [x1, m1]⟩
          · exact absurd m0 x
        · rcases hm with ⟨m0, _⟩ | ⟨_, m1, m2⟩
          · exact absurd x m0
          · refine ⟨fun j2 h0 h3 => ?_, by rw [x1, m1]⟩
            obtain ⟨⟨i0, i1⟩, ⟨n0, n1⟩, ⟨j0, j1⟩, n2⟩ := x
            obtain ⟨ht3, hn3, hb3, hf3⟩ := h j2 h0 h3
            rw [x2 j2 h0 h3]
            by_cases c2 : j2 = o
            · rw [if_pos c2]
              subst c2
              refine ⟨ht3, hn3, hb3, fun x hx => ?_⟩
              rw [m2]
              unfold va_cpy
              by_cases d : j.toNat ≤ x ∧ x < j.toNat + n.toNat
              · rw [if_pos d, if_pos (by omega), hf (i.toNat + (x - j.toNat)) (by omega)]
                congr 1
                omega
              · rw [if_neg d, if_neg (by omega)]
                exact hf3 x hx
            · rw [if_neg c2]
              refine ⟨ht3, hn3, hb3, fun x hx => ?_⟩
              rw [m2]
              unfold va_cpy
              rw [if_neg (by omega)]
              exact hf3 x hx
    · have yy : so k.toNat = zI (-9) ∨ so o.toNat = zI (-9) := by
        rcases ht with ⟨t1, _⟩ | ⟨_, t2⟩
        · rcases ht2 with ⟨u1, _⟩ | ⟨_, u2⟩
          · exact absurd ⟨t1, u1⟩ tt
          · exact Or.inr u2
        · exact Or.inl t2
      rcases hm with ⟨no, _⟩ | ⟨_, _, m1, m2⟩ | ⟨_, no, _⟩ | ⟨_, no, _⟩
      · exact absurd R' no
      · rcases hx with ⟨no, _⟩ | ⟨_, _, x1, x2⟩ | ⟨_, x, _⟩ | ⟨_, x, _⟩ | ⟨_, x, _⟩
        · exact absurd R' no
        · exact ⟨same x2 m2, by rw [x1, m1]⟩
        · exact absurd x tt
        · exact absurd x tt
        · exact absurd x tt
      · exact absurd yy no
      · exact absurd yy no
  · rcases hx with ⟨_, x1, x2⟩ | ⟨ok, _⟩ | ⟨ok, _⟩ | ⟨ok, _⟩ | ⟨ok, _⟩
    · rcases hm with ⟨_, m1, m2⟩ | ⟨ok, _⟩ | ⟨ok, _⟩ | ⟨ok, _⟩
      · exact ⟨fun j2 h0 h3 => by rw [x2 j2 h0 h3, m2]; exact h j2 h0 h3, by rw [x1, m1]⟩
      · exact absurd ok R
      · exact absurd ok R
      · exact absurd ok R
    · exact absurd ok R
    · exact absurd ok R
    · exact absurd ok R
    · exact absurd ok R
end
theorem klc {x : Int64} : lg_cmp x x = 0 := by unfold lg_cmp; rw [if_neg Int64.lt_irrefl, if_pos rfl]
theorem klcmpE {x y : Int64} {z : Int} (h : x = y) (hz : rg z) (e : lg_cmp x y = zI z) : z = 0 := by
  subst h
  rw [klc] at e
  exact ((zI_eq (a := 0) (by omega) hz).mp (show zI 0 = zI z from e)).symm
theorem kSR_z : kSR (kS4 0 0 0 0) (kS4 0 0 0 0) (kS4 0 0 0 0) (kS4 (fun _ => 0) (fun _ => 0) (fun _ => 0) (fun _ => 0)) (upd (upd (upd (upd (fun _ => 0) 0 (-9)) 1 (-9)) 2 (-9)) 3 (-9)) (fun _ => 0) (fun _ => 0) := by
  intro j h0 h3
  rcases kx4 h0 h3 with e | e | e | e <;> subst e <;> exact ⟨Or.inr ⟨rfl, rfl⟩, rfl, ⟨Int.le_refl 0, by decide⟩, fun _ _ => rfl⟩
/-! the same of one SHEET alone -/
def kPuG (i z t l n : Int) (f g : Nat → Int32) (rz : Int) : Prop := (¬ t = 1 ∧ rz = -11 ∧ g = f) ∨ (t = 1 ∧ ¬ (0 ≤ i ∧ i ≤ n - 1) ∧ rz = -13 ∧ g = f) ∨ (t = 1 ∧ (0 ≤ i ∧ i ≤ n - 1) ∧ rz = 1 ∧ g = upd f i.toNat (kCut l z))
theorem kUp_sm {α : Type} {U F : Int → α} {k : Int} {g : α} (hU : kUp U F k g) (e : g = F k) : kSm U F := fun x h0 h3 => by
  rw [hU x h0 h3]
  by_cases c : x = k
  · rw [if_pos c, c, e]
  · rw [if_neg c]
theorem kPuX_G {k i z t l n rz : Int} {T L N : Int → Int} {F U : Int → Nat → Int32} {f g : Nat → Int32} (h : 0 ≤ k ∧ k ≤ 3) (ht : T k = t) (hl : L k = l) (hn : N k = n) (hf : F k = f) (hU : kUp U F k g) (hg : kPuG i z t l n f g rz) : kPuX k i z T L N F U rz := by
  subst hf
  rcases hg with ⟨a, b, c⟩ | ⟨a, b, c, d⟩ | ⟨a, b, c, d⟩
  · exact Or.inr (Or.inl ⟨h, by rw [ht]; exact a, b, kUp_sm hU c⟩)
  · exact Or.inr (Or.inr (Or.inl ⟨h, by rw [ht]; exact a, by rw [hn]; exact b, c, kUp_sm hU d⟩))
  · exact Or.inr (Or.inr (Or.inr ⟨h, by rw [ht]; exact a, by rw [hn]; exact b, c, by rw [hl, ← d]; exact hU⟩))
def kCeG (i y t l n : Int) (f : Nat → Int32) (rz : Int64) : Prop := (¬ (t = 1 ∧ l = y ∧ 0 ≤ i ∧ i ≤ n - 1) ∧ rz = kLOST) ∨ ((t = 1 ∧ l = y ∧ 0 ≤ i ∧ i ≤ n - 1) ∧ rz = (f i.toNat).toInt64)
theorem kCeG_2 {i y t l n z : Int} {f : Nat → Int32} (h2 : t = 1 ∧ l = y ∧ 0 ≤ i ∧ i ≤ n - 1) (hz : kAt t n i f = zI z) : kCeG i y t l n f ((zI z).toInt64) := by
  refine Or.inr ⟨h2, ?_⟩
  rw [← hz]
  unfold kAt
  rw [if_pos ⟨h2.1, h2.2.2⟩]
theorem kCeX_G {k i y t l n : Int} {T L N : Int → Int} {F : Int → Nat → Int32} {f : Nat → Int32} {rz : Int64} (h : (0 ≤ k ∧ k ≤ 3) ∧ (0 ≤ y ∧ y ≤ 2)) (ht : T k = t) (hl : L k = l) (hn : N k = n) (hf : F k = f) (hg : kCeG i y t l n f rz) : kCeX k i y T L N F rz := by
  subst hf
  rcases hg with ⟨a, b⟩ | ⟨a, b⟩
  · exact Or.inr (Or.inl ⟨h, by rw [ht, hl, hn]; exact a, b⟩)
  · exact Or.inr (Or.inr ⟨h, by rw [ht, hl, hn]; exact a, b⟩)
def kCoG (i j n tk to' lk lo nk no : Int) (fk fo g : Nat → Int32) (rz : Int) : Prop := (¬ (tk = 1 ∧ to' = 1) ∧ rz = -11 ∧ g = fo) ∨ ((tk = 1 ∧ to' = 1) ∧ ¬ lk = lo ∧ rz = -12 ∧ g = fo) ∨ ((tk = 1 ∧ to' = 1) ∧ lk = lo ∧ ¬ kOkC i j n nk no ∧ rz = -13 ∧ g = fo) ∨ ((tk = 1 ∧ to' = 1) ∧ lk = lo ∧ kOkC i j n nk no ∧ rz = n ∧ g = va_cpy fk fo i.toNat j.toNat n.toNat)
theorem kCoX_G {k i o j n tk to' lk lo nk no rz : Int} {T L N : Int → Int} {F U : Int → Nat → Int32} {fk fo g : Nat → Int32} (h : (0 ≤ k ∧ k ≤ 3) ∧ (0 ≤ o ∧ o ≤ 3)) (h1 : T k = tk) (h2 : T o = to') (h3 : L k = lk) (h4 : L o = lo) (h5 : N k = nk) (h6 : N o = no) (h7 : F k = fk) (h8 : F o = fo) (hU : kUp U F o g) (hg : kCoG i j n tk to' lk lo nk no fk fo g rz) : kCoX k i o j n T L N F U rz := by
  subst h7
  subst h8
  rcases hg with ⟨a, b, c⟩ | ⟨a, b, c, d⟩ | ⟨a, b, c, d, e⟩ | ⟨a, b, c, d, e⟩
  · exact Or.inr (Or.inl ⟨h, by rw [h1, h2]; exact a, b, kUp_sm hU c⟩)
  · exact Or.inr (Or.inr (Or.inl ⟨h, by rw [h1, h2]; exact a, by rw [h3, h4]; exact b, c, kUp_sm hU d⟩))
  · exact Or.inr (Or.inr (Or.inr (Or.inl ⟨h, by rw [h1, h2]; exact a, by rw [h3, h4]; exact b, by rw [h5, h6]; exact c, d, kUp_sm hU e⟩)))
  · exact Or.inr (Or.inr (Or.inr (Or.inr ⟨h, by rw [h1, h2]; exact a, by rw [h3, h4]; exact b, by rw [h5, h6]; exact c, d, by rw [← e]; exact hU⟩)))
theorem kOkC_y {i j n a b : Int} (h : (0 ≤ i ∧ i ≤ a) ∧ (0 ≤ n ∧ n ≤ a - i) ∧ (0 ≤ j ∧ j ≤ b) ∧ n ≤ b - j) : kOkC i j n a b := h
theorem kOkC_n {i j n a b : Int} (h : ¬ ((0 ≤ i ∧ i ≤ a) ∧ (0 ≤ n ∧ n ≤ a - i) ∧ (0 ≤ j ∧ j ≤ b) ∧ n ≤ b - j)) : ¬ kOkC i j n a b := h
