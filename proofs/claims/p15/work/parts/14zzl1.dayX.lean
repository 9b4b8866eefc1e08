def kDaB (y z w : Int) : Prop := ¬ (0 ≤ y ∧ y ≤ 2) ∨ ¬ (0 ≤ z ∧ z ≤ 20) ∨ ¬ ((0 ≤ w ∧ w ≤ 4) ∨ (10 ≤ w ∧ w ≤ 13))
def kDaX (T L N : Int → Int) (k y i z w lf rz : Int) : Prop := kGa k (kDaB y z w) (fun l9 r9 => kGt (fun w9 => kAg (T k) (L k) (N k) y i (2 * z) w9) (fun _ => True) True l9 r9) True lf rz
def kDaM (so sl : Nat → Int32) (k y i z w lf rz : Int) : Prop := kGa k (kDaB y z w) (fun l9 r9 => kGt (fun w9 => kAgM (so k.toNat).toInt (sl k.toNat).toInt y i (2 * z) w9) (fun _ => True) True l9 r9) True lf rz
theorem kDaX_G {T L N : Int → Int} {k y i z w lf rz t l n : Int} (h : 0 ≤ k ∧ k ≤ 3) (hy : (0 ≤ y ∧ y ≤ 2) ∧ (0 ≤ z ∧ z ≤ 20) ∧ ((0 ≤ w ∧ w ≤ 4) ∨ (10 ≤ w ∧ w ≤ 13))) (ht : T k = t) (hl : L k = l) (hn : N k = n) (hg : kGt (fun w9 => kAg t l n y i (2 * z) w9) (fun _ => True) True lf rz) : kDaX T L N k y i z w lf rz := by
  unfold kDaX
  rw [ht, hl, hn]
  exact kGa_3 h (fun q => by unfold kDaB at q; omega) hg
theorem kDa_rel {T L N : Int → Int} {F : Int → Nat → Int32} {so sl ce : Nat → Int32} {k y i z w lf fa rx rm : Int} (hS : kSR T L N F so sl ce) (hx : kDaX T L N k y i z w lf rx) (hm : kDaM so sl k y i z w fa rm) : lf = fa := (kGa_rel hx hm (fun hk _ w v a b => kAg_rel hS hk a b)).1
