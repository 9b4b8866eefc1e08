/-! the reference's CLUSTERS -/
section
variable {w F F2 has : Nat → Int32} {k : Nat} {jk c i z zs m l z1 z2 js k2 : Int} {x : Int32}
theorem kSa_f (h : kSa w (kNa jk) c F) (h0 : jk = 0) (e : upd F c.toNat (zI jk) = F2) : kSa w (kNa (jk + 1)) (c + 1) F2 := by
  obtain ⟨h1, h2⟩ := h
  have cc : kNa jk = 0 ∨ (w (kNa jk)).toInt < 12 := by left; show jk.toNat = 0; omega
  rw [kNp (by omega)]
  unfold kSa
  rw [kCt_y cc]
  refine ⟨by dsimp only; omega, fun i hi => ?_⟩
  dsimp only at hi ⊢
  rw [← e]
  by_cases q : i = (kCt w (kNa jk)).1
  · rw [if_pos q, show i = c.toNat by omega, pk_us, kNc (by omega)]
  · rw [if_neg q, pk_un (by omega)]
    exact h2 i (by omega)
theorem kSa_m (h : kSa w k c F) (e : upd F c.toNat x = F2) : kSa w k c F2 := ⟨h.1, fun i hi => by rw [← e, pk_un (by have := h.1; omega)]; exact h.2 i hi⟩
theorem kSa_beg (h : kSa w k c F) (hk : k ≤ 24) (hi : 0 ≤ i ∧ i < c) (rz : rg z) (e : F i.toNat = zI z) : z = ((kCt w k).2 (kNa i) : Nat) := by
  have hi2 : kNa i < (kCt w k).1 := by have := h.1; show i.toNat < _; omega
  have b := (kCt_b (w := w) k).2.2.1 (kNa i) hi2
  have q := h.2 (kNa i) hi2
  rw [show F (kNa i) = zI z from e] at q
  exact (zI_eq rz (by omega)).mp q
theorem kSa_end (h : kSa w k c F) (hk : k ≤ 24) (hm : F (kNa c) = zI m) (km : k = kNa m) (bm : 0 ≤ m) (hi : 0 ≤ i ∧ i < c) (rz : rg z) (e : F (i + 1).toNat = zI z) : z = (kEn w k (kNa i) : Nat) := by
  have hi2 : kNa i < (kCt w k).1 := by have := h.1; show i.toNat < _; omega
  have b := kEn_le (w := w) (k := k) (i := kNa i)
  refine (zI_eq rz (by omega)).mp ?_
  rw [← e]
  unfold kEn
  by_cases q : kNa i + 1 < (kCt w k).1
  · rw [if_pos q, show (i + 1).toNat = kNa i + 1 by show (i + 1).toNat = i.toNat + 1; omega]
    exact h.2 _ q
  · rw [if_neg q, show (i + 1).toNat = kNa c by have q0 : ¬ i.toNat + 1 < (kCt w k).1 := q; have := h.1; show (i + 1).toNat = c.toNat; omega, hm, km, kNc bm]
theorem kOr_0 : zI 0 = kOr w (kNa zs) (kNa (zs - zs)) := by rw [Int.sub_self]; rfl
theorem kOr_s (h : zI js = kOr w (kNa zs) (kNa (jk - zs))) (hz : 0 ≤ zs ∧ zs ≤ jk) (el : w jk.toNat = zI l) (e1 : zI 1 <<< (zI l &&& 31) = zI z1) (e2 : zI js ||| zI z1 = zI z2) : zI z2 = kOr w (kNa zs) (kNa (jk + 1 - zs)) := by
  rw [show jk + 1 - zs = (jk - zs) + 1 by omega, kNp (show 0 ≤ jk - zs by omega)]
  show zI z2 = kOr w (kNa zs) (kNa (jk - zs)) ||| (zI 1 <<< (w (kNa zs + kNa (jk - zs)) &&& 31))
  rw [← h, show kNa zs + kNa (jk - zs) = jk.toNat by show zs.toNat + (jk - zs).toNat = jk.toNat; omega, el, e1, e2]
def kFg (fi w : Nat → Int32) (m : Int) (has : Nat → Int32) (n wo j : Int) : Prop := ∀ i : Nat, (i : Int) < j → fi i = kFb (kHm has wo (kLt w (kNa m) i)) (kNa n)
theorem kFg_0 {fi : Nat → Int32} {n wo : Int} : kFg fi w m has n wo 0 := fun i h => by omega
theorem kFg_u {fi : Nat → Int32} {n wo : Int} (h : kFg fi w m has n wo c) (hc : 0 ≤ c) (e : upd fi c.toNat x = F) : kFg F w m has n wo c := fun i hi => by
  rw [← e, pk_un (by omega)]
  exact h i hi
theorem kFg_1 {fi : Nat → Int32} {n wo jg : Int} (h : kFg fi w m has n wo c) (hc : 0 ≤ c) (hx : fi c.toNat = kFb (kHm has wo (zI js)) (kNa jg)) (hg : jg = n) (hj : zI js = kOr w (kNa zs) (kNa (k2 - zs))) (ez : zs = ((kCt w (kNa m)).2 (kNa c) : Nat)) (ek : k2 = (kEn w (kNa m) (kNa c) : Nat)) : kFg fi w m has n wo (c + 1) := by
  intro i hi
  by_cases q : i = c.toNat
  · rw [q, hx, hg, hj]
    unfold kLt
    rw [show kNa zs = (kCt w (kNa m)).2 (kNa c) by show zs.toNat = _; omega, show kNa (k2 - zs) = kEn w (kNa m) (kNa c) - (kCt w (kNa m)).2 (kNa c) by show (k2 - zs).toNat = _; omega]
  · exact h i (by omega)
theorem kFu_0 {fi : Nat → Int32} {b : Nat → Bool} (e : upd fi c.toNat (zI 0) = F) : F c.toNat = kFb b (kNa 0) := by rw [← e, pk_us]; rfl
theorem kFu_y {fi : Nat → Int32} {b : Nat → Bool} {jg zo : Int} (h : fi c.toNat = kFb b (kNa jg)) (h0 : 0 ≤ jg) (hb : b (kNa jg) = true) (l : fi c.toNat = zI zo) (e1 : zI 1 <<< (zI jg &&& 31) = zI z1) (e2 : zI zo ||| zI z1 = zI z2) (e : upd fi c.toNat (zI z2) = F) : F c.toNat = kFb b (kNa (jg + 1)) := by
  rw [← e, pk_us]
  exact kFb_y (l.symm.trans h) h0 hb e1 e2
theorem kFu_n {fi : Nat → Int32} {b : Nat → Bool} {jg zo : Int} (h : fi c.toNat = kFb b (kNa jg)) (h0 : 0 ≤ jg) (hb : b (kNa jg) = false) (l : fi c.toNat = zI zo) (e2 : zI zo ||| zI 0 = zI z2) (e : upd fi c.toNat (zI z2) = F) : F c.toNat = kFb b (kNa (jg + 1)) := by
  rw [← e, pk_us, ← e2, kb_o0]
  exact kFb_n (l.symm.trans h) h0 hb
theorem kBx_u {fi : Nat → Int32} {b : Int} (h : b = kBx fi (kNa c)) (hc : 0 ≤ c) (e : upd fi c.toNat x = F) : b = kBx F (kNa c) := by
  rw [h]
  exact kBx_cong _ (fun i hi => by rw [← e, pk_un (show ¬ i = c.toNat from by have : i < c.toNat := hi; omega)])
theorem kBx_1 {fi : Nat → Int32} {b v : Int} (h : b = kBx fi (kNa c)) (hc : 0 ≤ c) (l : fi c.toNat = zI z) (rz : rg z) (hv : (z = 0 ∧ v = b + 1) ∨ (¬ z = 0 ∧ v = b)) : v = kBx fi (kNa (c + 1)) := by
  rw [kNp hc]
  show v = kBx fi (kNa c) + (if fi c.toNat = 0 then 1 else 0)
  rw [l, ← h]
  rcases hv with ⟨a, q⟩ | ⟨a, q⟩
  · rw [a, if_pos (by rfl)]; exact q
  · rw [if_neg (show ¬ zI z = 0 from fun u => a ((zI_eq rz (by omega)).mp u))]; omega
theorem kRc_of {fi : Nat → Int32} {n wo cl bo : Int} (h1 : kSa w (kNa m) cl F) (h2 : F (kNa cl) = zI m) (h3 : kFg fi w m has n wo c) (h4 : bo = kBx fi (kNa c)) (e : c = cl) : kRc w m has n wo cl bo F fi := by
  subst e
  exact ⟨h1, h2, h3, h4⟩
end
/-! how far: the sum of the STEPS -/
def kSu (st : Int32 → Int32) (f : Nat → Int32) : Nat → Int32
  | 0 => 0
  | n + 1 => kSu st f n + st (f n)
theorem kSu_cong {st s2 : Int32 → Int32} {f g : Nat → Int32} : ∀ n : Nat, (∀ i, i < n → f i = g i ∧ st (g i) = s2 (g i)) → kSu st f n = kSu s2 g n
  | 0, _ => rfl
  | n + 1, h => by
    show kSu st f n + _ = kSu s2 g n + _
    rw [kSu_cong n (fun i hi => h i (by omega)), (h n (by omega)).1, (h n (by omega)).2]
def kSx (fk fb : Nat → Int32) : Int32 → Int32 := fun x => kStX (fk x.toInt.toNat) (fb x.toInt.toNat)
def kSn (kd wd : Nat → Int32) : Int32 → Int32 := fun x => kStM (kd x.toInt.toNat) (wd x.toInt.toNat)
def kCi (f : Nat → Int32) (cn n : Int) : Prop := ∀ i : Nat, (i : Int) < cn → 0 ≤ (f i).toInt ∧ (f i).toInt < n
section
variable {st : Int32 → Int32} {f F : Nat → Int32} {js jk z z0 z2 : Int} {C : Prop}
theorem kSu_s (h : C → zI js = kSu st f (kNa jk)) (h0 : 0 ≤ jk) (l : f jk.toNat = zI z0) (hz : C → zI z = st (zI z0)) (e : zI (js + z) = zI z2) : C → zI z2 = kSu st f (kNa (jk + 1)) := by
  intro hC
  rw [kNp h0]
  show zI z2 = kSu st f (kNa jk) + st (f jk.toNat)
  rw [l, ← h hC, ← hz hC, zI_add, e]
theorem kSx_at {fk fb : Nat → Int32} (r0 : rg z0) (h : zI z = kStX (fk z0.toNat) (fb z0.toNat)) : zI z = kSx fk fb (zI z0) := by
  show zI z = kStX (fk (zI z0).toInt.toNat) (fb (zI z0).toInt.toNat)
  rw [zI_toInt r0]
  exact h
theorem kCi_at {cn n : Int} (h : kCi f cn n) (h0 : 0 ≤ jk) (hj : jk < cn) (r0 : rg z0) (l : f jk.toNat = zI z0) : 0 ≤ z0 ∧ z0 < n := by
  have := h jk.toNat (by omega)
  rw [l, zI_toInt r0] at this
  exact this
theorem kSn_s {kd wd : Nat → Int32} (h : zI js = kSu (kSn kd wd) f (kNa jk)) (h0 : 0 ≤ jk) (e : upd f jk.toNat (zI z0) = F) (l : F jk.toNat = zI z2) (r2 : rg z2) {z3 z4 : Int} (hz : zI z3 = kStM (kd z2.toNat) (wd z2.toNat)) (e4 : zI (js + z3) = zI z4) : zI z4 = kSu (kSn kd wd) F (kNa (jk + 1)) := by
  rw [kNp h0]
  show zI z4 = kSu (kSn kd wd) F (kNa jk) + kSn kd wd (F jk.toNat)
  rw [l, show kSn kd wd (zI z2) = kStM (kd z2.toNat) (wd z2.toNat) by show kStM (kd (zI z2).toInt.toNat) (wd (zI z2).toInt.toNat) = _; rw [zI_toInt r2], ← hz, ← kSu_cong (st := kSn kd wd) (f := f) (g := F) (kNa jk) (fun i hi => ⟨by rw [← e, pk_un (show ¬ i = jk.toNat from by have : i < jk.toNat := hi; omega)], rfl⟩), ← h, zI_add, e4]
end
/-! the reference's choices -/
def kLow (ch fi cs : Nat → Int32) (n cl c lf : Int) : Prop := c < cl → ∀ g : Int, 0 ≤ g → g < n → kCan (fi c.toNat) g (-9) → lf ≤ kch ch c g + kIts cs c g
def kNb (pf ch fi cs : Nat → Int32) (c lf j : Int) : Prop := ∀ q : Nat, (q : Int) < j → ¬ kIsB ch fi cs c (pf q).toInt lf
section
variable {pf ch fi cs F : Nat → Int32} {n cl c lf j z b v : Int}
theorem kLow_0 (h : 0 < cl → kBe ch fi (-9) n b) : kLow ch fi cs n cl 0 b := fun hc g g0 g1 g2 => by
  have := (h hc).2.2.1 g g0 g1 g2
  unfold kIts
  rw [if_neg (by omega)]
  omega
theorem kLow_s (h : kDp ch fi n cl (-9) 0) (hc : 0 ≤ c) (hz : 0 ≤ z ∧ z < n ∧ n ≤ 4) (e : upd cs c.toNat (zI z) = F) (ev : kch ch c z = v) : kLow ch fi F n cl (c + 1) v := fun hlt g g0 g1 g2 => by
  subst ev
  have q := ((h c z hc (by omega) hz.1 hz.2.1).2.2.2 hlt).2.2.1 g g0 g1 g2
  have hF : (F (c + 1 - 1).toNat).toInt = z := by rw [show c + 1 - 1 = c by omega, ← e, pk_us, zI_toInt (by omega)]
  unfold kdl at q
  unfold kIts
  rw [hF]
  by_cases u : g = z
  · rw [if_pos u] at q
    rw [if_neg (by omega)]
    exact q
  · rw [if_neg u] at q
    rw [if_pos (by omega)]
    exact q
theorem kNb_0 : kNb pf ch fi cs c lf 0 := fun q h => by omega
theorem kNb_s (h : kNb pf ch fi cs c lf j) (h0 : 0 ≤ j) (rz : rg z) (e : pf j.toNat = zI z) (ne : ¬ kIsB ch fi cs c z lf) : kNb pf ch fi cs c lf (j + 1) := by
  intro q hq
  by_cases u : q = j.toNat
  · rw [u, e, zI_toInt rz]; exact ne
  · exact h q (by omega)
theorem kCho_0 : kCho ch fi cs pf n 0 := fun c h1 h2 => by omega
theorem kIts_u {x : Int32} {d g : Int} (hd : d ≤ c) (e : upd cs c.toNat x = F) : kIts F d g = kIts cs d g := by
  unfold kIts
  by_cases u : 0 < d
  · rw [← e, pk_un (by omega)]
  · rw [if_neg (by omega), if_neg (by omega)]
theorem kCho_s (h : kCho ch fi cs pf n c) (hc : 0 ≤ c) (hcl : c < cl) (hj : 0 ≤ j ∧ j < n) (rz : rg z) (ep : pf j.toNat = zI z) (hb : kIsB ch fi cs c z lf) (nb : kNb pf ch fi cs c lf j) (lo : kLow ch fi cs n cl c lf) (e : upd cs c.toNat (zI z) = F) : kCho ch fi F pf n (c + 1) := by
  intro d h1 h2
  by_cases u : d = c
  · subst u
    have hF : F d.toNat = zI z := by rw [← e, pk_us]
    refine ⟨j.toNat, by omega, by rw [hF, ep], lf, ?_, fun q hq => ?_, fun g g0 g1 g2 => ?_⟩
    · rw [hF, zI_toInt rz]
      exact ⟨hb.1, by rw [kIts_u (Int.le_refl d) e]; exact hb.2⟩
    · intro w
      exact nb q (by omega) ⟨w.1, by rw [← kIts_u (Int.le_refl d) e]; exact w.2⟩
    · rw [kIts_u (Int.le_refl d) e]
      exact lo hcl g g0 g1 g2
  · obtain ⟨p, p1, p2, l, l1, l2, l3⟩ := h d h1 (by omega)
    have hF : F d.toNat = cs d.toNat := by rw [← e, pk_un (by omega)]
    refine ⟨p, p1, by rw [hF]; exact p2, l, ?_, fun q hq => ?_, fun g g0 g1 g2 => ?_⟩
    · rw [hF]
      exact ⟨l1.1, by rw [kIts_u (by omega) e]; exact l1.2⟩
    · intro w
      exact l2 q hq ⟨w.1, by rw [← kIts_u (d := d) (by omega) e]; exact w.2⟩
    · rw [kIts_u (by omega) e]
      exact l3 g g0 g1 g2
end
/-- all that the reference's findBest tells -/
def kBM (wg : Nat → Int32) (mn : Int) (hs : Nat → Int32) (fn : Int) (pf kd wd : Nat → Int32) (cl bo ru ad : Int) (sa fi ch cn : Nat → Int32) (few : Int) : Prop := kRc wg mn hs fn (-9) cl bo sa fi ∧ kDp ch fi fn cl (-9) 0 ∧ kFt fi fn cl (-9) ∧ (cl = 0 ∨ kBe ch fi (-9) fn few) ∧ (¬ cl = 0 ∨ few = 0) ∧ kCho ch fi cn pf fn cl ∧ zI ad = kSu (kSn kd wd) cn (kNa cl) ∧ ru = kRn cn cl.toNat
/-- all that the reference's findChanges tells -/
def kCM (wg : Nat → Int32) (mn : Int) (hs : Nat → Int32) (fn wo cl bo : Int) (sa fi ch : Nat → Int32) (few : Int) : Prop := kRc wg mn hs fn wo cl bo sa fi ∧ kDp ch fi fn cl wo 0 ∧ kFt fi fn cl wo ∧ (cl = 0 ∨ kBe ch fi wo fn few) ∧ (¬ cl = 0 ∨ few = 0)
