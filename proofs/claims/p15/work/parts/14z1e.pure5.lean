/-! the reference's reader -/
section
variable {f A0 B0 C0 a b c g C : Nat → Int32} {o en ja m d n x js js2 jm b1 zs : Int}
theorem kNa_s (h : o ≤ ja) : kNa (ja + 1 - o) = kNa (ja - o) + 1 := by show (ja + 1 - o).toNat = (ja - o).toNat + 1; omega
theorem kCd_x (h : o ≤ ja) (ex : f ja.toNat = zI x) (rx : rg x) : (kCd f o (kNa (ja - o))).toInt = x := by
  rw [show kCd f o (kNa (ja - o)) = f ja.toNat from kCd_at h, ex, zI_toInt rx]
theorem kBadE (h : kGo (kCd f o) A0 B0 C0 (kNa (ja - o)) = some (d, n, a, b, c)) (hd : ¬ d = 5) (e : ja = en) : kBad (kCd f o) A0 B0 C0 (kNa (en - o)) (kNa (ja - o)) := ⟨d, n, a, b, c, h, Or.inr ⟨by rw [e], hd⟩⟩
theorem kBadS (h : kGo (kCd f o) A0 B0 C0 (kNa (ja - o)) = some (d, n, a, b, c)) (ho : o ≤ ja) (hl : ja < en) (ex : f ja.toNat = zI x) (rx : rg x) (hs : kStp d n a b c x = none) : kBad (kCd f o) A0 B0 C0 (kNa (en - o)) (kNa (ja - o)) := ⟨d, n, a, b, c, h, Or.inl ⟨by show (ja - o).toNat < (en - o).toNat; omega, by rw [kCd_x ho ex rx]; exact hs⟩⟩
theorem kGoS {t : kPT} (h : kGo (kCd f o) A0 B0 C0 (kNa (ja - o)) = some (d, n, a, b, c)) (ho : o ≤ ja) (ex : f ja.toNat = zI x) (rx : rg x) (hs : kStp d n a b c x = some t) : kGo (kCd f o) A0 B0 C0 (kNa (ja + 1 - o)) = some t := by
  rw [kNa_s ho, kGo_s h, kCd_x ho ex rx]
  exact hs
theorem kGo_k (h : kGo (kCd f o) A0 B0 C0 (kNa (ja - o)) = some (2, m + 1, a, b, c)) (ho : o ≤ ja) (hm : 0 ≤ m) (ex : f ja.toNat = zI x) (rx : rg x) (hx : 65 ≤ x ∧ x ≤ 67) (eg : upd a m.toNat (zI (x - 65)) = g) : kGo (kCd f o) A0 B0 C0 (kNa (ja + 1 - o)) = some (3, m + 1, g, b, c) := by
  refine kGoS h ho ex rx ?_
  rw [kStp_2 rfl, kKnd_y (by omega), show m + 1 - 1 = m by omega, eg]
theorem kGo_w (h : kGo (kCd f o) A0 B0 C0 (kNa (ja - o)) = some (3, m + 1, a, b, c)) (ho : o ≤ ja) (hm : 0 ≤ m) (ex : f ja.toNat = zI x) (rx : rg x) (hx : 49 ≤ x ∧ x ≤ 57) (eg : upd b m.toNat (zI (x - 48)) = g) : kGo (kCd f o) A0 B0 C0 (kNa (ja + 1 - o)) = some (4, m + 1, a, g, c) := by
  refine kGoS h ho ex rx ?_
  rw [kStp_3 rfl, kBrd_y (by omega), show m + 1 - 1 = m by omega, eg]
theorem kKnd_x (hx : ¬ (65 ≤ x ∧ x ≤ 67)) : kStp 2 n a b c x = none := by rw [kStp_2 rfl]; exact kKnd_n (fun q => hx q.2)
theorem kBrd_x (hx : ¬ (49 ≤ x ∧ x ≤ 57)) : kStp 3 n a b c x = none := by rw [kStp_3 rfl]; exact kBrd_n (fun q => hx q.2)
/-- in the letters of one FONT: what is read of them is js -/
def kRl (cd A0 B0 C0 : Nat → Int32) (k : Nat) (m : Int) (a b C : Nat → Int32) (js jm : Int) : Prop := 0 ≤ m ∧ (0 ≤ js ∧ js < 65536) ∧ kGo cd A0 B0 C0 k = some (if js = 0 then 4 else 5, m + 1, a, b, upd C m.toNat (zI js)) ∧ (jm = 0 → kLtC (m + 1) (upd C m.toNat (zI js)) (cd k).toInt = none)
theorem kRl_0 {k : Nat} {cd : Nat → Int32} (h : kGo cd A0 B0 C0 k = some (4, m + 1, a, b, upd C m.toNat (zI 0))) (hm : 0 ≤ m) : kRl cd A0 B0 C0 k m a b C 0 1 := ⟨hm, by omega, by rw [if_pos rfl]; exact h, fun q => absurd q (by decide)⟩
theorem kRl_st (hj : 0 ≤ js) (hx : 97 ≤ x) : kStp (if js = 0 then 4 else 5) n a b c x = kLtr n a b c x := by
  by_cases q : js = 0
  · rw [if_pos q, kStp_4 rfl]
  · rw [if_neg q, kStp_5l rfl (by omega)]
theorem kRl_s {l : Int} (h : kRl (kCd f o) A0 B0 C0 (kNa (ja - o)) m a b C js jm) (ho : o ≤ ja) (ex : f ja.toNat = zI x) (rx : rg x) (el : l = x - 97) (hl : 0 ≤ l ∧ l ≤ 15) (hb : ¬ (zI js >>> (zI l &&& 31)) &&& 1 = 1) (hp : (0 ≤ js ∧ js < 65536) → zs = kPop js) (h8 : zs < 8) (e1 : zI 1 <<< (zI l &&& 31) = zI b1) (r2 : rg js2) (e2 : zI js ||| zI b1 = zI js2) : kRl (kCd f o) A0 B0 C0 (kNa (ja + 1 - o)) m a b C js2 1 := by
  subst el
  obtain ⟨hm, hj, h1, -⟩ := h
  have p8 := hp hj
  rw [← e1] at e2
  have ne := kor_ne (k := x - 97) (by omega) e2
  have b2 := k16 hj (k := x - 97) (by omega) r2 e2
  have bf : bt (zI js) (x - 97).toNat = false := by
    cases q : bt (zI js) (x - 97).toNat with
    | false => rfl
    | true => exact absurd ((kb_bit (f := x - 97) (by omega)).mpr q) hb
  have em : (m + 1 - 1).toNat = m.toNat := by rw [show m + 1 - 1 = m by omega]
  refine ⟨hm, b2, ?_, fun q => absurd q (by decide)⟩
  rw [if_neg ne]
  refine kGoS h1 ho ex rx ?_
  rw [kRl_st hj.1 (by omega), kLtr_s (kLtC_y (by omega) (by omega) (by rw [em, pk_us]; exact bf) (by rw [em, pk_us, zI_toInt (by omega)]; omega)), em, pk_us, e2, kupd2]
theorem kRl_n {l : Int} (h : kRl (kCd f o) A0 B0 C0 (kNa (ja - o)) m a b C js jm) (ho : o ≤ ja) (ex : f ja.toNat = zI x) (rx : rg x) (hc : ¬ (0 ≤ x - 97 ∧ x - 97 ≤ 15) ∨ (l = x - 97 ∧ (0 ≤ l ∧ l ≤ 15) ∧ (zI js >>> (zI l &&& 31)) &&& 1 = 1)) : kRl (kCd f o) A0 B0 C0 (kNa (ja - o)) m a b C js 0 := by
  obtain ⟨hm, hj, h1, -⟩ := h
  refine ⟨hm, hj, h1, fun _ => ?_⟩
  rw [kCd_x ho ex rx]
  have em : (m + 1 - 1).toNat = m.toNat := by rw [show m + 1 - 1 = m by omega]
  rcases hc with hc | ⟨el, h2, h3⟩
  · exact kLtC_n (by omega)
  · subst el
    apply kLtC_b
    rw [em, pk_us]
    exact (kb_bit (f := x - 97) (by omega)).mp h3
theorem kw97 {y l : Int} (rx : rg y) (rl : rg l) (e : zI (y - 97) = zI l) : l = y - 97 ∨ (¬ (0 ≤ l ∧ l ≤ 15) ∧ ¬ (0 ≤ y - 97 ∧ y - 97 ≤ 15)) := by
  by_cases h : rg (y - 97)
  · exact Or.inl ((zI_eq h rl).mp e).symm
  · right
    have z : zI 4294967296 = 0 := by decide
    have q : zI (y - 97 + 4294967296) = zI l := by rw [← zI_add, z, Int32.add_zero, e]
    have q2 := (zI_eq (by omega) rl).mp q
    omega
def kRx (js jm en ja : Int) : Prop := jm = 0 ∨ 8 ≤ kPop js ∨ en ≤ ja
theorem kRx_8 {k : Nat} {cd : Nat → Int32} (h : kRl cd A0 B0 C0 k m a b C js jm) (hp : (0 ≤ js ∧ js < 65536) → zs = kPop js) (h8 : 8 ≤ zs) : kRx js jm en ja := by
  have := hp h.2.1
  exact Or.inr (Or.inl (by omega))
/-- a FONT was read, or the reading fails where it stands -/
def kRf (f A0 B0 C0 : Nat → Int32) (o en at2 m m2 : Int) (a b c : Nat → Int32) (r : Int) : Prop := (r = 1 ∧ m2 = m + 1 ∧ kGo (kCd f o) A0 B0 C0 (kNa (at2 - o)) = some (5, m2, a, b, c) ∧ (at2 < en → kLtC m2 c (f at2.toNat).toInt = none)) ∨ (r = 0 ∧ kBad (kCd f o) A0 B0 C0 (kNa (en - o)) (kNa (at2 - o)))
theorem kRf_0 {m2 r : Int} (hr : r = 0) (h : kBad (kCd f o) A0 B0 C0 (kNa (en - o)) (kNa (ja - o))) : kRf f A0 B0 C0 o en ja m m2 a b c r := Or.inr ⟨hr, h⟩
theorem kRl_e0 {r m2 : Int} (h : kRl (kCd f o) A0 B0 C0 (kNa (ja - o)) m a b C js jm) (ho : o ≤ ja ∧ ja ≤ en) (hx : kRx js jm en ja) (hj : js = 0) (hr : r = 0) : kRf f A0 B0 C0 o en ja m m2 a b c r := by
  obtain ⟨hm, -, h1, h2⟩ := h
  subst hj
  rw [if_pos rfl] at h1
  refine Or.inr ⟨hr, ?_⟩
  by_cases e : ja = en
  · exact kBadE h1 (by decide) e
  · refine ⟨_, _, _, _, _, h1, Or.inl ⟨by show (ja - o).toNat < (en - o).toNat; omega, ?_⟩⟩
    rw [kStp_4 rfl]
    rcases hx with hx | hx | hx
    · exact kLtr_n (h2 hx)
    · rw [kPop_0] at hx
      omega
    · omega
theorem kRl_e1 {r m2 : Int} (h : kRl (kCd f o) A0 B0 C0 (kNa (ja - o)) m a b C js jm) (ho : o ≤ ja ∧ ja ≤ en) (hx : kRx js jm en ja) (hj : ¬ js = 0) (hr : r = 1) (em2 : m2 = m + 1) (eg : upd C m.toNat (zI js) = g) : kRf f A0 B0 C0 o en ja m m2 a b g r := by
  obtain ⟨hm, hb, h1, h2⟩ := h
  rw [if_neg hj, eg] at h1
  rw [eg] at h2
  have em : (m + 1 - 1).toNat = m.toNat := by rw [show m + 1 - 1 = m by omega]
  refine Or.inl ⟨hr, em2, by rw [em2]; exact h1, fun hl => ?_⟩
  have e2 : f ja.toNat = kCd f o (kNa (ja - o)) := (kCd_at ho.1).symm
  rw [e2, em2]
  rcases hx with hx | hx | hx
  · exact h2 hx
  · apply kLtC_8
    rw [em, ← eg, pk_us, zI_toInt (by omega)]
    exact hx
  · omega
/-- between two FONTS -/
def kRa (f A0 B0 C0 : Nat → Int32) (o en ja jr : Int) (a b c : Nat → Int32) : Prop := (jr = 0 ∧ kGo (kCd f o) A0 B0 C0 (kNa (ja - o)) = some (1, 0, a, b, c)) ∨ (1 ≤ jr ∧ kGo (kCd f o) A0 B0 C0 (kNa (ja - o)) = some (5, jr, a, b, c) ∧ (ja < en → kLtC jr c (f ja.toNat).toInt = none))
variable {r r2 jr : Int}
theorem kRa_0 (h : (r = 1 ∧ o < en ∧ (f o.toNat).toInt = 102 ∧ ja = o + 1) ∨ (r = 0 ∧ ¬ (o < en ∧ (f o.toNat).toInt = 102) ∧ ja = o)) (hr : ¬ r = 0) : kRa f A0 B0 C0 o en ja 0 A0 B0 C0 := by
  rcases h with ⟨h1, h2, h3, h4⟩ | ⟨h1, -⟩
  · refine Or.inl ⟨rfl, ?_⟩
    have h0 : kGo (kCd f o) A0 B0 C0 (kNa (o - o)) = some (0, 0, A0, B0, C0) := by rw [show kNa (o - o) = 0 by show (o - o).toNat = 0; omega]; rfl
    obtain ⟨x, rx, ex⟩ := zI_ex (f o.toNat)
    rw [ex, zI_toInt rx] at h3
    rw [h4]
    exact kGoS h0 (by omega) ex rx (kStp_0y rfl h3)
  · exact absurd h1 hr
/-- the whole reading -/
def kRd9 (f A0 B0 C0 : Nat → Int32) (o en ja jr : Int) (a b c : Nat → Int32) (r : Int) : Prop := (r = 1 ∧ kGo (kCd f o) A0 B0 C0 (kNa (en - o)) = some (5, jr, a, b, c)) ∨ (r = 0 ∧ kBad (kCd f o) A0 B0 C0 (kNa (en - o)) (kNa (ja - o)))
theorem kRd_0 (h : (r = 1 ∧ o < en ∧ (f o.toNat).toInt = 102 ∧ ja = o + 1) ∨ (r = 0 ∧ ¬ (o < en ∧ (f o.toNat).toInt = 102) ∧ ja = o)) (he : o ≤ en) (hr : r = 0) (hr2 : r2 = 0) : kRd9 f A0 B0 C0 o en ja jr a b c r2 := by
  rcases h with ⟨h1, -⟩ | ⟨h1, h2, h3⟩
  · omega
  · refine Or.inr ⟨hr2, ?_⟩
    subst h3
    have h0 : kGo (kCd f ja) A0 B0 C0 (kNa (ja - ja)) = some (0, 0, A0, B0, C0) := by rw [show kNa (ja - ja) = 0 by show (ja - ja).toNat = 0; omega]; rfl
    by_cases e : ja = en
    · exact kBadE h0 (by decide) e
    · obtain ⟨x, rx, ex⟩ := zI_ex (f ja.toNat)
      rw [ex, zI_toInt rx] at h2
      exact kBadS h0 (by omega) (by omega) ex rx (kStp_0n rfl (by omega))
/-- a sign, then a FONT is due -/
theorem kRa_g {at2 : Int} (h : kRa f A0 B0 C0 o en ja jr a b c) (ho : o ≤ ja) (hc : jr = 0 ∨ jr < 4) (hs : (r = 1 ∧ ja < en ∧ (f ja.toNat).toInt = 59 ∧ at2 = ja + 1) ∨ (r = 0 ∧ ¬ (ja < en ∧ (f ja.toNat).toInt = 59) ∧ at2 = ja)) (hr : ¬ r = 0) : kGo (kCd f o) A0 B0 C0 (kNa (at2 - o)) = some (2, jr + 1, a, b, upd c jr.toNat (zI 0)) := by
  rcases hs with ⟨h1, h2, h3, h4⟩ | ⟨h1, -⟩
  · obtain ⟨x, rx, ex⟩ := zI_ex (f ja.toNat)
    rw [ex, zI_toInt rx] at h3
    rw [h4]
    rcases h with ⟨q1, q2⟩ | ⟨q1, q2, q3⟩
    · subst q1
      refine kGoS q2 ho ex rx ?_
      rw [kStp_1 rfl, kSgn_s (kSgC_y (by omega))]
    · refine kGoS q2 ho ex rx ?_
      rw [kStp_5s rfl h3, kSgn_s (kSgC_y (by omega))]
  · exact absurd h1 hr
theorem kRd_g {at2 : Int} (h : kRa f A0 B0 C0 o en ja jr a b c) (ho : o ≤ ja ∧ ja ≤ en) (hc : jr = 0 ∨ ja < en) (hs : (r = 1 ∧ ja < en ∧ (f ja.toNat).toInt = 59 ∧ at2 = ja + 1) ∨ (r = 0 ∧ ¬ (ja < en ∧ (f ja.toNat).toInt = 59) ∧ at2 = ja)) (hr : r = 0) (hr2 : r2 = 0) : kRd9 f A0 B0 C0 o en at2 jr a b c r2 := by
  rcases hs with ⟨h1, -⟩ | ⟨h1, h2, h3⟩
  · omega
  · refine Or.inr ⟨hr2, ?_⟩
    subst h3
    obtain ⟨x, rx, ex⟩ := zI_ex (f at2.toNat)
    have ex2 := ex
    rw [ex, zI_toInt rx] at h2
    rcases h with ⟨q1, q2⟩ | ⟨q1, q2, q3⟩
    · by_cases e : at2 = en
      · exact kBadE q2 (by decide) e
      · refine kBadS q2 (by omega) (by omega) ex rx ?_
        rw [kStp_1 rfl, kSgn_n (kSgC_n (by omega))]
    · refine kBadS q2 (by omega) (by omega) ex rx ?_
      have q4 := q3 (by omega)
      rw [ex2, zI_toInt rx] at q4
      rw [kStp_5l rfl (by omega), kLtr_n q4]
theorem kRa_s {at2 m2 : Int} (h : kRf f A0 B0 C0 o en at2 jr m2 a b c r) (hj : 0 ≤ jr) (hr : ¬ r = 0) : kRa f A0 B0 C0 o en at2 m2 a b c := by
  rcases h with ⟨-, h2, h3, h4⟩ | ⟨h1, -⟩
  · exact Or.inr ⟨by omega, h3, h4⟩
  · exact absurd h1 hr
theorem kRd_f {at2 m2 : Int} (h : kRf f A0 B0 C0 o en at2 jr m2 a b c r) (hr : r = 0) (hr2 : r2 = 0) : kRd9 f A0 B0 C0 o en at2 m2 a b c r2 := by
  rcases h with ⟨h1, -⟩ | ⟨-, h2⟩
  · omega
  · exact Or.inr ⟨hr2, h2⟩
theorem kRd_1 (h : kRa f A0 B0 C0 o en ja jr a b c) (hj : ¬ jr = 0) (e : ja = en) (hr2 : r2 = 1) : kRd9 f A0 B0 C0 o en ja jr a b c r2 := by
  rcases h with ⟨q1, -⟩ | ⟨q1, q2, -⟩
  · exact absurd q1 hj
  · exact Or.inl ⟨hr2, by rw [← e]; exact q2⟩
theorem kRd_2 (h : kRa f A0 B0 C0 o en ja jr a b c) (ho : o ≤ ja ∧ ja ≤ en) (hj : ¬ jr = 0) (e : ¬ ja = en) (hc : ¬ (jr < 4 ∧ ja < en)) (hr2 : r2 = 0) : kRd9 f A0 B0 C0 o en ja jr a b c r2 := by
  rcases h with ⟨q1, -⟩ | ⟨q1, q2, q3⟩
  · exact absurd q1 hj
  · refine Or.inr ⟨hr2, ?_⟩
    obtain ⟨x, rx, ex⟩ := zI_ex (f ja.toNat)
    have q4 := q3 (by omega)
    rw [ex, zI_toInt rx] at q4
    refine kBadS q2 (by omega) (by omega) ex rx ?_
    by_cases c1 : x = 59
    · rw [kStp_5s rfl c1, kSgn_n (kSgC_n (by omega))]
    · rw [kStp_5l rfl c1, kLtr_n q4]
end
