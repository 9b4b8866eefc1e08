/-! ints by an Int: zI z; rg: it is in range -/
def zI (z : Int) : Int32 := Int32.ofInt z
abbrev rg (z : Int) : Prop := -2147483648 ≤ z ∧ z < 2147483648
theorem zI_toInt {z : Int} (h : rg z) : (zI z).toInt = z := by
  unfold zI
  rw [Int32.toInt_ofInt]
  show z.bmod 4294967296 = z
  exact Int.bmod_eq_of_le (by omega) (by omega)
theorem zI_of (x : Int32) : zI x.toInt = x := Int32.ofInt_toInt x
theorem rg_of (x : Int32) : rg x.toInt := by
  have h1 := Int32.le_toInt x
  have h2 := Int32.toInt_lt x
  constructor <;> omega
theorem zI_ex (x : Int32) : ∃ z : Int, rg z ∧ x = zI z := ⟨x.toInt, rg_of x, (zI_of x).symm⟩
theorem zI_add (a b : Int) : zI a + zI b = zI (a + b) := (Int32.ofInt_add a b).symm
theorem zI_sub (a b : Int) : zI a - zI b = zI (a - b) := (Int32.ofInt_sub a b).symm
theorem zI_mul (a b : Int) : zI a * zI b = zI (a * b) := (Int32.ofInt_mul a b).symm
theorem zI_lt {a b : Int} (ha : rg a) (hb : rg b) : zI a < zI b ↔ a < b := by rw [Int32.lt_iff_toInt_lt, zI_toInt ha, zI_toInt hb]
theorem zI_le {a b : Int} (ha : rg a) (hb : rg b) : zI a ≤ zI b ↔ a ≤ b := by rw [Int32.le_iff_toInt_le, zI_toInt ha, zI_toInt hb]
theorem zI_eq {a b : Int} (ha : rg a) (hb : rg b) : zI a = zI b ↔ a = b := by rw [← Int32.toInt_inj, zI_toInt ha, zI_toInt hb]
theorem zI_in {i : Int} {n : Nat} (h : 0 ≤ i ∧ i < n ∧ i < 2147483648) : vp_in (zI i) n := vp_in_iff.mpr (by rw [zI_toInt (by omega)]; omega)
theorem zI_cl {i : Int} (h : 0 ≤ i ∧ i < 2147483648) : (zI i).toNatClampNeg = i.toNat := by
  show (zI i).toInt.toNat = _
  rw [zI_toInt (by omega)]
def QcP (P : Int → Prop) : Array Value → State → Outcome → State → Prop := fun _ st o t => (∃ z : Int, o = .returned (some (.int (zI z))) ∧ rg z ∧ P z) ∧ t.heap = st.heap
section
variable {p : Program} {l : Launch} {e : Env} {R : Room} {s : State} {m : MethodId} {args : Array Value} {below : List Frame} {meth : Method} {c : Code} {H : Heap} {locs : List Loc} {cells slots : Nat} {Q : State → Prop} {cc : ByteArray} {pc : Nat} {ls : Array Slot} {rest : List Value} {D : va_G} {cl : List vw_C} {A : Nat → Prop} {a : Nat} {tys : List (ClassId × FieldType)} {ws : va_W} {H0 : Heap}
theorem kz_icmp_eq (hexec : p.tables.exec = Jvm.exec) (hb : c.code = cc) {x y : Int} {off : Int} {tgt : Nat} (hdg : decode cc pc = .ok (.if_icmp .eq off, 3)) (ht : (pc : Int) + off = (tgt : Int)) (hx : rg x) (hy : rg y) (kt : x = y → W p l e R s m args below meth c H locs cells slots Q (F0 m tgt ls rest)) (kf : ¬ x = y → W p l e R s m args below meth c H locs cells slots Q (F0 m (pc + 3) ls rest)) : W p l e R s m args below meth c H locs cells slots Q (F0 m pc ls (.int (zI y) :: .int (zI x) :: rest)) := lv_icmp_eq hexec hb hdg ht (fun h9 => kt ((zI_eq hx hy).mp h9)) (fun h9 => kf (fun q => h9 ((zI_eq hx hy).mpr q)))
theorem kz_if_eq (hexec : p.tables.exec = Jvm.exec) (hb : c.code = cc) {x : Int} {off : Int} {tgt : Nat} (hdg : decode cc pc = .ok (.ifCond .eq off, 3)) (ht : (pc : Int) + off = (tgt : Int)) (hx : rg x) (kt : x = 0 → W p l e R s m args below meth c H locs cells slots Q (F0 m tgt ls rest)) (kf : ¬ x = 0 → W p l e R s m args below meth c H locs cells slots Q (F0 m (pc + 3) ls rest)) : W p l e R s m args below meth c H locs cells slots Q (F0 m pc ls (.int (zI x) :: rest)) := by
  have kz0 : rg 0 := by omega
  have ez : (0 : Int32) = zI 0 := rfl
  exact lv_if_eq hexec hb hdg ht (by rw [ez]; exact fun h9 => kt ((zI_eq hx kz0).mp h9)) (by rw [ez]; exact fun h9 => kf (fun q => h9 ((zI_eq hx kz0).mpr q)))
theorem kz_icmp_ne (hexec : p.tables.exec = Jvm.exec) (hb : c.code = cc) {x y : Int} {off : Int} {tgt : Nat} (hdg : decode cc pc = .ok (.if_icmp .ne off, 3)) (ht : (pc : Int) + off = (tgt : Int)) (hx : rg x) (hy : rg y) (kt : ¬ x = y → W p l e R s m args below meth c H locs cells slots Q (F0 m tgt ls rest)) (kf : x = y → W p l e R s m args below meth c H locs cells slots Q (F0 m (pc + 3) ls rest)) : W p l e R s m args below meth c H locs cells slots Q (F0 m pc ls (.int (zI y) :: .int (zI x) :: rest)) := lv_icmp_ne hexec hb hdg ht (fun h9 => kt (fun q => h9 ((zI_eq hx hy).mpr q))) (fun h9 => kf ((zI_eq hx hy).mp h9))
theorem kz_if_ne (hexec : p.tables.exec = Jvm.exec) (hb : c.code = cc) {x : Int} {off : Int} {tgt : Nat} (hdg : decode cc pc = .ok (.ifCond .ne off, 3)) (ht : (pc : Int) + off = (tgt : Int)) (hx : rg x) (kt : ¬ x = 0 → W p l e R s m args below meth c H locs cells slots Q (F0 m tgt ls rest)) (kf : x = 0 → W p l e R s m args below meth c H locs cells slots Q (F0 m (pc + 3) ls rest)) : W p l e R s m args below meth c H locs cells slots Q (F0 m pc ls (.int (zI x) :: rest)) := by
  have kz0 : rg 0 := by omega
  have ez : (0 : Int32) = zI 0 := rfl
  exact lv_if_ne hexec hb hdg ht (by rw [ez]; exact fun h9 => kt (fun q => h9 ((zI_eq hx kz0).mpr q))) (by rw [ez]; exact fun h9 => kf ((zI_eq hx kz0).mp h9))
theorem kz_icmp_lt (hexec : p.tables.exec = Jvm.exec) (hb : c.code = cc) {x y : Int} {off : Int} {tgt : Nat} (hdg : decode cc pc = .ok (.if_icmp .lt off, 3)) (ht : (pc : Int) + off = (tgt : Int)) (hx : rg x) (hy : rg y) (kt : x < y → W p l e R s m args below meth c H locs cells slots Q (F0 m tgt ls rest)) (kf : y ≤ x → W p l e R s m args below meth c H locs cells slots Q (F0 m (pc + 3) ls rest)) : W p l e R s m args below meth c H locs cells slots Q (F0 m pc ls (.int (zI y) :: .int (zI x) :: rest)) := lv_icmp_lt hexec hb hdg ht (fun h9 => kt ((zI_lt hx hy).mp h9)) (fun h9 => kf (by have q : ¬ x < y := fun q => h9 ((zI_lt hx hy).mpr q); omega))
theorem kz_if_lt (hexec : p.tables.exec = Jvm.exec) (hb : c.code = cc) {x : Int} {off : Int} {tgt : Nat} (hdg : decode cc pc = .ok (.ifCond .lt off, 3)) (ht : (pc : Int) + off = (tgt : Int)) (hx : rg x) (kt : x < 0 → W p l e R s m args below meth c H locs cells slots Q (F0 m tgt ls rest)) (kf : 0 ≤ x → W p l e R s m args below meth c H locs cells slots Q (F0 m (pc + 3) ls rest)) : W p l e R s m args below meth c H locs cells slots Q (F0 m pc ls (.int (zI x) :: rest)) := by
  have kz0 : rg 0 := by omega
  have ez : (0 : Int32) = zI 0 := rfl
  exact lv_if_lt hexec hb hdg ht (by rw [ez]; exact fun h9 => kt ((zI_lt hx kz0).mp h9)) (by rw [ez]; exact fun h9 => kf (by have q : ¬ x < 0 := fun q => h9 ((zI_lt hx kz0).mpr q); omega))
theorem kz_icmp_ge (hexec : p.tables.exec = Jvm.exec) (hb : c.code = cc) {x y : Int} {off : Int} {tgt : Nat} (hdg : decode cc pc = .ok (.if_icmp .ge off, 3)) (ht : (pc : Int) + off = (tgt : Int)) (hx : rg x) (hy : rg y) (kt : y ≤ x → W p l e R s m args below meth c H locs cells slots Q (F0 m tgt ls rest)) (kf : x < y → W p l e R s m args below meth c H locs cells slots Q (F0 m (pc + 3) ls rest)) : W p l e R s m args below meth c H locs cells slots Q (F0 m pc ls (.int (zI y) :: .int (zI x) :: rest)) := lv_icmp_ge hexec hb hdg ht (fun h9 => kt ((zI_le hy hx).mp h9)) (fun h9 => kf (by have q : ¬ y ≤ x := fun q => h9 ((zI_le hy hx).mpr q); omega))
theorem kz_if_ge (hexec : p.tables.exec = Jvm.exec) (hb : c.code = cc) {x : Int} {off : Int} {tgt : Nat} (hdg : decode cc pc = .ok (.ifCond .ge off, 3)) (ht : (pc : Int) + off = (tgt : Int)) (hx : rg x) (kt : 0 ≤ x → W p l e R s m args below meth c H locs cells slots Q (F0 m tgt ls rest)) (kf : x < 0 → W p l e R s m args below meth c H locs cells slots Q (F0 m (pc + 3) ls rest)) : W p l e R s m args below meth c H locs cells slots Q (F0 m pc ls (.int (zI x) :: rest)) := by
  have kz0 : rg 0 := by omega
  have ez : (0 : Int32) = zI 0 := rfl
  exact lv_if_ge hexec hb hdg ht (by rw [ez]; exact fun h9 => kt ((zI_le kz0 hx).mp h9)) (by rw [ez]; exact fun h9 => kf (by have q : ¬ 0 ≤ x := fun q => h9 ((zI_le kz0 hx).mpr q); omega))
theorem kz_icmp_gt (hexec : p.tables.exec = Jvm.exec) (hb : c.code = cc) {x y : Int} {off : Int} {tgt : Nat} (hdg : decode cc pc = .ok (.if_icmp .gt off, 3)) (ht : (pc : Int) + off = (tgt : Int)) (hx : rg x) (hy : rg y) (kt : y < x → W p l e R s m args below meth c H locs cells slots Q (F0 m tgt ls rest)) (kf : x ≤ y → W p l e R s m args below meth c H locs cells slots Q (F0 m (pc + 3) ls rest)) : W p l e R s m args below meth c H locs cells slots Q (F0 m pc ls (.int (zI y) :: .int (zI x) :: rest)) := lv_icmp_gt hexec hb hdg ht (fun h9 => kt ((zI_lt hy hx).mp h9)) (fun h9 => kf (by have q : ¬ y < x := fun q => h9 ((zI_lt hy hx).mpr q); omega))
theorem kz_if_gt (hexec : p.tables.exec = Jvm.exec) (hb : c.code = cc) {x : Int} {off : Int} {tgt : Nat} (hdg : decode cc pc = .ok (.ifCond .gt off, 3)) (ht : (pc : Int) + off = (tgt : Int)) (hx : rg x) (kt : 0 < x → W p l e R s m args below meth c H locs cells slots Q (F0 m tgt ls rest)) (kf : x ≤ 0 → W p l e R s m args below meth c H locs cells slots Q (F0 m (pc + 3) ls rest)) : W p l e R s m args below meth c H locs cells slots Q (F0 m pc ls (.int (zI x) :: rest)) := by
  have kz0 : rg 0 := by omega
  have ez : (0 : Int32) = zI 0 := rfl
  exact lv_if_gt hexec hb hdg ht (by rw [ez]; exact fun h9 => kt ((zI_lt kz0 hx).mp h9)) (by rw [ez]; exact fun h9 => kf (by have q : ¬ 0 < x := fun q => h9 ((zI_lt kz0 hx).mpr q); omega))
theorem kz_icmp_le (hexec : p.tables.exec = Jvm.exec) (hb : c.code = cc) {x y : Int} {off : Int} {tgt : Nat} (hdg : decode cc pc = .ok (.if_icmp .le off, 3)) (ht : (pc : Int) + off = (tgt : Int)) (hx : rg x) (hy : rg y) (kt : x ≤ y → W p l e R s m args below meth c H locs cells slots Q (F0 m tgt ls rest)) (kf : y < x → W p l e R s m args below meth c H locs cells slots Q (F0 m (pc + 3) ls rest)) : W p l e R s m args below meth c H locs cells slots Q (F0 m pc ls (.int (zI y) :: .int (zI x) :: rest)) := lv_icmp_le hexec hb hdg ht (fun h9 => kt ((zI_le hx hy).mp h9)) (fun h9 => kf (by have q : ¬ x ≤ y := fun q => h9 ((zI_le hx hy).mpr q); omega))
theorem kz_if_le (hexec : p.tables.exec = Jvm.exec) (hb : c.code = cc) {x : Int} {off : Int} {tgt : Nat} (hdg : decode cc pc = .ok (.ifCond .le off, 3)) (ht : (pc : Int) + off = (tgt : Int)) (hx : rg x) (kt : x ≤ 0 → W p l e R s m args below meth c H locs cells slots Q (F0 m tgt ls rest)) (kf : 0 < x → W p l e R s m args below meth c H locs cells slots Q (F0 m (pc + 3) ls rest)) : W p l e R s m args below meth c H locs cells slots Q (F0 m pc ls (.int (zI x) :: rest)) := by
  have kz0 : rg 0 := by omega
  have ez : (0 : Int32) = zI 0 := rfl
  exact lv_if_le hexec hb hdg ht (by rw [ez]; exact fun h9 => kt ((zI_le hx kz0).mp h9)) (by rw [ez]; exact fun h9 => kf (by have q : ¬ x ≤ 0 := fun q => h9 ((zI_le hx kz0).mpr q); omega))
theorem kz_iadd (hexec : p.tables.exec = Jvm.exec) (hb : c.code = cc) {x y : Int} (hdg : decode cc pc = .ok (.iadd, 1)) (k : W p l e R s m args below meth c H locs cells slots Q (F0 m (pc + 1) ls (.int (zI (x + y)) :: rest))) : W p l e R s m args below meth c H locs cells slots Q (F0 m pc ls (.int (zI y) :: .int (zI x) :: rest)) := lv_iadd hexec hb hdg (by rw [zI_add]; exact k)
theorem kz_isub (hexec : p.tables.exec = Jvm.exec) (hb : c.code = cc) {x y : Int} (hdg : decode cc pc = .ok (.isub, 1)) (k : W p l e R s m args below meth c H locs cells slots Q (F0 m (pc + 1) ls (.int (zI (x - y)) :: rest))) : W p l e R s m args below meth c H locs cells slots Q (F0 m pc ls (.int (zI y) :: .int (zI x) :: rest)) := lv_isub hexec hb hdg (by rw [zI_sub]; exact k)
theorem kz_imul (hexec : p.tables.exec = Jvm.exec) (hb : c.code = cc) {x y : Int} (hdg : decode cc pc = .ok (.imul, 1)) (k : W p l e R s m args below meth c H locs cells slots Q (F0 m (pc + 1) ls (.int (zI (x * y)) :: rest))) : W p l e R s m args below meth c H locs cells slots Q (F0 m pc ls (.int (zI y) :: .int (zI x) :: rest)) := lv_imul hexec hb hdg (by rw [zI_mul]; exact k)
theorem kz_bool {P : Prop} [Decidable P] (k : ∀ z : Int, (z = 0 ∨ z = 1) → (z = 1 ↔ P) → W p l e R s m args below meth c H locs cells slots Q (F0 m pc ls (.int (zI z) :: rest))) : W p l e R s m args below meth c H locs cells slots Q (F0 m pc ls (.int (if P then 1 else 0) :: rest)) := by
  by_cases c : P
  · rw [if_pos c]; exact k 1 (Or.inr rfl) ⟨fun _ => c, fun _ => rfl⟩
  · rw [if_neg c]; exact k 0 (Or.inl rfl) ⟨fun h => absurd h (by decide), fun h => absurd h c⟩
theorem kz_any {x : Int32} (k : ∀ z : Int, rg z → x = zI z → W p l e R s m args below meth c H locs cells slots Q (F0 m pc ls (.int (zI z) :: rest))) : W p l e R s m args below meth c H locs cells slots Q (F0 m pc ls (.int x :: rest)) := by
  obtain ⟨z, h1, h2⟩ := zI_ex x
  rw [h2]
  exact k z h1 h2
theorem kz_to (y : Int) {x : Int} (h : x = y) (k : W p l e R s m args below meth c H locs cells slots Q (F0 m pc ls (.int (zI y) :: rest))) : W p l e R s m args below meth c H locs cells slots Q (F0 m pc ls (.int (zI x) :: rest)) := h ▸ k
theorem kz_iald (hexec : p.tables.exec = Jvm.exec) (hb : c.code = cc) (hK : va_K D cl tys s) (hP : va_P D cl ws H) (q0 t0 : Nat) {cA : ClassId} {n : Nat} {f : Nat → Int32} (ha : ws[q0]? = some (a, .inl (cA, n, .inl f))) (ht : tys[t0]? = some (cA, .int)) {i : Int} (hi : 0 ≤ i ∧ i < n ∧ i < 2147483648) (hdg : decode cc pc = .ok (.iaload, 1)) (kk : ∀ z : Int, rg z → f i.toNat = zI z → W p l e R s m args below meth c H locs cells slots Q (F0 m (pc + 1) ls (.int (zI z) :: rest))) : W p l e R s m args below meth c H locs cells slots Q (F0 m pc ls (.int (zI i) :: .ref a :: rest)) := by
  refine va_iald hexec hb hK hP q0 t0 ha ht (zI_in hi) hdg ?_
  rw [zI_cl (by omega)]
  exact kz_any kk
theorem kz_iast (hexec : p.tables.exec = Jvm.exec) (hb : c.code = cc) (hK : va_K D cl tys s) (hP : va_P D cl ws H) (hD : va_D A ws) (hS : va_S A H0 H locs) (q0 t0 : Nat) {cA : ClassId} {n : Nat} {f : Nat → Int32} (ha : ws[q0]? = some (a, .inl (cA, n, .inl f))) (ht : tys[t0]? = some (cA, .int)) {i : Int} {x : Int32} (hi : 0 ≤ i ∧ i < n ∧ i < 2147483648) (hdg : decode cc pc = .ok (.iastore, 1)) (kk : ∀ (H1 : Heap) (locs1 : List Loc), va_P D cl (ws.set q0 (a, .inl (cA, n, .inl (upd f i.toNat x)))) H1 → va_D A (ws.set q0 (a, .inl (cA, n, .inl (upd f i.toNat x)))) → va_S A H0 H1 locs1 → W p l e R s m args below meth c H1 locs1 cells slots Q (F0 m (pc + 1) ls rest)) : W p l e R s m args below meth c H locs cells slots Q (F0 m pc ls (.int x :: .int (zI i) :: .ref a :: rest)) := by
  refine va_iast hexec hb hK hP hD hS q0 t0 ha ht (zI_in hi) hdg ?_
  rw [zI_cl (by omega)]
  exact kk
theorem k_callP {P : Int → Prop} {st0 : List Value} {a9 : Array Value} (hr : va_Run p l e R s m args below meth c H locs cells slots 0 0 (F0 m pc ls st0) rest (QcP P a9) (fun _ => False)) (kk : ∀ z : Int, rg z → P z → W p l e R s m args below meth c H locs cells slots Q (F0 m (pc + 3) ls (.int (zI z) :: rest))) : W p l e R s m args below meth c H locs cells slots Q (F0 m pc ls st0) := by
  intro T hT X
  obtain ⟨v, st₀, t, T', L, h0, X', hL, e1, e2, ⟨⟨z, hv, hz, hP⟩, hh⟩, st⟩ := hr T hT X
  cases hv
  obtain ⟨t2, a1, b1⟩ := kk z hz hP T' (by rw [e1, hh, h0]) (Stand.forget X' (fun q h => (hL q h).elim))
  exact ⟨t2, st t2 a1, b1⟩
theorem k_loopM {I : Nat → Heap → List Loc → Array Slot → Prop} (step : ∀ n, (∀ n', n' < n → ∀ H locs ls, I n' H locs ls → W p l e R s m args below meth c H locs cells slots Q (F0 m pc ls rest)) → ∀ H locs ls, I n H locs ls → W p l e R s m args below meth c H locs cells slots Q (F0 m pc ls rest)) (n0 : Nat) (h0 : I n0 H locs ls) : W p l e R s m args below meth c H locs cells slots Q (F0 m pc ls rest) := by
  have all : ∀ n H locs ls, I n H locs ls → W p l e R s m args below meth c H locs cells slots Q (F0 m pc ls rest) := by
    intro n
    induction n using Nat.strongRecOn with
    | ind n ih => exact step n (fun n' h => ih n' h)
  exact all n0 H locs ls h0
theorem kz_min (hexec : p.tables.exec = Jvm.exec) (hb : c.code = cc) (hml : c.maxLocals = ls.size) {own : String} {index : Nat} (hown : s.vm.findClass own = some m.cls) (hlink : (Cond.methodLink own index Lib.Math.min.name).before args s = true) (hstat : (Cond.static Lib.Math.min.name).before args s = true) (hini : (Cond.initialized "java/lang/Math").before args s = true) (hcode : (Cond.code Lib.Math.min.name Lib.Math.min.code 2 (some .int)).before args s = true) (hframes : 1 ≤ R.frames) (hlocals : (rest.map fun v => v.category).sum + 13 ≤ R.locals) (hc : cells ≤ R.cells) (hs : slots ≤ R.slots) {x y : Int} (hx : rg x) (hy : rg y) (hdg : decode cc pc = .ok (.invokestatic index, 3)) (kk : ∀ z : Int, rg z → (z ≤ x ∧ z ≤ y ∧ (z = x ∨ z = y)) → W p l e R s m args below meth c H locs cells slots Q (F0 m (pc + 3) ls (.int (zI z) :: rest))) : W p l e R s m args below meth c H locs cells slots Q (F0 m pc ls (.int (zI y) :: .int (zI x) :: rest)) := by
  refine va_mmin hexec hb hml hown hlink hstat hini hcode hframes hlocals hc hs hdg ?_
  by_cases q : y < x
  · rw [if_pos ((zI_lt hy hx).mpr q)]
    exact kk _ hy (by omega)
  · rw [if_neg (fun w => q ((zI_lt hy hx).mp w))]
    exact kk _ hx (by omega)
theorem kz_max (hexec : p.tables.exec = Jvm.exec) (hb : c.code = cc) (hml : c.maxLocals = ls.size) {own : String} {index : Nat} (hown : s.vm.findClass own = some m.cls) (hlink : (Cond.methodLink own index Lib.Math.max.name).before args s = true) (hstat : (Cond.static Lib.Math.max.name).before args s = true) (hini : (Cond.initialized "java/lang/Math").before args s = true) (hcode : (Cond.code Lib.Math.max.name Lib.Math.max.code 2 (some .int)).before args s = true) (hframes : 1 ≤ R.frames) (hlocals : (rest.map fun v => v.category).sum + 13 ≤ R.locals) (hc : cells ≤ R.cells) (hs : slots ≤ R.slots) {x y : Int} (hx : rg x) (hy : rg y) (hdg : decode cc pc = .ok (.invokestatic index, 3)) (kk : ∀ z : Int, rg z → (z ≥ x ∧ z ≥ y ∧ (z = x ∨ z = y)) → W p l e R s m args below meth c H locs cells slots Q (F0 m (pc + 3) ls (.int (zI z) :: rest))) : W p l e R s m args below meth c H locs cells slots Q (F0 m pc ls (.int (zI y) :: .int (zI x) :: rest)) := by
  refine va_mmax hexec hb hml hown hlink hstat hini hcode hframes hlocals hc hs hdg ?_
  by_cases q : x < y
  · rw [if_pos ((zI_lt hx hy).mpr q)]
    exact kk _ hy (by omega)
  · rw [if_neg (fun w => q ((zI_lt hx hy).mp w))]
    exact kk _ hx (by omega)
theorem kz_tabIn (hexec : p.tables.exec = Jvm.exec) (hb : c.code = cc) {dflt lo hi : Int} {offs : Array Int} {len : Nat} {x : Int} {off : Int} {tgt : Nat} (hdg : decode cc pc = .ok (.tableswitch dflt lo hi offs, len)) (k : Int) (hk : x = k) (hr : rg k) (h1 : ¬ k < lo) (h2 : ¬ hi < k) (ho : offs[(k - lo).toNat]? = some off) (ht : (pc : Int) + off = (tgt : Int)) (kk : W p l e R s m args below meth c H locs cells slots Q (F0 m tgt ls rest)) : W p l e R s m args below meth c H locs cells slots Q (F0 m pc ls (.int (zI x) :: rest)) := by
  subst hk
  exact lv_tableIn hexec hb hdg (by rw [zI_toInt hr]; exact h1) (by rw [zI_toInt hr]; exact h2) (by rw [zI_toInt hr]; exact ho) ht kk
theorem kz_tabOut (hexec : p.tables.exec = Jvm.exec) (hb : c.code = cc) {dflt lo hi : Int} {offs : Array Int} {len : Nat} {x : Int} {tgt : Nat} (hdg : decode cc pc = .ok (.tableswitch dflt lo hi offs, len)) (hr : rg x) (h : x < lo ∨ hi < x) (ht : (pc : Int) + dflt = (tgt : Int)) (kk : W p l e R s m args below meth c H locs cells slots Q (F0 m tgt ls rest)) : W p l e R s m args below meth c H locs cells slots Q (F0 m pc ls (.int (zI x) :: rest)) := lv_tableOut hexec hb hdg (by rw [zI_toInt hr]; exact h) ht kk
theorem kz_look (hexec : p.tables.exec = Jvm.exec) (hb : c.code = cc) {dflt : Int} {ps : Array (Int × Int)} {len : Nat} {x : Int} {off : Int} {tgt : Nat} (hdg : decode cc pc = .ok (.lookupswitch dflt ps, len)) (hp : (ps.toList.zip (ps.toList.drop 1)).all (fun (a, next) => a.1 < next.1) = true) (hr : rg x) (ho : Op.lookupswitch.offset ps.toList dflt x = off) (ht : (pc : Int) + off = (tgt : Int)) (kk : W p l e R s m args below meth c H locs cells slots Q (F0 m tgt ls rest)) : W p l e R s m args below meth c H locs cells slots Q (F0 m pc ls (.int (zI x) :: rest)) := lv_lookup hexec hb hdg hp (by rw [zI_toInt hr]; exact ho) ht kk
end
theorem QcP_of {P : Int → Prop} {a : Array Value} {st t : State} {z : Int} (hz : rg z) (h : P z) (ht : t.heap = st.heap) : QcP P a st (.returned (some (.int (zI z)))) t := ⟨⟨z, rfl, hz, h⟩, ht⟩
theorem kbc {P Q : Prop} [Decidable P] [Decidable Q] (h : P ↔ Q) : (if P then (1 : Int32) else 0) = (if Q then 1 else 0) := by
  by_cases c : P
  · rw [if_pos c, if_pos (h.mp c)]
  · rw [if_neg c, if_neg (fun q => c (h.mpr q))]
theorem kz_inc (z n : Int) : zI z + Int32.ofInt n = zI (z + n) := zI_add z n
theorem kz_dec (z n : Int) : zI z + Int32.ofInt (-n) = zI (z - n) := by rw [Int.sub_eq_add_neg]; exact zI_add z (-n)
theorem kzb1 {P : Prop} [Decidable P] : (if P then zI 1 else zI 0) = (if P then (1 : Int32) else 0) := rfl
theorem kz_bt {P : Prop} [Decidable P] (h : ¬ (if P then (1 : Int32) else 0) = 0) : P := b01t h
def kQS (B : Int → State → Prop) (A : Nat → Prop) : Array Value → State → Outcome → State → Prop := va_Qi (fun r (u : Int) => r = zI u ∧ rg u) B A
def kQV (B : State → Prop) (A : Nat → Prop) : Array Value → State → Outcome → State → Prop := va_Qv (fun (_ : Unit) => True) (fun _ t => B t) A
def kQL (B : Int64 → State → Prop) (A : Nat → Prop) : Array Value → State → Outcome → State → Prop := va_Ql (fun r (u : Int64) => r = u) B A
theorem kQS_of {B : Int → State → Prop} {A : Nat → Prop} {a : Array Value} {st t : State} {z : Int} (hz : rg z) (h : B z t) (hF : va_F A st t) : kQS B A a st (.returned (some (.int (zI z)))) t := ⟨⟨_, z, rfl, ⟨rfl, hz⟩, h⟩, hF⟩
theorem kQV_of {B : State → Prop} {A : Nat → Prop} {a : Array Value} {st t : State} (h : B t) (hF : va_F A st t) : kQV B A a st (.returned none) t := ⟨⟨(), rfl, trivial, h⟩, hF⟩
theorem kQL_of {B : Int64 → State → Prop} {A : Nat → Prop} {a : Array Value} {st t : State} {z : Int64} (h : B z t) (hF : va_F A st t) : kQL B A a st (.returned (some (.long z))) t := ⟨⟨_, z, rfl, rfl, h⟩, hF⟩
theorem kb1 {P : Prop} [Decidable P] (h : P) : zI 1 = (if P then (1 : Int32) else 0) := (if_pos h).symm
theorem kb0 {P : Prop} [Decidable P] (h : ¬ P) : zI 0 = (if P then (1 : Int32) else 0) := (if_neg h).symm
theorem kbz {z : Int} (h : z = 0 ∨ z = 1) : narrow .boolean (.int (zI z)) = .int (zI z) := by rcases h with rfl | rfl <;> rfl
theorem kbf {z : Int} (h : z = 0 ∨ z = 1) : fits .boolean (.int (zI z)) = true := by rcases h with rfl | rfl <;> rfl
