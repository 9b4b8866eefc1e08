theorem kP_cut {D : va_G} {cl : List vw_C} {x k y : va_W} {H : Heap} (h : va_P D cl (x ++ (k ++ y)) H) : va_P D cl (x ++ k) H := by
  rw [← List.append_assoc] at h
  intro i q hi
  exact h i q (by rw [List.getElem?_append_left (List.getElem?_eq_some_iff.mp hi).1]; exact hi)
theorem kD_cut {A : Nat → Prop} {x k y : va_W} (h : va_D A (x ++ (k ++ y))) : va_D A (x ++ k) := by
  rw [← List.append_assoc] at h
  have g : ∀ (i : Nat) (q : Nat × va_E), (x ++ k)[i]? = some q → ((x ++ k) ++ y)[i]? = some q := fun i q hi => by rw [List.getElem?_append_left (List.getElem?_eq_some_iff.mp hi).1]; exact hi
  exact ⟨fun i j a b hi hj e => h.1 i j a b (g i a hi) (g j b hj) e, fun i q hi => h.2 i q (g i q hi)⟩
theorem kP_in {D : va_G} {cl : List vw_C} {n o k : va_W} {H : Heap} (h : va_P D cl ((n ++ o) ++ k) H) : va_P D cl (n ++ (k ++ o)) H := by
  have h2 := h.swap
  rw [List.append_assoc] at h2
  exact h2
theorem kD_in {A : Nat → Prop} {n o k : va_W} (h : va_D A ((n ++ o) ++ k)) : va_D A (n ++ (k ++ o)) := by
  have h2 := h.swap
  rw [List.append_assoc] at h2
  exact h2
theorem kP_out {D : va_G} {cl : List vw_C} {n o k : va_W} {H : Heap} (h : va_P D cl (n ++ (k ++ o)) H) : va_P D cl ((n ++ o) ++ k) H := by
  rw [← List.append_assoc] at h
  exact h.swap
theorem kD_out {A : Nat → Prop} {n o k : va_W} (h : va_D A (n ++ (k ++ o))) : va_D A ((n ++ o) ++ k) := by
  rw [← List.append_assoc] at h
  exact h.swap
theorem kix {X cx pl : va_W} {is : List Nat} (h : is.map (fun i => X[i]?) = cx.map some) : (is ++ (List.range pl.length).map (fun j => X.length + j)).map (fun i => (X ++ pl)[i]?) = (cx ++ pl).map some := by
  rw [List.map_append, List.map_append]
  congr 1
  · rw [← h]
    apply List.map_congr_left
    intro i hi
    have h2 : X[i]? ∈ is.map (fun i => X[i]?) := List.mem_map.mpr ⟨i, hi, rfl⟩
    rw [h] at h2
    obtain ⟨q, -, hq⟩ := List.mem_map.mp h2
    rw [← hq, List.getElem?_append_left (List.getElem?_eq_some_iff.mp hq.symm).1, hq]
  · rw [List.map_map]
    apply List.ext_getElem?
    intro i
    rw [List.getElem?_map, List.getElem?_map]
    by_cases c : i < pl.length
    · rw [List.getElem?_range c]
      show some ((X ++ pl)[X.length + i]?) = Option.map some pl[i]?
      rw [List.getElem?_append_right (by omega), show X.length + i - X.length = i by omega, List.getElem?_eq_getElem c]
      rfl
    · rw [List.getElem?_eq_none (by rw [List.length_range]; omega), List.getElem?_eq_none (by omega)]
      rfl
theorem kJoinY {A0 : Nat → Prop} {D : va_G} {cl : List vw_C} {X cx wr rx pl pl1 Y : va_W} {H H1 : Heap} (hP : va_P D cl (X ++ (pl ++ Y)) H) (hD : va_D A0 (X ++ (pl ++ Y))) (isC isR : List Nat) (hC : isC.map (fun i => X[i]?) = cx.map some) (hR : isR.map (fun i => X[i]?) = wr.map some) (hn : va_nd isR = true) (hdis : ∀ i ∈ isR, i ∉ isC)
    (hk : ∀ q : Nat, q < H.size → ¬ va_A (cx ++ pl) H.size q → H1[q]? = H[q]?) (hF : ∀ q, va_A (cx ++ pl) H.size q → A0 q) (hP1 : va_P D cl (rx ++ pl1) H1) (hD1 : va_D (va_A (cx ++ pl) H.size) (rx ++ pl1)) : va_P D cl ((wr ++ rx) ++ (pl1 ++ Y)) H1 ∧ va_D A0 ((wr ++ rx) ++ (pl1 ++ Y)) := by
  rw [← List.append_assoc] at hP hD
  have lt : ∀ i ∈ isR, i < X.length := fun i hi => by
    have h2 : X[i]? ∈ isR.map (fun i => X[i]?) := List.mem_map.mpr ⟨i, hi, rfl⟩
    rw [hR] at h2
    obtain ⟨q, -, hq⟩ := List.mem_map.mp h2
    exact (List.getElem?_eq_some_iff.mp hq.symm).1
  have hR2 : isR.map (fun i => (X ++ pl)[i]?) = wr.map some := by
    rw [← hR]
    apply List.map_congr_left
    intro i hi
    exact List.getElem?_append_left (lt i hi)
  obtain ⟨h1, h2⟩ := va_joinQ (X := X ++ pl) (cx := cx ++ pl) (wr := wr) (w1 := rx ++ pl1) (pl := Y) hP hD (isC ++ (List.range pl.length).map (fun j => X.length + j)) isR (kix hC) hR2 hn (fun i hi hc => by
    rcases List.mem_append.mp hc with q | q
    · exact hdis i hi q
    · obtain ⟨j, -, hj⟩ := List.mem_map.mp q
      have := lt i hi
      omega) hk hF hP1 hD1
  rw [← List.append_assoc, List.append_assoc (wr ++ rx)] at h1 h2
  exact ⟨h1, h2⟩
