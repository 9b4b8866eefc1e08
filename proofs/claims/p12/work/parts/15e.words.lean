theorem memIn_r {big : List Cond} (ws : List Cond) (ps : List Nat) (hp : ws = ps.filterMap (fun i => big[i]?)) : ∀ w ∈ ws, w ∈ big := by
  intro w hw
  rw [hp] at hw
  obtain ⟨i, -, hi⟩ := List.mem_filterMap.mp hw
  first | exact List.mem_of_getElem? hi | exact List.getElem?_mem hi
def kTb : List (List Cond) := [k2_sels lw_privs, tables_1_1, tables_1_2, tables_1_3, tables_1_4, tables_1_5]
def kTg (q : Nat × Nat) : Option Cond := (kTb[q.1]?).bind (fun l => l[q.2]?)
theorem kTb_in : ∀ l ∈ kTb, ∀ w ∈ l, w ∈ lw_tbl := List.forall_mem_cons.mpr ⟨fun w h9 => (show w ∈ k2_sels lw_privs ++ (tables_1_1 ++ (tables_1_2 ++ (tables_1_3 ++ (tables_1_4 ++ (tables_1_5))))) from List.mem_append_left _ h9), List.forall_mem_cons.mpr ⟨fun w h9 => (show w ∈ k2_sels lw_privs ++ (tables_1_1 ++ (tables_1_2 ++ (tables_1_3 ++ (tables_1_4 ++ (tables_1_5))))) from List.mem_append_right _ (List.mem_append_left _ h9)), List.forall_mem_cons.mpr ⟨fun w h9 => (show w ∈ k2_sels lw_privs ++ (tables_1_1 ++ (tables_1_2 ++ (tables_1_3 ++ (tables_1_4 ++ (tables_1_5))))) from List.mem_append_right _ (List.mem_append_right _ (List.mem_append_left _ h9))), List.forall_mem_cons.mpr ⟨fun w h9 => (show w ∈ k2_sels lw_privs ++ (tables_1_1 ++ (tables_1_2 ++ (tables_1_3 ++ (tables_1_4 ++ (tables_1_5))))) from List.mem_append_right _ (List.mem_append_right _ (List.mem_append_right _ (List.mem_append_left _ h9)))), List.forall_mem_cons.mpr ⟨fun w h9 => (show w ∈ k2_sels lw_privs ++ (tables_1_1 ++ (tables_1_2 ++ (tables_1_3 ++ (tables_1_4 ++ (tables_1_5))))) from List.mem_append_right _ (List.mem_append_right _ (List.mem_append_right _ (List.mem_append_right _ (List.mem_append_left _ h9))))), List.forall_mem_cons.mpr ⟨fun w h9 => (show w ∈ k2_sels lw_privs ++ (tables_1_1 ++ (tables_1_2 ++ (tables_1_3 ++ (tables_1_4 ++ (tables_1_5))))) from List.mem_append_right _ (List.mem_append_right _ (List.mem_append_right _ (List.mem_append_right _ (List.mem_append_right _ (h9)))))), fun _ h9 => absurd h9 List.not_mem_nil⟩⟩⟩⟩⟩⟩
theorem memIn_2 (ws : List Cond) (ps : List (Nat × Nat)) (hp : ws = ps.filterMap kTg) : ∀ w ∈ ws, w ∈ lw_tbl := by
  intro w hw
  rw [hp] at hw
  obtain ⟨q, -, hq⟩ := List.mem_filterMap.mp hw
  unfold kTg at hq
  obtain ⟨l, h1, h2⟩ := Option.bind_eq_some_iff.mp hq
  exact kTb_in l (List.mem_of_getElem? h1) w (List.mem_of_getElem? h2)
set_option maxRecDepth 20000 in
theorem m_wsL_law_r1 : ∀ w ∈ wsL_law_r1, w ∈ lw_tbl := memIn_2 _ [(1, 14), (1, 15), (1, 1), (3, 172), (3, 173), (1, 10), (1, 16), (1, 17), (1, 18), (1, 19), (1, 20), (1, 21), (1, 22), (1, 202), (1, 24), (1, 2), (1, 46), (1, 47), (1, 3), (1, 203), (1, 88), (1, 53), (1, 4), (1, 204)] (by decide +kernel)
set_option maxRecDepth 20000 in
theorem m_wsL_law_r2 : ∀ w ∈ wsL_law_r2, w ∈ lw_tbl := memIn_2 _ [(1, 90), (1, 91), (1, 5), (1, 205), (1, 107), (1, 108), (1, 6), (1, 206), (1, 122), (1, 123), (1, 7), (1, 207), (1, 137), (1, 138), (1, 8), (1, 208), (1, 184), (1, 185), (1, 9), (1, 209), (1, 210), (1, 211), (1, 212), (1, 26)] (by decide +kernel)
set_option maxRecDepth 20000 in
theorem m_wsL_law_r3 : ∀ w ∈ wsL_law_r3, w ∈ lw_tbl := memIn_2 _ [(1, 27), (1, 28), (1, 45), (1, 29), (1, 49), (1, 50), (1, 51), (1, 52), (1, 80), (1, 55), (1, 56), (1, 57), (1, 58), (1, 61), (1, 64), (1, 93), (1, 94), (1, 95), (1, 96), (1, 110), (1, 111), (1, 112), (1, 113), (1, 125)] (by decide +kernel)
set_option maxRecDepth 20000 in
theorem m_wsL_law_r4 : ∀ w ∈ wsL_law_r4, w ∈ lw_tbl := memIn_2 _ [(1, 126), (1, 127), (1, 128), (1, 140), (1, 141), (1, 142), (1, 145), (1, 147), (1, 149), (1, 151), (1, 153), (1, 161), (1, 143), (1, 162), (1, 187), (1, 188), (1, 189), (1, 193), (1, 190), (1, 194), (3, 174), (3, 175), (3, 176), (3, 177)] (by decide +kernel)
set_option maxRecDepth 20000 in
theorem m_wsL_law_r5 : ∀ w ∈ wsL_law_r5, w ∈ lw_tbl := memIn_2 _ [(3, 180), (3, 181), (3, 182), (3, 184), (3, 185), (3, 186), (3, 187), (3, 188), (3, 190), (3, 195), (3, 196), (3, 197), (3, 199), (3, 200), (3, 202), (3, 203), (3, 206), (3, 208), (2, 8), (2, 9), (2, 10), (2, 11), (1, 216), (1, 69)] (by decide +kernel)
set_option maxRecDepth 20000 in
theorem m_wsL_law_r6 : ∀ w ∈ wsL_law_r6, w ∈ lw_tbl := memIn_2 _ [(2, 12), (2, 13), (2, 14), (2, 15), (2, 16), (2, 17), (2, 18), (2, 19), (2, 20), (2, 21), (2, 22), (2, 23), (1, 32), (1, 34), (2, 24), (2, 25), (2, 26), (2, 27), (1, 31), (1, 35), (2, 29), (2, 31), (0, 0), (2, 32)] (by decide +kernel)
set_option maxRecDepth 20000 in
theorem m_wsL_law_r7 : ∀ w ∈ wsL_law_r7, w ∈ lw_tbl := memIn_2 _ [(2, 33), (2, 34), (2, 35), (2, 36), (1, 68), (1, 82), (2, 37), (2, 38), (2, 39), (2, 40), (2, 41), (2, 42), (2, 43), (2, 44), (2, 45), (2, 47), (0, 1), (2, 48), (2, 49), (2, 51), (0, 2), (2, 52), (2, 53), (2, 55)] (by decide +kernel)
set_option maxRecDepth 20000 in
theorem m_wsL_law_r8 : ∀ w ∈ wsL_law_r8, w ∈ lw_tbl := memIn_2 _ [(0, 3), (2, 56), (1, 66), (2, 57), (2, 59), (0, 4), (2, 60), (1, 60), (2, 61), (2, 62), (2, 63), (2, 64), (1, 67), (2, 67), (2, 69), (0, 5), (2, 70), (1, 63), (2, 71), (2, 73), (0, 6), (2, 74), (2, 75), (2, 76)] (by decide +kernel)
set_option maxRecDepth 20000 in
theorem m_wsL_law_r9 : ∀ w ∈ wsL_law_r9, w ∈ lw_tbl := memIn_2 _ [(1, 11), (2, 77), (2, 78), (2, 79), (2, 80), (2, 81), (2, 83), (0, 7), (2, 84), (1, 81), (1, 100), (1, 131), (1, 192), (2, 85), (2, 86), (2, 87), (2, 88), (2, 89), (2, 90), (2, 91), (2, 92), (2, 93), (2, 94), (1, 12)] (by decide +kernel)
set_option maxRecDepth 20000 in
theorem m_wsL_law_r10 : ∀ w ∈ wsL_law_r10, w ∈ lw_tbl := memIn_2 _ [(2, 95), (1, 115), (2, 96), (2, 98), (0, 8), (2, 99), (2, 100), (2, 101), (2, 102), (2, 103), (2, 104), (2, 105), (2, 106), (2, 107), (2, 108), (2, 110), (0, 9), (2, 111), (1, 155), (1, 101), (1, 98), (2, 112), (2, 114), (0, 10)] (by decide +kernel)
set_option maxRecDepth 20000 in
theorem m_wsL_law_r11 : ∀ w ∈ wsL_law_r11, w ∈ lw_tbl := memIn_2 _ [(2, 115), (1, 157), (2, 116), (2, 117), (2, 118), (2, 119), (2, 120), (2, 122), (0, 11), (2, 123), (2, 124), (2, 125), (2, 127), (0, 12), (2, 128), (1, 159), (2, 129), (2, 131), (0, 13), (2, 132), (1, 116), (1, 114), (4, 32), (4, 33)] (by decide +kernel)
set_option maxRecDepth 20000 in
theorem m_wsL_law_r12 : ∀ w ∈ wsL_law_r12, w ∈ lw_tbl := memIn_2 _ [(4, 34), (4, 35), (3, 178), (3, 193), (3, 194), (3, 183), (3, 189), (3, 207), (4, 36), (4, 37), (4, 38), (4, 39), (4, 40), (4, 41), (4, 42), (4, 43), (4, 44), (4, 45), (4, 47), (0, 24), (4, 48), (4, 49), (4, 51), (0, 25)] (by decide +kernel)
set_option maxRecDepth 20000 in
theorem m_wsL_law_r13 : ∀ w ∈ wsL_law_r13, w ∈ lw_tbl := memIn_2 _ [(4, 52), (4, 53), (4, 55), (0, 26), (4, 56), (4, 57), (4, 59), (0, 27), (4, 60), (4, 61), (4, 63), (0, 28), (4, 64), (4, 65), (4, 66), (4, 67), (4, 68), (4, 69), (4, 70), (2, 133), (2, 134), (2, 135), (2, 136), (1, 59)] (by decide +kernel)
set_option maxRecDepth 20000 in
theorem m_wsL_law_r14 : ∀ w ∈ wsL_law_r14, w ∈ lw_tbl := memIn_2 _ [(1, 62), (1, 65), (2, 137), (2, 138), (2, 139), (2, 140), (2, 141), (2, 142), (2, 144), (2, 145), (2, 146), (2, 147), (2, 148), (2, 149), (4, 71), (4, 72), (4, 73), (4, 74), (4, 75), (4, 77), (0, 29), (4, 78), (4, 79), (4, 81)] (by decide +kernel)
set_option maxRecDepth 20000 in
theorem m_wsL_law_r15 : ∀ w ∈ wsL_law_r15, w ∈ lw_tbl := memIn_2 _ [(0, 30), (4, 82), (4, 83), (4, 85), (0, 31), (4, 86), (2, 150), (2, 151), (2, 152), (2, 153), (4, 87), (4, 88), (4, 89), (4, 90), (2, 154), (2, 155), (2, 156), (2, 157), (2, 158), (2, 159), (2, 160), (2, 161), (2, 162), (2, 163)] (by decide +kernel)
set_option maxRecDepth 20000 in
theorem m_wsL_law_r16 : ∀ w ∈ wsL_law_r16, w ∈ lw_tbl := memIn_2 _ [(2, 164), (2, 165), (2, 167), (0, 14), (2, 168), (1, 213), (2, 174), (1, 214), (2, 169), (2, 170), (2, 171), (2, 172), (1, 99), (4, 91), (4, 92), (4, 93), (4, 94), (3, 191), (4, 95), (3, 192), (2, 175), (2, 176), (2, 177), (2, 178)] (by decide +kernel)
set_option maxRecDepth 20000 in
theorem m_wsL_law_r17 : ∀ w ∈ wsL_law_r17, w ∈ lw_tbl := memIn_2 _ [(2, 179), (2, 180), (2, 181), (2, 182), (4, 96), (4, 97), (4, 98), (4, 99), (2, 183), (2, 184), (2, 185), (2, 186), (1, 97), (4, 100), (4, 101), (4, 102), (4, 103), (2, 187), (2, 188), (2, 189), (2, 190), (1, 146), (1, 148), (1, 150)] (by decide +kernel)
set_option maxRecDepth 20000 in
theorem m_wsL_law_r18 : ∀ w ∈ wsL_law_r18, w ∈ lw_tbl := memIn_2 _ [(1, 152), (1, 154), (2, 191), (2, 192), (2, 193), (2, 194), (4, 104), (4, 105), (4, 106), (4, 107), (3, 198), (4, 108), (4, 110), (0, 32), (4, 111), (3, 204), (3, 205), (4, 112), (4, 114), (0, 33), (4, 115), (4, 116), (4, 118), (0, 34)] (by decide +kernel)
set_option maxRecDepth 20000 in
theorem m_wsL_law_r19 : ∀ w ∈ wsL_law_r19, w ∈ lw_tbl := memIn_2 _ [(4, 119), (3, 201), (4, 120), (4, 122), (0, 35), (4, 123), (4, 124), (4, 126), (0, 36), (4, 127), (4, 128), (4, 130), (0, 37), (4, 131), (4, 132), (4, 134), (0, 38), (4, 135), (2, 196), (2, 197), (2, 198), (2, 199), (1, 160), (2, 200)] (by decide +kernel)
set_option maxRecDepth 20000 in
theorem m_wsL_law_r20 : ∀ w ∈ wsL_law_r20, w ∈ lw_tbl := memIn_2 _ [(2, 201), (2, 202), (2, 203), (2, 204), (2, 205), (2, 206), (2, 207), (4, 136), (4, 137), (4, 138), (4, 139), (2, 208), (2, 209), (2, 210), (2, 211), (2, 212), (2, 213), (2, 214), (2, 215), (2, 216), (2, 217), (2, 218), (2, 219), (2, 220)] (by decide +kernel)
set_option maxRecDepth 20000 in
theorem m_wsL_law_r21 : ∀ w ∈ wsL_law_r21, w ∈ lw_tbl := memIn_2 _ [(1, 130), (2, 221), (4, 140), (4, 141), (4, 142), (4, 143), (4, 144), (4, 146), (0, 39), (4, 147), (2, 222), (2, 223), (2, 224), (2, 225), (1, 129), (4, 148), (4, 149), (4, 150), (4, 151), (2, 226), (2, 227), (2, 228), (2, 229), (4, 152)] (by decide +kernel)
set_option maxRecDepth 20000 in
theorem m_wsL_law_r22 : ∀ w ∈ wsL_law_r22, w ∈ lw_tbl := memIn_2 _ [(4, 153), (4, 154), (4, 155), (2, 230), (2, 231), (2, 232), (2, 233), (4, 156), (4, 157), (4, 158), (4, 159), (2, 234), (2, 235), (2, 236), (2, 237), (2, 238), (2, 239), (3, 0), (3, 1), (3, 2), (3, 3), (3, 4), (3, 5), (3, 6)] (by decide +kernel)
set_option maxRecDepth 20000 in
theorem m_wsL_law_r23 : ∀ w ∈ wsL_law_r23, w ∈ lw_tbl := memIn_2 _ [(3, 7), (3, 9), (0, 15), (3, 10), (3, 11), (3, 12), (3, 13), (3, 14), (3, 15), (3, 16), (3, 17), (3, 18), (3, 19), (3, 21), (0, 16), (3, 22), (3, 23), (3, 25), (0, 17), (3, 26), (1, 156), (1, 158), (3, 27), (3, 28)] (by decide +kernel)
set_option maxRecDepth 20000 in
theorem m_wsL_law_r24 : ∀ w ∈ wsL_law_r24, w ∈ lw_tbl := memIn_2 _ [(3, 29), (3, 30), (3, 31), (3, 32), (3, 33), (3, 34), (3, 35), (3, 36), (3, 37), (3, 38), (4, 160), (4, 161), (4, 162), (4, 163), (4, 164), (4, 165), (4, 166), (4, 167), (4, 169), (0, 40), (4, 170), (4, 171), (4, 173), (0, 41)] (by decide +kernel)
set_option maxRecDepth 20000 in
theorem m_wsL_law_r25 : ∀ w ∈ wsL_law_r25, w ∈ lw_tbl := memIn_2 _ [(4, 174), (4, 175), (4, 177), (0, 42), (4, 178), (4, 179), (4, 181), (0, 43), (4, 182), (4, 183), (4, 185), (0, 44), (4, 186), (3, 39), (3, 40), (3, 41), (3, 42), (4, 187), (4, 188), (4, 189), (4, 190), (3, 43), (3, 44), (3, 45)] (by decide +kernel)
set_option maxRecDepth 20000 in
theorem m_wsL_law_r26 : ∀ w ∈ wsL_law_r26, w ∈ lw_tbl := memIn_2 _ [(3, 46), (4, 191), (4, 192), (4, 193), (4, 194), (3, 47), (3, 48), (3, 49), (3, 50), (3, 51), (3, 53), (0, 18), (3, 54), (3, 55), (3, 56), (3, 57), (3, 58), (3, 59), (4, 195), (4, 196), (4, 197), (4, 198), (3, 60), (3, 61)] (by decide +kernel)
set_option maxRecDepth 20000 in
theorem m_wsL_law_r27 : ∀ w ∈ wsL_law_r27, w ∈ lw_tbl := memIn_2 _ [(3, 62), (3, 63), (3, 64), (3, 65), (3, 66), (3, 67), (1, 191), (3, 69), (3, 70), (3, 71), (3, 72), (4, 199), (4, 200), (4, 201), (4, 202), (3, 73), (3, 74), (3, 75), (3, 76), (4, 203), (4, 204), (4, 205), (4, 206), (3, 77)] (by decide +kernel)
set_option maxRecDepth 20000 in
theorem m_wsL_law_r28 : ∀ w ∈ wsL_law_r28, w ∈ lw_tbl := memIn_2 _ [(3, 78), (3, 79), (3, 80), (3, 81), (3, 82), (3, 83), (3, 84), (3, 85), (1, 70), (3, 86), (4, 207), (4, 208), (4, 209), (4, 210), (4, 211), (4, 213), (0, 45), (4, 214), (3, 87), (3, 88), (3, 89), (3, 90), (4, 215), (4, 216)] (by decide +kernel)
set_option maxRecDepth 20000 in
theorem m_wsL_law_r29 : ∀ w ∈ wsL_law_r29, w ∈ lw_tbl := memIn_2 _ [(4, 217), (4, 218), (3, 91), (3, 92), (3, 93), (3, 94), (3, 95), (3, 96), (3, 98), (0, 19), (3, 99), (4, 219), (4, 220), (4, 221), (4, 222), (4, 223), (4, 224), (4, 225), (4, 226), (4, 227), (3, 100), (3, 101), (3, 102), (3, 103)] (by decide +kernel)
set_option maxRecDepth 20000 in
theorem m_wsL_law_r30 : ∀ w ∈ wsL_law_r30, w ∈ lw_tbl := memIn_2 _ [(3, 104), (3, 105), (3, 106), (3, 107), (1, 33), (4, 228), (4, 229), (4, 230), (4, 231), (3, 108), (3, 109), (3, 110), (3, 111), (4, 232), (4, 233), (4, 234), (4, 235), (3, 112), (3, 113), (3, 114), (3, 115), (1, 30), (3, 116), (3, 117)] (by decide +kernel)
set_option maxRecDepth 20000 in
theorem m_wsL_law_r31 : ∀ w ∈ wsL_law_r31, w ∈ lw_tbl := memIn_2 _ [(3, 118), (3, 119), (3, 120), (4, 236), (4, 237), (4, 238), (4, 239), (3, 121), (3, 122), (3, 123), (3, 124), (5, 0), (5, 1), (5, 2), (5, 3), (5, 4), (5, 6), (0, 46), (5, 7), (3, 125), (3, 126), (3, 127), (3, 128), (3, 129)] (by decide +kernel)
set_option maxRecDepth 20000 in
theorem m_wsL_law_r32 : ∀ w ∈ wsL_law_r32, w ∈ lw_tbl := memIn_2 _ [(3, 131), (3, 130), (1, 13), (5, 8), (5, 9), (5, 10), (5, 11), (3, 132), (3, 133), (3, 134), (3, 135), (3, 136), (3, 138), (0, 20), (3, 139), (3, 140), (3, 142), (0, 21), (3, 143), (1, 215), (3, 144), (3, 146), (0, 22), (3, 147)] (by decide +kernel)
set_option maxRecDepth 20000 in
theorem m_wsL_law_r33 : ∀ w ∈ wsL_law_r33, w ∈ lw_tbl := memIn_2 _ [(3, 148), (3, 150), (0, 23), (3, 151), (5, 12), (5, 13), (5, 14), (5, 15), (5, 16), (5, 18), (0, 47), (5, 19), (3, 179), (3, 152), (3, 153), (3, 154), (3, 155), (5, 20), (5, 21), (5, 22), (5, 23), (3, 156), (3, 157), (3, 158)] (by decide +kernel)
set_option maxRecDepth 20000 in
theorem m_wsL_law_r34 : ∀ w ∈ wsL_law_r34, w ∈ lw_tbl := memIn_2 _ [(3, 159), (5, 24), (5, 25), (5, 26), (5, 27), (3, 160), (3, 161), (3, 162), (3, 163), (5, 28), (5, 29), (5, 30), (5, 31), (3, 164), (3, 165), (3, 166), (3, 167), (5, 32), (5, 33), (5, 34), (5, 35), (3, 168), (3, 169), (3, 170)] (by decide +kernel)
set_option maxRecDepth 20000 in
theorem m_wsL_law_r35 : ∀ w ∈ wsL_law_r35, w ∈ lw_tbl := memIn_2 _ [(3, 171), (5, 36), (5, 37), (5, 38), (5, 39)] (by decide +kernel)
set_option maxRecDepth 20000 in
theorem inX0 : ∀ w ∈ wsX00, w ∈ lw_tbl := memIn_2 _ [(1, 71), (1, 73), (1, 75), (1, 77)] (by decide +kernel)
set_option maxRecDepth 20000 in
theorem inX1 : ∀ w ∈ wsX10, w ∈ lw_tbl := memIn_2 _ [(1, 117), (1, 119)] (by decide +kernel)
set_option maxRecDepth 20000 in
theorem inX2 : ∀ w ∈ wsX20, w ∈ lw_tbl := memIn_2 _ [(1, 195), (1, 197), (1, 199)] (by decide +kernel)
set_option maxRecDepth 20000 in
theorem inX3 : ∀ w ∈ wsX30, w ∈ lw_tbl := memIn_2 _ [(1, 132), (1, 134)] (by decide +kernel)
set_option maxRecDepth 20000 in
theorem inX4 : ∀ w ∈ wsX40, w ∈ lw_tbl := memIn_2 _ [(1, 163), (1, 165), (1, 167), (1, 169), (1, 171), (1, 173), (1, 175), (1, 177), (1, 179), (1, 181)] (by decide +kernel)
set_option maxRecDepth 20000 in
theorem inX5 : ∀ w ∈ wsX50, w ∈ lw_tbl := memIn_2 _ [(1, 36), (1, 38), (1, 40), (1, 42)] (by decide +kernel)
set_option maxRecDepth 20000 in
theorem inX6 : ∀ w ∈ wsX60, w ∈ lw_tbl := memIn_2 _ [(1, 83), (1, 85)] (by decide +kernel)
set_option maxRecDepth 20000 in
theorem inX7 : ∀ w ∈ wsX70, w ∈ lw_tbl := memIn_2 _ [(1, 102), (1, 104)] (by decide +kernel)
set_option maxRecDepth 20000 in
theorem inX8 : ∀ w ∈ wsX80, w ∈ lw_tbl := memIn_2 _ [(1, 217), (1, 219), (1, 221), (1, 223), (1, 225), (1, 227), (1, 229), (1, 231), (1, 233), (1, 235), (1, 237), (1, 239), (2, 1), (2, 3), (2, 5)] (by decide +kernel)
set_option maxRecDepth 20000 in
theorem inX9 : ∀ w ∈ wsX90, w ∈ lw_tbl := memIn_2 _ [(3, 209), (3, 211), (3, 213), (3, 215), (3, 217), (3, 219), (3, 221), (3, 223), (3, 225), (3, 227), (3, 229), (3, 231), (3, 233), (3, 235), (3, 237), (3, 239), (4, 1), (4, 3), (4, 5), (4, 7), (4, 9), (4, 11), (4, 13), (4, 15), (4, 17), (4, 19), (4, 21), (4, 23), (4, 25), (4, 27), (4, 29)] (by decide +kernel)
theorem wsL_law_in : ∀ w ∈ wsL_law, w ∈ lw_tbl := List.forall_mem_append.mpr ⟨List.forall_mem_append.mpr ⟨List.forall_mem_append.mpr ⟨List.forall_mem_append.mpr ⟨List.forall_mem_append.mpr ⟨List.forall_mem_append.mpr ⟨List.forall_mem_append.mpr ⟨List.forall_mem_append.mpr ⟨List.forall_mem_append.mpr ⟨List.forall_mem_append.mpr ⟨List.forall_mem_append.mpr ⟨List.forall_mem_append.mpr ⟨m_wsL_law_r1, List.forall_mem_append.mpr ⟨m_wsL_law_r2, List.forall_mem_append.mpr ⟨m_wsL_law_r3, List.forall_mem_append.mpr ⟨m_wsL_law_r4, List.forall_mem_append.mpr ⟨m_wsL_law_r5, List.forall_mem_append.mpr ⟨m_wsL_law_r6, List.forall_mem_append.mpr ⟨m_wsL_law_r7, List.forall_mem_append.mpr ⟨m_wsL_law_r8, List.forall_mem_append.mpr ⟨m_wsL_law_r9, List.forall_mem_append.mpr ⟨m_wsL_law_r10, List.forall_mem_append.mpr ⟨m_wsL_law_r11, List.forall_mem_append.mpr ⟨m_wsL_law_r12, List.forall_mem_append.mpr ⟨m_wsL_law_r13, List.forall_mem_append.mpr ⟨m_wsL_law_r14, List.forall_mem_append.mpr ⟨m_wsL_law_r15, List.forall_mem_append.mpr ⟨m_wsL_law_r16, List.forall_mem_append.mpr ⟨m_wsL_law_r17, List.forall_mem_append.mpr ⟨m_wsL_law_r18, List.forall_mem_append.mpr ⟨m_wsL_law_r19, List.forall_mem_append.mpr ⟨m_wsL_law_r20, List.forall_mem_append.mpr ⟨m_wsL_law_r21, List.forall_mem_append.mpr ⟨m_wsL_law_r22, List.forall_mem_append.mpr ⟨m_wsL_law_r23, List.forall_mem_append.mpr ⟨m_wsL_law_r24, List.forall_mem_append.mpr ⟨m_wsL_law_r25, List.forall_mem_append.mpr ⟨m_wsL_law_r26, List.forall_mem_append.mpr ⟨m_wsL_law_r27, List.forall_mem_append.mpr ⟨m_wsL_law_r28, List.forall_mem_append.mpr ⟨m_wsL_law_r29, List.forall_mem_append.mpr ⟨m_wsL_law_r30, List.forall_mem_append.mpr ⟨m_wsL_law_r31, List.forall_mem_append.mpr ⟨m_wsL_law_r32, List.forall_mem_append.mpr ⟨m_wsL_law_r33, List.forall_mem_append.mpr ⟨m_wsL_law_r34, m_wsL_law_r35⟩⟩⟩⟩⟩⟩⟩⟩⟩⟩⟩⟩⟩⟩⟩⟩⟩⟩⟩⟩⟩⟩⟩⟩⟩⟩⟩⟩⟩⟩⟩⟩⟩⟩, inX8⟩, inX9⟩, inX5⟩, inX6⟩, inX0⟩, inX7⟩, inX1⟩, inX3⟩, inX4⟩, inX2⟩, fun _ h9 => absurd h9 List.not_mem_nil⟩
theorem goodL {ws : List Cond} (h : GoodIn wsL_law ws) : GoodIn lw_tbl ws := fun w hw => ⟨wsL_law_in w (h w hw).1, (h w hw).2⟩
theorem kNt_in : ∀ w ∈ kNt.map (fun q => Cond.methodLinkNest q.1 q.2.1 q.2.2 "FontRuns"), w ∈ lw_tbl := memIn_2 _ [(1, 25), (1, 48), (1, 89), (1, 92), (1, 109), (1, 124), (1, 139), (1, 186), (2, 65), (2, 143), (3, 68), (2, 195), (2, 28), (1, 54), (2, 66), (2, 173)] (by decide +kernel)
theorem ao_in : Cond.arrayOver (.object RX5) ∈ lw_tbl := List.mem_of_getElem? (i := 71) (by decide +kernel)
theorem aoa_in : Cond.arrayOver (.array .int) ∈ lw_tbl := List.mem_of_getElem? (i := 192) (by decide +kernel)
theorem ac_in : Cond.arrayClass .int ∈ lw_tbl := List.mem_of_getElem? (i := 93) (by decide +kernel)
