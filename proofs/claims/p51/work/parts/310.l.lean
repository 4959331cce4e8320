
theorem mem_c {big : List Cond} (ch : List (List Cond)) (hb : ∀ l ∈ ch, ∀ w ∈ l, w ∈ big) (ws : List Cond) (ps : List (Nat × Nat)) (hp : ws = ps.filterMap (fun p => (ch[p.1]?).bind (fun l => l[p.2]?))) : ∀ w ∈ ws, w ∈ big := by
  intro w hw
  rw [hp] at hw
  obtain ⟨p, -, hi⟩ := List.mem_filterMap.mp hw
  obtain ⟨l, hl, hi'⟩ := Option.bind_eq_some_iff.mp hi
  exact hb l (List.mem_of_getElem? hl) w (List.mem_of_getElem? hi')
noncomputable def tchL : List (List Cond) := [k2_sels lw_privs, tables_1_1, tables_1_2, tables_1_3, tables_1_4, tables_1_5, tables_1_6, tables_1_7]
theorem tchL_fl : lw_tbl = tchL.flatten := by
  unfold lw_tbl tables_1 tchL
  simp only [List.flatten_cons, List.flatten_nil, List.append_nil]
theorem tchL_in : ∀ l ∈ tchL, ∀ w ∈ l, w ∈ lw_tbl := by
  intro l hl w hw
  rw [tchL_fl]; exact List.mem_flatten.mpr ⟨l, hl, hw⟩
noncomputable def asbS : List Cond := asb.map (fun y => Cond.selects "java/lang/StringBuilder" y y)
noncomputable def tchX : List (List Cond) := asbS :: tchL
theorem tchX_in : ∀ l ∈ tchX, ∀ w ∈ l, w ∈ lw_tbx := by
  intro l hl w hw
  rcases List.mem_cons.mp hl with e | h
  · subst e; exact List.mem_append_left _ hw
  · exact lw_tbx_of (tchL_in l h w hw)
set_option maxRecDepth 20000 in
theorem wsL_law0_r1_in : ∀ w ∈ wsL_law0_r1, w ∈ lw_tbl := mem_c tchL tchL_in wsL_law0_r1 [(1, 28), (1, 29), (1, 1), (5, 178), (5, 179), (1, 6), (3, 225), (3, 226), (1, 7), (1, 30), (1, 31), (1, 32), (1, 33), (1, 34), (1, 35), (1, 55), (1, 112), (1, 36), (1, 37), (1, 2), (1, 113), (1, 56), (1, 57), (1, 3)] (by eq_refl)

set_option maxRecDepth 20000 in
theorem wsL_law0_r2_in : ∀ w ∈ wsL_law0_r2, w ∈ lw_tbl := mem_c tchL tchL_in wsL_law0_r2 [(1, 114), (1, 72), (1, 73), (1, 4), (1, 115), (1, 100), (1, 101), (1, 5), (1, 116), (1, 117), (1, 118), (1, 119), (1, 120), (1, 121), (1, 38), (1, 39), (1, 40), (1, 41), (1, 42), (1, 43), (1, 44), (1, 58), (1, 59), (1, 60)] (by eq_refl)

set_option maxRecDepth 20000 in
theorem wsL_law0_r3_in : ∀ w ∈ wsL_law0_r3, w ∈ lw_tbl := mem_c tchL tchL_in wsL_law0_r3 [(1, 61), (1, 62), (1, 63), (1, 65), (1, 75), (1, 76), (1, 77), (1, 102), (1, 103), (1, 104), (1, 105), (1, 106), (1, 108), (1, 107), (5, 180), (5, 181), (5, 182), (5, 183), (5, 185), (5, 186), (5, 184), (5, 188), (5, 189), (3, 228)] (by eq_refl)

set_option maxRecDepth 20000 in
theorem wsL_law0_r4_in : ∀ w ∈ wsL_law0_r4, w ∈ lw_tbl := mem_c tchL tchL_in wsL_law0_r4 [(3, 229), (3, 230), (3, 238), (3, 239), (1, 0), (4, 0), (4, 1), (4, 2), (4, 3), (4, 4), (4, 5), (4, 6), (4, 26), (4, 7), (4, 8), (4, 9), (4, 10), (1, 11), (3, 216), (3, 113), (3, 114), (3, 213), (3, 214), (3, 215)] (by eq_refl)

set_option maxRecDepth 20000 in
theorem wsL_law0_r5_in : ∀ w ∈ wsL_law0_r5, w ∈ lw_tbl := mem_c tchL tchL_in wsL_law0_r5 [(3, 217), (1, 12), (3, 116), (1, 182), (1, 13), (1, 183), (1, 184), (1, 185), (1, 14), (1, 186), (1, 187), (1, 188), (1, 189), (1, 151), (1, 153), (0, 0), (1, 154), (5, 213), (5, 214), (5, 215), (5, 216), (5, 217), (5, 218), (5, 219)] (by eq_refl)

set_option maxRecDepth 20000 in
theorem wsL_law0_r6_in : ∀ w ∈ wsL_law0_r6, w ∈ lw_tbl := mem_c tchL tchL_in wsL_law0_r6 [(5, 220), (5, 222), (0, 13), (5, 223), (5, 193), (5, 224), (5, 225), (5, 226), (5, 227), (5, 228), (5, 229), (5, 230), (5, 231), (1, 15), (5, 232), (5, 233), (5, 234), (5, 236), (0, 14), (5, 237), (5, 190), (4, 27), (4, 28), (4, 29)] (by eq_refl)

set_option maxRecDepth 20000 in
theorem wsL_law0_r7_in : ∀ w ∈ wsL_law0_r7, w ∈ lw_tbl := mem_c tchL tchL_in wsL_law0_r7 [(4, 30), (4, 31), (4, 32), (4, 33), (4, 34), (4, 35), (4, 36), (3, 206), (1, 232), (1, 233), (5, 238), (5, 239), (6, 0), (6, 1), (6, 5), (6, 2), (6, 3), (6, 4), (4, 38), (4, 39), (4, 40), (4, 41), (4, 42), (4, 43)] (by eq_refl)

set_option maxRecDepth 20000 in
theorem wsL_law0_r8_in : ∀ w ∈ wsL_law0_r8, w ∈ lw_tbl := mem_c tchL tchL_in wsL_law0_r8 [(4, 44), (3, 208), (3, 59), (3, 60), (6, 6), (6, 7), (6, 8), (6, 9), (6, 10), (6, 11), (6, 12), (6, 13), (4, 45), (4, 46), (4, 47), (4, 48), (4, 49), (4, 50), (4, 51), (4, 52), (4, 54), (0, 9), (4, 55), (6, 14)] (by eq_refl)

set_option maxRecDepth 20000 in
theorem wsL_law0_r9_in : ∀ w ∈ wsL_law0_r9, w ∈ lw_tbl := mem_c tchL tchL_in wsL_law0_r9 [(6, 15), (6, 16), (6, 17), (6, 18), (6, 20), (0, 15), (6, 21), (6, 22), (6, 24), (0, 16), (6, 25), (4, 56), (4, 57), (4, 58), (4, 59), (4, 60), (4, 61), (4, 62), (6, 26), (6, 27), (6, 28), (6, 29), (4, 63), (4, 64)] (by eq_refl)

set_option maxRecDepth 20000 in
theorem wsL_law0_r10_in : ∀ w ∈ wsL_law0_r10, w ∈ lw_tbl := mem_c tchL tchL_in wsL_law0_r10 [(4, 65), (4, 66), (4, 67), (4, 68), (4, 69), (4, 70), (4, 72), (0, 10), (4, 73), (6, 30), (6, 31), (6, 32), (6, 33), (6, 34), (6, 36), (0, 17), (6, 37), (5, 191), (4, 74), (4, 75), (4, 76), (4, 77), (4, 78), (4, 79)] (by eq_refl)

set_option maxRecDepth 20000 in
theorem wsL_law0_r11_in : ∀ w ∈ wsL_law0_r11, w ∈ lw_tbl := mem_c tchL tchL_in wsL_law0_r11 [(4, 80), (4, 81), (1, 179), (1, 180), (1, 181), (6, 38), (6, 39), (6, 40), (6, 41), (6, 42), (6, 43), (6, 44), (4, 82), (4, 83), (4, 84), (4, 85), (4, 86), (4, 87), (4, 88), (4, 89), (6, 45), (6, 46), (6, 47), (6, 48)] (by eq_refl)

set_option maxRecDepth 20000 in
theorem wsL_law0_r12_in : ∀ w ∈ wsL_law0_r12, w ∈ lw_tbl := mem_c tchL tchL_in wsL_law0_r12 [(4, 90), (4, 91), (4, 92), (4, 93), (4, 94), (4, 95), (4, 96), (4, 97), (4, 98), (4, 99), (6, 49), (6, 50), (6, 51), (6, 52), (6, 53), (6, 55), (0, 18), (6, 56), (4, 100), (4, 101), (4, 102), (4, 103), (4, 104), (4, 105)] (by eq_refl)

set_option maxRecDepth 20000 in
theorem wsL_law0_r13_in : ∀ w ∈ wsL_law0_r13, w ∈ lw_tbl := mem_c tchL tchL_in wsL_law0_r13 [(4, 106), (4, 107), (4, 108), (4, 109), (3, 74), (3, 75), (3, 76), (3, 77), (6, 57), (6, 58), (6, 59), (6, 60), (6, 61), (6, 63), (0, 19), (6, 64), (6, 65), (6, 66), (6, 67), (4, 110), (4, 111), (4, 112), (4, 113), (4, 114)] (by eq_refl)

set_option maxRecDepth 20000 in
theorem wsL_law0_r14_in : ∀ w ∈ wsL_law0_r14, w ∈ lw_tbl := mem_c tchL tchL_in wsL_law0_r14 [(4, 115), (4, 116), (3, 78), (3, 79), (3, 80), (6, 68), (6, 69), (6, 70), (6, 71), (4, 117), (4, 118), (4, 119), (4, 120), (4, 121), (4, 122), (4, 123), (3, 81), (3, 82), (3, 83), (6, 72), (6, 73), (6, 74), (6, 75), (6, 76)] (by eq_refl)
