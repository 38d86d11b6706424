/-! every word of the law's list stands in the table -/
def lw_secs : List (List Cond) := [k2_sels lw_privs, tables_1_1, tables_1_2, tables_1_3, tables_1_4, tables_1_5, tables_1_6, tables_1_7]
theorem lw_sec_in : ∀ L ∈ lw_secs, ∀ w ∈ L, w ∈ lw_tbl := by
  intro L hL w hw
  have t : ∀ w ∈ tables_1, w ∈ lw_tbl := fun w h => List.mem_append_right _ h
  rcases List.mem_cons.mp hL with h | hL
  · subst h; exact List.mem_append_left _ hw
  rcases List.mem_cons.mp hL with h | hL
  · subst h; exact t w (show w ∈ tables_1 from (List.mem_append_left _ hw))
  rcases List.mem_cons.mp hL with h | hL
  · subst h; exact t w (show w ∈ tables_1 from (List.mem_append_right _ (List.mem_append_left _ hw)))
  rcases List.mem_cons.mp hL with h | hL
  · subst h; exact t w (show w ∈ tables_1 from (List.mem_append_right _ (List.mem_append_right _ (List.mem_append_left _ hw))))
  rcases List.mem_cons.mp hL with h | hL
  · subst h; exact t w (show w ∈ tables_1 from (List.mem_append_right _ (List.mem_append_right _ (List.mem_append_right _ (List.mem_append_left _ hw)))))
  rcases List.mem_cons.mp hL with h | hL
  · subst h; exact t w (show w ∈ tables_1 from (List.mem_append_right _ (List.mem_append_right _ (List.mem_append_right _ (List.mem_append_right _ (List.mem_append_left _ hw))))))
  rcases List.mem_cons.mp hL with h | hL
  · subst h; exact t w (show w ∈ tables_1 from (List.mem_append_right _ (List.mem_append_right _ (List.mem_append_right _ (List.mem_append_right _ (List.mem_append_right _ (List.mem_append_left _ hw)))))))
  rcases List.mem_cons.mp hL with h | hL
  · subst h; exact t w (show w ∈ tables_1 from (List.mem_append_right _ (List.mem_append_right _ (List.mem_append_right _ (List.mem_append_right _ (List.mem_append_right _ (List.mem_append_right _ (hw))))))))
  exact absurd hL List.not_mem_nil
theorem mem_ix2 {big : List Cond} {secs : List (List Cond)} (hs : ∀ L ∈ secs, ∀ w ∈ L, w ∈ big) (ws : List Cond) (ps : List (Nat × Nat)) (h : ws.map some = ps.map (fun q => (secs[q.1]?).bind (fun L => L[q.2]?))) : ∀ w ∈ ws, w ∈ big := by
  intro w hw
  have h1 : some w ∈ ws.map some := List.mem_map.mpr ⟨w, hw, rfl⟩
  rw [h] at h1
  obtain ⟨q, -, hq⟩ := List.mem_map.mp h1
  rcases hL : secs[q.1]? with _ | L
  · rw [hL] at hq; exact absurd hq (by simp)
  · rw [hL] at hq
    exact hs L (List.mem_of_getElem? hL) w (List.mem_of_getElem? hq)
set_option maxRecDepth 20000 in
theorem wsL_law0_r1_in : ∀ w ∈ wsL_law0_r1, w ∈ lw_tbl := mem_ix2 lw_sec_in wsL_law0_r1 [(1, 23), (1, 24), (1, 1), (5, 99), (5, 100), (1, 9), (7, 11), (7, 12), (1, 25), (1, 26), (1, 27), (1, 28), (1, 29), (1, 30), (1, 31), (1, 32), (1, 2), (1, 204), (1, 205), (1, 206), (1, 207), (1, 154), (1, 155), (1, 6)] (by decide +kernel)
set_option maxRecDepth 20000 in
theorem wsL_law0_r2_in : ∀ w ∈ wsL_law0_r2, w ∈ lw_tbl := mem_ix2 lw_sec_in wsL_law0_r2 [(1, 208), (1, 174), (1, 175), (1, 7), (1, 209), (1, 189), (1, 190), (1, 8), (1, 210), (1, 211), (1, 212), (1, 213), (1, 214), (1, 34), (1, 35), (1, 36), (1, 37), (1, 39), (1, 3), (1, 113), (1, 96), (1, 45), (1, 4), (1, 115)] (by decide +kernel)
set_option maxRecDepth 20000 in
theorem wsL_law0_r3_in : ∀ w ∈ wsL_law0_r3, w ∈ lw_tbl := mem_ix2 lw_sec_in wsL_law0_r3 [(1, 98), (1, 99), (1, 5), (1, 117), (1, 119), (1, 120), (1, 121), (1, 123), (1, 124), (1, 126), (1, 128), (1, 130), (1, 41), (1, 42), (1, 43), (1, 44), (1, 62), (1, 66), (1, 70), (1, 74), (1, 77), (1, 80), (1, 47), (1, 48)] (by decide +kernel)
set_option maxRecDepth 20000 in
theorem wsL_law0_r4_in : ∀ w ∈ wsL_law0_r4, w ∈ lw_tbl := mem_ix2 lw_sec_in wsL_law0_r4 [(1, 49), (1, 61), (1, 50), (1, 51), (1, 101), (1, 102), (1, 103), (1, 104), (1, 105), (1, 156), (1, 157), (1, 158), (1, 159), (1, 160), (1, 163), (1, 164), (1, 165), (1, 177), (1, 178), (1, 179), (1, 188), (1, 180), (1, 181), (1, 192)] (by decide +kernel)
set_option maxRecDepth 20000 in
theorem wsL_law0_r5_in : ∀ w ∈ wsL_law0_r5, w ∈ lw_tbl := mem_ix2 lw_sec_in wsL_law0_r5 [(1, 193), (1, 194), (1, 195), (1, 197), (5, 101), (5, 102), (5, 103), (5, 104), (5, 109), (5, 110), (5, 111), (5, 112), (5, 120), (5, 122), (5, 123), (5, 126), (5, 105), (5, 107), (0, 28), (5, 108), (3, 172), (3, 173), (1, 0), (3, 174)] (by decide +kernel)
set_option maxRecDepth 20000 in
theorem wsL_law0_r6_in : ∀ w ∈ wsL_law0_r6, w ∈ lw_tbl := mem_ix2 lw_sec_in wsL_law0_r6 [(3, 175), (3, 196), (3, 197), (3, 198), (3, 199), (3, 200), (3, 201), (2, 2), (2, 4), (0, 0), (2, 5), (2, 41), (1, 13), (2, 113), (1, 16), (2, 137), (1, 17), (2, 6), (2, 7), (2, 8), (2, 9), (1, 106), (2, 10), (2, 11)] (by decide +kernel)
set_option maxRecDepth 20000 in
theorem wsL_law0_r7_in : ∀ w ∈ wsL_law0_r7, w ∈ lw_tbl := mem_ix2 lw_sec_in wsL_law0_r7 [(2, 12), (2, 13), (2, 14), (2, 15), (2, 16), (2, 17), (2, 18), (2, 20), (0, 1), (2, 21), (2, 22), (2, 24), (0, 2), (2, 25), (1, 64), (1, 54), (2, 26), (2, 27), (2, 28), (2, 29), (2, 30), (2, 31), (2, 32), (2, 33)] (by decide +kernel)
set_option maxRecDepth 20000 in
theorem wsL_law0_r8_in : ∀ w ∈ wsL_law0_r8, w ∈ lw_tbl := mem_ix2 lw_sec_in wsL_law0_r8 [(2, 35), (2, 36), (2, 37), (2, 39), (0, 3), (2, 40), (1, 68), (1, 72), (2, 129), (2, 131), (0, 5), (2, 132), (2, 133), (2, 134), (2, 135), (2, 136), (2, 153), (2, 154), (2, 155), (2, 156), (2, 178), (2, 179), (1, 19), (2, 180)] (by decide +kernel)
set_option maxRecDepth 20000 in
theorem wsL_law0_r9_in : ∀ w ∈ wsL_law0_r9, w ∈ lw_tbl := mem_ix2 lw_sec_in wsL_law0_r9 [(2, 157), (2, 158), (2, 159), (2, 160), (2, 161), (2, 162), (2, 163), (2, 164), (2, 165), (2, 166), (2, 167), (2, 168), (2, 169), (2, 171), (2, 170), (1, 18), (2, 172), (2, 173), (2, 174), (2, 175), (2, 176), (2, 177), (2, 181), (2, 182)] (by decide +kernel)
set_option maxRecDepth 20000 in
theorem wsL_law0_r10_in : ∀ w ∈ wsL_law0_r10, w ∈ lw_tbl := mem_ix2 lw_sec_in wsL_law0_r10 [(2, 183), (2, 184), (2, 185), (2, 187), (0, 6), (2, 188), (2, 189), (2, 191), (0, 7), (2, 192), (2, 193), (2, 194), (2, 195), (2, 196), (2, 197), (2, 198), (2, 199), (2, 200), (2, 201), (2, 202), (2, 203), (2, 204), (2, 205), (2, 206)] (by decide +kernel)
set_option maxRecDepth 20000 in
theorem wsL_law0_r11_in : ∀ w ∈ wsL_law0_r11, w ∈ lw_tbl := mem_ix2 lw_sec_in wsL_law0_r11 [(2, 207), (2, 208), (2, 210), (0, 8), (2, 211), (2, 212), (2, 213), (2, 214), (2, 215), (2, 216), (2, 217), (2, 218), (2, 219), (2, 220), (2, 222), (2, 223), (2, 224), (2, 225), (2, 221), (2, 226), (2, 228), (0, 9), (2, 229), (1, 76)] (by decide +kernel)
set_option maxRecDepth 20000 in
theorem wsL_law0_r12_in : ∀ w ∈ wsL_law0_r12, w ∈ lw_tbl := mem_ix2 lw_sec_in wsL_law0_r12 [(1, 79), (1, 82), (2, 230), (2, 231), (2, 232), (2, 233), (2, 234), (2, 235), (2, 236), (2, 237), (2, 238), (2, 239), (3, 0), (3, 1), (3, 2), (3, 3), (3, 4), (3, 5), (3, 6), (3, 7), (3, 8), (3, 9), (3, 10), (3, 11)] (by decide +kernel)
set_option maxRecDepth 20000 in
theorem wsL_law0_r13_in : ∀ w ∈ wsL_law0_r13, w ∈ lw_tbl := mem_ix2 lw_sec_in wsL_law0_r13 [(3, 12), (3, 14), (0, 10), (3, 15), (3, 16), (3, 17), (3, 18), (3, 19), (3, 20), (3, 21), (3, 22), (3, 23), (3, 24), (3, 25), (3, 26), (3, 27), (3, 28), (3, 29), (3, 30), (3, 31), (3, 32), (3, 33), (3, 34), (3, 35)] (by decide +kernel)
set_option maxRecDepth 20000 in
theorem wsL_law0_r14_in : ∀ w ∈ wsL_law0_r14, w ∈ lw_tbl := mem_ix2 lw_sec_in wsL_law0_r14 [(3, 36), (3, 41), (3, 37), (3, 38), (3, 39), (3, 40), (3, 42), (3, 44), (0, 11), (3, 45), (3, 46), (3, 47), (3, 48), (3, 49), (3, 50), (3, 51), (3, 52), (3, 53), (3, 54), (3, 55), (3, 57), (0, 12), (3, 58), (3, 59)] (by decide +kernel)
set_option maxRecDepth 20000 in
theorem wsL_law0_r15_in : ∀ w ∈ wsL_law0_r15, w ∈ lw_tbl := mem_ix2 lw_sec_in wsL_law0_r15 [(3, 60), (3, 61), (3, 62), (3, 63), (3, 64), (3, 65), (3, 66), (3, 67), (3, 68), (3, 69), (5, 171), (5, 172), (5, 173), (5, 174), (5, 175), (5, 176), (5, 177), (5, 178), (5, 179), (5, 180), (5, 181), (5, 183), (0, 29), (5, 184)] (by decide +kernel)
set_option maxRecDepth 20000 in
theorem wsL_law0_r16_in : ∀ w ∈ wsL_law0_r16, w ∈ lw_tbl := mem_ix2 lw_sec_in wsL_law0_r16 [(5, 117), (5, 116), (5, 185), (5, 187), (0, 30), (5, 188), (5, 189), (5, 191), (0, 31), (5, 192), (5, 118), (5, 119), (5, 193), (5, 195), (0, 32), (5, 196), (5, 115), (5, 114), (5, 197), (5, 198), (5, 199), (5, 200), (5, 202), (0, 33)] (by decide +kernel)
set_option maxRecDepth 20000 in
theorem wsL_law0_r17_in : ∀ w ∈ wsL_law0_r17, w ∈ lw_tbl := mem_ix2 lw_sec_in wsL_law0_r17 [(5, 203), (5, 167), (5, 168), (5, 169), (5, 170), (3, 202), (3, 203), (3, 204), (3, 205), (3, 206), (3, 207), (3, 208), (5, 204), (5, 205), (5, 206), (5, 207), (3, 209), (3, 210), (3, 211), (3, 212), (3, 213), (3, 214), (3, 215), (5, 208)] (by decide +kernel)
set_option maxRecDepth 20000 in
theorem wsL_law0_r18_in : ∀ w ∈ wsL_law0_r18, w ∈ lw_tbl := mem_ix2 lw_sec_in wsL_law0_r18 [(5, 209), (5, 210), (5, 211), (3, 216), (3, 217), (3, 218), (3, 219), (3, 220), (3, 221), (3, 222), (5, 212), (5, 213), (5, 214), (5, 215), (5, 216), (5, 218), (0, 34), (5, 219), (5, 220), (5, 222), (0, 35), (5, 223), (5, 224), (5, 226)] (by decide +kernel)
set_option maxRecDepth 20000 in
theorem wsL_law0_r19_in : ∀ w ∈ wsL_law0_r19, w ∈ lw_tbl := mem_ix2 lw_sec_in wsL_law0_r19 [(0, 36), (5, 227), (5, 228), (5, 230), (0, 37), (5, 231), (5, 232), (5, 234), (0, 38), (5, 235), (5, 236), (5, 237), (5, 238), (5, 239), (6, 1), (0, 39), (6, 2), (6, 3), (6, 5), (0, 40), (6, 6), (6, 7), (6, 8), (6, 9)] (by decide +kernel)
set_option maxRecDepth 20000 in
theorem wsL_law0_r20_in : ∀ w ∈ wsL_law0_r20, w ∈ lw_tbl := mem_ix2 lw_sec_in wsL_law0_r20 [(6, 10), (6, 12), (0, 41), (6, 13), (6, 14), (6, 16), (0, 42), (6, 17), (3, 223), (3, 224), (3, 225), (3, 226), (3, 227), (3, 228), (3, 229), (6, 18), (6, 19), (6, 20), (6, 21), (3, 230), (3, 231), (3, 232), (3, 233), (3, 234)] (by decide +kernel)
set_option maxRecDepth 20000 in
theorem wsL_law0_r21_in : ∀ w ∈ wsL_law0_r21, w ∈ lw_tbl := mem_ix2 lw_sec_in wsL_law0_r21 [(3, 235), (3, 236), (6, 22), (6, 23), (6, 24), (6, 25), (6, 26), (6, 28), (0, 43), (6, 29), (3, 237), (3, 238), (3, 239), (4, 0), (4, 1), (4, 2), (4, 3), (6, 30), (6, 31), (6, 32), (6, 33), (6, 34), (6, 36), (0, 44)] (by decide +kernel)
set_option maxRecDepth 20000 in
theorem wsL_law0_r22_in : ∀ w ∈ wsL_law0_r22, w ∈ lw_tbl := mem_ix2 lw_sec_in wsL_law0_r22 [(6, 37), (6, 38), (6, 40), (0, 45), (6, 41), (6, 42), (6, 44), (0, 46), (6, 45), (6, 46), (6, 48), (0, 47), (6, 49), (4, 4), (4, 5), (4, 6), (4, 7), (4, 8), (4, 9), (4, 10), (6, 50), (6, 51), (6, 52), (6, 53)] (by decide +kernel)
set_option maxRecDepth 20000 in
theorem wsL_law0_r23_in : ∀ w ∈ wsL_law0_r23, w ∈ lw_tbl := mem_ix2 lw_sec_in wsL_law0_r23 [(6, 54), (6, 56), (0, 48), (6, 57), (1, 238), (1, 239), (2, 0), (2, 1), (6, 58), (6, 59), (6, 60), (6, 61), (6, 62), (6, 64), (0, 49), (6, 65), (4, 11), (4, 12), (4, 13), (4, 14), (4, 15), (4, 16), (4, 17), (1, 114)] (by decide +kernel)
set_option maxRecDepth 20000 in
theorem wsL_law0_r24_in : ∀ w ∈ wsL_law0_r24, w ∈ lw_tbl := mem_ix2 lw_sec_in wsL_law0_r24 [(1, 65), (1, 55), (1, 69), (1, 73), (1, 75), (1, 78), (1, 81), (4, 18), (4, 20), (0, 22), (4, 21), (4, 22), (4, 24), (4, 25), (4, 26), (4, 28), (3, 135), (3, 136), (3, 137), (1, 53), (3, 138), (6, 66), (6, 67), (6, 68)] (by decide +kernel)
set_option maxRecDepth 20000 in
theorem wsL_law0_r25_in : ∀ w ∈ wsL_law0_r25, w ∈ lw_tbl := mem_ix2 lw_sec_in wsL_law0_r25 [(6, 69), (6, 70), (6, 72), (0, 50), (6, 73), (4, 29), (4, 30), (4, 31), (4, 32), (4, 33), (4, 34), (4, 35), (4, 36), (4, 38), (0, 23), (4, 39), (4, 40), (3, 157), (4, 42), (6, 74), (6, 75), (6, 76), (6, 77), (6, 78)] (by decide +kernel)
set_option maxRecDepth 20000 in
theorem wsL_law0_r26_in : ∀ w ∈ wsL_law0_r26, w ∈ lw_tbl := mem_ix2 lw_sec_in wsL_law0_r26 [(6, 80), (0, 51), (6, 81), (4, 43), (4, 44), (4, 45), (4, 46), (4, 47), (4, 48), (4, 49), (1, 118), (4, 50), (3, 161), (6, 82), (6, 83), (6, 84), (6, 85), (4, 52), (4, 53), (4, 54), (4, 55), (4, 56), (4, 57), (4, 58)] (by decide +kernel)
set_option maxRecDepth 20000 in
theorem wsL_law0_r27_in : ∀ w ∈ wsL_law0_r27, w ∈ lw_tbl := mem_ix2 lw_sec_in wsL_law0_r27 [(3, 158), (3, 159), (3, 162), (6, 86), (6, 87), (6, 88), (6, 89), (4, 60), (4, 61), (4, 62), (4, 63), (4, 64), (4, 65), (4, 66), (4, 67), (4, 68), (4, 70), (0, 24), (4, 71), (4, 72), (1, 20), (1, 107), (3, 153), (3, 155)] (by decide +kernel)
set_option maxRecDepth 20000 in
theorem wsL_law0_r28_in : ∀ w ∈ wsL_law0_r28, w ∈ lw_tbl := mem_ix2 lw_sec_in wsL_law0_r28 [(0, 21), (3, 156), (3, 160), (3, 163), (3, 147), (3, 149), (0, 20), (3, 150), (3, 84), (3, 151), (3, 152), (6, 90), (6, 91), (6, 92), (6, 93), (4, 88), (4, 89), (4, 90), (4, 91), (4, 92), (4, 93), (4, 94), (6, 94), (6, 95)] (by decide +kernel)
set_option maxRecDepth 20000 in
theorem wsL_law0_r29_in : ∀ w ∈ wsL_law0_r29, w ∈ lw_tbl := mem_ix2 lw_sec_in wsL_law0_r29 [(6, 96), (6, 97), (4, 95), (4, 96), (4, 97), (4, 98), (4, 99), (4, 100), (4, 101), (6, 98), (6, 99), (6, 100), (6, 101), (4, 102), (4, 103), (4, 104), (4, 105), (4, 106), (4, 107), (4, 108), (4, 109), (6, 102), (6, 103), (6, 104)] (by decide +kernel)
set_option maxRecDepth 20000 in
theorem wsL_law0_r30_in : ∀ w ∈ wsL_law0_r30, w ∈ lw_tbl := mem_ix2 lw_sec_in wsL_law0_r30 [(6, 105), (4, 110), (4, 111), (4, 112), (4, 113), (4, 114), (4, 115), (4, 116), (1, 116), (4, 117), (4, 119), (0, 25), (4, 120), (4, 122), (4, 123), (6, 106), (6, 107), (6, 108), (6, 109), (4, 124), (4, 125), (4, 126), (4, 127), (4, 128)] (by decide +kernel)
set_option maxRecDepth 20000 in
theorem wsL_law0_r31_in : ∀ w ∈ wsL_law0_r31, w ∈ lw_tbl := mem_ix2 lw_sec_in wsL_law0_r31 [(4, 129), (4, 130), (3, 85), (3, 86), (3, 87), (3, 88), (6, 110), (6, 111), (6, 112), (6, 113), (3, 70), (3, 71), (3, 72), (3, 73), (3, 74), (3, 76), (0, 13), (3, 77), (1, 129), (3, 79), (3, 78), (3, 80), (3, 82), (0, 14)] (by decide +kernel)
set_option maxRecDepth 20000 in
theorem wsL_law0_r32_in : ∀ w ∈ wsL_law0_r32, w ∈ lw_tbl := mem_ix2 lw_sec_in wsL_law0_r32 [(3, 83), (3, 89), (6, 114), (6, 115), (6, 116), (6, 117), (6, 118), (6, 120), (0, 52), (6, 121), (3, 90), (3, 91), (3, 92), (3, 93), (6, 122), (6, 123), (6, 124), (6, 125), (6, 126), (6, 128), (0, 53), (6, 129), (4, 132), (4, 133)] (by decide +kernel)
set_option maxRecDepth 20000 in
theorem wsL_law0_r33_in : ∀ w ∈ wsL_law0_r33, w ∈ lw_tbl := mem_ix2 lw_sec_in wsL_law0_r33 [(4, 134), (4, 135), (4, 136), (4, 137), (4, 138), (4, 139), (4, 140), (6, 130), (6, 131), (6, 132), (6, 133), (4, 141), (4, 142), (4, 143), (4, 144), (4, 145), (4, 146), (4, 147), (6, 134), (6, 135), (6, 136), (6, 137), (4, 149), (4, 150)] (by decide +kernel)
set_option maxRecDepth 20000 in
theorem wsL_law0_r34_in : ∀ w ∈ wsL_law0_r34, w ∈ lw_tbl := mem_ix2 lw_sec_in wsL_law0_r34 [(4, 151), (4, 152), (4, 153), (4, 154), (4, 155), (4, 156), (4, 157), (4, 158), (4, 159), (4, 160), (4, 162), (0, 26), (4, 163), (4, 164), (4, 165), (4, 166), (4, 167), (4, 168), (6, 138), (6, 139), (6, 140), (6, 141), (6, 142), (6, 144)] (by decide +kernel)
set_option maxRecDepth 20000 in
theorem wsL_law0_r35_in : ∀ w ∈ wsL_law0_r35, w ∈ lw_tbl := mem_ix2 lw_sec_in wsL_law0_r35 [(0, 54), (6, 145), (6, 146), (6, 148), (0, 55), (6, 149), (4, 169), (4, 170), (4, 171), (4, 172), (4, 173), (4, 174), (4, 175), (1, 198), (4, 176), (4, 177), (4, 178), (4, 179), (1, 67), (1, 71), (1, 63), (1, 52), (3, 116), (3, 118)] (by decide +kernel)
set_option maxRecDepth 20000 in
theorem wsL_law0_r36_in : ∀ w ∈ wsL_law0_r36, w ∈ lw_tbl := mem_ix2 lw_sec_in wsL_law0_r36 [(0, 18), (3, 119), (3, 106), (3, 108), (0, 16), (3, 109), (3, 102), (3, 104), (0, 15), (3, 105), (3, 110), (3, 112), (0, 17), (3, 113), (3, 114), (3, 115), (3, 120), (6, 150), (6, 151), (6, 152), (6, 153), (5, 124), (6, 154), (6, 156)] (by decide +kernel)
set_option maxRecDepth 20000 in
theorem wsL_law0_r37_in : ∀ w ∈ wsL_law0_r37, w ∈ lw_tbl := mem_ix2 lw_sec_in wsL_law0_r37 [(0, 56), (6, 157), (6, 158), (6, 160), (0, 57), (6, 161), (3, 94), (3, 95), (3, 96), (3, 97), (3, 98), (3, 99), (3, 100), (3, 101), (3, 121), (6, 162), (6, 163), (6, 164), (6, 165), (4, 180), (4, 181), (4, 182), (4, 183), (4, 184)] (by decide +kernel)
set_option maxRecDepth 20000 in
theorem wsL_law0_r38_in : ∀ w ∈ wsL_law0_r38, w ∈ lw_tbl := mem_ix2 lw_sec_in wsL_law0_r38 [(4, 185), (4, 186), (1, 196), (6, 166), (6, 167), (6, 168), (6, 169), (4, 188), (4, 189), (4, 190), (4, 191), (4, 192), (4, 193), (4, 194), (4, 195), (4, 196), (1, 21), (1, 182), (4, 212), (4, 213), (4, 214), (4, 215), (6, 170), (6, 171)] (by decide +kernel)
set_option maxRecDepth 20000 in
theorem wsL_law0_r39_in : ∀ w ∈ wsL_law0_r39, w ∈ lw_tbl := mem_ix2 lw_sec_in wsL_law0_r39 [(6, 172), (6, 173), (5, 121), (4, 216), (4, 217), (4, 218), (4, 219), (4, 220), (4, 221), (4, 222), (4, 223), (4, 224), (4, 225), (4, 226), (4, 227), (4, 228), (4, 229), (4, 230), (4, 231), (4, 232), (4, 233), (4, 234), (4, 235), (4, 236)] (by decide +kernel)
set_option maxRecDepth 20000 in
theorem wsL_law0_r40_in : ∀ w ∈ wsL_law0_r40, w ∈ lw_tbl := mem_ix2 lw_sec_in wsL_law0_r40 [(4, 237), (4, 238), (4, 239), (5, 1), (5, 3), (0, 27), (5, 4), (5, 5), (5, 6), (5, 7), (5, 8), (5, 9), (5, 10), (5, 13), (5, 14), (5, 15), (5, 16), (6, 174), (6, 175), (6, 176), (6, 177), (5, 125), (5, 127), (6, 178)] (by decide +kernel)
set_option maxRecDepth 20000 in
theorem wsL_law0_r41_in : ∀ w ∈ wsL_law0_r41, w ∈ lw_tbl := mem_ix2 lw_sec_in wsL_law0_r41 [(6, 180), (0, 58), (6, 181), (6, 182), (6, 184), (0, 59), (6, 185), (6, 186), (6, 188), (0, 60), (6, 189), (6, 190), (6, 192), (0, 61), (6, 193), (6, 194), (6, 196), (0, 62), (6, 197), (6, 198), (6, 200), (0, 63), (6, 201), (6, 202)] (by decide +kernel)
set_option maxRecDepth 20000 in
theorem wsL_law0_r42_in : ∀ w ∈ wsL_law0_r42, w ∈ lw_tbl := mem_ix2 lw_sec_in wsL_law0_r42 [(6, 203), (6, 204), (6, 205), (6, 206), (6, 207), (6, 208), (6, 209), (6, 210), (3, 122), (3, 123), (3, 124), (3, 125), (6, 211), (6, 212), (6, 213), (6, 214), (5, 17), (5, 18), (5, 19), (5, 20), (5, 21), (5, 22), (5, 23), (6, 215)] (by decide +kernel)
set_option maxRecDepth 20000 in
theorem wsL_law0_r43_in : ∀ w ∈ wsL_law0_r43, w ∈ lw_tbl := mem_ix2 lw_sec_in wsL_law0_r43 [(6, 216), (6, 217), (6, 218), (5, 25), (5, 26), (5, 27), (5, 28), (5, 29), (5, 30), (5, 31), (1, 166), (5, 32), (5, 33), (5, 34), (5, 35), (5, 36), (3, 169), (3, 170), (3, 171), (5, 37), (3, 131), (3, 132), (3, 133), (3, 134)] (by decide +kernel)
set_option maxRecDepth 20000 in
theorem wsL_law0_r44_in : ∀ w ∈ wsL_law0_r44, w ∈ lw_tbl := mem_ix2 lw_sec_in wsL_law0_r44 [(5, 38), (3, 140), (3, 141), (3, 142), (6, 219), (6, 220), (6, 221), (6, 222), (6, 223), (6, 225), (0, 64), (6, 226), (3, 126), (3, 127), (3, 128), (3, 129), (1, 125), (1, 127), (1, 122), (3, 130), (3, 139), (3, 143), (3, 145), (0, 19)] (by decide +kernel)
set_option maxRecDepth 20000 in
theorem wsL_law0_r45_in : ∀ w ∈ wsL_law0_r45, w ∈ lw_tbl := mem_ix2 lw_sec_in wsL_law0_r45 [(3, 146), (6, 227), (6, 228), (6, 229), (6, 230), (5, 39), (5, 40), (5, 41), (5, 42), (5, 56), (5, 57), (5, 58), (5, 59), (5, 60), (1, 22), (5, 63), (5, 64), (5, 65), (5, 66), (6, 231), (6, 232), (6, 233), (6, 234), (5, 67)] (by decide +kernel)
set_option maxRecDepth 20000 in
theorem wsL_law0_r46_in : ∀ w ∈ wsL_law0_r46, w ∈ lw_tbl := mem_ix2 lw_sec_in wsL_law0_r46 [(5, 68), (5, 69), (5, 70), (5, 71), (5, 72), (5, 73), (5, 74), (5, 75), (5, 76), (5, 77), (6, 235), (6, 236), (6, 237), (6, 238), (5, 79), (5, 80), (5, 81), (5, 82), (5, 83), (5, 84), (5, 85), (5, 87), (5, 88), (5, 89)] (by decide +kernel)
set_option maxRecDepth 20000 in
theorem wsL_law0_r47_in : ∀ w ∈ wsL_law0_r47, w ∈ lw_tbl := mem_ix2 lw_sec_in wsL_law0_r47 [(5, 90), (6, 239), (7, 0), (7, 1), (7, 2), (3, 164), (3, 165), (3, 166), (3, 167), (3, 168), (7, 3), (7, 4), (7, 5), (7, 6), (5, 113), (5, 91), (5, 92), (5, 93), (5, 94), (5, 95), (5, 96), (5, 97), (7, 7), (7, 8)] (by decide +kernel)
set_option maxRecDepth 20000 in
theorem wsL_law0_r48_in : ∀ w ∈ wsL_law0_r48, w ∈ lw_tbl := mem_ix2 lw_sec_in wsL_law0_r48 [(7, 9), (7, 10)] (by decide +kernel)
set_option maxRecDepth 20000 in
theorem wl_X00 : ∀ w ∈ wsX00, w ∈ lw_tbl := by decide +kernel
set_option maxRecDepth 20000 in
theorem wl_X10 : ∀ w ∈ wsX10, w ∈ lw_tbl := by decide +kernel
set_option maxRecDepth 20000 in
theorem wl_X20 : ∀ w ∈ wsX20, w ∈ lw_tbl := by decide +kernel
set_option maxRecDepth 20000 in
theorem wl_X30 : ∀ w ∈ wsX30, w ∈ lw_tbl := by decide +kernel
set_option maxRecDepth 20000 in
theorem wl_X40 : ∀ w ∈ wsX40, w ∈ lw_tbl := by decide +kernel
set_option maxRecDepth 20000 in
theorem wl_X50 : ∀ w ∈ wsX50, w ∈ lw_tbl := by decide +kernel
set_option maxRecDepth 20000 in
theorem wl_X60 : ∀ w ∈ wsX60, w ∈ lw_tbl := by decide +kernel
set_option maxRecDepth 20000 in
theorem wl_X70 : ∀ w ∈ wsX70, w ∈ lw_tbl := by decide +kernel
set_option maxRecDepth 20000 in
theorem wl_X80 : ∀ w ∈ wsX80, w ∈ lw_tbl := by decide +kernel
set_option maxRecDepth 20000 in
theorem wsL_law_in0 : ∀ w ∈ wsL_law0, w ∈ lw_tbl := fun w h => (List.mem_append.mp h).elim (fun h => (List.mem_append.mp h).elim (fun h => (List.mem_append.mp h).elim (fun h => (List.mem_append.mp h).elim (fun h => (List.mem_append.mp h).elim (fun h => (List.mem_append.mp h).elim (fun h => (List.mem_append.mp h).elim (fun h => (List.mem_append.mp h).elim (fun h => (List.mem_append.mp h).elim (fun h => (List.mem_append.mp h).elim (fun h => (List.mem_append.mp h).elim (fun h => wsL_law0_r1_in w h) (fun h => (List.mem_append.mp h).elim (fun h => wsL_law0_r2_in w h) (fun h => (List.mem_append.mp h).elim (fun h => wsL_law0_r3_in w h) (fun h => (List.mem_append.mp h).elim (fun h => wsL_law0_r4_in w h) (fun h => (List.mem_append.mp h).elim (fun h => wsL_law0_r5_in w h) (fun h => (List.mem_append.mp h).elim (fun h => wsL_law0_r6_in w h) (fun h => (List.mem_append.mp h).elim (fun h => wsL_law0_r7_in w h) (fun h => (List.mem_append.mp h).elim (fun h => wsL_law0_r8_in w h) (fun h => (List.mem_append.mp h).elim (fun h => wsL_law0_r9_in w h) (fun h => (List.mem_append.mp h).elim (fun h => wsL_law0_r10_in w h) (fun h => (List.mem_append.mp h).elim (fun h => wsL_law0_r11_in w h) (fun h => (List.mem_append.mp h).elim (fun h => wsL_law0_r12_in w h) (fun h => (List.mem_append.mp h).elim (fun h => wsL_law0_r13_in w h) (fun h => (List.mem_append.mp h).elim (fun h => wsL_law0_r14_in w h) (fun h => (List.mem_append.mp h).elim (fun h => wsL_law0_r15_in w h) (fun h => (List.mem_append.mp h).elim (fun h => wsL_law0_r16_in w h) (fun h => (List.mem_append.mp h).elim (fun h => wsL_law0_r17_in w h) (fun h => (List.mem_append.mp h).elim (fun h => wsL_law0_r18_in w h) (fun h => (List.mem_append.mp h).elim (fun h => wsL_law0_r19_in w h) (fun h => (List.mem_append.mp h).elim (fun h => wsL_law0_r20_in w h) (fun h => (List.mem_append.mp h).elim (fun h => wsL_law0_r21_in w h) (fun h => (List.mem_append.mp h).elim (fun h => wsL_law0_r22_in w h) (fun h => (List.mem_append.mp h).elim (fun h => wsL_law0_r23_in w h) (fun h => (List.mem_append.mp h).elim (fun h => wsL_law0_r24_in w h) (fun h => (List.mem_append.mp h).elim (fun h => wsL_law0_r25_in w h) (fun h => (List.mem_append.mp h).elim (fun h => wsL_law0_r26_in w h) (fun h => (List.mem_append.mp h).elim (fun h => wsL_law0_r27_in w h) (fun h => (List.mem_append.mp h).elim (fun h => wsL_law0_r28_in w h) (fun h => (List.mem_append.mp h).elim (fun h => wsL_law0_r29_in w h) (fun h => (List.mem_append.mp h).elim (fun h => wsL_law0_r30_in w h) (fun h => (List.mem_append.mp h).elim (fun h => wsL_law0_r31_in w h) (fun h => (List.mem_append.mp h).elim (fun h => wsL_law0_r32_in w h) (fun h => (List.mem_append.mp h).elim (fun h => wsL_law0_r33_in w h) (fun h => (List.mem_append.mp h).elim (fun h => wsL_law0_r34_in w h) (fun h => (List.mem_append.mp h).elim (fun h => wsL_law0_r35_in w h) (fun h => (List.mem_append.mp h).elim (fun h => wsL_law0_r36_in w h) (fun h => (List.mem_append.mp h).elim (fun h => wsL_law0_r37_in w h) (fun h => (List.mem_append.mp h).elim (fun h => wsL_law0_r38_in w h) (fun h => (List.mem_append.mp h).elim (fun h => wsL_law0_r39_in w h) (fun h => (List.mem_append.mp h).elim (fun h => wsL_law0_r40_in w h) (fun h => (List.mem_append.mp h).elim (fun h => wsL_law0_r41_in w h) (fun h => (List.mem_append.mp h).elim (fun h => wsL_law0_r42_in w h) (fun h => (List.mem_append.mp h).elim (fun h => wsL_law0_r43_in w h) (fun h => (List.mem_append.mp h).elim (fun h => wsL_law0_r44_in w h) (fun h => (List.mem_append.mp h).elim (fun h => wsL_law0_r45_in w h) (fun h => (List.mem_append.mp h).elim (fun h => wsL_law0_r46_in w h) (fun h => (List.mem_append.mp h).elim (fun h => wsL_law0_r47_in w h) (fun h => wsL_law0_r48_in w h)))))))))))))))))))))))))))))))))))))))))))))))) (fun h => wl_X70 w h)) (fun h => wl_X80 w h)) (fun h => wl_X50 w h)) (fun h => wl_X20 w h)) (fun h => wl_X30 w h)) (fun h => wl_X40 w h)) (fun h => wl_X00 w h)) (fun h => wl_X60 w h)) (fun h => wl_X10 w h)) (fun h => absurd h List.not_mem_nil)
