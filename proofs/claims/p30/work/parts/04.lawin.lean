def lw_tab : Nat → List Cond
  | 0 => lw_extra
  | 1 => k2_sels lw_privs
  | 2 => tables_1_1
  | 3 => tables_1_2
  | 4 => tables_1_3
  | 5 => tables_1_4
  | 6 => tables_1_5
  | _ => []
theorem lw_tab_in : ∀ (t : Nat) (w : Cond), w ∈ lw_tab t → w ∈ lw_tbl
  | 0, _, h => List.mem_append_left _ h
  | 1, _, h => List.mem_append_right _ (List.mem_append_left _ h)
  | 2, _, h => List.mem_append_right _ (List.mem_append_right _ (List.mem_append_left _ h))
  | 3, _, h => List.mem_append_right _ (List.mem_append_right _ (List.mem_append_right _ (List.mem_append_left _ h)))
  | 4, _, h => List.mem_append_right _ (List.mem_append_right _ (List.mem_append_right _ (List.mem_append_right _ (List.mem_append_left _ h))))
  | 5, _, h => List.mem_append_right _ (List.mem_append_right _ (List.mem_append_right _ (List.mem_append_right _ (List.mem_append_right _ (List.mem_append_left _ h)))))
  | 6, _, h => List.mem_append_right _ (List.mem_append_right _ (List.mem_append_right _ (List.mem_append_right _ (List.mem_append_right _ (List.mem_append_right _ (h))))))
  | _ + 7, _, h => absurd h List.not_mem_nil
theorem lw_ps {ws : List Cond} (ps : List (Nat × Nat)) (hp : ws = ps.filterMap (fun q => (lw_tab q.1)[q.2]?)) : ∀ w ∈ ws, w ∈ lw_tbl := by
  intro w hw
  rw [hp] at hw
  obtain ⟨q, -, hi⟩ := List.mem_filterMap.mp hw
  exact lw_tab_in q.1 w (List.mem_of_getElem? hi)
set_option maxRecDepth 20000 in
theorem lwi_wsL_law_r1 : ∀ w ∈ wsL_law_r1, w ∈ lw_tbl := lw_ps [(2, 17), (2, 18), (2, 1), (5, 46), (5, 47), (2, 14), (2, 19), (2, 20), (2, 21), (2, 22), (2, 23), (2, 24), (2, 25), (2, 26), (2, 3), (3, 33), (2, 68), (2, 69), (2, 5), (3, 34), (2, 79), (2, 80), (2, 6), (3, 35)] rfl
set_option maxRecDepth 20000 in
theorem lwi_wsL_law_r2 : ∀ w ∈ wsL_law_r2, w ∈ lw_tbl := lw_ps [(2, 90), (2, 91), (2, 7), (3, 36), (2, 104), (2, 105), (2, 8), (3, 37), (2, 200), (2, 201), (2, 10), (3, 38), (2, 219), (2, 220), (2, 11), (3, 39), (2, 238), (2, 239), (2, 12), (3, 40), (2, 67), (3, 41), (3, 42), (3, 43)] rfl
set_option maxRecDepth 20000 in
theorem lwi_wsL_law_r3 : ∀ w ∈ wsL_law_r3, w ∈ lw_tbl := lw_ps [(3, 9), (3, 44), (3, 11), (2, 13), (2, 27), (2, 28), (2, 29), (2, 30), (2, 31), (2, 2), (2, 32), (2, 33), (2, 46), (2, 34), (2, 35), (2, 4), (2, 36), (2, 37), (2, 70), (2, 71), (2, 72), (2, 73), (2, 81), (2, 82)] rfl
set_option maxRecDepth 20000 in
theorem lwi_wsL_law_r4 : ∀ w ∈ wsL_law_r4, w ∈ lw_tbl := lw_ps [(2, 83), (2, 84), (2, 93), (2, 94), (2, 95), (2, 96), (2, 106), (2, 107), (2, 108), (2, 109), (2, 110), (2, 111), (2, 9), (2, 137), (2, 138), (2, 139), (2, 141), (2, 133), (2, 135), (2, 136), (2, 113), (2, 114), (2, 115), (2, 203)] rfl
set_option maxRecDepth 20000 in
theorem lwi_wsL_law_r5 : ∀ w ∈ wsL_law_r5, w ∈ lw_tbl := lw_ps [(2, 204), (2, 205), (2, 222), (2, 223), (2, 224), (2, 237), (2, 225), (3, 1), (3, 2), (3, 3), (3, 13), (3, 14), (3, 15), (3, 16), (3, 18), (5, 48), (5, 49), (5, 50), (5, 51), (5, 53), (5, 54), (5, 55), (5, 56), (5, 58)] rfl
set_option maxRecDepth 20000 in
theorem lwi_wsL_law_r6 : ∀ w ∈ wsL_law_r6, w ∈ lw_tbl := lw_ps [(5, 59), (5, 61), (5, 63), (5, 65), (5, 67), (5, 69), (5, 76), (5, 77), (5, 78), (5, 80), (5, 81), (5, 52), (5, 73), (3, 79), (3, 80), (3, 81), (3, 82), (2, 38), (3, 83), (3, 85), (1, 0), (3, 86), (3, 87), (3, 89)] rfl
set_option maxRecDepth 20000 in
theorem lwi_wsL_law_r7 : ∀ w ∈ wsL_law_r7, w ∈ lw_tbl := lw_ps [(3, 90), (3, 88), (3, 93), (2, 39), (3, 91), (3, 92), (3, 94), (3, 96), (3, 97), (3, 95), (3, 100), (3, 101), (3, 103), (3, 104), (3, 105), (3, 106), (3, 107), (3, 108), (3, 109), (3, 110), (3, 111), (3, 112), (3, 113), (3, 114)] rfl
set_option maxRecDepth 20000 in
theorem lwi_wsL_law_r8 : ∀ w ∈ wsL_law_r8, w ∈ lw_tbl := lw_ps [(3, 115), (3, 116), (6, 236), (0, 0), (3, 118), (3, 119), (2, 53), (3, 120), (3, 122), (3, 123), (3, 121), (3, 126), (3, 124), (3, 125), (3, 127), (3, 129), (3, 130), (3, 131), (3, 132), (3, 133), (3, 134), (3, 135), (3, 136), (3, 137)] rfl
set_option maxRecDepth 20000 in
theorem lwi_wsL_law_r9 : ∀ w ∈ wsL_law_r9, w ∈ lw_tbl := lw_ps [(3, 138), (0, 1), (0, 2), (3, 98), (3, 99), (5, 184), (5, 185), (5, 186), (5, 187), (5, 191), (5, 188), (5, 189), (5, 190), (5, 155), (5, 152), (5, 153), (5, 154), (3, 139), (3, 140), (3, 141), (3, 142), (3, 143), (3, 145), (3, 146)] rfl
set_option maxRecDepth 20000 in
theorem lwi_wsL_law_r10 : ∀ w ∈ wsL_law_r10, w ∈ lw_tbl := lw_ps [(3, 144), (3, 149), (3, 150), (3, 151), (3, 152), (3, 147), (3, 148), (5, 192), (5, 193), (5, 194), (5, 195), (3, 153), (3, 154), (3, 155), (3, 156), (5, 196), (5, 197), (5, 198), (5, 199), (3, 157), (3, 158), (3, 159), (3, 160), (2, 47)] rfl
set_option maxRecDepth 20000 in
theorem lwi_wsL_law_r11 : ∀ w ∈ wsL_law_r11, w ∈ lw_tbl := lw_ps [(5, 200), (5, 201), (5, 202), (5, 203), (5, 204), (5, 206), (1, 19), (5, 207), (5, 208), (5, 210), (1, 20), (5, 211), (5, 60), (5, 212), (5, 213), (5, 214), (5, 215), (5, 216), (5, 217), (5, 218), (5, 219), (5, 220), (5, 222), (1, 21)] rfl
set_option maxRecDepth 20000 in
theorem lwi_wsL_law_r12 : ∀ w ∈ wsL_law_r12, w ∈ lw_tbl := lw_ps [(5, 223), (5, 62), (5, 224), (5, 225), (5, 226), (5, 227), (5, 228), (5, 229), (5, 230), (5, 231), (5, 233), (1, 22), (5, 234), (5, 64), (5, 235), (5, 236), (5, 237), (3, 161), (3, 162), (3, 163), (3, 164), (2, 52), (2, 49), (3, 165)] rfl
set_option maxRecDepth 20000 in
theorem lwi_wsL_law_r13 : ∀ w ∈ wsL_law_r13, w ∈ lw_tbl := lw_ps [(3, 166), (3, 168), (5, 238), (5, 239), (6, 0), (6, 1), (6, 6), (6, 2), (6, 4), (1, 23), (6, 5), (3, 169), (3, 170), (3, 171), (3, 172), (3, 173), (3, 174), (3, 176), (3, 177), (3, 178), (3, 179), (3, 180), (3, 181), (3, 182)] rfl
set_option maxRecDepth 20000 in
theorem lwi_wsL_law_r14 : ∀ w ∈ wsL_law_r14, w ∈ lw_tbl := lw_ps [(3, 183), (3, 184), (3, 185), (6, 7), (6, 8), (6, 9), (6, 10), (5, 151), (6, 11), (6, 13), (1, 24), (6, 14), (3, 186), (3, 187), (3, 188), (3, 189), (3, 190), (3, 191), (3, 192), (3, 193), (3, 194), (3, 195), (3, 196), (3, 197)] rfl
set_option maxRecDepth 20000 in
theorem lwi_wsL_law_r15 : ∀ w ∈ wsL_law_r15, w ∈ lw_tbl := lw_ps [(3, 198), (3, 199), (6, 15), (6, 16), (6, 17), (6, 18), (6, 19), (6, 21), (1, 25), (6, 22), (6, 23), (6, 24), (6, 25), (3, 200), (3, 201), (3, 202), (3, 203), (3, 204), (3, 205), (3, 206), (3, 207), (2, 97), (6, 26), (6, 27)] rfl
set_option maxRecDepth 20000 in
theorem lwi_wsL_law_r16 : ∀ w ∈ wsL_law_r16, w ∈ lw_tbl := lw_ps [(6, 28), (6, 29), (6, 30), (6, 31), (5, 66), (3, 208), (3, 209), (3, 210), (3, 211), (2, 98), (6, 32), (6, 33), (6, 34), (6, 35), (3, 212), (3, 213), (3, 214), (3, 215), (3, 19), (3, 23), (3, 216), (3, 218), (1, 1), (3, 219)] rfl
set_option maxRecDepth 20000 in
theorem lwi_wsL_law_r17 : ∀ w ∈ wsL_law_r17, w ∈ lw_tbl := lw_ps [(3, 220), (3, 222), (1, 2), (3, 223), (3, 47), (3, 224), (3, 225), (3, 226), (3, 227), (3, 22), (6, 36), (6, 37), (6, 38), (6, 39), (5, 148), (5, 149), (5, 150), (5, 156), (5, 158), (1, 17), (5, 159), (5, 57), (6, 40), (3, 228)] rfl
set_option maxRecDepth 20000 in
theorem lwi_wsL_law_r18 : ∀ w ∈ wsL_law_r18, w ∈ lw_tbl := lw_ps [(3, 229), (3, 230), (3, 231), (3, 46), (6, 41), (6, 42), (6, 43), (6, 44), (6, 45), (5, 68), (3, 232), (3, 233), (3, 234), (3, 235), (2, 164), (3, 236), (3, 237), (3, 238), (3, 239), (4, 0), (4, 2), (1, 3), (4, 3), (2, 156)] rfl
set_option maxRecDepth 20000 in
theorem lwi_wsL_law_r19 : ∀ w ∈ wsL_law_r19, w ∈ lw_tbl := lw_ps [(4, 4), (4, 5), (4, 6), (4, 7), (4, 8), (4, 10), (1, 4), (4, 11), (4, 12), (4, 13), (4, 14), (4, 15), (4, 16), (4, 17), (4, 18), (4, 19), (4, 20), (4, 21), (4, 22), (4, 23), (4, 24), (2, 144), (2, 147), (2, 149)] rfl
set_option maxRecDepth 20000 in
theorem lwi_wsL_law_r20 : ∀ w ∈ wsL_law_r20, w ∈ lw_tbl := lw_ps [(2, 150), (2, 152), (2, 154), (2, 117), (2, 118), (2, 50), (4, 25), (4, 26), (4, 27), (4, 28), (4, 29), (4, 30), (4, 31), (4, 32), (2, 121), (4, 33), (4, 34), (4, 35), (4, 36), (2, 116), (2, 120), (2, 123), (4, 37), (4, 38)] rfl
set_option maxRecDepth 20000 in
theorem lwi_wsL_law_r21 : ∀ w ∈ wsL_law_r21, w ∈ lw_tbl := lw_ps [(4, 39), (4, 40), (4, 41), (2, 119), (4, 42), (4, 43), (4, 44), (4, 45), (4, 46), (4, 47), (4, 48), (4, 49), (4, 50), (4, 51), (4, 52), (4, 53), (4, 54), (4, 55), (4, 56), (4, 57), (2, 158), (2, 160), (2, 163), (4, 58)] rfl
set_option maxRecDepth 20000 in
theorem lwi_wsL_law_r22 : ∀ w ∈ wsL_law_r22, w ∈ lw_tbl := lw_ps [(4, 59), (4, 60), (4, 61), (4, 62), (4, 63), (4, 64), (4, 65), (4, 66), (2, 155), (4, 67), (4, 68), (4, 69), (4, 70), (4, 71), (4, 72), (4, 73), (4, 74), (6, 46), (6, 47), (6, 48), (6, 49), (6, 50), (6, 52), (1, 26)] rfl
set_option maxRecDepth 20000 in
theorem lwi_wsL_law_r23 : ∀ w ∈ wsL_law_r23, w ∈ lw_tbl := lw_ps [(6, 53), (6, 54), (6, 56), (1, 27), (6, 57), (6, 58), (6, 60), (1, 28), (6, 61), (6, 62), (6, 64), (1, 29), (6, 65), (5, 70), (5, 71), (5, 72), (5, 74), (5, 75), (6, 66), (6, 68), (1, 30), (6, 69), (6, 70), (6, 72)] rfl
set_option maxRecDepth 20000 in
theorem lwi_wsL_law_r24 : ∀ w ∈ wsL_law_r24, w ∈ lw_tbl := lw_ps [(1, 31), (6, 73), (6, 74), (6, 76), (1, 32), (6, 77), (6, 78), (6, 79), (6, 80), (6, 81), (6, 83), (1, 33), (6, 84), (6, 85), (6, 87), (1, 34), (6, 88), (4, 75), (4, 76), (4, 77), (4, 78), (4, 79), (4, 80), (4, 82)] rfl
set_option maxRecDepth 20000 in
theorem lwi_wsL_law_r25 : ∀ w ∈ wsL_law_r25, w ∈ lw_tbl := lw_ps [(1, 5), (4, 83), (2, 145), (2, 159), (2, 162), (4, 84), (4, 85), (4, 86), (4, 88), (1, 6), (4, 89), (2, 140), (2, 122), (2, 142), (4, 90), (6, 89), (6, 90), (6, 91), (6, 92), (6, 93), (6, 95), (1, 35), (6, 96), (4, 91)] rfl
set_option maxRecDepth 20000 in
theorem lwi_wsL_law_r26 : ∀ w ∈ wsL_law_r26, w ∈ lw_tbl := lw_ps [(4, 92), (4, 93), (4, 94), (6, 97), (6, 98), (6, 99), (6, 100), (6, 101), (6, 103), (1, 36), (6, 104), (4, 95), (4, 96), (4, 97), (4, 98), (4, 99), (4, 100), (4, 101), (4, 102), (2, 206), (2, 148), (4, 104), (4, 103), (4, 105)] rfl
set_option maxRecDepth 20000 in
theorem lwi_wsL_law_r27 : ∀ w ∈ wsL_law_r27, w ∈ lw_tbl := lw_ps [(4, 106), (4, 108), (1, 7), (4, 109), (2, 157), (2, 161), (4, 110), (4, 112), (1, 8), (4, 113), (2, 207), (2, 208), (2, 209), (4, 114), (4, 115), (4, 116), (4, 117), (6, 105), (6, 106), (6, 107), (6, 108), (6, 109), (6, 110), (6, 112)] rfl
set_option maxRecDepth 20000 in
theorem lwi_wsL_law_r28 : ∀ w ∈ wsL_law_r28, w ∈ lw_tbl := lw_ps [(1, 37), (6, 113), (4, 118), (4, 119), (4, 120), (4, 121), (4, 122), (4, 123), (2, 15), (4, 124), (4, 125), (4, 126), (4, 127), (6, 114), (6, 115), (6, 116), (6, 117), (6, 118), (6, 120), (1, 38), (6, 121), (6, 122), (6, 123), (6, 124)] rfl
set_option maxRecDepth 20000 in
theorem lwi_wsL_law_r29 : ∀ w ∈ wsL_law_r29, w ∈ lw_tbl := lw_ps [(4, 128), (4, 129), (4, 130), (4, 131), (2, 54), (2, 55), (6, 125), (6, 126), (6, 127), (6, 128), (6, 129), (6, 131), (1, 39), (6, 132), (4, 132), (4, 133), (4, 134), (4, 135), (3, 45), (6, 133), (6, 134), (6, 135), (6, 136), (6, 137)] rfl
set_option maxRecDepth 20000 in
theorem lwi_wsL_law_r30 : ∀ w ∈ wsL_law_r30, w ∈ lw_tbl := lw_ps [(5, 79), (4, 136), (4, 137), (4, 138), (4, 139), (6, 138), (6, 139), (6, 140), (6, 141), (4, 140), (4, 141), (4, 142), (4, 143), (4, 144), (4, 146), (1, 9), (4, 147), (2, 151), (6, 142), (6, 143), (6, 144), (6, 145), (6, 146), (6, 148)] rfl
set_option maxRecDepth 20000 in
theorem lwi_wsL_law_r31 : ∀ w ∈ wsL_law_r31, w ∈ lw_tbl := lw_ps [(1, 40), (6, 149), (6, 150), (6, 152), (1, 41), (6, 153), (4, 148), (4, 149), (4, 150), (4, 151), (6, 154), (6, 155), (6, 156), (6, 157), (6, 158), (6, 160), (1, 42), (6, 161), (4, 152), (4, 153), (4, 154), (4, 155), (4, 156), (4, 157)] rfl
set_option maxRecDepth 20000 in
theorem lwi_wsL_law_r32 : ∀ w ∈ wsL_law_r32, w ∈ lw_tbl := lw_ps [(4, 159), (1, 10), (4, 160), (4, 161), (6, 162), (6, 163), (6, 164), (6, 165), (6, 166), (6, 168), (1, 43), (6, 169), (6, 170), (6, 172), (1, 44), (6, 173), (4, 162), (4, 163), (4, 164), (4, 165), (4, 171), (2, 227), (2, 229), (4, 166)] rfl
set_option maxRecDepth 20000 in
theorem lwi_wsL_law_r33 : ∀ w ∈ wsL_law_r33, w ∈ lw_tbl := lw_ps [(4, 167), (4, 168), (4, 169), (2, 51), (4, 170), (4, 172), (4, 173), (4, 174), (4, 175), (2, 226), (2, 228), (2, 143), (2, 146), (2, 134), (2, 48), (4, 180), (2, 153), (4, 176), (4, 178), (1, 11), (4, 179), (4, 181), (4, 182), (4, 184)] rfl
set_option maxRecDepth 20000 in
theorem lwi_wsL_law_r34 : ∀ w ∈ wsL_law_r34, w ∈ lw_tbl := lw_ps [(1, 12), (4, 185), (4, 186), (4, 187), (4, 189), (1, 13), (4, 190), (4, 191), (4, 192), (4, 193), (4, 195), (1, 14), (4, 196), (4, 197), (6, 174), (6, 175), (6, 176), (6, 177), (6, 182), (6, 178), (6, 180), (1, 45), (6, 181), (6, 183)] rfl
set_option maxRecDepth 20000 in
theorem lwi_wsL_law_r35 : ∀ w ∈ wsL_law_r35, w ∈ lw_tbl := lw_ps [(6, 185), (1, 46), (6, 186), (6, 187), (6, 189), (1, 47), (6, 190), (6, 191), (6, 192), (6, 193), (6, 194), (6, 195), (6, 196), (6, 197), (4, 198), (4, 199), (4, 200), (4, 201), (2, 56), (2, 57), (3, 5), (4, 202), (4, 203), (4, 204)] rfl
set_option maxRecDepth 20000 in
theorem lwi_wsL_law_r36 : ∀ w ∈ wsL_law_r36, w ∈ lw_tbl := lw_ps [(4, 205), (4, 206), (3, 4), (6, 198), (6, 199), (6, 200), (6, 201), (6, 202), (6, 203), (6, 205), (1, 48), (6, 206), (5, 82), (6, 207), (6, 209), (1, 49), (6, 210), (6, 211), (4, 207), (4, 208), (4, 209), (4, 210), (4, 211), (4, 212)] rfl
set_option maxRecDepth 20000 in
theorem lwi_wsL_law_r37 : ∀ w ∈ wsL_law_r37, w ∈ lw_tbl := lw_ps [(4, 213), (4, 214), (4, 215), (4, 216), (4, 217), (3, 20), (4, 218), (4, 219), (5, 144), (5, 145), (5, 146), (5, 147), (4, 220), (4, 221), (4, 222), (4, 223), (5, 160), (5, 161), (5, 162), (5, 163), (4, 224), (4, 225), (4, 226), (4, 227)] rfl
set_option maxRecDepth 20000 in
theorem lwi_wsL_law_r38 : ∀ w ∈ wsL_law_r38, w ∈ lw_tbl := lw_ps [(4, 228), (4, 230), (1, 15), (4, 231), (3, 21), (4, 232), (4, 233), (4, 234), (4, 235), (4, 236), (4, 237), (4, 238), (4, 239), (5, 164), (5, 165), (5, 166), (5, 167), (5, 168), (5, 170), (1, 18), (5, 171), (5, 172), (5, 173), (5, 174)] rfl
set_option maxRecDepth 20000 in
theorem lwi_wsL_law_r39 : ∀ w ∈ wsL_law_r39, w ∈ lw_tbl := lw_ps [(5, 0), (5, 1), (5, 2), (5, 3), (5, 4), (5, 175), (5, 176), (5, 177), (5, 178), (5, 179), (5, 5), (5, 6), (5, 7), (5, 8), (3, 17), (5, 9), (5, 11), (5, 10), (2, 16), (5, 180), (5, 181), (5, 182), (5, 183), (5, 12)] rfl
set_option maxRecDepth 20000 in
theorem lwi_wsL_law_r40 : ∀ w ∈ wsL_law_r40, w ∈ lw_tbl := lw_ps [(5, 13), (5, 14), (5, 15), (5, 16), (6, 212), (6, 213), (6, 214), (6, 215), (6, 216), (6, 217), (6, 218), (5, 17), (5, 18), (5, 19), (5, 20), (2, 40), (2, 41), (2, 42), (2, 43), (2, 44), (2, 45), (6, 219), (6, 220), (6, 221)] rfl
set_option maxRecDepth 20000 in
theorem lwi_wsL_law_r41 : ∀ w ∈ wsL_law_r41, w ∈ lw_tbl := lw_ps [(6, 222), (5, 21), (5, 22), (5, 23), (5, 24), (5, 25), (5, 26), (5, 27), (5, 28), (5, 29), (5, 30), (5, 31), (5, 32), (5, 33), (5, 35), (1, 16), (5, 36), (5, 37), (5, 38), (5, 39), (5, 40), (5, 41), (5, 42), (5, 43)] rfl
set_option maxRecDepth 20000 in
theorem lwi_wsL_law_r42 : ∀ w ∈ wsL_law_r42, w ∈ lw_tbl := lw_ps [(5, 44), (5, 45), (6, 223), (6, 224), (6, 225), (6, 226), (6, 227), (6, 228), (6, 229), (6, 230), (6, 232), (1, 50), (6, 233), (6, 234), (6, 235)] rfl
set_option maxRecDepth 20000 in
theorem lwi_wsX110 : ∀ w ∈ wsX110, w ∈ lw_tbl := lw_ps [(3, 48), (3, 50), (3, 52), (3, 54), (3, 56), (3, 58), (3, 60), (3, 62), (3, 64), (3, 66), (3, 68), (3, 70), (3, 72), (3, 74), (3, 76)] rfl
set_option maxRecDepth 20000 in
theorem lwi_wsX120 : ∀ w ∈ wsX120, w ∈ lw_tbl := lw_ps [(5, 83), (5, 85), (5, 87), (5, 89), (5, 91), (5, 93), (5, 95), (5, 97), (5, 99), (5, 101), (5, 103), (5, 105), (5, 107), (5, 109), (5, 111), (5, 113), (5, 115), (5, 117), (5, 119), (5, 121), (5, 123), (5, 125), (5, 127), (5, 129), (5, 131), (5, 133), (5, 135), (5, 137), (5, 139), (5, 141)] rfl
set_option maxRecDepth 20000 in
theorem lwi_wsX40 : ∀ w ∈ wsX40, w ∈ lw_tbl := lw_ps [(2, 58), (2, 60), (2, 62), (2, 64)] rfl
set_option maxRecDepth 20000 in
theorem lwi_wsX70 : ∀ w ∈ wsX70, w ∈ lw_tbl := lw_ps [(2, 74), (2, 75), (2, 76), (2, 77)] rfl
set_option maxRecDepth 20000 in
theorem lwi_wsX20 : ∀ w ∈ wsX20, w ∈ lw_tbl := lw_ps [(2, 85), (2, 86), (2, 87), (2, 88)] rfl
set_option maxRecDepth 20000 in
theorem lwi_wsX10 : ∀ w ∈ wsX10, w ∈ lw_tbl := lw_ps [(2, 99), (2, 101)] rfl
set_option maxRecDepth 20000 in
theorem lwi_wsX100 : ∀ w ∈ wsX100, w ∈ lw_tbl := lw_ps [(2, 165), (2, 167), (2, 169), (2, 171), (2, 173), (2, 175), (2, 177), (2, 179), (2, 181), (2, 183), (2, 185), (2, 187), (2, 189), (2, 191), (2, 193), (2, 195), (2, 197)] rfl
set_option maxRecDepth 20000 in
theorem lwi_wsX00 : ∀ w ∈ wsX00, w ∈ lw_tbl := lw_ps [(2, 210), (2, 212), (2, 214), (2, 216)] rfl
set_option maxRecDepth 20000 in
theorem lwi_wsX50 : ∀ w ∈ wsX50, w ∈ lw_tbl := lw_ps [(2, 230), (2, 232), (2, 234)] rfl
set_option maxRecDepth 20000 in
theorem lwi_wsX60 : ∀ w ∈ wsX60, w ∈ lw_tbl := lw_ps [(3, 6)] rfl
set_option maxRecDepth 20000 in
theorem lwi_wsX80 : ∀ w ∈ wsX80, w ∈ lw_tbl := lw_ps [(3, 24), (3, 26), (3, 28), (3, 30)] rfl
set_option maxRecDepth 20000 in
theorem lwi_wsX30 : ∀ w ∈ wsX30, w ∈ lw_tbl := lw_ps [(2, 124), (2, 126), (2, 128), (2, 130)] rfl
theorem wsL_law_in : ∀ w ∈ wsL_law, w ∈ lw_tbl := by
  intro w h
  rcases List.mem_append.mp h with h | h
  case inr => exact absurd h List.not_mem_nil
  rcases List.mem_append.mp h with h | h
  case inr => exact lwi_wsX30 w h
  rcases List.mem_append.mp h with h | h
  case inr => exact lwi_wsX80 w h
  rcases List.mem_append.mp h with h | h
  case inr => exact lwi_wsX60 w h
  rcases List.mem_append.mp h with h | h
  case inr => exact lwi_wsX50 w h
  rcases List.mem_append.mp h with h | h
  case inr => exact lwi_wsX00 w h
  rcases List.mem_append.mp h with h | h
  case inr => exact lwi_wsX100 w h
  rcases List.mem_append.mp h with h | h
  case inr => exact lwi_wsX10 w h
  rcases List.mem_append.mp h with h | h
  case inr => exact lwi_wsX20 w h
  rcases List.mem_append.mp h with h | h
  case inr => exact lwi_wsX70 w h
  rcases List.mem_append.mp h with h | h
  case inr => exact lwi_wsX40 w h
  rcases List.mem_append.mp h with h | h
  case inr => exact lwi_wsX120 w h
  rcases List.mem_append.mp h with h | h
  case inr => exact lwi_wsX110 w h
  rcases List.mem_append.mp h with h | h
  case inl => exact lwi_wsL_law_r1 w h
  rcases List.mem_append.mp h with h | h
  case inl => exact lwi_wsL_law_r2 w h
  rcases List.mem_append.mp h with h | h
  case inl => exact lwi_wsL_law_r3 w h
  rcases List.mem_append.mp h with h | h
  case inl => exact lwi_wsL_law_r4 w h
  rcases List.mem_append.mp h with h | h
  case inl => exact lwi_wsL_law_r5 w h
  rcases List.mem_append.mp h with h | h
  case inl => exact lwi_wsL_law_r6 w h
  rcases List.mem_append.mp h with h | h
  case inl => exact lwi_wsL_law_r7 w h
  rcases List.mem_append.mp h with h | h
  case inl => exact lwi_wsL_law_r8 w h
  rcases List.mem_append.mp h with h | h
  case inl => exact lwi_wsL_law_r9 w h
  rcases List.mem_append.mp h with h | h
  case inl => exact lwi_wsL_law_r10 w h
  rcases List.mem_append.mp h with h | h
  case inl => exact lwi_wsL_law_r11 w h
  rcases List.mem_append.mp h with h | h
  case inl => exact lwi_wsL_law_r12 w h
  rcases List.mem_append.mp h with h | h
  case inl => exact lwi_wsL_law_r13 w h
  rcases List.mem_append.mp h with h | h
  case inl => exact lwi_wsL_law_r14 w h
  rcases List.mem_append.mp h with h | h
  case inl => exact lwi_wsL_law_r15 w h
  rcases List.mem_append.mp h with h | h
  case inl => exact lwi_wsL_law_r16 w h
  rcases List.mem_append.mp h with h | h
  case inl => exact lwi_wsL_law_r17 w h
  rcases List.mem_append.mp h with h | h
  case inl => exact lwi_wsL_law_r18 w h
  rcases List.mem_append.mp h with h | h
  case inl => exact lwi_wsL_law_r19 w h
  rcases List.mem_append.mp h with h | h
  case inl => exact lwi_wsL_law_r20 w h
  rcases List.mem_append.mp h with h | h
  case inl => exact lwi_wsL_law_r21 w h
  rcases List.mem_append.mp h with h | h
  case inl => exact lwi_wsL_law_r22 w h
  rcases List.mem_append.mp h with h | h
  case inl => exact lwi_wsL_law_r23 w h
  rcases List.mem_append.mp h with h | h
  case inl => exact lwi_wsL_law_r24 w h
  rcases List.mem_append.mp h with h | h
  case inl => exact lwi_wsL_law_r25 w h
  rcases List.mem_append.mp h with h | h
  case inl => exact lwi_wsL_law_r26 w h
  rcases List.mem_append.mp h with h | h
  case inl => exact lwi_wsL_law_r27 w h
  rcases List.mem_append.mp h with h | h
  case inl => exact lwi_wsL_law_r28 w h
  rcases List.mem_append.mp h with h | h
  case inl => exact lwi_wsL_law_r29 w h
  rcases List.mem_append.mp h with h | h
  case inl => exact lwi_wsL_law_r30 w h
  rcases List.mem_append.mp h with h | h
  case inl => exact lwi_wsL_law_r31 w h
  rcases List.mem_append.mp h with h | h
  case inl => exact lwi_wsL_law_r32 w h
  rcases List.mem_append.mp h with h | h
  case inl => exact lwi_wsL_law_r33 w h
  rcases List.mem_append.mp h with h | h
  case inl => exact lwi_wsL_law_r34 w h
  rcases List.mem_append.mp h with h | h
  case inl => exact lwi_wsL_law_r35 w h
  rcases List.mem_append.mp h with h | h
  case inl => exact lwi_wsL_law_r36 w h
  rcases List.mem_append.mp h with h | h
  case inl => exact lwi_wsL_law_r37 w h
  rcases List.mem_append.mp h with h | h
  case inl => exact lwi_wsL_law_r38 w h
  rcases List.mem_append.mp h with h | h
  case inl => exact lwi_wsL_law_r39 w h
  rcases List.mem_append.mp h with h | h
  case inl => exact lwi_wsL_law_r40 w h
  rcases List.mem_append.mp h with h | h
  case inl => exact lwi_wsL_law_r41 w h
  exact lwi_wsL_law_r42 w h
