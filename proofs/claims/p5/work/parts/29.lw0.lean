theorem lx_all {big : List Cond} (ch : Nat → List Cond) (hch : ∀ c, ∀ w ∈ ch c, w ∈ big) (ws : List Cond) (ps : List (Nat × Nat)) (hp : ws = ps.filterMap (fun q => (ch q.1)[q.2]?)) : ∀ w ∈ ws, w ∈ big := by
  intro w hw
  rw [hp] at hw
  obtain ⟨q, -, hi⟩ := List.mem_filterMap.mp hw
  exact hch q.1 w (List.mem_of_getElem? hi)
theorem goodIn_c {big : List Cond} (ch : Nat → List Cond) (hch : ∀ c, ∀ w ∈ ch c, w ∈ big) (ws : List Cond) (ps : List (Nat × Nat)) (hp : ws = ps.filterMap (fun q => (ch q.1)[q.2]?)) (h : ws.all goodWord = true) : GoodIn big ws := goodIn_sub (lx_all ch hch ws ps hp) h
theorem lx_t0 : ∀ w ∈ (k2_sels lw_privs), w ∈ lw_tbl := fun w h => List.mem_append_left _ h
theorem lx_t1 : ∀ w ∈ tables_1_1, w ∈ lw_tbl := fun w h => List.mem_append_right _ (List.mem_append_left _ h)
theorem lx_t2 : ∀ w ∈ tables_1_2, w ∈ lw_tbl := fun w h => List.mem_append_right _ (List.mem_append_right _ (List.mem_append_left _ h))
theorem lx_t3 : ∀ w ∈ tables_1_3, w ∈ lw_tbl := fun w h => List.mem_append_right _ (List.mem_append_right _ (List.mem_append_right _ (List.mem_append_left _ h)))
theorem lx_t4 : ∀ w ∈ tables_1_4, w ∈ lw_tbl := fun w h => List.mem_append_right _ (List.mem_append_right _ (List.mem_append_right _ (List.mem_append_right _ (List.mem_append_left _ h))))
theorem lx_t5 : ∀ w ∈ tables_1_5, w ∈ lw_tbl := fun w h => List.mem_append_right _ (List.mem_append_right _ (List.mem_append_right _ (List.mem_append_right _ (List.mem_append_right _ (List.mem_append_left _ h)))))
theorem lx_t6 : ∀ w ∈ tables_1_6, w ∈ lw_tbl := fun w h => List.mem_append_right _ (List.mem_append_right _ (List.mem_append_right _ (List.mem_append_right _ (List.mem_append_right _ (List.mem_append_right _ (h))))))
def lx_tb (c : Nat) : List Cond := (if c < 3 then (if c < 1 then k2_sels lw_privs else (if c < 2 then tables_1_1 else tables_1_2)) else (if c < 5 then (if c < 4 then tables_1_3 else tables_1_4) else (if c < 6 then tables_1_5 else tables_1_6)))
theorem lx_htb : ∀ c, ∀ w ∈ lx_tb c, w ∈ lw_tbl := by
  intro c w h
  unfold lx_tb at h
  by_cases c0 : c < 3
  · rw [if_pos c0] at h
    by_cases c1 : c < 1
    · rw [if_pos c1] at h
      exact lx_t0 w h
    · rw [if_neg c1] at h
      by_cases c2 : c < 2
      · rw [if_pos c2] at h
        exact lx_t1 w h
      · rw [if_neg c2] at h
        exact lx_t2 w h
  · rw [if_neg c0] at h
    by_cases c1 : c < 5
    · rw [if_pos c1] at h
      by_cases c2 : c < 4
      · rw [if_pos c2] at h
        exact lx_t3 w h
      · rw [if_neg c2] at h
        exact lx_t4 w h
    · rw [if_neg c1] at h
      by_cases c2 : c < 6
      · rw [if_pos c2] at h
        exact lx_t5 w h
      · rw [if_neg c2] at h
        exact lx_t6 w h
theorem wsL_i1 : ∀ w ∈ wsL_law0_r1, w ∈ lw_tbl := lx_all lx_tb lx_htb _ [(1, 26), (1, 27), (1, 1), (4, 166), (4, 167), (1, 11), (6, 28), (1, 28), (1, 29), (1, 30), (1, 31), (1, 32), (1, 33), (1, 34), (1, 35), (1, 2), (2, 7), (1, 48), (1, 49), (1, 3), (2, 8), (1, 60), (1, 61), (1, 4)] (by decide +kernel)
theorem wsL_i2 : ∀ w ∈ wsL_law0_r2, w ∈ lw_tbl := lx_all lx_tb lx_htb _ [(2, 9), (1, 83), (1, 84), (1, 5), (2, 10), (1, 125), (1, 126), (1, 6), (2, 11), (1, 145), (1, 146), (1, 7), (2, 12), (1, 164), (1, 165), (1, 8), (2, 13), (1, 183), (1, 184), (1, 9), (2, 14), (1, 209), (1, 210), (1, 10)] (by decide +kernel)
theorem wsL_i3 : ∀ w ∈ wsL_law0_r3, w ∈ lw_tbl := lx_all lx_tb lx_htb _ [(2, 15), (2, 16), (2, 17), (1, 36), (1, 37), (1, 38), (1, 39), (1, 47), (1, 40), (1, 41), (1, 50), (1, 51), (1, 52), (1, 53), (1, 59), (1, 54), (1, 62), (1, 63), (1, 64), (1, 65), (1, 66), (1, 68), (1, 70), (1, 72)] (by decide +kernel)
theorem wsL_i4 : ∀ w ∈ wsL_law0_r4, w ∈ lw_tbl := lx_all lx_tb lx_htb _ [(1, 85), (1, 86), (1, 87), (1, 88), (1, 89), (1, 90), (1, 92), (1, 94), (1, 96), (1, 98), (1, 102), (1, 105), (1, 127), (1, 128), (1, 129), (1, 130), (1, 131), (1, 132), (1, 133), (1, 134), (1, 147), (1, 148), (1, 149), (1, 150)] (by decide +kernel)
theorem wsL_i5 : ∀ w ∈ wsL_law0_r5, w ∈ lw_tbl := lx_all lx_tb lx_htb _ [(1, 151), (1, 152), (1, 153), (1, 154), (1, 166), (1, 167), (1, 168), (1, 169), (1, 170), (1, 172), (1, 174), (1, 185), (1, 186), (1, 187), (1, 188), (1, 189), (1, 191), (1, 193), (1, 194), (1, 196), (1, 211), (1, 212), (1, 213), (1, 214)] (by decide +kernel)
theorem wsL_i6 : ∀ w ∈ wsL_law0_r6, w ∈ lw_tbl := lx_all lx_tb lx_htb _ [(1, 215), (1, 216), (1, 217), (1, 218), (1, 219), (1, 220), (1, 221), (1, 222), (1, 223), (1, 225), (4, 168), (4, 169), (4, 170), (4, 171), (4, 173), (4, 174), (4, 175), (4, 177), (4, 178), (4, 179), (4, 180), (4, 181), (4, 182), (4, 184)] (by decide +kernel)
theorem wsL_i7 : ∀ w ∈ wsL_law0_r7, w ∈ lw_tbl := lx_all lx_tb lx_htb _ [(4, 185), (5, 62), (4, 187), (4, 188), (4, 189), (4, 190), (4, 191), (4, 192), (4, 193), (4, 198), (4, 199), (4, 200), (4, 201), (4, 202), (4, 203), (4, 205), (4, 206), (4, 207), (4, 208), (4, 209), (4, 212), (4, 213), (4, 214), (2, 41)] (by decide +kernel)
theorem wsL_i8 : ∀ w ∈ wsL_law0_r8, w ∈ lw_tbl := lx_all lx_tb lx_htb _ [(2, 42), (2, 43), (2, 44), (2, 45), (2, 46), (2, 47), (2, 48), (2, 49), (2, 51), (0, 0), (2, 52), (5, 141), (5, 142), (5, 143), (5, 144), (4, 172), (4, 194), (2, 53), (2, 54), (2, 55), (2, 56), (2, 57), (2, 58), (2, 59)] (by decide +kernel)
theorem wsL_i9 : ∀ w ∈ wsL_law0_r9, w ∈ lw_tbl := lx_all lx_tb lx_htb _ [(2, 60), (5, 145), (5, 146), (5, 147), (5, 148), (2, 120), (2, 121), (1, 0), (2, 122), (2, 123), (2, 124), (2, 125), (2, 126), (2, 127), (2, 128), (2, 129), (2, 130), (2, 131), (2, 132), (1, 15), (2, 200), (2, 201), (2, 202), (2, 203)] (by decide +kernel)
theorem wsL_i10 : ∀ w ∈ wsL_law0_r10, w ∈ lw_tbl := lx_all lx_tb lx_htb _ [(1, 16), (2, 219), (2, 220), (2, 221), (2, 222), (5, 67), (5, 68), (5, 69), (5, 70), (4, 176), (5, 71), (5, 72), (5, 73), (5, 74), (5, 76), (0, 16), (5, 77), (2, 223), (2, 224), (2, 225), (2, 226), (2, 227), (2, 228), (2, 229)] (by decide +kernel)
