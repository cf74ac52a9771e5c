theorem zIn_r {big : List Cond} (ws : List Cond) (ps : List Nat) (hp : ws = ps.filterMap (fun i => big[i]?)) : ∀ w ∈ ws, w ∈ big := by
  intro w hw
  rw [hp] at hw
  obtain ⟨i, -, hi⟩ := List.mem_filterMap.mp hw
  first | exact List.mem_of_getElem? hi | exact List.getElem?_mem hi
set_option maxRecDepth 20000 in
theorem wsL_law_q1 : ∀ w ∈ wsL_law0_r1, w ∈ lw_tbl := zIn_r _ [66, 67, 52, 727, 728, 55, 1050, 68, 69, 70, 71, 72, 73, 74, 187, 76, 77, 53, 188, 189, 190, 104, 54, 79] (by decide +kernel)
set_option maxRecDepth 20000 in
theorem wsL_law_q2 : ∀ w ∈ wsL_law0_r2, w ∈ lw_tbl := zIn_r _ [80, 81, 103, 82, 83, 105, 106, 107, 108, 124, 128, 130, 140, 142, 144, 109, 113, 115, 729, 730, 731, 732, 821, 733] (by decide +kernel)
set_option maxRecDepth 20000 in
theorem wsL_law_q3 : ∀ w ∈ wsL_law0_r3, w ∈ lw_tbl := zIn_r _ [734, 735, 736, 737, 738, 739, 740, 741, 742, 743, 744, 745, 746, 747, 748, 749, 750, 751, 752, 753, 754, 755, 757, 760] (by decide +kernel)
set_option maxRecDepth 20000 in
theorem wsL_law_q4 : ∀ w ∈ wsL_law0_r4, w ∈ lw_tbl := zIn_r _ [761, 212, 213, 51, 214, 215, 216, 217, 218, 219, 220, 308, 60, 221, 223, 0, 224, 229, 59, 225, 227, 1, 228, 297] (by decide +kernel)
