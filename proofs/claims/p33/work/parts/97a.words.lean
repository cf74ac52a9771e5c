theorem zIn_r {big : List Cond} (ws : List Cond) (ps : List Nat) (hp : ws = ps.filterMap (fun i => big[i]?)) : ∀ w ∈ ws, w ∈ big := by
  intro w hw
  rw [hp] at hw
  obtain ⟨i, -, hi⟩ := List.mem_filterMap.mp hw
  first | exact List.mem_of_getElem? hi | exact List.getElem?_mem hi
set_option maxRecDepth 20000 in
theorem wsL_law_q1 : ∀ w ∈ wsL_law0_r1, w ∈ lw_tbl := zIn_r _ [39, 40, 26, 41, 42, 43, 44, 45, 46, 47, 160, 49, 50, 27, 161, 162, 163, 77, 28, 52, 53, 54, 76, 55] (by decide +kernel)
set_option maxRecDepth 20000 in
theorem wsL_law_q2 : ∀ w ∈ wsL_law0_r2, w ∈ lw_tbl := zIn_r _ [56, 78, 79, 80, 81, 97, 101, 103, 113, 115, 117, 82, 86, 88, 598, 599, 25, 600, 601, 602, 603, 604, 515, 516] (by decide +kernel)
set_option maxRecDepth 20000 in
theorem wsL_law_q3 : ∀ w ∈ wsL_law0_r3, w ∈ lw_tbl := zIn_r _ [517, 329, 330, 331, 332, 32, 194, 196, 1, 197, 605, 606, 607, 608, 609, 610, 611, 190, 192, 0, 193, 198, 33, 273] (by decide +kernel)
set_option maxRecDepth 20000 in
theorem wsL_law_q4 : ∀ w ∈ wsL_law0_r4, w ∈ lw_tbl := zIn_r _ [274, 275, 276, 91, 93, 95, 612, 613, 614, 615, 85, 83, 616, 617, 618, 619, 110, 620, 621, 622, 623, 87, 624, 625] (by decide +kernel)
