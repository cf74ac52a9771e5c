set_option maxRecDepth 20000 in
theorem wsL_law_q21 : ∀ w ∈ wsL_law0_r21, w ∈ lw_tbl := zIn_r _ [520, 521, 522, 523, 524, 526, 527, 528, 529, 530, 531, 532, 533, 534, 535, 536, 537, 538, 297, 298, 299, 300, 301, 302] (by decide +kernel)
set_option maxRecDepth 20000 in
theorem wsL_law_q22 : ∀ w ∈ wsL_law0_r22, w ∈ lw_tbl := zIn_r _ [303, 308, 309, 310, 311, 312, 313, 38, 314, 315, 316, 317, 714, 715, 716, 717, 718, 719, 720, 721, 722, 723, 724] (by decide +kernel)
set_option maxRecDepth 20000 in
theorem wsL_law_y2 : ∀ w ∈ wsX20, w ∈ lw_tbl := zIn_r _ [164, 166, 168, 170] (by decide +kernel)
set_option maxRecDepth 20000 in
theorem wsL_law_y0 : ∀ w ∈ wsX00, w ∈ lw_tbl := zIn_r _ [63, 65, 67, 69, 71, 73] (by decide +kernel)
set_option maxRecDepth 20000 in
theorem wsL_law_y1 : ∀ w ∈ wsX10, w ∈ lw_tbl := zIn_r _ [119, 121, 123, 125, 127, 129, 131, 133, 135, 137, 139, 141, 143, 145, 147, 149, 151, 153, 155, 157] (by decide +kernel)
theorem wsL_law_in0 : ∀ w ∈ wsL_law0, w ∈ lw_tbl := by
  intro w h
  unfold wsL_law0 at h
  rcases List.mem_append.mp h with h | h
  rcases List.mem_append.mp h with h | h
  rcases List.mem_append.mp h with h | h
  rcases List.mem_append.mp h with h | h
  rcases List.mem_append.mp h with h | h
  · exact wsL_law_q1 w h
  rcases List.mem_append.mp h with h | h
  · exact wsL_law_q2 w h
  rcases List.mem_append.mp h with h | h
  · exact wsL_law_q3 w h
  rcases List.mem_append.mp h with h | h
  · exact wsL_law_q4 w h
  rcases List.mem_append.mp h with h | h
  · exact wsL_law_q5 w h
  rcases List.mem_append.mp h with h | h
  · exact wsL_law_q6 w h
  rcases List.mem_append.mp h with h | h
  · exact wsL_law_q7 w h
  rcases List.mem_append.mp h with h | h
  · exact wsL_law_q8 w h
  rcases List.mem_append.mp h with h | h
  · exact wsL_law_q9 w h
  rcases List.mem_append.mp h with h | h
  · exact wsL_law_q10 w h
  rcases List.mem_append.mp h with h | h
  · exact wsL_law_q11 w h
  rcases List.mem_append.mp h with h | h
  · exact wsL_law_q12 w h
  rcases List.mem_append.mp h with h | h
  · exact wsL_law_q13 w h
  rcases List.mem_append.mp h with h | h
  · exact wsL_law_q14 w h
  rcases List.mem_append.mp h with h | h
  · exact wsL_law_q15 w h
  rcases List.mem_append.mp h with h | h
  · exact wsL_law_q16 w h
  rcases List.mem_append.mp h with h | h
  · exact wsL_law_q17 w h
  rcases List.mem_append.mp h with h | h
  · exact wsL_law_q18 w h
  rcases List.mem_append.mp h with h | h
  · exact wsL_law_q19 w h
  rcases List.mem_append.mp h with h | h
  · exact wsL_law_q20 w h
  rcases List.mem_append.mp h with h | h
  · exact wsL_law_q21 w h
  · exact wsL_law_q22 w h
  · exact wsL_law_y2 w h
  · exact wsL_law_y0 w h
  · exact wsL_law_y1 w h
  · exact absurd h List.not_mem_nil
theorem wsL_law_x0 : ∀ w ∈ (vx_atS RX2 82 "java/lang/IllegalArgumentException" ["java/lang/RuntimeException", "java/lang/Exception"]).filter goodWord, w ∈ lw_tbl := by decide +kernel
theorem wsL_law_x1 : ∀ w ∈ (vx_atS RX2 181 "java/lang/IndexOutOfBoundsException" ["java/lang/RuntimeException", "java/lang/Exception"]).filter goodWord, w ∈ lw_tbl := by decide +kernel
theorem wsL_law_x2 : ∀ w ∈ (vx_atS RX2 47 "java/lang/IllegalStateException" ["java/lang/RuntimeException", "java/lang/Exception"]).filter goodWord, w ∈ lw_tbl := by decide +kernel
theorem wsL_law_in : ∀ w ∈ wsL_law, w ∈ lw_tbl := fun w h => (List.mem_append.mp h).elim (fun h => (List.mem_append.mp h).elim (fun h => (List.mem_append.mp h).elim (fun h => wsL_law_in0 w h) (fun h => wsL_law_x0 w h)) (fun h => wsL_law_x1 w h)) (fun h => wsL_law_x2 w h)
theorem inlX0 : ∀ w ∈ wsX00, w ∈ wsL_law := fun _ h => List.mem_append_left _ (List.mem_append_left _ (List.mem_append_left _ (List.mem_append_left _ (List.mem_append_left _ (List.mem_append_right _ h)))))
theorem inX0 : ∀ w ∈ wsX00, w ∈ lw_tbl := fun w h => wsL_law_in w (inlX0 w h)
theorem inlX1 : ∀ w ∈ wsX10, w ∈ wsL_law := fun _ h => List.mem_append_left _ (List.mem_append_left _ (List.mem_append_left _ (List.mem_append_left _ (List.mem_append_right _ h))))
theorem inX1 : ∀ w ∈ wsX10, w ∈ lw_tbl := fun w h => wsL_law_in w (inlX1 w h)
theorem inlX2 : ∀ w ∈ wsX20, w ∈ wsL_law := fun _ h => List.mem_append_left _ (List.mem_append_left _ (List.mem_append_left _ (List.mem_append_left _ (List.mem_append_left _ (List.mem_append_left _ (List.mem_append_right _ h))))))
theorem inX2 : ∀ w ∈ wsX20, w ∈ lw_tbl := fun w h => wsL_law_in w (inlX2 w h)
theorem inX3 : ∀ w ∈ wsX30, w ∈ lw_tbl := by decide +kernel
theorem inJx145de : ∀ w ∈ wsJx145de0, w ∈ lw_tbl := by decide +kernel
theorem inJx8e188 : ∀ w ∈ wsJx8e1880, w ∈ lw_tbl := by decide +kernel
theorem inJ6 : ∀ w ∈ wsJ60, w ∈ lw_tbl := by decide +kernel
theorem inJ9 : ∀ w ∈ wsJ90, w ∈ lw_tbl := by decide +kernel
theorem inJ0 : ∀ w ∈ wsJ00, w ∈ lw_tbl := by decide +kernel
theorem inJ10 : ∀ w ∈ wsJ100, w ∈ lw_tbl := by decide +kernel
theorem inJ7 : ∀ w ∈ wsJ70, w ∈ lw_tbl := by decide +kernel
