set_option maxRecDepth 20000 in
theorem wsL_law_q29 : ∀ w ∈ wsL_law0_r29, w ∈ lw_tbl := zIn_r _ [683, 684, 1010, 1011, 1012, 1013, 685, 686, 687, 688, 689, 690, 691, 1014, 1015, 1016, 1017, 692, 693, 694, 695, 696, 697, 698] (by decide +kernel)
set_option maxRecDepth 20000 in
theorem wsL_law_q30 : ∀ w ∈ wsL_law0_r30, w ∈ lw_tbl := zIn_r _ [139, 1018, 1019, 1020, 1021, 699, 700, 701, 702, 703, 704, 705, 1022, 1023, 1024, 1025, 204, 205, 206, 207, 1026, 1027, 1028, 1029] (by decide +kernel)
set_option maxRecDepth 20000 in
theorem wsL_law_q31 : ∀ w ∈ wsL_law0_r31, w ∈ lw_tbl := zIn_r _ [1030, 1032, 50, 1033, 208, 209, 210, 211, 1034, 1035, 1036, 1037, 706, 707, 708, 709, 710, 711, 712, 141, 1038, 1039, 1040, 1041] (by decide +kernel)
set_option maxRecDepth 20000 in
theorem wsL_law_q32 : ∀ w ∈ wsL_law0_r32, w ∈ lw_tbl := zIn_r _ [713, 714, 715, 716, 717, 718, 719, 143, 1042, 1043, 1044, 1045, 720, 721, 722, 723, 724, 725, 726, 145, 1046, 1047, 1048, 1049] (by decide +kernel)
set_option maxRecDepth 20000 in
theorem wsL_law_y2 : ∀ w ∈ wsX20, w ∈ lw_tbl := zIn_r _ [191, 193, 195, 197] (by decide +kernel)
set_option maxRecDepth 20000 in
theorem wsL_law_y3 : ∀ w ∈ wsX30, w ∈ lw_tbl := zIn_r _ [762, 764, 766, 768, 770, 772, 774, 776, 778, 780, 782, 784, 786, 788, 790, 792, 794, 796, 798, 800, 802, 804, 806, 808, 810, 812, 814, 816, 818] (by decide +kernel)
set_option maxRecDepth 20000 in
theorem wsL_law_y0 : ∀ w ∈ wsX00, w ∈ lw_tbl := zIn_r _ [90, 92, 94, 96, 98, 100] (by decide +kernel)
set_option maxRecDepth 20000 in
theorem wsL_law_y1 : ∀ w ∈ wsX10, w ∈ lw_tbl := zIn_r _ [146, 148, 150, 152, 154, 156, 158, 160, 162, 164, 166, 168, 170, 172, 174, 176, 178, 180, 182, 184] (by decide +kernel)
theorem wsL_law_in0 : ∀ w ∈ wsL_law0, w ∈ lw_tbl := by
  intro w h
  unfold wsL_law0 at h
  rcases List.mem_append.mp h with h | h
  rcases List.mem_append.mp h with h | h
  rcases List.mem_append.mp h with h | h
  rcases List.mem_append.mp h with h | h
  rcases List.mem_append.mp h with h | h
  rcases List.mem_append.mp h with h | h
  · exact wsL_law_q1 w h
  rcases List.mem_append.mp h with h | h
  · exact wsL_law_q2 w h
  rcases List.mem_append.mp h with h | h
  · exact wsL_law_q3 w h
  rcases List.mem_append.mp h with h | h
  · exact wsL_law_q4 w h
  rcases List.mem_append.mp h with h | h
  · exact wsL_law_q5 w h
  rcases List.mem_append.mp h with h | h
  · exact wsL_law_q6 w h
  rcases List.mem_append.mp h with h | h
  · exact wsL_law_q7 w h
  rcases List.mem_append.mp h with h | h
  · exact wsL_law_q8 w h
  rcases List.mem_append.mp h with h | h
  · exact wsL_law_q9 w h
  rcases List.mem_append.mp h with h | h
  · exact wsL_law_q10 w h
  rcases List.mem_append.mp h with h | h
  · exact wsL_law_q11 w h
  rcases List.mem_append.mp h with h | h
  · exact wsL_law_q12 w h
  rcases List.mem_append.mp h with h | h
  · exact wsL_law_q13 w h
  rcases List.mem_append.mp h with h | h
  · exact wsL_law_q14 w h
  rcases List.mem_append.mp h with h | h
  · exact wsL_law_q15 w h
  rcases List.mem_append.mp h with h | h
  · exact wsL_law_q16 w h
  rcases List.mem_append.mp h with h | h
  · exact wsL_law_q17 w h
  rcases List.mem_append.mp h with h | h
  · exact wsL_law_q18 w h
  rcases List.mem_append.mp h with h | h
  · exact wsL_law_q19 w h
  rcases List.mem_append.mp h with h | h
  · exact wsL_law_q20 w h
  rcases List.mem_append.mp h with h | h
  · exact wsL_law_q21 w h
  rcases List.mem_append.mp h with h | h
  · exact wsL_law_q22 w h
  rcases List.mem_append.mp h with h | h
  · exact wsL_law_q23 w h
  rcases List.mem_append.mp h with h | h
  · exact wsL_law_q24 w h
  rcases List.mem_append.mp h with h | h
  · exact wsL_law_q25 w h
  rcases List.mem_append.mp h with h | h
  · exact wsL_law_q26 w h
  rcases List.mem_append.mp h with h | h
  · exact wsL_law_q27 w h
  rcases List.mem_append.mp h with h | h
  · exact wsL_law_q28 w h
  rcases List.mem_append.mp h with h | h
  · exact wsL_law_q29 w h
  rcases List.mem_append.mp h with h | h
  · exact wsL_law_q30 w h
  rcases List.mem_append.mp h with h | h
  · exact wsL_law_q31 w h
  · exact wsL_law_q32 w h
  · exact wsL_law_y2 w h
  · exact wsL_law_y3 w h
  · exact wsL_law_y0 w h
  · exact wsL_law_y1 w h
  · exact absurd h List.not_mem_nil
theorem wsL_law_x0 : ∀ w ∈ (vx_atS RX2 47 "java/lang/IllegalStateException" ["java/lang/RuntimeException", "java/lang/Exception"]).filter goodWord, w ∈ lw_tbl := by decide +kernel
theorem wsL_law_x1 : ∀ w ∈ (vx_atS RX2 181 "java/lang/IndexOutOfBoundsException" ["java/lang/RuntimeException", "java/lang/Exception"]).filter goodWord, w ∈ lw_tbl := by decide +kernel
theorem wsL_law_x2 : ∀ w ∈ (vx_atS RX2 82 "java/lang/IllegalArgumentException" ["java/lang/RuntimeException", "java/lang/Exception"]).filter goodWord, w ∈ lw_tbl := by decide +kernel
theorem wsL_law_in : ∀ w ∈ wsL_law, w ∈ lw_tbl := fun w h => (List.mem_append.mp h).elim (fun h => (List.mem_append.mp h).elim (fun h => (List.mem_append.mp h).elim (fun h => wsL_law_in0 w h) (fun h => wsL_law_x0 w h)) (fun h => wsL_law_x1 w h)) (fun h => wsL_law_x2 w h)
theorem inlX0 : ∀ w ∈ wsX00, w ∈ wsL_law := fun _ h => List.mem_append_left _ (List.mem_append_left _ (List.mem_append_left _ (List.mem_append_left _ (List.mem_append_left _ (List.mem_append_right _ h)))))
theorem inX0 : ∀ w ∈ wsX00, w ∈ lw_tbl := fun w h => wsL_law_in w (inlX0 w h)
theorem inlX1 : ∀ w ∈ wsX10, w ∈ wsL_law := fun _ h => List.mem_append_left _ (List.mem_append_left _ (List.mem_append_left _ (List.mem_append_left _ (List.mem_append_right _ h))))
theorem inX1 : ∀ w ∈ wsX10, w ∈ lw_tbl := fun w h => wsL_law_in w (inlX1 w h)
theorem inlX2 : ∀ w ∈ wsX20, w ∈ wsL_law := fun _ h => List.mem_append_left _ (List.mem_append_left _ (List.mem_append_left _ (List.mem_append_left _ (List.mem_append_left _ (List.mem_append_left _ (List.mem_append_left _ (List.mem_append_right _ h)))))))
theorem inX2 : ∀ w ∈ wsX20, w ∈ lw_tbl := fun w h => wsL_law_in w (inlX2 w h)
theorem inlX3 : ∀ w ∈ wsX30, w ∈ wsL_law := fun _ h => List.mem_append_left _ (List.mem_append_left _ (List.mem_append_left _ (List.mem_append_left _ (List.mem_append_left _ (List.mem_append_left _ (List.mem_append_right _ h))))))
theorem inX3 : ∀ w ∈ wsX30, w ∈ lw_tbl := fun w h => wsL_law_in w (inlX3 w h)
theorem inJx145de : ∀ w ∈ wsJx145de0, w ∈ lw_tbl := by decide +kernel
theorem inJx8e188 : ∀ w ∈ wsJx8e1880, w ∈ lw_tbl := by decide +kernel
theorem inJ6 : ∀ w ∈ wsJ60, w ∈ lw_tbl := by decide +kernel
theorem inJ9 : ∀ w ∈ wsJ90, w ∈ lw_tbl := by decide +kernel
theorem inJ0 : ∀ w ∈ wsJ00, w ∈ lw_tbl := by decide +kernel
theorem inJ10 : ∀ w ∈ wsJ100, w ∈ lw_tbl := by decide +kernel
theorem inJ7 : ∀ w ∈ wsJ70, w ∈ lw_tbl := by decide +kernel
