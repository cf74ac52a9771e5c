set_option maxRecDepth 20000 in
theorem wsL_law_q5 : ∀ w ∈ wsL_law0_r5, w ∈ lw_tbl := zIn_r _ [626, 627, 628, 629, 630, 89, 631, 632, 633, 634, 114, 635, 636, 637, 638, 116, 639, 640, 641, 642, 118, 643, 644, 645] (by decide +kernel)
set_option maxRecDepth 20000 in
theorem wsL_law_q6 : ∀ w ∈ wsL_law0_r6, w ∈ lw_tbl := zIn_r _ [646, 352, 354, 5, 355, 356, 357, 358, 359, 84, 270, 271, 272, 647, 648, 649, 177, 178, 179, 180, 650, 651, 652, 653] (by decide +kernel)
set_option maxRecDepth 20000 in
theorem wsL_law_q7a : ∀ w ∈ ([Cond.methodLink RL 133 yX2_processes, Cond.instanceMethod yX2_processes, Cond.selects RX2 yX2_processes yX2_processes, Cond.code yX2_processes cX2_processes 6 (some .int), Cond.methodLink RL 136 yX2_caught, Cond.instanceMethod yX2_caught, Cond.selects RX2 yX2_caught yX2_caught, Cond.code yX2_caught cX2_caught 2 (some .int), Cond.fieldLink RX2 157 "Signalpost$Proc" "caught" "I", Cond.methodLink RL 233 yL_isDone, Cond.static yL_isDone] : List Cond), w ∈ lw_tbl := zIn_r _ [173, 174, 175, 176, 654, 655, 656, 657, 112, 658, 659] (by decide +kernel)
set_option maxRecDepth 20000 in
theorem wsL_law_q7b : ∀ w ∈ ([Cond.methodLink RL 183 yL_part, Cond.static yL_part, Cond.code yL_part cL_part 4 (some .int), Cond.constant RL 7 (2147483647), Cond.methodLink RL 187 yL_pid, Cond.static yL_pid, Cond.code yL_pid cL_pid 3 (some .int), Cond.methodLink RL 190 yL_isForked, Cond.static yL_isForked, Cond.code yL_isForked cL_isForked 4 (some .boolean), Cond.methodLink RL 139 yL_free, Cond.static yL_free] : List Cond), w ∈ lw_tbl := zIn_r _ [661, 662, 663, 664, 665, 666, 667, 668, 669, 670, 671, 672] (by decide +kernel)
set_option maxRecDepth 20000 in
theorem wsL_law_q7c : Cond.code yL_isDone cL_isDone 10 (some .boolean) ∈ lw_tbl := List.mem_of_getElem? (i := 660) rfl
set_option maxRecDepth 20000 in
theorem wsL_law_q7 : ∀ w ∈ wsL_law0_r7, w ∈ lw_tbl := by
  intro w h
  have e : wsL_law0_r7 = [Cond.methodLink RL 133 yX2_processes, Cond.instanceMethod yX2_processes, Cond.selects RX2 yX2_processes yX2_processes, Cond.code yX2_processes cX2_processes 6 (some .int), Cond.methodLink RL 136 yX2_caught, Cond.instanceMethod yX2_caught, Cond.selects RX2 yX2_caught yX2_caught, Cond.code yX2_caught cX2_caught 2 (some .int), Cond.fieldLink RX2 157 "Signalpost$Proc" "caught" "I", Cond.methodLink RL 233 yL_isDone, Cond.static yL_isDone] ++ (Cond.code yL_isDone cL_isDone 10 (some .boolean) :: [Cond.methodLink RL 183 yL_part, Cond.static yL_part, Cond.code yL_part cL_part 4 (some .int), Cond.constant RL 7 (2147483647), Cond.methodLink RL 187 yL_pid, Cond.static yL_pid, Cond.code yL_pid cL_pid 3 (some .int), Cond.methodLink RL 190 yL_isForked, Cond.static yL_isForked, Cond.code yL_isForked cL_isForked 4 (some .boolean), Cond.methodLink RL 139 yL_free, Cond.static yL_free]) := rfl
  rw [e] at h
  rcases List.mem_append.mp h with h | h
  · exact wsL_law_q7a w h
  · rcases List.mem_cons.mp h with h | h
    · rw [h]; exact wsL_law_q7c
    · exact wsL_law_q7b w h
set_option maxRecDepth 20000 in
theorem wsL_law_q8 : ∀ w ∈ wsL_law0_r8, w ∈ lw_tbl := zIn_r _ [673, 181, 182, 183, 184, 185, 186, 187, 188, 189, 277, 34, 266, 268, 3, 269, 293, 294, 295, 296, 105, 106, 107, 674] (by decide +kernel)
