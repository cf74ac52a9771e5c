set_option maxRecDepth 20000 in
theorem ggL_pending_X2_pending : GoodIn wsL_pending wsX2_pending := goodIn_ca (goodIn_r _ [6, 7, 8, 9, 10, 5, 11, 12, 13, 14, 15, 16, 17, 18, 19, 20, 21, 22, 23, 24, 25, 26, 27, 28, 29, 30, 31, 32, 33, 34, 35, 36, 37, 38, 39, 40, 41, 42] (by decide +kernel) (by decide +kernel)) (goodIn_sub (fun _ h => List.mem_cons_of_mem _ (List.mem_append_right _ h)) (by decide +kernel))
set_option maxRecDepth 20000 in
theorem gL_pending_X2_pending : GoodIn wsL_pending (wsV RL 88 RX2 yX2_pending wsX2_pending) := goodIn_app (goodIn_of _ (by decide +kernel)) ggL_pending_X2_pending
set_option maxRecDepth 20000 in
theorem ggL_caught_X2_caught : GoodIn wsL_caught wsX2_caught := goodIn_ca (goodIn_r _ [6, 7, 8, 9, 10, 5, 11, 12, 13, 14, 15, 16, 17, 18, 19, 20, 21, 22, 23, 24, 25, 26, 27, 28, 29, 30, 31, 32, 33, 34, 35, 36, 37, 38, 39, 40, 41, 42] (by decide +kernel) (by decide +kernel)) (goodIn_sub (fun _ h => List.mem_cons_of_mem _ (List.mem_append_right _ h)) (by decide +kernel))
set_option maxRecDepth 20000 in
theorem gL_caught_X2_caught : GoodIn wsL_caught (wsV RL 91 RX2 yX2_caught wsX2_caught) := goodIn_app (goodIn_of _ (by decide +kernel)) ggL_caught_X2_caught
set_option maxRecDepth 20000 in
theorem ggL_isOrphaned_X2_isOrphaned : GoodIn wsL_isOrphaned wsX2_isOrphaned := goodIn_ca (goodIn_r _ [6, 7, 8, 5, 9, 10, 11, 12, 13, 14, 15, 16, 17, 18, 19, 20, 21, 22, 23, 24, 25, 26, 27, 28, 29, 30, 31, 32, 33, 34, 35, 36, 37, 38, 39, 40, 41, 42, 43, 44, 45, 46, 47, 48, 49, 50, 51, 52, 53, 54, 55, 56] (by decide +kernel) (by decide +kernel)) (goodIn_sub (fun _ h => List.mem_cons_of_mem _ (List.mem_append_right _ h)) (by decide +kernel))
set_option maxRecDepth 20000 in
theorem gL_isOrphaned_X2_isOrphaned : GoodIn wsL_isOrphaned (wsV RL 94 RX2 yX2_isOrphaned wsX2_isOrphaned) := goodIn_app (goodIn_of _ (by decide +kernel)) ggL_isOrphaned_X2_isOrphaned
