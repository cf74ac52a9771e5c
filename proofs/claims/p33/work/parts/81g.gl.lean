set_option maxRecDepth 20000 in
theorem ggL_isForked_X2_state : GoodIn wsL_isForked wsX2_state := goodIn_ca (goodIn_r _ [5, 6, 7, 8, 4, 9, 10, 11, 12, 13, 14, 15, 16, 17, 18, 19, 20, 21, 22, 23, 24, 115, 116, 117, 118, 119, 120, 121, 122, 123, 124, 125, 126, 127, 128, 129, 130, 131, 132, 133, 134, 135, 136, 137, 138] (by decide +kernel) (by decide +kernel)) (goodIn_sub (fun _ h => List.mem_cons_of_mem _ (List.mem_append_left _ (List.mem_append_left _ (List.mem_append_right _ h)))) (by decide +kernel))
set_option maxRecDepth 20000 in
theorem gL_isForked_X2_state : GoodIn wsL_isForked (wsV RL 90 RX2 yX2_state wsX2_state) := goodIn_app (goodIn_of _ (by decide +kernel)) ggL_isForked_X2_state
set_option maxRecDepth 20000 in
theorem ggL_isForked_L_free : GoodIn wsL_isForked wsL_free := goodIn_ca (goodIn_ca (goodIn_r _ [28, 29, 30, 31, 4, 32, 33, 34, 35, 36, 37, 38, 39, 40, 12, 13, 14, 15, 16, 41, 42, 43, 44, 45, 6, 7, 8, 9, 10, 11, 46, 47, 48, 49, 50, 115, 116, 117, 118, 119, 120, 121, 122, 123, 124, 125, 126, 127, 128, 129, 130, 131, 132, 133, 134, 135, 136, 137, 138] (by decide +kernel) (by decide +kernel)) (goodIn_sub (fun _ h => List.mem_cons_of_mem _ (List.mem_append_left _ (List.mem_append_right _ h))) (by decide +kernel))) (goodIn_sub (fun _ h => List.mem_cons_of_mem _ (List.mem_append_left _ (List.mem_append_left _ (List.mem_append_right _ h)))) (by decide +kernel))
set_option maxRecDepth 20000 in
theorem gL_isForked_L_free : GoodIn wsL_isForked (va_wsS RL 139 yL_free wsL_free) := goodIn_app (goodIn_of _ (by decide +kernel)) ggL_isForked_L_free
set_option maxRecDepth 20000 in
theorem ggL_isForked_L_forks : GoodIn wsL_isForked wsL_forks := goodIn_ca (goodIn_ca (goodIn_r _ [53, 54, 55, 56, 57, 58, 4, 59, 60, 61, 62, 63, 20, 16, 6, 7, 8, 9, 10, 11, 12, 13, 14, 15, 64, 65, 66, 67, 68, 45, 50, 69, 70, 71, 17, 18, 19, 21, 22, 23, 24, 72, 73, 74, 75, 76, 77, 78, 79, 80, 81, 82, 83, 84, 85, 86, 87, 88, 89, 90, 91, 92, 93, 94, 119, 120, 121, 122, 123, 124, 125, 126, 127, 128, 129, 130, 131, 132, 133, 134, 135, 136, 137, 138, 115, 116, 117, 118] (by decide +kernel) (by decide +kernel)) (goodIn_sub (fun _ h => List.mem_cons_of_mem _ (List.mem_append_right _ h)) (by decide +kernel))) (goodIn_sub (fun _ h => List.mem_cons_of_mem _ (List.mem_append_left _ (List.mem_append_left _ (List.mem_append_right _ h)))) (by decide +kernel))
set_option maxRecDepth 20000 in
theorem gL_isForked_L_forks : GoodIn wsL_isForked (va_wsS RL 143 yL_forks wsL_forks) := goodIn_app (goodIn_of _ (by decide +kernel)) ggL_isForked_L_forks
set_option maxRecDepth 20000 in
theorem ggL_isForked_X2_parent : GoodIn wsL_isForked wsX2_parent := goodIn_ca (goodIn_r _ [98, 99, 68, 6, 7, 8, 4, 9, 10, 11, 12, 13, 14, 15, 16, 119, 120, 121, 122, 123, 124, 125, 126, 127, 128, 129, 130, 131, 132, 133, 134, 135, 136, 137, 138, 115, 116, 117, 118] (by decide +kernel) (by decide +kernel)) (goodIn_sub (fun _ h => List.mem_cons_of_mem _ (List.mem_append_left _ (List.mem_append_left _ (List.mem_append_right _ h)))) (by decide +kernel))
set_option maxRecDepth 20000 in
theorem gL_isForked_X2_parent : GoodIn wsL_isForked (wsV RL 100 RX2 yX2_parent wsX2_parent) := goodIn_app (goodIn_of _ (by decide +kernel)) ggL_isForked_X2_parent
set_option maxRecDepth 20000 in
theorem ggL_isForked_X2_group : GoodIn wsL_isForked wsX2_group := goodIn_ca (goodIn_r _ [44, 45, 6, 7, 8, 4, 9, 10, 11, 12, 13, 14, 15, 16, 119, 120, 121, 122, 123, 124, 125, 126, 127, 128, 129, 130, 131, 132, 133, 134, 135, 136, 137, 138, 115, 116, 117, 118] (by decide +kernel) (by decide +kernel)) (goodIn_sub (fun _ h => List.mem_cons_of_mem _ (List.mem_append_left _ (List.mem_append_left _ (List.mem_append_right _ h)))) (by decide +kernel))
set_option maxRecDepth 20000 in
theorem gL_isForked_X2_group : GoodIn wsL_isForked (wsV RL 93 RX2 yX2_group wsX2_group) := goodIn_app (goodIn_of _ (by decide +kernel)) ggL_isForked_X2_group
set_option maxRecDepth 20000 in
theorem ggL_isForked_X2_session : GoodIn wsL_isForked wsX2_session := goodIn_ca (goodIn_r _ [49, 50, 6, 7, 8, 4, 9, 10, 11, 12, 13, 14, 15, 16, 119, 120, 121, 122, 123, 124, 125, 126, 127, 128, 129, 130, 131, 132, 133, 134, 135, 136, 137, 138, 115, 116, 117, 118] (by decide +kernel) (by decide +kernel)) (goodIn_sub (fun _ h => List.mem_cons_of_mem _ (List.mem_append_left _ (List.mem_append_left _ (List.mem_append_right _ h)))) (by decide +kernel))
set_option maxRecDepth 20000 in
theorem gL_isForked_X2_session : GoodIn wsL_isForked (wsV RL 106 RX2 yX2_session wsX2_session) := goodIn_app (goodIn_of _ (by decide +kernel)) ggL_isForked_X2_session
set_option maxRecDepth 20000 in
theorem ggL_isForked_X2_pending : GoodIn wsL_isForked wsX2_pending := goodIn_ca (goodIn_r _ [103, 104, 6, 7, 8, 4, 9, 10, 11, 12, 13, 14, 15, 16, 119, 120, 121, 122, 123, 124, 125, 126, 127, 128, 129, 130, 131, 132, 133, 134, 135, 136, 137, 138, 115, 116, 117, 118] (by decide +kernel) (by decide +kernel)) (goodIn_sub (fun _ h => List.mem_cons_of_mem _ (List.mem_append_left _ (List.mem_append_left _ (List.mem_append_right _ h)))) (by decide +kernel))
set_option maxRecDepth 20000 in
theorem gL_isForked_X2_pending : GoodIn wsL_isForked (wsV RL 103 RX2 yX2_pending wsX2_pending) := goodIn_app (goodIn_of _ (by decide +kernel)) ggL_isForked_X2_pending
set_option maxRecDepth 20000 in
theorem ggL_isForked_X2_caught : GoodIn wsL_isForked wsX2_caught := goodIn_ca (goodIn_r _ [108, 109, 6, 7, 8, 4, 9, 10, 11, 12, 13, 14, 15, 16, 119, 120, 121, 122, 123, 124, 125, 126, 127, 128, 129, 130, 131, 132, 133, 134, 135, 136, 137, 138, 115, 116, 117, 118] (by decide +kernel) (by decide +kernel)) (goodIn_sub (fun _ h => List.mem_cons_of_mem _ (List.mem_append_left _ (List.mem_append_left _ (List.mem_append_right _ h)))) (by decide +kernel))
set_option maxRecDepth 20000 in
theorem gL_isForked_X2_caught : GoodIn wsL_isForked (wsV RL 136 RX2 yX2_caught wsX2_caught) := goodIn_app (goodIn_of _ (by decide +kernel)) ggL_isForked_X2_caught
set_option maxRecDepth 20000 in
theorem ggL_isForked_X2_waitResult : GoodIn wsL_isForked wsX2_waitResult := goodIn_ca (goodIn_r _ [113, 114, 6, 7, 8, 4, 9, 10, 11, 12, 13, 14, 15, 16, 119, 120, 121, 122, 123, 124, 125, 126, 127, 128, 129, 130, 131, 132, 133, 134, 135, 136, 137, 138, 115, 116, 117, 118] (by decide +kernel) (by decide +kernel)) (goodIn_sub (fun _ h => List.mem_cons_of_mem _ (List.mem_append_left _ (List.mem_append_left _ (List.mem_append_right _ h)))) (by decide +kernel))
set_option maxRecDepth 20000 in
theorem gL_isForked_X2_waitResult : GoodIn wsL_isForked (wsV RL 109 RX2 yX2_waitResult wsX2_waitResult) := goodIn_app (goodIn_of _ (by decide +kernel)) ggL_isForked_X2_waitResult
