set_option maxRecDepth 20000 in
theorem ggL_areAll_X2_processes : GoodIn wsL_areAll wsX2_processes := goodIn_r _ [114, 18, 120, 121, 122, 123] (by decide +kernel) (by decide +kernel)
set_option maxRecDepth 20000 in
theorem gL_areAll_X2_processes : GoodIn wsL_areAll (wsV RL 133 RX2 yX2_processes wsX2_processes) := goodIn_app (goodIn_of _ (by decide +kernel)) ggL_areAll_X2_processes
set_option maxRecDepth 20000 in
theorem ggL_areAll_X2_parent : GoodIn wsL_areAll wsX2_parent := goodIn_ca (goodIn_r _ [44, 45, 46, 27, 28, 29, 4, 30, 31, 32, 14, 15, 16, 17, 18, 124, 125, 126, 127, 128, 129, 130, 131, 132, 133, 134, 135, 136, 137, 138, 139, 140, 141, 142, 143, 120, 121, 122, 123] (by decide +kernel) (by decide +kernel)) (goodIn_sub (fun _ h => List.mem_cons_of_mem _ (List.mem_append_right _ h)) (by decide +kernel))
set_option maxRecDepth 20000 in
theorem gL_areAll_X2_parent : GoodIn wsL_areAll (wsV RL 100 RX2 yX2_parent wsX2_parent) := goodIn_app (goodIn_of _ (by decide +kernel)) ggL_areAll_X2_parent
set_option maxRecDepth 20000 in
theorem ggL_areAll_X2_group : GoodIn wsL_areAll wsX2_group := goodIn_ca (goodIn_r _ [55, 56, 27, 28, 29, 4, 30, 31, 32, 14, 15, 16, 17, 18, 124, 125, 126, 127, 128, 129, 130, 131, 132, 133, 134, 135, 136, 137, 138, 139, 140, 141, 142, 143, 120, 121, 122, 123] (by decide +kernel) (by decide +kernel)) (goodIn_sub (fun _ h => List.mem_cons_of_mem _ (List.mem_append_right _ h)) (by decide +kernel))
set_option maxRecDepth 20000 in
theorem gL_areAll_X2_group : GoodIn wsL_areAll (wsV RL 93 RX2 yX2_group wsX2_group) := goodIn_app (goodIn_of _ (by decide +kernel)) ggL_areAll_X2_group
set_option maxRecDepth 20000 in
theorem ggL_areAll_X2_pending : GoodIn wsL_areAll wsX2_pending := goodIn_ca (goodIn_r _ [50, 51, 27, 28, 29, 4, 30, 31, 32, 14, 15, 16, 17, 18, 124, 125, 126, 127, 128, 129, 130, 131, 132, 133, 134, 135, 136, 137, 138, 139, 140, 141, 142, 143, 120, 121, 122, 123] (by decide +kernel) (by decide +kernel)) (goodIn_sub (fun _ h => List.mem_cons_of_mem _ (List.mem_append_right _ h)) (by decide +kernel))
set_option maxRecDepth 20000 in
theorem gL_areAll_X2_pending : GoodIn wsL_areAll (wsV RL 103 RX2 yX2_pending wsX2_pending) := goodIn_app (goodIn_of _ (by decide +kernel)) ggL_areAll_X2_pending
set_option maxRecDepth 20000 in
theorem ggL_areAll_X2_caught : GoodIn wsL_areAll wsX2_caught := goodIn_ca (goodIn_r _ [118, 119, 27, 28, 29, 4, 30, 31, 32, 14, 15, 16, 17, 18, 124, 125, 126, 127, 128, 129, 130, 131, 132, 133, 134, 135, 136, 137, 138, 139, 140, 141, 142, 143, 120, 121, 122, 123] (by decide +kernel) (by decide +kernel)) (goodIn_sub (fun _ h => List.mem_cons_of_mem _ (List.mem_append_right _ h)) (by decide +kernel))
set_option maxRecDepth 20000 in
theorem gL_areAll_X2_caught : GoodIn wsL_areAll (wsV RL 136 RX2 yX2_caught wsX2_caught) := goodIn_app (goodIn_of _ (by decide +kernel)) ggL_areAll_X2_caught
set_option maxRecDepth 20000 in
theorem ggL_areAll_X2_waitResult : GoodIn wsL_areAll wsX2_waitResult := goodIn_ca (goodIn_r _ [68, 69, 27, 28, 29, 4, 30, 31, 32, 14, 15, 16, 17, 18, 124, 125, 126, 127, 128, 129, 130, 131, 132, 133, 134, 135, 136, 137, 138, 139, 140, 141, 142, 143, 120, 121, 122, 123] (by decide +kernel) (by decide +kernel)) (goodIn_sub (fun _ h => List.mem_cons_of_mem _ (List.mem_append_right _ h)) (by decide +kernel))
set_option maxRecDepth 20000 in
theorem gL_areAll_X2_waitResult : GoodIn wsL_areAll (wsV RL 109 RX2 yX2_waitResult wsX2_waitResult) := goodIn_app (goodIn_of _ (by decide +kernel)) ggL_areAll_X2_waitResult
set_option maxRecDepth 20000 in
theorem ggL_free_X2_exists : GoodIn wsL_free wsX2_exists := goodIn_ca (goodIn_r _ [5, 6, 7, 4, 8, 9, 10, 11, 12, 13, 14, 15, 16, 17, 18, 35, 36, 37, 38] (by decide +kernel) (by decide +kernel)) (goodIn_sub (fun _ h => List.mem_cons_of_mem _ (List.mem_append_left _ (List.mem_append_right _ h))) (by decide +kernel))
set_option maxRecDepth 20000 in
theorem gL_free_X2_exists : GoodIn wsL_free (wsV RL 86 RX2 yX2_exists wsX2_exists) := goodIn_app (goodIn_of _ (by decide +kernel)) ggL_free_X2_exists
set_option maxRecDepth 20000 in
theorem ggL_free_X2_group : GoodIn wsL_free wsX2_group := goodIn_ca (goodIn_r _ [22, 23, 24, 25, 26, 4, 27, 28, 29, 14, 15, 16, 17, 18, 39, 40, 41, 42, 43, 44, 45, 46, 47, 48, 49, 50, 51, 52, 53, 54, 55, 56, 57, 58, 35, 36, 37, 38] (by decide +kernel) (by decide +kernel)) (goodIn_sub (fun _ h => List.mem_cons_of_mem _ (List.mem_append_right _ h)) (by decide +kernel))
set_option maxRecDepth 20000 in
theorem gL_free_X2_group : GoodIn wsL_free (wsV RL 93 RX2 yX2_group wsX2_group) := goodIn_app (goodIn_of _ (by decide +kernel)) ggL_free_X2_group
set_option maxRecDepth 20000 in
theorem ggL_free_X2_session : GoodIn wsL_free wsX2_session := goodIn_ca (goodIn_r _ [33, 34, 24, 25, 26, 4, 27, 28, 29, 14, 15, 16, 17, 18, 39, 40, 41, 42, 43, 44, 45, 46, 47, 48, 49, 50, 51, 52, 53, 54, 55, 56, 57, 58, 35, 36, 37, 38] (by decide +kernel) (by decide +kernel)) (goodIn_sub (fun _ h => List.mem_cons_of_mem _ (List.mem_append_right _ h)) (by decide +kernel))
set_option maxRecDepth 20000 in
theorem gL_free_X2_session : GoodIn wsL_free (wsV RL 106 RX2 yX2_session wsX2_session) := goodIn_app (goodIn_of _ (by decide +kernel)) ggL_free_X2_session
