set_option maxRecDepth 20000 in
theorem ggL_waitResult_X2_waitResult : GoodIn wsL_waitResult wsX2_waitResult := goodIn_ca (goodIn_r _ [6, 7, 8, 9, 10, 5, 11, 12, 13, 14, 15, 16, 17, 18, 19, 20, 21, 22, 23, 24, 25, 26, 27, 28, 29, 30, 31, 32, 33, 34, 35, 36, 37, 38, 39, 40, 41, 42] (by decide +kernel) (by decide +kernel)) (goodIn_sub (fun _ h => List.mem_cons_of_mem _ (List.mem_append_right _ h)) (by decide +kernel))
set_option maxRecDepth 20000 in
theorem gL_waitResult_X2_waitResult : GoodIn wsL_waitResult (wsV RL 97 RX2 yX2_waitResult wsX2_waitResult) := goodIn_app (goodIn_of _ (by decide +kernel)) ggL_waitResult_X2_waitResult
set_option maxRecDepth 20000 in
theorem ggL_reportedChild_X2_reportedChild : GoodIn wsL_reportedChild wsX2_reportedChild := goodIn_ca (goodIn_r _ [6, 7, 8, 9, 10, 5, 11, 12, 13, 14, 15, 16, 17, 18, 19, 20, 21, 22, 23, 24, 25, 26, 27, 28, 29, 30, 31, 32, 33, 34, 35, 36, 37, 38, 39, 40, 41, 42] (by decide +kernel) (by decide +kernel)) (goodIn_sub (fun _ h => List.mem_cons_of_mem _ (List.mem_append_right _ h)) (by decide +kernel))
set_option maxRecDepth 20000 in
theorem gL_reportedChild_X2_reportedChild : GoodIn wsL_reportedChild (wsV RL 100 RX2 yX2_reportedChild wsX2_reportedChild) := goodIn_app (goodIn_of _ (by decide +kernel)) ggL_reportedChild_X2_reportedChild
set_option maxRecDepth 20000 in
theorem ggL_reportedValue_X2_reportedValue : GoodIn wsL_reportedValue wsX2_reportedValue := goodIn_ca (goodIn_r _ [6, 7, 8, 9, 10, 5, 11, 12, 13, 14, 15, 16, 17, 18, 19, 20, 21, 22, 23, 24, 25, 26, 27, 28, 29, 30, 31, 32, 33, 34, 35, 36, 37, 38, 39, 40, 41, 42] (by decide +kernel) (by decide +kernel)) (goodIn_sub (fun _ h => List.mem_cons_of_mem _ (List.mem_append_right _ h)) (by decide +kernel))
set_option maxRecDepth 20000 in
theorem gL_reportedValue_X2_reportedValue : GoodIn wsL_reportedValue (wsV RL 103 RX2 yX2_reportedValue wsX2_reportedValue) := goodIn_app (goodIn_of _ (by decide +kernel)) ggL_reportedValue_X2_reportedValue
