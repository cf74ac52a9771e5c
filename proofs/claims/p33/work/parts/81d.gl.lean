set_option maxRecDepth 20000 in
theorem ggL_members_L_isMember : GoodIn wsL_members wsL_isMember := goodIn_ca (goodIn_ca (goodIn_r _ [4, 5, 6, 7, 8, 9, 10, 11, 12, 13, 14, 15, 16, 17, 18, 19, 20, 21, 22, 23, 24, 25, 26, 27, 28, 29, 30, 31, 32, 33, 34, 35, 36, 37, 38, 39, 40, 41, 42, 43, 44, 45, 46, 47, 48, 49, 50, 51, 52, 53, 54, 55, 56, 57, 58, 59, 60, 61, 62, 63, 64, 65, 66, 67, 68, 69] (by decide +kernel) (by decide +kernel)) (goodIn_sub (fun _ h => List.mem_cons_of_mem _ (List.mem_append_left _ (List.mem_append_right _ h))) (by decide +kernel))) (goodIn_sub (fun _ h => List.mem_cons_of_mem _ (List.mem_append_right _ h)) (by decide +kernel))
set_option maxRecDepth 20000 in
theorem gL_members_L_isMember : GoodIn wsL_members (va_wsS RL 96 yL_isMember wsL_isMember) := goodIn_app (goodIn_of _ (by decide +kernel)) ggL_members_L_isMember
set_option maxRecDepth 20000 in
theorem ggL_isSound_X2_state : GoodIn wsL_isSound wsX2_state := goodIn_ca (goodIn_r _ [5, 6, 7, 8, 4, 9, 10, 11, 12, 13, 14, 15, 16, 17, 18, 19, 20, 21, 22, 23, 24, 77, 78, 79, 80, 81, 82, 83, 84, 85, 86, 87, 88, 89, 90, 91, 92, 93, 94, 95, 96, 97, 98, 99, 100] (by decide +kernel) (by decide +kernel)) (goodIn_sub (fun _ h => List.mem_cons_of_mem _ (List.mem_append_left _ (List.mem_append_right _ h))) (by decide +kernel))
set_option maxRecDepth 20000 in
theorem gL_isSound_X2_state : GoodIn wsL_isSound (wsV RL 90 RX2 yX2_state wsX2_state) := goodIn_app (goodIn_of _ (by decide +kernel)) ggL_isSound_X2_state
set_option maxRecDepth 20000 in
theorem ggL_isSound_X2_parent : GoodIn wsL_isSound wsX2_parent := goodIn_ca (goodIn_r _ [28, 29, 30, 6, 7, 8, 4, 9, 10, 11, 12, 13, 14, 15, 16, 81, 82, 83, 84, 85, 86, 87, 88, 89, 90, 91, 92, 93, 94, 95, 96, 97, 98, 99, 100, 77, 78, 79, 80] (by decide +kernel) (by decide +kernel)) (goodIn_sub (fun _ h => List.mem_cons_of_mem _ (List.mem_append_left _ (List.mem_append_right _ h))) (by decide +kernel))
set_option maxRecDepth 20000 in
theorem gL_isSound_X2_parent : GoodIn wsL_isSound (wsV RL 100 RX2 yX2_parent wsX2_parent) := goodIn_app (goodIn_of _ (by decide +kernel)) ggL_isSound_X2_parent
set_option maxRecDepth 20000 in
theorem ggL_isSound_X2_exists : GoodIn wsL_isSound wsX2_exists := goodIn_ca (goodIn_r _ [34, 35, 36, 4, 37, 38, 39, 40, 41, 42, 12, 13, 14, 15, 16, 77, 78, 79, 80] (by decide +kernel) (by decide +kernel)) (goodIn_sub (fun _ h => List.mem_cons_of_mem _ (List.mem_append_right _ h)) (by decide +kernel))
set_option maxRecDepth 20000 in
theorem gL_isSound_X2_exists : GoodIn wsL_isSound (wsV RL 86 RX2 yX2_exists wsX2_exists) := goodIn_app (goodIn_of _ (by decide +kernel)) ggL_isSound_X2_exists
set_option maxRecDepth 20000 in
theorem ggL_isSound_X2_pending : GoodIn wsL_isSound wsX2_pending := goodIn_ca (goodIn_r _ [46, 47, 6, 7, 8, 4, 9, 10, 11, 12, 13, 14, 15, 16, 81, 82, 83, 84, 85, 86, 87, 88, 89, 90, 91, 92, 93, 94, 95, 96, 97, 98, 99, 100, 77, 78, 79, 80] (by decide +kernel) (by decide +kernel)) (goodIn_sub (fun _ h => List.mem_cons_of_mem _ (List.mem_append_left _ (List.mem_append_right _ h))) (by decide +kernel))
set_option maxRecDepth 20000 in
theorem gL_isSound_X2_pending : GoodIn wsL_isSound (wsV RL 103 RX2 yX2_pending wsX2_pending) := goodIn_app (goodIn_of _ (by decide +kernel)) ggL_isSound_X2_pending
set_option maxRecDepth 20000 in
theorem ggL_isSound_X2_group : GoodIn wsL_isSound wsX2_group := goodIn_ca (goodIn_r _ [51, 52, 6, 7, 8, 4, 9, 10, 11, 12, 13, 14, 15, 16, 81, 82, 83, 84, 85, 86, 87, 88, 89, 90, 91, 92, 93, 94, 95, 96, 97, 98, 99, 100, 77, 78, 79, 80] (by decide +kernel) (by decide +kernel)) (goodIn_sub (fun _ h => List.mem_cons_of_mem _ (List.mem_append_left _ (List.mem_append_right _ h))) (by decide +kernel))
set_option maxRecDepth 20000 in
theorem gL_isSound_X2_group : GoodIn wsL_isSound (wsV RL 93 RX2 yX2_group wsX2_group) := goodIn_app (goodIn_of _ (by decide +kernel)) ggL_isSound_X2_group
set_option maxRecDepth 20000 in
theorem ggL_isSound_L_isMember : GoodIn wsL_isSound wsL_isMember := goodIn_ca (goodIn_ca (goodIn_r _ [56, 31, 32, 33, 4, 34, 35, 36, 37, 38, 39, 40, 41, 42, 12, 13, 14, 15, 16, 1, 2, 3, 5, 6, 7, 8, 9, 10, 11, 17, 18, 19, 20, 21, 22, 23, 24, 48, 49, 50, 51, 52, 77, 78, 79, 80, 81, 82, 83, 84, 85, 86, 87, 88, 89, 90, 91, 92, 93, 94, 95, 96, 97, 98, 99, 100] (by decide +kernel) (by decide +kernel)) (goodIn_sub (fun _ h => List.mem_cons_of_mem _ (List.mem_append_right _ h)) (by decide +kernel))) (goodIn_sub (fun _ h => List.mem_cons_of_mem _ (List.mem_append_left _ (List.mem_append_right _ h))) (by decide +kernel))
set_option maxRecDepth 20000 in
theorem gL_isSound_L_isMember : GoodIn wsL_isSound (va_wsS RL 96 yL_isMember wsL_isMember) := goodIn_app (goodIn_of _ (by decide +kernel)) ggL_isSound_L_isMember
set_option maxRecDepth 20000 in
theorem ggL_isSound_X2_session : GoodIn wsL_isSound wsX2_session := goodIn_ca (goodIn_r _ [60, 61, 6, 7, 8, 4, 9, 10, 11, 12, 13, 14, 15, 16, 81, 82, 83, 84, 85, 86, 87, 88, 89, 90, 91, 92, 93, 94, 95, 96, 97, 98, 99, 100, 77, 78, 79, 80] (by decide +kernel) (by decide +kernel)) (goodIn_sub (fun _ h => List.mem_cons_of_mem _ (List.mem_append_left _ (List.mem_append_right _ h))) (by decide +kernel))
set_option maxRecDepth 20000 in
theorem gL_isSound_X2_session : GoodIn wsL_isSound (wsV RL 106 RX2 yX2_session wsX2_session) := goodIn_app (goodIn_of _ (by decide +kernel)) ggL_isSound_X2_session
set_option maxRecDepth 20000 in
theorem ggL_isSound_X2_waitResult : GoodIn wsL_isSound wsX2_waitResult := goodIn_ca (goodIn_r _ [65, 66, 6, 7, 8, 4, 9, 10, 11, 12, 13, 14, 15, 16, 81, 82, 83, 84, 85, 86, 87, 88, 89, 90, 91, 92, 93, 94, 95, 96, 97, 98, 99, 100, 77, 78, 79, 80] (by decide +kernel) (by decide +kernel)) (goodIn_sub (fun _ h => List.mem_cons_of_mem _ (List.mem_append_left _ (List.mem_append_right _ h))) (by decide +kernel))
set_option maxRecDepth 20000 in
theorem gL_isSound_X2_waitResult : GoodIn wsL_isSound (wsV RL 109 RX2 yX2_waitResult wsX2_waitResult) := goodIn_app (goodIn_of _ (by decide +kernel)) ggL_isSound_X2_waitResult
set_option maxRecDepth 20000 in
theorem ggL_isSound_X2_reportedChild : GoodIn wsL_isSound wsX2_reportedChild := goodIn_ca (goodIn_r _ [70, 71, 6, 7, 8, 4, 9, 10, 11, 12, 13, 14, 15, 16, 81, 82, 83, 84, 85, 86, 87, 88, 89, 90, 91, 92, 93, 94, 95, 96, 97, 98, 99, 100, 77, 78, 79, 80] (by decide +kernel) (by decide +kernel)) (goodIn_sub (fun _ h => List.mem_cons_of_mem _ (List.mem_append_left _ (List.mem_append_right _ h))) (by decide +kernel))
set_option maxRecDepth 20000 in
theorem gL_isSound_X2_reportedChild : GoodIn wsL_isSound (wsV RL 112 RX2 yX2_reportedChild wsX2_reportedChild) := goodIn_app (goodIn_of _ (by decide +kernel)) ggL_isSound_X2_reportedChild
set_option maxRecDepth 20000 in
theorem ggL_isSound_X2_reportedValue : GoodIn wsL_isSound wsX2_reportedValue := goodIn_ca (goodIn_r _ [75, 76, 6, 7, 8, 4, 9, 10, 11, 12, 13, 14, 15, 16, 81, 82, 83, 84, 85, 86, 87, 88, 89, 90, 91, 92, 93, 94, 95, 96, 97, 98, 99, 100, 77, 78, 79, 80] (by decide +kernel) (by decide +kernel)) (goodIn_sub (fun _ h => List.mem_cons_of_mem _ (List.mem_append_left _ (List.mem_append_right _ h))) (by decide +kernel))
set_option maxRecDepth 20000 in
theorem gL_isSound_X2_reportedValue : GoodIn wsL_isSound (wsV RL 115 RX2 yX2_reportedValue wsX2_reportedValue) := goodIn_app (goodIn_of _ (by decide +kernel)) ggL_isSound_X2_reportedValue
