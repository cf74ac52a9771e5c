set_option maxRecDepth 20000 in
theorem ggL_isOrphaned_L_isMember : GoodIn wsL_isOrphaned wsL_isMember := goodIn_ca (goodIn_ca (goodIn_r _ [4, 5, 6, 7, 8, 9, 10, 11, 12, 13, 14, 15, 16, 17, 18, 19, 20, 21, 22, 23, 24, 25, 26, 27, 28, 29, 30, 31, 32, 33, 34, 35, 36, 37, 38, 39, 40, 41, 42, 43, 44, 45, 57, 58, 59, 60, 61, 62, 63, 64, 65, 66, 67, 68, 69, 70, 71, 72, 73, 74, 75, 76, 77, 78, 79, 80] (by decide +kernel) (by decide +kernel)) (goodIn_sub (fun _ h => List.mem_cons_of_mem _ (List.mem_append_left _ (List.mem_append_right _ h))) (by decide +kernel))) (goodIn_sub (fun _ h => List.mem_cons_of_mem _ (List.mem_append_right _ h)) (by decide +kernel))
set_option maxRecDepth 20000 in
theorem gL_isOrphaned_L_isMember : GoodIn wsL_isOrphaned (va_wsS RL 96 yL_isMember wsL_isMember) := goodIn_app (goodIn_of _ (by decide +kernel)) ggL_isOrphaned_L_isMember
set_option maxRecDepth 20000 in
theorem ggL_isOrphaned_X2_parent : GoodIn wsL_isOrphaned wsX2_parent := goodIn_ca (goodIn_r _ [49, 50, 51, 27, 28, 29, 8, 30, 31, 32, 18, 19, 20, 21, 22, 61, 62, 63, 64, 65, 66, 67, 68, 69, 70, 71, 72, 73, 74, 75, 76, 77, 78, 79, 80, 57, 58, 59, 60] (by decide +kernel) (by decide +kernel)) (goodIn_sub (fun _ h => List.mem_cons_of_mem _ (List.mem_append_right _ h)) (by decide +kernel))
set_option maxRecDepth 20000 in
theorem gL_isOrphaned_X2_parent : GoodIn wsL_isOrphaned (wsV RL 100 RX2 yX2_parent wsX2_parent) := goodIn_app (goodIn_of _ (by decide +kernel)) ggL_isOrphaned_X2_parent
set_option maxRecDepth 20000 in
theorem ggL_isOrphaned_X2_state : GoodIn wsL_isOrphaned wsX2_state := goodIn_ca (goodIn_r _ [26, 27, 28, 29, 8, 30, 31, 32, 18, 19, 20, 21, 22, 33, 34, 35, 36, 37, 38, 39, 40, 57, 58, 59, 60, 61, 62, 63, 64, 65, 66, 67, 68, 69, 70, 71, 72, 73, 74, 75, 76, 77, 78, 79, 80] (by decide +kernel) (by decide +kernel)) (goodIn_sub (fun _ h => List.mem_cons_of_mem _ (List.mem_append_right _ h)) (by decide +kernel))
set_option maxRecDepth 20000 in
theorem gL_isOrphaned_X2_state : GoodIn wsL_isOrphaned (wsV RL 90 RX2 yX2_state wsX2_state) := goodIn_app (goodIn_of _ (by decide +kernel)) ggL_isOrphaned_X2_state
set_option maxRecDepth 20000 in
theorem ggL_isOrphaned_X2_session : GoodIn wsL_isOrphaned wsX2_session := goodIn_ca (goodIn_r _ [55, 56, 27, 28, 29, 8, 30, 31, 32, 18, 19, 20, 21, 22, 61, 62, 63, 64, 65, 66, 67, 68, 69, 70, 71, 72, 73, 74, 75, 76, 77, 78, 79, 80, 57, 58, 59, 60] (by decide +kernel) (by decide +kernel)) (goodIn_sub (fun _ h => List.mem_cons_of_mem _ (List.mem_append_right _ h)) (by decide +kernel))
set_option maxRecDepth 20000 in
theorem gL_isOrphaned_X2_session : GoodIn wsL_isOrphaned (wsV RL 106 RX2 yX2_session wsX2_session) := goodIn_app (goodIn_of _ (by decide +kernel)) ggL_isOrphaned_X2_session
set_option maxRecDepth 20000 in
theorem ggL_isOrphaned_X2_group : GoodIn wsL_isOrphaned wsX2_group := goodIn_ca (goodIn_r _ [44, 45, 27, 28, 29, 8, 30, 31, 32, 18, 19, 20, 21, 22, 61, 62, 63, 64, 65, 66, 67, 68, 69, 70, 71, 72, 73, 74, 75, 76, 77, 78, 79, 80, 57, 58, 59, 60] (by decide +kernel) (by decide +kernel)) (goodIn_sub (fun _ h => List.mem_cons_of_mem _ (List.mem_append_right _ h)) (by decide +kernel))
set_option maxRecDepth 20000 in
theorem gL_isOrphaned_X2_group : GoodIn wsL_isOrphaned (wsV RL 93 RX2 yX2_group wsX2_group) := goodIn_app (goodIn_of _ (by decide +kernel)) ggL_isOrphaned_X2_group
set_option maxRecDepth 20000 in
theorem ggL_areAll_X2_exists : GoodIn wsL_areAll wsX2_exists := goodIn_ca (goodIn_r _ [5, 6, 7, 4, 8, 9, 10, 11, 12, 13, 14, 15, 16, 17, 18, 120, 121, 122, 123] (by decide +kernel) (by decide +kernel)) (goodIn_sub (fun _ h => List.mem_cons_of_mem _ (List.mem_append_left _ (List.mem_append_right _ h))) (by decide +kernel))
set_option maxRecDepth 20000 in
theorem gL_areAll_X2_exists : GoodIn wsL_areAll (wsV RL 86 RX2 yX2_exists wsX2_exists) := goodIn_app (goodIn_of _ (by decide +kernel)) ggL_areAll_X2_exists
set_option maxRecDepth 20000 in
theorem ggL_areAll_L_isSound : GoodIn wsL_areAll wsL_isSound := goodIn_ca (goodIn_ca (goodIn_r _ [22, 23, 24, 25, 4, 26, 27, 28, 29, 30, 31, 32, 14, 15, 16, 17, 18, 33, 34, 35, 36, 37, 38, 39, 40, 41, 42, 43, 44, 45, 46, 1, 2, 3, 5, 6, 7, 8, 9, 10, 11, 12, 13, 47, 48, 49, 50, 51, 52, 53, 54, 55, 56, 57, 58, 21, 59, 60, 61, 62, 63, 64, 65, 66, 67, 68, 69, 70, 71, 72, 73, 74, 75, 76, 77, 78, 79, 120, 121, 122, 123, 124, 125, 126, 127, 128, 129, 130, 131, 132, 133, 134, 135, 136, 137, 138, 139, 140, 141, 142, 143] (by decide +kernel) (by decide +kernel)) (goodIn_sub (fun _ h => List.mem_cons_of_mem _ (List.mem_append_right _ h)) (by decide +kernel))) (goodIn_sub (fun _ h => List.mem_cons_of_mem _ (List.mem_append_left _ (List.mem_append_right _ h))) (by decide +kernel))
set_option maxRecDepth 20000 in
theorem gL_areAll_L_isSound : GoodIn wsL_areAll (va_wsS RL 118 yL_isSound wsL_isSound) := goodIn_app (goodIn_of _ (by decide +kernel)) ggL_areAll_L_isSound
set_option maxRecDepth 20000 in
theorem ggL_areAll_X2_isOrphaned : GoodIn wsL_areAll wsX2_isOrphaned := goodIn_ca (goodIn_r _ [83, 6, 7, 4, 8, 9, 10, 11, 12, 13, 84, 85, 86, 87, 18, 56, 88, 89, 90, 36, 91, 38, 92, 93, 94, 95, 96, 97, 120, 121, 122, 123, 124, 125, 126, 127, 128, 129, 130, 131, 132, 133, 134, 135, 136, 137, 138, 139, 140, 141, 142, 143] (by decide +kernel) (by decide +kernel)) (goodIn_sub (fun _ h => List.mem_cons_of_mem _ (List.mem_append_left _ (List.mem_append_right _ h))) (by decide +kernel))
set_option maxRecDepth 20000 in
theorem gL_areAll_X2_isOrphaned : GoodIn wsL_areAll (wsV RL 122 RX2 yX2_isOrphaned wsX2_isOrphaned) := goodIn_app (goodIn_of _ (by decide +kernel)) ggL_areAll_X2_isOrphaned
set_option maxRecDepth 20000 in
theorem ggL_areAll_L_isOrphaned : GoodIn wsL_areAll wsL_isOrphaned := goodIn_ca (goodIn_ca (goodIn_r _ [100, 57, 58, 21, 59, 1, 2, 3, 4, 5, 6, 7, 8, 9, 10, 11, 12, 13, 14, 15, 16, 17, 18, 23, 24, 25, 26, 27, 28, 29, 30, 31, 32, 33, 34, 35, 36, 37, 38, 39, 40, 52, 53, 54, 55, 56, 41, 42, 43, 44, 45, 46, 60, 61, 62, 63, 64, 120, 121, 122, 123, 124, 125, 126, 127, 128, 129, 130, 131, 132, 133, 134, 135, 136, 137, 138, 139, 140, 141, 142, 143] (by decide +kernel) (by decide +kernel)) (goodIn_sub (fun _ h => List.mem_cons_of_mem _ (List.mem_append_left _ (List.mem_append_right _ h))) (by decide +kernel))) (goodIn_sub (fun _ h => List.mem_cons_of_mem _ (List.mem_append_right _ h)) (by decide +kernel))
set_option maxRecDepth 20000 in
theorem gL_areAll_L_isOrphaned : GoodIn wsL_areAll (va_wsS RL 125 yL_isOrphaned wsL_isOrphaned) := goodIn_app (goodIn_of _ (by decide +kernel)) ggL_areAll_L_isOrphaned
set_option maxRecDepth 20000 in
theorem ggL_areAll_X2_terminalSession : GoodIn wsL_areAll wsX2_terminalSession := goodIn_r _ [104, 105, 120, 121, 122, 123] (by decide +kernel) (by decide +kernel)
set_option maxRecDepth 20000 in
theorem gL_areAll_X2_terminalSession : GoodIn wsL_areAll (wsV RL 127 RX2 yX2_terminalSession wsX2_terminalSession) := goodIn_app (goodIn_of _ (by decide +kernel)) ggL_areAll_X2_terminalSession
set_option maxRecDepth 20000 in
theorem ggL_areAll_X2_foreground : GoodIn wsL_areAll wsX2_foreground := goodIn_r _ [109, 110, 120, 121, 122, 123] (by decide +kernel) (by decide +kernel)
set_option maxRecDepth 20000 in
theorem gL_areAll_X2_foreground : GoodIn wsL_areAll (wsV RL 130 RX2 yX2_foreground wsX2_foreground) := goodIn_app (goodIn_of _ (by decide +kernel)) ggL_areAll_X2_foreground
set_option maxRecDepth 20000 in
theorem ggL_areAll_X2_session : GoodIn wsL_areAll wsX2_session := goodIn_ca (goodIn_r _ [63, 64, 27, 28, 29, 4, 30, 31, 32, 14, 15, 16, 17, 18, 124, 125, 126, 127, 128, 129, 130, 131, 132, 133, 134, 135, 136, 137, 138, 139, 140, 141, 142, 143, 120, 121, 122, 123] (by decide +kernel) (by decide +kernel)) (goodIn_sub (fun _ h => List.mem_cons_of_mem _ (List.mem_append_right _ h)) (by decide +kernel))
set_option maxRecDepth 20000 in
theorem gL_areAll_X2_session : GoodIn wsL_areAll (wsV RL 106 RX2 yX2_session wsX2_session) := goodIn_app (goodIn_of _ (by decide +kernel)) ggL_areAll_X2_session
set_option maxRecDepth 20000 in
theorem ggL_areAll_X2_state : GoodIn wsL_areAll wsX2_state := goodIn_ca (goodIn_r _ [26, 27, 28, 29, 4, 30, 31, 32, 14, 15, 16, 17, 18, 33, 34, 35, 36, 37, 38, 39, 40, 120, 121, 122, 123, 124, 125, 126, 127, 128, 129, 130, 131, 132, 133, 134, 135, 136, 137, 138, 139, 140, 141, 142, 143] (by decide +kernel) (by decide +kernel)) (goodIn_sub (fun _ h => List.mem_cons_of_mem _ (List.mem_append_right _ h)) (by decide +kernel))
set_option maxRecDepth 20000 in
theorem gL_areAll_X2_state : GoodIn wsL_areAll (wsV RL 90 RX2 yX2_state wsX2_state) := goodIn_app (goodIn_of _ (by decide +kernel)) ggL_areAll_X2_state
