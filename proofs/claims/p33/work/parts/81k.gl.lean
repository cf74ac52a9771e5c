set_option maxRecDepth 20000 in
theorem ggL_isGrouped_X2_state : GoodIn wsL_isGrouped wsX2_state := goodIn_ca (goodIn_r _ [5, 6, 7, 8, 4, 9, 10, 11, 12, 13, 14, 15, 16, 17, 18, 19, 20, 21, 22, 23, 24, 91, 92, 93, 94, 95, 96, 97, 98, 99, 100, 101, 102, 103, 104, 105, 106, 107, 108, 109, 110, 111, 112, 113, 114] (by decide +kernel) (by decide +kernel)) (goodIn_sub (fun _ h => List.mem_cons_of_mem _ (List.mem_append_left _ (List.mem_append_left _ (List.mem_append_right _ h)))) (by decide +kernel))
set_option maxRecDepth 20000 in
theorem gL_isGrouped_X2_state : GoodIn wsL_isGrouped (wsV RL 90 RX2 yX2_state wsX2_state) := goodIn_app (goodIn_of _ (by decide +kernel)) ggL_isGrouped_X2_state
set_option maxRecDepth 20000 in
theorem ggL_isGrouped_X2_group : GoodIn wsL_isGrouped wsX2_group := goodIn_ca (goodIn_r _ [28, 29, 6, 7, 8, 4, 9, 10, 11, 12, 13, 14, 15, 16, 95, 96, 97, 98, 99, 100, 101, 102, 103, 104, 105, 106, 107, 108, 109, 110, 111, 112, 113, 114, 91, 92, 93, 94] (by decide +kernel) (by decide +kernel)) (goodIn_sub (fun _ h => List.mem_cons_of_mem _ (List.mem_append_left _ (List.mem_append_left _ (List.mem_append_right _ h)))) (by decide +kernel))
set_option maxRecDepth 20000 in
theorem gL_isGrouped_X2_group : GoodIn wsL_isGrouped (wsV RL 93 RX2 yX2_group wsX2_group) := goodIn_app (goodIn_of _ (by decide +kernel)) ggL_isGrouped_X2_group
set_option maxRecDepth 20000 in
theorem ggL_isGrouped_L_isMember : GoodIn wsL_isGrouped wsL_isMember := goodIn_ca (goodIn_ca (goodIn_r _ [33, 34, 35, 36, 4, 37, 38, 39, 40, 41, 42, 43, 44, 45, 12, 13, 14, 15, 16, 1, 2, 3, 5, 6, 7, 8, 9, 10, 11, 17, 18, 19, 20, 21, 22, 23, 24, 25, 26, 27, 28, 29, 91, 92, 93, 94, 95, 96, 97, 98, 99, 100, 101, 102, 103, 104, 105, 106, 107, 108, 109, 110, 111, 112, 113, 114] (by decide +kernel) (by decide +kernel)) (goodIn_sub (fun _ h => List.mem_cons_of_mem _ (List.mem_append_left _ (List.mem_append_right _ h))) (by decide +kernel))) (goodIn_sub (fun _ h => List.mem_cons_of_mem _ (List.mem_append_left _ (List.mem_append_left _ (List.mem_append_right _ h)))) (by decide +kernel))
set_option maxRecDepth 20000 in
theorem gL_isGrouped_L_isMember : GoodIn wsL_isGrouped (va_wsS RL 96 yL_isMember wsL_isMember) := goodIn_app (goodIn_of _ (by decide +kernel)) ggL_isGrouped_L_isMember
set_option maxRecDepth 20000 in
theorem ggL_isGrouped_X2_session : GoodIn wsL_isGrouped wsX2_session := goodIn_ca (goodIn_r _ [49, 50, 6, 7, 8, 4, 9, 10, 11, 12, 13, 14, 15, 16, 95, 96, 97, 98, 99, 100, 101, 102, 103, 104, 105, 106, 107, 108, 109, 110, 111, 112, 113, 114, 91, 92, 93, 94] (by decide +kernel) (by decide +kernel)) (goodIn_sub (fun _ h => List.mem_cons_of_mem _ (List.mem_append_left _ (List.mem_append_left _ (List.mem_append_right _ h)))) (by decide +kernel))
set_option maxRecDepth 20000 in
theorem gL_isGrouped_X2_session : GoodIn wsL_isGrouped (wsV RL 106 RX2 yX2_session wsX2_session) := goodIn_app (goodIn_of _ (by decide +kernel)) ggL_isGrouped_X2_session
set_option maxRecDepth 20000 in
theorem ggL_isGrouped_X2_parent : GoodIn wsL_isGrouped wsX2_parent := goodIn_ca (goodIn_r _ [54, 55, 56, 6, 7, 8, 4, 9, 10, 11, 12, 13, 14, 15, 16, 95, 96, 97, 98, 99, 100, 101, 102, 103, 104, 105, 106, 107, 108, 109, 110, 111, 112, 113, 114, 91, 92, 93, 94] (by decide +kernel) (by decide +kernel)) (goodIn_sub (fun _ h => List.mem_cons_of_mem _ (List.mem_append_left _ (List.mem_append_left _ (List.mem_append_right _ h)))) (by decide +kernel))
set_option maxRecDepth 20000 in
theorem gL_isGrouped_X2_parent : GoodIn wsL_isGrouped (wsV RL 100 RX2 yX2_parent wsX2_parent) := goodIn_app (goodIn_of _ (by decide +kernel)) ggL_isGrouped_X2_parent
set_option maxRecDepth 20000 in
theorem ggL_isGrouped_L_setsGroup : GoodIn wsL_isGrouped wsL_setsGroup := goodIn_ca (goodIn_ca (goodIn_ca (goodIn_r _ [59, 60, 61, 62, 63, 64, 65, 4, 66, 67, 68, 50, 29, 6, 7, 8, 9, 10, 11, 12, 13, 14, 15, 16, 38, 39, 40, 41, 42, 43, 44, 45, 69, 70, 71, 56, 17, 18, 19, 20, 21, 22, 23, 24, 72, 73, 74, 55, 75, 76, 77, 78, 79, 80, 81, 82, 83, 84, 85, 86, 87, 88, 89, 90, 95, 96, 97, 98, 99, 100, 101, 102, 103, 104, 105, 106, 107, 108, 109, 110, 111, 112, 113, 114, 91, 92, 93, 94] (by decide +kernel) (by decide +kernel)) (goodIn_sub (fun _ h => List.mem_cons_of_mem _ (List.mem_append_right _ h)) (by decide +kernel))) (goodIn_sub (fun _ h => List.mem_cons_of_mem _ (List.mem_append_left _ (List.mem_append_left _ (List.mem_append_right _ h)))) (by decide +kernel))) (goodIn_sub (fun _ h => List.mem_cons_of_mem _ (List.mem_append_left _ (List.mem_append_right _ h))) (by decide +kernel))
set_option maxRecDepth 20000 in
theorem gL_isGrouped_L_setsGroup : GoodIn wsL_isGrouped (va_wsS RL 160 yL_setsGroup wsL_setsGroup) := goodIn_app (goodIn_of _ (by decide +kernel)) ggL_isGrouped_L_setsGroup
set_option maxRecDepth 20000 in
theorem ggL_isBegun_X2_state : GoodIn wsL_isBegun wsX2_state := goodIn_ca (goodIn_r _ [5, 6, 7, 8, 4, 9, 10, 11, 12, 13, 14, 15, 16, 17, 18, 19, 20, 21, 22, 23, 24, 70, 71, 72, 73, 74, 75, 76, 77, 78, 79, 80, 81, 82, 83, 84, 85, 86, 87, 88, 89, 90, 91, 92, 93] (by decide +kernel) (by decide +kernel)) (goodIn_sub (fun _ h => List.mem_cons_of_mem _ (List.mem_append_left _ (List.mem_append_left _ (List.mem_append_right _ h)))) (by decide +kernel))
set_option maxRecDepth 20000 in
theorem gL_isBegun_X2_state : GoodIn wsL_isBegun (wsV RL 90 RX2 yX2_state wsX2_state) := goodIn_app (goodIn_of _ (by decide +kernel)) ggL_isBegun_X2_state
set_option maxRecDepth 20000 in
theorem ggL_isBegun_X2_exists : GoodIn wsL_isBegun wsX2_exists := goodIn_ca (goodIn_r _ [28, 29, 30, 4, 31, 32, 33, 34, 35, 36, 12, 13, 14, 15, 16, 70, 71, 72, 73] (by decide +kernel) (by decide +kernel)) (goodIn_sub (fun _ h => List.mem_cons_of_mem _ (List.mem_append_left _ (List.mem_append_right _ h))) (by decide +kernel))
set_option maxRecDepth 20000 in
theorem gL_isBegun_X2_exists : GoodIn wsL_isBegun (wsV RL 86 RX2 yX2_exists wsX2_exists) := goodIn_app (goodIn_of _ (by decide +kernel)) ggL_isBegun_X2_exists
set_option maxRecDepth 20000 in
theorem ggL_isBegun_X2_group : GoodIn wsL_isBegun wsX2_group := goodIn_ca (goodIn_r _ [40, 41, 6, 7, 8, 4, 9, 10, 11, 12, 13, 14, 15, 16, 74, 75, 76, 77, 78, 79, 80, 81, 82, 83, 84, 85, 86, 87, 88, 89, 90, 91, 92, 93, 70, 71, 72, 73] (by decide +kernel) (by decide +kernel)) (goodIn_sub (fun _ h => List.mem_cons_of_mem _ (List.mem_append_left _ (List.mem_append_left _ (List.mem_append_right _ h)))) (by decide +kernel))
set_option maxRecDepth 20000 in
theorem gL_isBegun_X2_group : GoodIn wsL_isBegun (wsV RL 93 RX2 yX2_group wsX2_group) := goodIn_app (goodIn_of _ (by decide +kernel)) ggL_isBegun_X2_group
set_option maxRecDepth 20000 in
theorem ggL_isBegun_X2_session : GoodIn wsL_isBegun wsX2_session := goodIn_ca (goodIn_r _ [45, 46, 6, 7, 8, 4, 9, 10, 11, 12, 13, 14, 15, 16, 74, 75, 76, 77, 78, 79, 80, 81, 82, 83, 84, 85, 86, 87, 88, 89, 90, 91, 92, 93, 70, 71, 72, 73] (by decide +kernel) (by decide +kernel)) (goodIn_sub (fun _ h => List.mem_cons_of_mem _ (List.mem_append_left _ (List.mem_append_left _ (List.mem_append_right _ h)))) (by decide +kernel))
set_option maxRecDepth 20000 in
theorem gL_isBegun_X2_session : GoodIn wsL_isBegun (wsV RL 106 RX2 yX2_session wsX2_session) := goodIn_app (goodIn_of _ (by decide +kernel)) ggL_isBegun_X2_session
set_option maxRecDepth 20000 in
theorem ggL_isBegun_L_begins : GoodIn wsL_isBegun wsL_begins := goodIn_ca (goodIn_ca (goodIn_r _ [50, 51, 52, 53, 54, 49, 55, 56, 57, 58, 4, 59, 60, 61, 41, 46, 6, 7, 8, 9, 10, 11, 12, 13, 14, 15, 16, 62, 63, 64, 65, 17, 18, 19, 20, 21, 22, 23, 24, 66, 67, 68, 69, 74, 75, 76, 77, 78, 79, 80, 81, 82, 83, 84, 85, 86, 87, 88, 89, 90, 91, 92, 93, 70, 71, 72, 73] (by decide +kernel) (by decide +kernel)) (goodIn_sub (fun _ h => List.mem_cons_of_mem _ (List.mem_append_right _ h)) (by decide +kernel))) (goodIn_sub (fun _ h => List.mem_cons_of_mem _ (List.mem_append_left _ (List.mem_append_left _ (List.mem_append_right _ h)))) (by decide +kernel))
set_option maxRecDepth 20000 in
theorem gL_isBegun_L_begins : GoodIn wsL_isBegun (va_wsS RL 164 yL_begins wsL_begins) := goodIn_app (goodIn_of _ (by decide +kernel)) ggL_isBegun_L_begins
