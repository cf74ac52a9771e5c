set_option maxRecDepth 20000 in
theorem ggL_isTerminal_X2_state : GoodIn wsL_isTerminal wsX2_state := goodIn_ca (goodIn_r _ [5, 6, 7, 8, 4, 9, 10, 11, 12, 13, 14, 15, 16, 17, 18, 19, 20, 21, 22, 23, 24, 300, 301, 302, 303, 304, 305, 306, 307, 308, 309, 310, 311, 312, 313, 314, 315, 316, 317, 318, 319, 320, 321, 322, 323] (by decide +kernel) (by decide +kernel)) (goodIn_sub (fun _ h => List.mem_cons_of_mem _ (List.mem_append_left _ (List.mem_append_left _ (List.mem_append_right _ h)))) (by decide +kernel))
set_option maxRecDepth 20000 in
theorem gL_isTerminal_X2_state : GoodIn wsL_isTerminal (wsV RL 90 RX2 yX2_state wsX2_state) := goodIn_app (goodIn_of _ (by decide +kernel)) ggL_isTerminal_X2_state
set_option maxRecDepth 20000 in
theorem ggL_isTerminal_X2_terminalSession : GoodIn wsL_isTerminal wsX2_terminalSession := goodIn_r _ [28, 29, 300, 301, 302, 303] (by decide +kernel) (by decide +kernel)
set_option maxRecDepth 20000 in
theorem gL_isTerminal_X2_terminalSession : GoodIn wsL_isTerminal (wsV RL 127 RX2 yX2_terminalSession wsX2_terminalSession) := goodIn_app (goodIn_of _ (by decide +kernel)) ggL_isTerminal_X2_terminalSession
set_option maxRecDepth 20000 in
theorem ggL_isTerminal_X2_foreground : GoodIn wsL_isTerminal wsX2_foreground := goodIn_r _ [33, 34, 300, 301, 302, 303] (by decide +kernel) (by decide +kernel)
set_option maxRecDepth 20000 in
theorem gL_isTerminal_X2_foreground : GoodIn wsL_isTerminal (wsV RL 130 RX2 yX2_foreground wsX2_foreground) := goodIn_app (goodIn_of _ (by decide +kernel)) ggL_isTerminal_X2_foreground
set_option maxRecDepth 20000 in
theorem ggL_isTerminal_X2_session : GoodIn wsL_isTerminal wsX2_session := goodIn_ca (goodIn_r _ [38, 39, 6, 7, 8, 4, 9, 10, 11, 12, 13, 14, 15, 16, 304, 305, 306, 307, 308, 309, 310, 311, 312, 313, 314, 315, 316, 317, 318, 319, 320, 321, 322, 323, 300, 301, 302, 303] (by decide +kernel) (by decide +kernel)) (goodIn_sub (fun _ h => List.mem_cons_of_mem _ (List.mem_append_left _ (List.mem_append_left _ (List.mem_append_right _ h)))) (by decide +kernel))
set_option maxRecDepth 20000 in
theorem gL_isTerminal_X2_session : GoodIn wsL_isTerminal (wsV RL 106 RX2 yX2_session wsX2_session) := goodIn_app (goodIn_of _ (by decide +kernel)) ggL_isTerminal_X2_session
set_option maxRecDepth 20000 in
theorem ggL_isTerminal_L_opens : GoodIn wsL_isTerminal wsL_opens := goodIn_ca (goodIn_ca (goodIn_r _ [43, 44, 45, 46, 47, 42, 48, 49, 50, 51, 4, 52, 53, 54, 29, 39, 55, 34, 6, 7, 8, 9, 10, 11, 12, 13, 14, 15, 16, 56, 57, 58, 59, 17, 18, 19, 20, 21, 22, 23, 24, 60, 61, 62, 63, 64, 65, 300, 301, 302, 303, 304, 305, 306, 307, 308, 309, 310, 311, 312, 313, 314, 315, 316, 317, 318, 319, 320, 321, 322, 323] (by decide +kernel) (by decide +kernel)) (goodIn_sub (fun _ h => List.mem_cons_of_mem _ (List.mem_append_left _ (List.mem_append_right _ h))) (by decide +kernel))) (goodIn_sub (fun _ h => List.mem_cons_of_mem _ (List.mem_append_left _ (List.mem_append_left _ (List.mem_append_right _ h)))) (by decide +kernel))
set_option maxRecDepth 20000 in
theorem gL_isTerminal_L_opens : GoodIn wsL_isTerminal (va_wsS RL 167 yL_opens wsL_opens) := goodIn_app (goodIn_of _ (by decide +kernel)) ggL_isTerminal_L_opens
set_option maxRecDepth 20000 in
theorem ggL_isTerminal_X2_group : GoodIn wsL_isTerminal wsX2_group := goodIn_ca (goodIn_r _ [69, 55, 6, 7, 8, 4, 9, 10, 11, 12, 13, 14, 15, 16, 304, 305, 306, 307, 308, 309, 310, 311, 312, 313, 314, 315, 316, 317, 318, 319, 320, 321, 322, 323, 300, 301, 302, 303] (by decide +kernel) (by decide +kernel)) (goodIn_sub (fun _ h => List.mem_cons_of_mem _ (List.mem_append_left _ (List.mem_append_left _ (List.mem_append_right _ h)))) (by decide +kernel))
set_option maxRecDepth 20000 in
theorem gL_isTerminal_X2_group : GoodIn wsL_isTerminal (wsV RL 93 RX2 yX2_group wsX2_group) := goodIn_app (goodIn_of _ (by decide +kernel)) ggL_isTerminal_X2_group
set_option maxRecDepth 20000 in
theorem ggL_isTerminal_L_isMember : GoodIn wsL_isTerminal wsL_isMember := goodIn_ca (goodIn_ca (goodIn_r _ [72, 73, 74, 75, 4, 76, 77, 78, 79, 80, 81, 82, 83, 84, 12, 13, 14, 15, 16, 1, 2, 3, 5, 6, 7, 8, 9, 10, 11, 17, 18, 19, 20, 21, 22, 23, 24, 66, 67, 68, 69, 55, 300, 301, 302, 303, 304, 305, 306, 307, 308, 309, 310, 311, 312, 313, 314, 315, 316, 317, 318, 319, 320, 321, 322, 323] (by decide +kernel) (by decide +kernel)) (goodIn_sub (fun _ h => List.mem_cons_of_mem _ (List.mem_append_right _ h)) (by decide +kernel))) (goodIn_sub (fun _ h => List.mem_cons_of_mem _ (List.mem_append_left _ (List.mem_append_left _ (List.mem_append_right _ h)))) (by decide +kernel))
set_option maxRecDepth 20000 in
theorem gL_isTerminal_L_isMember : GoodIn wsL_isTerminal (va_wsS RL 96 yL_isMember wsL_isMember) := goodIn_app (goodIn_of _ (by decide +kernel)) ggL_isTerminal_L_isMember
set_option maxRecDepth 20000 in
theorem ggL_isTerminal_L_setsForeground : GoodIn wsL_isTerminal wsL_setsForeground := goodIn_ca (goodIn_ca (goodIn_ca (goodIn_r _ [87, 44, 88, 45, 89, 90, 91, 4, 92, 53, 54, 39, 29, 34, 6, 7, 8, 9, 10, 11, 12, 13, 14, 15, 16, 77, 78, 79, 80, 81, 82, 83, 84, 56, 57, 58, 59, 17, 18, 19, 20, 21, 22, 23, 24, 93, 94, 95, 96, 97, 98, 99, 100, 101, 304, 305, 306, 307, 308, 309, 310, 311, 312, 313, 314, 315, 316, 317, 318, 319, 320, 321, 322, 323, 300, 301, 302, 303] (by decide +kernel) (by decide +kernel)) (goodIn_sub (fun _ h => List.mem_cons_of_mem _ (List.mem_append_left _ (List.mem_append_right _ h))) (by decide +kernel))) (goodIn_sub (fun _ h => List.mem_cons_of_mem _ (List.mem_append_left _ (List.mem_append_left _ (List.mem_append_right _ h)))) (by decide +kernel))) (goodIn_sub (fun _ h => List.mem_cons_of_mem _ (List.mem_append_right _ h)) (by decide +kernel))
set_option maxRecDepth 20000 in
theorem gL_isTerminal_L_setsForeground : GoodIn wsL_isTerminal (va_wsS RL 170 yL_setsForeground wsL_setsForeground) := goodIn_app (goodIn_of _ (by decide +kernel)) ggL_isTerminal_L_setsForeground
