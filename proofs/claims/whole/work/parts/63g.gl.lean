set_option maxRecDepth 20000 in
theorem ggL_law_X3_pending : GoodIn wsL_law wsX3_pending := goodIn_r _ [688, 58, 652, 653, 654, 5, 655, 128, 129, 130, 131, 47, 136, 137, 138, 139, 140, 772, 773, 774, 775, 776, 777, 778, 779, 780, 781, 782, 783, 784, 785, 786, 787, 788, 789, 790, 791, 792, 793, 794, 795, 796, 797, 798, 799, 800] (by decide +kernel) (by decide +kernel)
set_option maxRecDepth 20000 in
theorem gL_law_X3_pending : GoodIn wsL_law (wsV RL 193 RX3 yX3_pending wsX3_pending) := goodIn_app (goodIn_of _ (by decide +kernel)) ggL_law_X3_pending
set_option maxRecDepth 20000 in
theorem ggL_law_L_caught : GoodIn wsL_law wsL_caught := goodIn_ca (goodIn_r _ [691, 77, 692, 693, 694, 2, 695, 696, 85, 86, 87, 88, 89, 90, 91, 92, 93, 94, 14, 807, 808, 809, 810, 811, 812, 813, 814, 815, 816, 817, 818, 819, 820, 821, 822, 823, 824, 825, 826, 768, 769, 770, 771] (by decide +kernel) (by decide +kernel)) (goodIn_sub (fun _ h => List.mem_append_left _ (List.mem_append_right _ h)) (by decide +kernel))
set_option maxRecDepth 20000 in
theorem gL_law_L_caught : GoodIn wsL_law (va_wsS RL 194 yL_caught wsL_caught) := goodIn_app (goodIn_of _ (by decide +kernel)) ggL_law_L_caught
set_option maxRecDepth 20000 in
theorem ggL_law_X3_caught : GoodIn wsL_law wsX3_caught := goodIn_r _ [700, 59, 652, 653, 654, 5, 655, 128, 129, 130, 131, 47, 136, 137, 138, 139, 140, 772, 773, 774, 775, 776, 777, 778, 779, 780, 781, 782, 783, 784, 785, 786, 787, 788, 789, 790, 791, 792, 793, 794, 795, 796, 797, 798, 799, 800] (by decide +kernel) (by decide +kernel)
set_option maxRecDepth 20000 in
theorem gL_law_X3_caught : GoodIn wsL_law (wsV RL 196 RX3 yX3_caught wsX3_caught) := goodIn_app (goodIn_of _ (by decide +kernel)) ggL_law_X3_caught
set_option maxRecDepth 20000 in
theorem ggL_law_L_isOrphaned : GoodIn wsL_law wsL_isOrphaned := goodIn_ca (goodIn_r _ [703, 178, 704, 705, 706, 2, 707, 454, 455, 456, 183, 184, 185, 186, 187, 193, 194, 195, 196, 14, 100, 197, 198, 199, 22, 200, 109, 116, 41, 40, 102, 103, 104, 768, 769, 770, 771, 807, 808, 809, 810, 811, 812, 813, 814, 815, 816, 817, 818, 819, 820, 821, 822, 823, 824, 825, 826] (by decide +kernel) (by decide +kernel)) (goodIn_sub (fun _ h => List.mem_append_right _ h) (by decide +kernel))
set_option maxRecDepth 20000 in
theorem gL_law_L_isOrphaned : GoodIn wsL_law (va_wsS RL 197 yL_isOrphaned wsL_isOrphaned) := goodIn_app (goodIn_of _ (by decide +kernel)) ggL_law_L_isOrphaned
set_option maxRecDepth 20000 in
theorem ggL_law_X3_isOrphaned : GoodIn wsL_law wsX3_isOrphaned := goodIn_r _ [711, 136, 137, 138, 5, 139, 140, 363, 364, 365, 366, 48, 51, 50, 49, 367, 368, 369, 370, 47, 772, 773, 774, 775, 776, 777, 778, 779, 780, 781, 782, 783, 784, 785, 786, 787, 788, 789, 790, 791, 792, 793, 794, 795, 796, 797, 798, 799, 800] (by decide +kernel) (by decide +kernel)
set_option maxRecDepth 20000 in
theorem gL_law_X3_isOrphaned : GoodIn wsL_law (wsV RL 199 RX3 yX3_isOrphaned wsX3_isOrphaned) := goodIn_app (goodIn_of _ (by decide +kernel)) ggL_law_X3_isOrphaned
set_option maxRecDepth 20000 in
theorem ggL_law_X2_terminalSession : GoodIn wsL_law wsX2_terminalSession := goodIn_r _ [715, 19, 768, 769, 770, 771] (by decide +kernel) (by decide +kernel)
set_option maxRecDepth 20000 in
theorem gL_law_X2_terminalSession : GoodIn wsL_law (wsV RL 200 RX2 yX2_terminalSession wsX2_terminalSession) := goodIn_app (goodIn_of _ (by decide +kernel)) ggL_law_X2_terminalSession
set_option maxRecDepth 20000 in
theorem ggL_law_X3_terminalSession : GoodIn wsL_law wsX3_terminalSession := goodIn_r _ [719, 68, 720, 721, 722, 5, 723, 140, 772, 773, 774, 775, 776, 777, 778, 779, 780, 781, 782, 783, 784, 785, 786, 787, 788, 789, 790, 791, 792, 793, 794, 795, 796, 797, 798, 799, 800] (by decide +kernel) (by decide +kernel)
set_option maxRecDepth 20000 in
theorem gL_law_X3_terminalSession : GoodIn wsL_law (wsV RL 203 RX3 yX3_terminalSession wsX3_terminalSession) := goodIn_app (goodIn_of _ (by decide +kernel)) ggL_law_X3_terminalSession
set_option maxRecDepth 20000 in
theorem ggL_law_X2_foreground : GoodIn wsL_law wsX2_foreground := goodIn_r _ [727, 20, 768, 769, 770, 771] (by decide +kernel) (by decide +kernel)
set_option maxRecDepth 20000 in
theorem gL_law_X2_foreground : GoodIn wsL_law (wsV RL 204 RX2 yX2_foreground wsX2_foreground) := goodIn_app (goodIn_of _ (by decide +kernel)) ggL_law_X2_foreground
