set_option maxRecDepth 20000 in
theorem ggL_law_X3_state : GoodIn wsL_law wsX3_state := goodIn_r _ [640, 51, 52, 53, 128, 129, 130, 5, 131, 47, 136, 137, 138, 139, 140, 772, 773, 774, 775, 776, 777, 778, 779, 780, 781, 782, 783, 784, 785, 786, 787, 788, 789, 790, 791, 792, 793, 794, 795, 796, 797, 798, 799, 800] (by decide +kernel) (by decide +kernel)
set_option maxRecDepth 20000 in
theorem gL_law_X3_state : GoodIn wsL_law (wsV RL 181 RX3 yX3_state wsX3_state) := goodIn_app (goodIn_of _ (by decide +kernel)) ggL_law_X3_state
set_option maxRecDepth 20000 in
theorem ggL_law_L_parent : GoodIn wsL_law wsL_parent := goodIn_ca (goodIn_r _ [643, 77, 644, 645, 646, 2, 647, 209, 99, 85, 86, 87, 88, 89, 90, 91, 92, 93, 94, 14, 807, 808, 809, 810, 811, 812, 813, 814, 815, 816, 817, 818, 819, 820, 821, 822, 823, 824, 825, 826, 768, 769, 770, 771] (by decide +kernel) (by decide +kernel)) (goodIn_sub (fun _ h => List.mem_append_left _ (List.mem_append_right _ h)) (by decide +kernel))
set_option maxRecDepth 20000 in
theorem gL_law_L_parent : GoodIn wsL_law (va_wsS RL 182 yL_parent wsL_parent) := goodIn_app (goodIn_of _ (by decide +kernel)) ggL_law_L_parent
set_option maxRecDepth 20000 in
theorem ggL_law_X3_parent : GoodIn wsL_law wsX3_parent := goodIn_r _ [651, 48, 652, 653, 654, 5, 655, 128, 129, 130, 131, 47, 136, 137, 138, 139, 140, 772, 773, 774, 775, 776, 777, 778, 779, 780, 781, 782, 783, 784, 785, 786, 787, 788, 789, 790, 791, 792, 793, 794, 795, 796, 797, 798, 799, 800] (by decide +kernel) (by decide +kernel)
set_option maxRecDepth 20000 in
theorem gL_law_X3_parent : GoodIn wsL_law (wsV RL 184 RX3 yX3_parent wsX3_parent) := goodIn_app (goodIn_of _ (by decide +kernel)) ggL_law_X3_parent
set_option maxRecDepth 20000 in
theorem ggL_law_L_group : GoodIn wsL_law wsL_group := goodIn_ca (goodIn_r _ [658, 77, 659, 660, 661, 2, 662, 100, 85, 86, 87, 88, 89, 90, 91, 92, 93, 94, 14, 807, 808, 809, 810, 811, 812, 813, 814, 815, 816, 817, 818, 819, 820, 821, 822, 823, 824, 825, 826, 768, 769, 770, 771] (by decide +kernel) (by decide +kernel)) (goodIn_sub (fun _ h => List.mem_append_left _ (List.mem_append_right _ h)) (by decide +kernel))
set_option maxRecDepth 20000 in
theorem gL_law_L_group : GoodIn wsL_law (va_wsS RL 185 yL_group wsL_group) := goodIn_app (goodIn_of _ (by decide +kernel)) ggL_law_L_group
set_option maxRecDepth 20000 in
theorem ggL_law_X3_group : GoodIn wsL_law wsX3_group := goodIn_r _ [666, 49, 652, 653, 654, 5, 655, 128, 129, 130, 131, 47, 136, 137, 138, 139, 140, 772, 773, 774, 775, 776, 777, 778, 779, 780, 781, 782, 783, 784, 785, 786, 787, 788, 789, 790, 791, 792, 793, 794, 795, 796, 797, 798, 799, 800] (by decide +kernel) (by decide +kernel)
set_option maxRecDepth 20000 in
theorem gL_law_X3_group : GoodIn wsL_law (wsV RL 187 RX3 yX3_group wsX3_group) := goodIn_app (goodIn_of _ (by decide +kernel)) ggL_law_X3_group
set_option maxRecDepth 20000 in
theorem ggL_law_L_session : GoodIn wsL_law wsL_session := goodIn_ca (goodIn_r _ [669, 77, 670, 671, 672, 2, 673, 101, 85, 86, 87, 88, 89, 90, 91, 92, 93, 94, 14, 807, 808, 809, 810, 811, 812, 813, 814, 815, 816, 817, 818, 819, 820, 821, 822, 823, 824, 825, 826, 768, 769, 770, 771] (by decide +kernel) (by decide +kernel)) (goodIn_sub (fun _ h => List.mem_append_left _ (List.mem_append_right _ h)) (by decide +kernel))
set_option maxRecDepth 20000 in
theorem gL_law_L_session : GoodIn wsL_law (va_wsS RL 188 yL_session wsL_session) := goodIn_app (goodIn_of _ (by decide +kernel)) ggL_law_L_session
set_option maxRecDepth 20000 in
theorem ggL_law_X3_session : GoodIn wsL_law wsX3_session := goodIn_r _ [677, 50, 652, 653, 654, 5, 655, 128, 129, 130, 131, 47, 136, 137, 138, 139, 140, 772, 773, 774, 775, 776, 777, 778, 779, 780, 781, 782, 783, 784, 785, 786, 787, 788, 789, 790, 791, 792, 793, 794, 795, 796, 797, 798, 799, 800] (by decide +kernel) (by decide +kernel)
set_option maxRecDepth 20000 in
theorem gL_law_X3_session : GoodIn wsL_law (wsV RL 190 RX3 yX3_session wsX3_session) := goodIn_app (goodIn_of _ (by decide +kernel)) ggL_law_X3_session
set_option maxRecDepth 20000 in
theorem ggL_law_L_pending : GoodIn wsL_law wsL_pending := goodIn_ca (goodIn_r _ [680, 77, 681, 682, 683, 2, 684, 322, 85, 86, 87, 88, 89, 90, 91, 92, 93, 94, 14, 807, 808, 809, 810, 811, 812, 813, 814, 815, 816, 817, 818, 819, 820, 821, 822, 823, 824, 825, 826, 768, 769, 770, 771] (by decide +kernel) (by decide +kernel)) (goodIn_sub (fun _ h => List.mem_append_left _ (List.mem_append_right _ h)) (by decide +kernel))
set_option maxRecDepth 20000 in
theorem gL_law_L_pending : GoodIn wsL_law (va_wsS RL 191 yL_pending wsL_pending) := goodIn_app (goodIn_of _ (by decide +kernel)) ggL_law_L_pending
