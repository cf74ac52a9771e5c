set_option maxRecDepth 20000 in
theorem ggL_law_X3_foreground : GoodIn wsL_law wsX3_foreground := goodIn_r _ [731, 69, 720, 721, 722, 5, 723, 140, 772, 773, 774, 775, 776, 777, 778, 779, 780, 781, 782, 783, 784, 785, 786, 787, 788, 789, 790, 791, 792, 793, 794, 795, 796, 797, 798, 799, 800] (by decide +kernel) (by decide +kernel)
set_option maxRecDepth 20000 in
theorem gL_law_X3_foreground : GoodIn wsL_law (wsV RL 207 RX3 yX3_foreground wsX3_foreground) := goodIn_app (goodIn_of _ (by decide +kernel)) ggL_law_X3_foreground
set_option maxRecDepth 20000 in
theorem ggL_law_L_waitResult : GoodIn wsL_law wsL_waitResult := goodIn_ca (goodIn_r _ [734, 77, 735, 736, 737, 2, 738, 739, 85, 86, 87, 88, 89, 90, 91, 92, 93, 94, 14, 807, 808, 809, 810, 811, 812, 813, 814, 815, 816, 817, 818, 819, 820, 821, 822, 823, 824, 825, 826, 768, 769, 770, 771] (by decide +kernel) (by decide +kernel)) (goodIn_sub (fun _ h => List.mem_append_left _ (List.mem_append_right _ h)) (by decide +kernel))
set_option maxRecDepth 20000 in
theorem gL_law_L_waitResult : GoodIn wsL_law (va_wsS RL 208 yL_waitResult wsL_waitResult) := goodIn_app (goodIn_of _ (by decide +kernel)) ggL_law_L_waitResult
set_option maxRecDepth 20000 in
theorem ggL_law_X3_waitResult : GoodIn wsL_law wsX3_waitResult := goodIn_r _ [743, 65, 652, 653, 654, 5, 655, 128, 129, 130, 131, 47, 136, 137, 138, 139, 140, 772, 773, 774, 775, 776, 777, 778, 779, 780, 781, 782, 783, 784, 785, 786, 787, 788, 789, 790, 791, 792, 793, 794, 795, 796, 797, 798, 799, 800] (by decide +kernel) (by decide +kernel)
set_option maxRecDepth 20000 in
theorem gL_law_X3_waitResult : GoodIn wsL_law (wsV RL 210 RX3 yX3_waitResult wsX3_waitResult) := goodIn_app (goodIn_of _ (by decide +kernel)) ggL_law_X3_waitResult
set_option maxRecDepth 20000 in
theorem ggL_law_L_reportedChild : GoodIn wsL_law wsL_reportedChild := goodIn_ca (goodIn_r _ [746, 77, 747, 748, 749, 2, 750, 751, 85, 86, 87, 88, 89, 90, 91, 92, 93, 94, 14, 807, 808, 809, 810, 811, 812, 813, 814, 815, 816, 817, 818, 819, 820, 821, 822, 823, 824, 825, 826, 768, 769, 770, 771] (by decide +kernel) (by decide +kernel)) (goodIn_sub (fun _ h => List.mem_append_left _ (List.mem_append_right _ h)) (by decide +kernel))
set_option maxRecDepth 20000 in
theorem gL_law_L_reportedChild : GoodIn wsL_law (va_wsS RL 211 yL_reportedChild wsL_reportedChild) := goodIn_app (goodIn_of _ (by decide +kernel)) ggL_law_L_reportedChild
set_option maxRecDepth 20000 in
theorem ggL_law_X3_reportedChild : GoodIn wsL_law wsX3_reportedChild := goodIn_r _ [755, 66, 652, 653, 654, 5, 655, 128, 129, 130, 131, 47, 136, 137, 138, 139, 140, 772, 773, 774, 775, 776, 777, 778, 779, 780, 781, 782, 783, 784, 785, 786, 787, 788, 789, 790, 791, 792, 793, 794, 795, 796, 797, 798, 799, 800] (by decide +kernel) (by decide +kernel)
set_option maxRecDepth 20000 in
theorem gL_law_X3_reportedChild : GoodIn wsL_law (wsV RL 213 RX3 yX3_reportedChild wsX3_reportedChild) := goodIn_app (goodIn_of _ (by decide +kernel)) ggL_law_X3_reportedChild
set_option maxRecDepth 20000 in
theorem ggL_law_L_reportedValue : GoodIn wsL_law wsL_reportedValue := goodIn_ca (goodIn_r _ [758, 77, 759, 760, 761, 2, 762, 763, 85, 86, 87, 88, 89, 90, 91, 92, 93, 94, 14, 807, 808, 809, 810, 811, 812, 813, 814, 815, 816, 817, 818, 819, 820, 821, 822, 823, 824, 825, 826, 768, 769, 770, 771] (by decide +kernel) (by decide +kernel)) (goodIn_sub (fun _ h => List.mem_append_left _ (List.mem_append_right _ h)) (by decide +kernel))
set_option maxRecDepth 20000 in
theorem gL_law_L_reportedValue : GoodIn wsL_law (va_wsS RL 214 yL_reportedValue wsL_reportedValue) := goodIn_app (goodIn_of _ (by decide +kernel)) ggL_law_L_reportedValue
set_option maxRecDepth 20000 in
theorem ggL_law_X3_reportedValue : GoodIn wsL_law wsX3_reportedValue := goodIn_r _ [767, 67, 652, 653, 654, 5, 655, 128, 129, 130, 131, 47, 136, 137, 138, 139, 140, 772, 773, 774, 775, 776, 777, 778, 779, 780, 781, 782, 783, 784, 785, 786, 787, 788, 789, 790, 791, 792, 793, 794, 795, 796, 797, 798, 799, 800] (by decide +kernel) (by decide +kernel)
set_option maxRecDepth 20000 in
theorem gL_law_X3_reportedValue : GoodIn wsL_law (wsV RL 216 RX3 yX3_reportedValue wsX3_reportedValue) := goodIn_app (goodIn_of _ (by decide +kernel)) ggL_law_X3_reportedValue
