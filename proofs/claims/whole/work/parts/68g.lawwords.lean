set_option maxRecDepth 20000 in
theorem wsL_law_q25 : ∀ w ∈ wsL_law0_r25, w ∈ lw_tbl := zIn_r _ [626, 627, 628, 629, 630, 974, 975, 976, 977, 631, 632, 633, 634, 635, 636, 637, 638, 640, 24, 641, 978, 979, 980, 981] (by decide +kernel)
set_option maxRecDepth 20000 in
theorem wsL_law_q26 : ∀ w ∈ wsL_law0_r26, w ∈ lw_tbl := zIn_r _ [643, 644, 645, 646, 647, 648, 649, 982, 983, 984, 985, 200, 201, 202, 203, 986, 987, 988, 989, 650, 651, 652, 653, 654] (by decide +kernel)
set_option maxRecDepth 20000 in
theorem wsL_law_q27 : ∀ w ∈ wsL_law0_r27, w ∈ lw_tbl := zIn_r _ [655, 656, 990, 991, 992, 993, 657, 658, 659, 660, 661, 662, 663, 994, 995, 996, 997, 664, 665, 666, 667, 668, 669, 670] (by decide +kernel)
set_option maxRecDepth 20000 in
theorem wsL_law_q28 : ∀ w ∈ wsL_law0_r28, w ∈ lw_tbl := zIn_r _ [998, 999, 1000, 1001, 1002, 1004, 49, 1005, 671, 672, 673, 674, 675, 676, 677, 1006, 1007, 1008, 1009, 678, 679, 680, 681, 682] (by decide +kernel)
