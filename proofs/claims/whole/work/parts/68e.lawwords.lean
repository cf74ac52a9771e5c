set_option maxRecDepth 20000 in
theorem wsL_law_q17 : ∀ w ∈ wsL_law0_r17, w ∈ lw_tbl := zIn_r _ [882, 884, 36, 885, 886, 888, 37, 889, 758, 890, 892, 38, 893, 894, 896, 39, 897, 898, 900, 40, 901, 902, 904, 41] (by decide +kernel)
set_option maxRecDepth 20000 in
theorem wsL_law_q18 : ∀ w ∈ wsL_law0_r18, w ∈ lw_tbl := zIn_r _ [905, 906, 908, 42, 909, 910, 912, 43, 913, 914, 916, 44, 917, 918, 920, 45, 921, 525, 526, 527, 528, 529, 530, 531] (by decide +kernel)
set_option maxRecDepth 20000 in
theorem wsL_law_q19 : ∀ w ∈ wsL_law0_r19, w ∈ lw_tbl := zIn_r _ [532, 534, 21, 535, 123, 125, 127, 922, 923, 924, 925, 926, 928, 46, 929, 536, 537, 538, 539, 540, 541, 542, 543, 544] (by decide +kernel)
set_option maxRecDepth 20000 in
theorem wsL_law_q20 : ∀ w ∈ wsL_law0_r20, w ∈ lw_tbl := zIn_r _ [545, 930, 931, 932, 933, 546, 547, 548, 549, 550, 551, 552, 554, 555, 556, 557, 558, 559, 934, 935, 936, 937, 560, 561] (by decide +kernel)
