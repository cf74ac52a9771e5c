set_option maxRecDepth 20000 in
theorem wsL_law_q13 : ∀ w ∈ wsL_law0_r13, w ∈ lw_tbl := zIn_r _ [465, 14, 466, 467, 469, 15, 470, 471, 472, 473, 474, 475, 476, 477, 478, 126, 479, 481, 16, 482, 129, 131, 483, 484] (by decide +kernel)
set_option maxRecDepth 20000 in
theorem wsL_law_q14 : ∀ w ∈ wsL_law0_r14, w ∈ lw_tbl := zIn_r _ [485, 486, 487, 489, 17, 490, 491, 493, 18, 494, 137, 495, 496, 497, 498, 499, 500, 501, 502, 503, 505, 19, 506, 507] (by decide +kernel)
set_option maxRecDepth 20000 in
theorem wsL_law_q15 : ∀ w ∈ wsL_law0_r15, w ∈ lw_tbl := zIn_r _ [508, 509, 510, 511, 512, 514, 20, 515, 135, 516, 517, 518, 519, 138, 520, 521, 522, 523, 524, 854, 855, 856, 857, 858] (by decide +kernel)
set_option maxRecDepth 20000 in
theorem wsL_law_q16 : ∀ w ∈ wsL_law0_r16, w ∈ lw_tbl := zIn_r _ [860, 30, 861, 862, 864, 31, 865, 866, 868, 32, 869, 870, 872, 33, 873, 874, 876, 34, 877, 878, 880, 35, 881, 759] (by decide +kernel)
