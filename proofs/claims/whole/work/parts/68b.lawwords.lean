set_option maxRecDepth 20000 in
theorem wsL_law_q5 : ∀ w ∈ wsL_law0_r5, w ∈ lw_tbl := zIn_r _ [299, 3, 300, 110, 114, 116, 301, 302, 303, 304, 305, 306, 307, 118, 120, 122, 324, 325, 326, 327, 111, 132, 133, 134] (by decide +kernel)
set_option maxRecDepth 20000 in
theorem wsL_law_q6 : ∀ w ∈ wsL_law0_r6, w ∈ lw_tbl := zIn_r _ [826, 827, 828, 829, 830, 832, 25, 833, 834, 836, 26, 837, 838, 840, 27, 841, 842, 844, 28, 845, 756, 822, 823, 824] (by decide +kernel)
set_option maxRecDepth 20000 in
theorem wsL_law_q7 : ∀ w ∈ wsL_law0_r7, w ∈ lw_tbl := zIn_r _ [825, 328, 329, 330, 331, 332, 333, 334, 335, 336, 337, 339, 340, 341, 342, 136, 343, 344, 61, 345, 346, 347, 348, 846] (by decide +kernel)
set_option maxRecDepth 20000 in
theorem wsL_law_q8 : ∀ w ∈ wsL_law0_r8, w ∈ lw_tbl := zIn_r _ [847, 848, 849, 850, 852, 29, 853, 349, 350, 351, 352, 353, 354, 355, 356, 357, 358, 359, 360, 62, 376, 378, 4, 379] (by decide +kernel)
