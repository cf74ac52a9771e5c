set_option maxRecDepth 20000 in
theorem wsL_law_q9 : ∀ w ∈ wsL_law0_r9, w ∈ lw_tbl := zIn_r _ [400, 380, 382, 5, 383, 384, 385, 386, 387, 388, 389, 390, 391, 392, 394, 6, 395, 112, 119, 396, 398, 7, 399, 117] (by decide +kernel)
set_option maxRecDepth 20000 in
theorem wsL_law_q10 : ∀ w ∈ wsL_law0_r10, w ∈ lw_tbl := zIn_r _ [401, 402, 403, 404, 405, 407, 8, 408, 409, 411, 9, 412, 413, 414, 415, 416, 417, 418, 419, 420, 85, 421, 422, 423] (by decide +kernel)
set_option maxRecDepth 20000 in
theorem wsL_law_q11 : ∀ w ∈ wsL_law0_r11, w ∈ lw_tbl := zIn_r _ [63, 424, 425, 426, 427, 428, 429, 431, 432, 433, 64, 434, 435, 437, 436, 65, 438, 440, 10, 441, 121, 442, 444, 11] (by decide +kernel)
set_option maxRecDepth 20000 in
theorem wsL_law_q12 : ∀ w ∈ wsL_law0_r12, w ∈ lw_tbl := zIn_r _ [445, 446, 87, 89, 447, 448, 449, 450, 84, 86, 88, 451, 453, 12, 454, 455, 456, 457, 458, 459, 461, 13, 462, 463] (by decide +kernel)
