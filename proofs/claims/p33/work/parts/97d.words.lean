set_option maxRecDepth 20000 in
theorem wsL_law_q13 : ∀ w ∈ wsL_law0_r13, w ∈ lw_tbl := zIn_r _ [425, 12, 426, 427, 428, 429, 430, 431, 433, 13, 434, 435, 437, 14, 438, 439, 441, 15, 442, 443, 444, 445, 446, 447] (by decide +kernel)
set_option maxRecDepth 20000 in
theorem wsL_law_q14 : ∀ w ∈ wsL_law0_r14, w ∈ lw_tbl := zIn_r _ [448, 449, 450, 99, 451, 453, 16, 454, 102, 104, 455, 456, 457, 458, 459, 461, 17, 462, 463, 465, 18, 466, 467, 468] (by decide +kernel)
set_option maxRecDepth 20000 in
theorem wsL_law_q15 : ∀ w ∈ wsL_law0_r15, w ∈ lw_tbl := zIn_r _ [469, 470, 471, 472, 473, 474, 475, 477, 19, 478, 479, 480, 481, 482, 483, 484, 486, 20, 487, 108, 488, 489, 490, 491] (by decide +kernel)
set_option maxRecDepth 20000 in
theorem wsL_law_q16 : ∀ w ∈ wsL_law0_r16, w ∈ lw_tbl := zIn_r _ [111, 492, 493, 494, 495, 496, 677, 678, 679, 497, 498, 499, 500, 501, 502, 503, 504, 506, 21, 507, 96, 98, 100, 508] (by decide +kernel)
