set_option maxRecDepth 20000 in
theorem wsL_law_q9 : ∀ w ∈ wsL_law0_r9, w ∈ lw_tbl := zIn_r _ [675, 676, 318, 319, 320, 321, 322, 323, 324, 325, 326, 327, 328, 304, 305, 306, 348, 350, 4, 351, 372, 360, 361, 362] (by decide +kernel)
set_option maxRecDepth 20000 in
theorem wsL_law_q10 : ∀ w ∈ wsL_law0_r10, w ∈ lw_tbl := zIn_r _ [363, 109, 364, 366, 6, 367, 92, 368, 370, 7, 371, 90, 373, 374, 375, 376, 377, 379, 8, 380, 381, 383, 9, 384] (by decide +kernel)
set_option maxRecDepth 20000 in
theorem wsL_law_q11 : ∀ w ∈ wsL_law0_r11, w ∈ lw_tbl := zIn_r _ [385, 386, 387, 388, 389, 390, 391, 392, 58, 393, 394, 395, 35, 396, 397, 398, 399, 400, 401, 403, 404, 405, 36, 406] (by decide +kernel)
set_option maxRecDepth 20000 in
theorem wsL_law_q12 : ∀ w ∈ wsL_law0_r12, w ∈ lw_tbl := zIn_r _ [407, 409, 408, 37, 410, 412, 10, 413, 94, 414, 416, 11, 417, 418, 60, 62, 419, 420, 421, 422, 57, 59, 61, 423] (by decide +kernel)
