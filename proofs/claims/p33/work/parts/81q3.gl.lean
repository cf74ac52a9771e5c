set_option maxRecDepth 20000 in
theorem iq_12 : GoodIn wsL_law wsL_isDone_r12 := goodIn_r _ [316, 317, 318, 319, 320, 321, 322, 323, 324, 325, 326, 327, 328, 329, 330, 331, 332, 333, 334, 335, 336, 337, 338, 339] (by decide +kernel) (by decide +kernel)
set_option maxRecDepth 20000 in
theorem iq_13 : GoodIn wsL_law wsL_isDone_r13 := goodIn_r _ [340, 341, 342, 343, 344, 345, 346, 347, 348, 349, 350, 351, 352, 353, 354, 355, 356, 357, 358, 359, 360, 361, 362, 363] (by decide +kernel) (by decide +kernel)
set_option maxRecDepth 20000 in
theorem iq_14 : GoodIn wsL_law wsL_isDone_r14 := goodIn_r _ [364, 365, 366, 367, 368, 369, 370, 371, 372, 373, 374, 375, 376, 377, 378, 379, 380, 381, 382, 383, 384, 385, 386, 387] (by decide +kernel) (by decide +kernel)
set_option maxRecDepth 20000 in
theorem iq_15 : GoodIn wsL_law wsL_isDone_r15 := goodIn_r _ [388, 389, 107, 108, 109, 110, 111, 390, 391, 392, 393, 394, 395, 396, 397, 398, 399, 400, 401, 402, 403, 404, 405, 94] (by decide +kernel) (by decide +kernel)
set_option maxRecDepth 20000 in
theorem iq_16 : GoodIn wsL_law wsL_isDone_r16 := goodIn_r _ [95, 96, 406, 407, 408, 409, 410, 411, 412, 413, 414, 415, 416, 417, 418, 419, 420, 421, 422, 423, 424, 425, 426, 427] (by decide +kernel) (by decide +kernel)
set_option maxRecDepth 20000 in
theorem iq_17 : GoodIn wsL_law wsL_isDone_r17 := goodIn_r _ [428, 429, 430, 431, 432, 433, 434, 435, 436, 437, 438, 439, 136, 137, 138, 139, 140, 141, 142, 143, 440, 441, 442, 443] (by decide +kernel) (by decide +kernel)
