set_option maxRecDepth 20000 in
theorem ggL_law_X3_type : GoodIn wsL_law wsX3_type := goodIn_r _ [599, 68, 69, 136, 137, 138, 5, 139, 140, 375, 376, 377, 378, 367, 368, 369, 370, 47, 51, 49, 379, 380, 381, 382, 70, 383, 388, 389, 390, 391, 392, 393, 394, 395, 396, 58, 64, 52, 56, 359, 360, 361, 362, 71, 61, 62, 53, 72, 48, 50, 363, 364, 365, 366, 371, 372, 373, 374, 60, 384, 385, 386, 387, 397, 398, 399, 400, 63, 401, 402, 403, 404, 57, 405, 406, 407, 408, 59, 409, 410, 411, 412, 65, 66, 67, 413, 414, 415, 416, 54, 55, 417, 418, 419, 420, 421, 422, 423, 424, 772, 773, 774, 775, 776, 777, 778, 779, 780, 781, 782, 783, 784, 785, 786, 787, 788, 789, 790, 791, 792, 793, 794, 795, 796, 797, 798, 799, 800] (by decide +kernel) (by decide +kernel)
set_option maxRecDepth 20000 in
theorem gL_law_X3_type : GoodIn wsL_law (wsV RL 167 RX3 yX3_type wsX3_type) := goodIn_app (goodIn_of _ (by decide +kernel)) ggL_law_X3_type
set_option maxRecDepth 20000 in
theorem ggL_law_L_hangUp : GoodIn wsL_law wsL_hangUp := goodIn_ca (goodIn_r _ [602, 78, 603, 604, 605, 2, 606, 19, 18, 592, 593, 594, 595, 83, 84, 220, 221, 222, 223, 20, 232, 233, 234, 17, 235, 236, 27, 237, 28, 238, 239, 240, 241, 242, 243, 244, 245, 246, 247, 26, 248, 249, 250, 251, 252, 253, 254, 255, 261, 262, 263, 264, 265, 266, 267, 99, 210, 268, 269, 270, 271, 272, 273, 274, 91, 92, 93, 94, 14, 275, 276, 277, 278, 209, 279, 280, 281, 22, 282, 118, 117, 283, 284, 285, 286, 287, 288, 289, 290, 291, 292, 293, 294, 105, 106, 107, 108, 109, 110, 111, 295, 296, 297, 298, 116, 33, 39, 299, 300, 301, 302, 34, 303, 304, 305, 306, 307, 308, 309, 310, 311, 312, 313, 36, 37, 38, 314, 315, 316, 317, 260, 318, 319, 320, 321, 322, 323, 324, 325, 326, 159, 327, 328, 329, 330, 188, 189, 190, 191, 192, 101, 193, 194, 195, 196, 100, 197, 198, 199, 200, 41, 40, 201, 202, 203, 204, 35, 205, 206, 207, 208, 211, 212, 213, 214, 215, 216, 217, 218, 219, 224, 225, 226, 227, 228, 229, 230, 231, 102, 103, 104, 256, 257, 258, 259, 331, 332, 333, 334, 335, 336, 337, 338, 339, 340, 341, 342, 343, 344, 345, 346, 347, 348, 349, 350, 351, 352, 353, 354, 768, 769, 770, 771, 801, 802, 803, 804, 805, 806, 807, 808, 809, 810, 811, 812, 813, 814, 815, 816, 817, 818, 819, 820, 821, 822, 823, 824, 825, 826] (by decide +kernel) (by decide +kernel)) (goodIn_sub (fun _ h => List.mem_append_left _ (List.mem_append_left _ (List.mem_append_right _ h))) (by decide +kernel))
set_option maxRecDepth 20000 in
theorem gL_law_L_hangUp : GoodIn wsL_law (va_wsS RL 168 yL_hangUp wsL_hangUp) := goodIn_app (goodIn_of _ (by decide +kernel)) ggL_law_L_hangUp
set_option maxRecDepth 20000 in
theorem ggL_law_X3_hangUp : GoodIn wsL_law wsX3_hangUp := goodIn_r _ [610, 68, 69, 136, 137, 138, 5, 139, 140, 379, 380, 381, 382, 70, 383, 388, 389, 390, 391, 392, 393, 394, 395, 396, 47, 51, 58, 64, 52, 56, 359, 360, 361, 362, 71, 61, 62, 53, 72, 48, 50, 363, 364, 365, 366, 49, 367, 368, 369, 370, 371, 372, 373, 374, 60, 375, 376, 377, 378, 384, 385, 386, 387, 397, 398, 399, 400, 63, 401, 402, 403, 404, 57, 405, 406, 407, 408, 59, 409, 410, 411, 412, 65, 66, 67, 413, 414, 415, 416, 54, 55, 417, 418, 419, 420, 421, 422, 423, 424, 772, 773, 774, 775, 776, 777, 778, 779, 780, 781, 782, 783, 784, 785, 786, 787, 788, 789, 790, 791, 792, 793, 794, 795, 796, 797, 798, 799, 800] (by decide +kernel) (by decide +kernel)
set_option maxRecDepth 20000 in
theorem gL_law_X3_hangUp : GoodIn wsL_law (wsV RL 171 RX3 yX3_hangUp wsX3_hangUp) := goodIn_app (goodIn_of _ (by decide +kernel)) ggL_law_X3_hangUp
set_option maxRecDepth 20000 in
theorem ggL_law_X2_processes : GoodIn wsL_law wsX2_processes := goodIn_r _ [614, 14, 768, 769, 770, 771] (by decide +kernel) (by decide +kernel)
set_option maxRecDepth 20000 in
theorem gL_law_X2_processes : GoodIn wsL_law (wsV RL 172 RX2 yX2_processes wsX2_processes) := goodIn_app (goodIn_of _ (by decide +kernel)) ggL_law_X2_processes
set_option maxRecDepth 20000 in
theorem ggL_law_X3_processes : GoodIn wsL_law wsX3_processes := goodIn_r _ [618, 140, 47, 772, 773, 774, 775, 776, 777, 778, 779, 780, 781, 782, 783, 784, 785, 786, 787, 788, 789, 790, 791, 792, 793, 794, 795, 796, 797, 798, 799, 800] (by decide +kernel) (by decide +kernel)
set_option maxRecDepth 20000 in
theorem gL_law_X3_processes : GoodIn wsL_law (wsV RL 175 RX3 yX3_processes wsX3_processes) := goodIn_app (goodIn_of _ (by decide +kernel)) ggL_law_X3_processes
set_option maxRecDepth 20000 in
theorem ggL_law_L_exists : GoodIn wsL_law wsL_exists := goodIn_ca (goodIn_r _ [621, 178, 622, 623, 624, 2, 625, 454, 455, 456, 183, 184, 185, 186, 187, 91, 92, 93, 94, 14, 768, 769, 770, 771] (by decide +kernel) (by decide +kernel)) (goodIn_sub (fun _ h => List.mem_append_right _ h) (by decide +kernel))
set_option maxRecDepth 20000 in
theorem gL_law_L_exists : GoodIn wsL_law (va_wsS RL 176 yL_exists wsL_exists) := goodIn_app (goodIn_of _ (by decide +kernel)) ggL_law_L_exists
set_option maxRecDepth 20000 in
theorem ggL_law_X3_exists : GoodIn wsL_law wsX3_exists := goodIn_r _ [629, 47, 136, 137, 138, 5, 139, 140, 772, 773, 774, 775, 776, 777, 778, 779, 780, 781, 782, 783, 784, 785, 786, 787, 788, 789, 790, 791, 792, 793, 794, 795, 796, 797, 798, 799, 800] (by decide +kernel) (by decide +kernel)
set_option maxRecDepth 20000 in
theorem gL_law_X3_exists : GoodIn wsL_law (wsV RL 178 RX3 yX3_exists wsX3_exists) := goodIn_app (goodIn_of _ (by decide +kernel)) ggL_law_X3_exists
set_option maxRecDepth 20000 in
theorem ggL_law_L_state : GoodIn wsL_law wsL_state := goodIn_ca (goodIn_r _ [632, 77, 633, 634, 635, 2, 636, 85, 86, 87, 88, 89, 90, 91, 92, 93, 94, 14, 105, 106, 107, 22, 108, 109, 110, 111, 768, 769, 770, 771, 807, 808, 809, 810, 811, 812, 813, 814, 815, 816, 817, 818, 819, 820, 821, 822, 823, 824, 825, 826] (by decide +kernel) (by decide +kernel)) (goodIn_sub (fun _ h => List.mem_append_left _ (List.mem_append_right _ h)) (by decide +kernel))
set_option maxRecDepth 20000 in
theorem gL_law_L_state : GoodIn wsL_law (va_wsS RL 179 yL_state wsL_state) := goodIn_app (goodIn_of _ (by decide +kernel)) ggL_law_L_state
