set_option maxRecDepth 20000 in
theorem iq_6 : GoodIn wsL_law wsL_isDone_r6 := goodIn_r _ [103, 104, 105, 106, 191, 192, 193, 194, 195, 196, 197, 198, 199, 200, 201, 202, 203, 204, 205, 206, 207, 208, 209, 210] (by decide +kernel) (by decide +kernel)
set_option maxRecDepth 20000 in
theorem iq_7 : GoodIn wsL_law wsL_isDone_r7 := goodIn_r _ [211, 212, 15, 16, 14, 121, 122, 123, 124, 125, 126, 127, 128, 213, 214, 215, 216, 217, 218, 219, 220, 221, 222, 223] (by decide +kernel) (by decide +kernel)
set_option maxRecDepth 20000 in
theorem iq_8 : GoodIn wsL_law wsL_isDone_r8 := goodIn_r _ [224, 225, 226, 227, 228, 229, 230, 231, 232, 233, 234, 235, 236, 237, 238, 239, 240, 241, 242, 243, 244, 245, 246, 13] (by decide +kernel) (by decide +kernel)
set_option maxRecDepth 20000 in
theorem iq_9 : GoodIn wsL_law wsL_isDone_r9 := goodIn_r _ [247, 248, 23, 249, 24, 250, 251, 252, 253, 254, 255, 256, 257, 258, 259, 22, 260, 261, 262, 263, 264, 265, 266, 267] (by decide +kernel) (by decide +kernel)
set_option maxRecDepth 20000 in
theorem iq_10 : GoodIn wsL_law wsL_isDone_r10 := goodIn_r _ [268, 269, 270, 271, 272, 273, 274, 275, 276, 277, 278, 279, 280, 281, 282, 283, 284, 285, 286, 287, 288, 289, 290, 291] (by decide +kernel) (by decide +kernel)
set_option maxRecDepth 20000 in
theorem iq_11 : GoodIn wsL_law wsL_isDone_r11 := goodIn_r _ [292, 293, 294, 295, 296, 297, 298, 299, 300, 301, 302, 303, 304, 305, 306, 307, 308, 309, 310, 311, 312, 313, 314, 315] (by decide +kernel) (by decide +kernel)
